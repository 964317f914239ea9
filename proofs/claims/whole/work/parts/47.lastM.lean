set_option maxHeartbeats 4000000 in
set_option maxRecDepth 100000 in
theorem lp_M_snapshot_130 {p : Program} {l : Launch} {e : Env} {s : State} {m : MethodId} {args : Array Value} {below : List Frame} {meth : Method} {c : Code} {D : va_G} {cA : Nat → ClassId} {A : Nat → Prop} {h : Nat → Nat} {co : Nat} {dn : Bool} {fu : Option Nat} {ct : Nat} {vo : (Nat → Int32)} {wo : (Nat → Int32)} {th : (Nat → Bool)} {ow : (Nat → Nat)} {ba : Nat} {mr : Nat} (C : gC p s m args meth c b_M_snapshot 3 R_M) (hr : meth.sig.returnType = (some .int)) (hfu : ∀ k, fu = some k → k < 2 ^ 31)   : ∀ (fuel : Nat) (i : Nat) (s1 : Nat) (cov : Nat) (dnv : Bool) (fuv : Option Nat) (ctv : Nat) (vov : (Nat → Int32)) (wov : (Nat → Int32)) (thv : (Nat → Bool)) (owv : (Nat → Nat)) (bav : Nat) (mrv : Nat), 24 - i < fuel → i ≤ 24 → s1 < 3 → mSnap (co, dn, fu, ct, vo, wo, th, ow, ba, mr) = (s1, (cov, dnv, fuv, ctv, vov, fW wov vov (24 * s1) i (24 - i), thv, owv, bav, mrv)) → ∀ (H : Heap) (locs : List Loc), smI D cA A s h (cov, dnv, fuv, ctv, vov, wov, thv, owv, bav, mrv) H locs → ∀ (ls : Array Slot), lv_has ls 3 [(0, .ref (h 0)), (1, .int (nI s1)), (2, .int (nI i))] → W p l e (rmL 1) s m args below meth c H locs 0 0 (MQ below (va_Qi (fun r u' => r = nI (mSnap (co, dn, fu, ct, vo, wo, th, ow, ba, mr)).1 ∧ u' = (mSnap (co, dn, fu, ct, vo, wo, th, ow, ba, mr)).2) (smAt D cA A h) A) args s 0 0 A) (F0 m 130 ls []) := by
  intro fuel
  induction fuel with
  | zero =>
    intro _ _ _ _ _ _ _ _ _ _ _ _ hfuel
    exact absurd hfuel (Nat.not_lt_zero _)
  | succ fuel ih =>
    intro i s1 cov dnv fuv ctv vov wov thv owv bav mrv hfuel hi hs1 hR H locs I ls hl
    refine lv_iload_n C.1 C.2.1 d_M_snapshot_130 rfl (lv_at hl 2 rfl) ?_
    refine lv_bipush (v := nI 24) C.1 C.2.1 d_M_snapshot_131 (by decide) ?_
    refine n_icmp_ge C.1 C.2.1 (a := i) (b := 24) (tgt := 159) (by omega) (by omega) d_M_snapshot_133 (by decide) (fun q133 => ?_) (fun q133 => ?_)
    · refine lv_iload_n C.1 C.2.1 d_M_snapshot_159 rfl (lv_at hl 1 rfl) ?_
      exact sm_ri (v := nI s1) C hr I (two (f := nI) (hR.trans (congrArg (fun f => (s1, (cov, dnv, fuv, ctv, vov, f, thv, owv, bav, mrv))) (fW_end (by omega))))) d_M_snapshot_160
    · refine lv_aload_n C.1 C.2.1 d_M_snapshot_136 rfl (lv_at hl 0 rfl) ?_
      refine sm_g5 C I d_M_snapshot_137 ?_
      refine lv_bipush (v := nI 24) C.1 C.2.1 d_M_snapshot_140 (by decide) ?_
      refine lv_iload_n C.1 C.2.1 d_M_snapshot_142 rfl (lv_at hl 1 rfl) ?_
      refine n_imul C.1 C.2.1 (a := 24) (b := s1) d_M_snapshot_143 ?_
      refine lv_iload_n C.1 C.2.1 d_M_snapshot_144 rfl (lv_at hl 2 rfl) ?_
      refine n_iadd C.1 C.2.1 (a := 24 * s1) (b := i) d_M_snapshot_145 ?_
      refine lv_aload_n C.1 C.2.1 d_M_snapshot_146 rfl (lv_at hl 0 rfl) ?_
      refine sm_g4 C I d_M_snapshot_147 ?_
      refine lv_iload_n C.1 C.2.1 d_M_snapshot_150 rfl (lv_at hl 2 rfl) ?_
      refine sm_l1 C I (k := i) (by omega) d_M_snapshot_151 ?_
      refine sm_s2 C I (k := (24 * s1) + i) (x := (vov i)) (by omega) d_M_snapshot_152 (fun H locs I => ?_)
      refine lv_iinc (v := nI (i + 1)) (lv' := [(2, .int (nI (i + 1))), (0, .ref (h 0)), (1, .int (nI s1))]) C.1 C.2.1 d_M_snapshot_153 hl (k := 2) rfl (by rw [show nI (i + 1) = nI i + nI 1 from (nI_add _ _).symm]; rfl) (by decide) rfl (fun ls hl => ?_)
      refine lv_goto (tgt := 130) C.1 C.2.1 d_M_snapshot_156 (by decide) ?_
      exact ih (i + 1) s1 cov dnv fuv ctv vov (upd wov ((24 * s1) + i) (vov i)) thv owv bav mrv (by omega) (by omega) hs1 (hR.trans (congrArg (fun f => (s1, (cov, dnv, fuv, ctv, vov, f, thv, owv, bav, mrv))) (fW_next (by omega)))) _ _ I ls (lv_sub hl [1, 2, 0] rfl)
set_option maxHeartbeats 4000000 in
set_option maxRecDepth 100000 in
theorem lp_M_snapshot_104 {p : Program} {l : Launch} {e : Env} {s : State} {m : MethodId} {args : Array Value} {below : List Frame} {meth : Method} {c : Code} {D : va_G} {cA : Nat → ClassId} {A : Nat → Prop} {h : Nat → Nat} {co : Nat} {dn : Bool} {fu : Option Nat} {ct : Nat} {vo : (Nat → Int32)} {wo : (Nat → Int32)} {th : (Nat → Bool)} {ow : (Nat → Nat)} {ba : Nat} {mr : Nat} (C : gC p s m args meth c b_M_snapshot 3 R_M) (hr : meth.sig.returnType = (some .int)) (hfu : ∀ k, fu = some k → k < 2 ^ 31)   : ∀ (fuel : Nat) (i : Nat) (s1 : Nat) (cov : Nat) (dnv : Bool) (fuv : Option Nat) (ctv : Nat) (vov : (Nat → Int32)) (wov : (Nat → Int32)) (thv : (Nat → Bool)) (owv : (Nat → Nat)) (bav : Nat) (mrv : Nat), 6 - i < fuel → i ≤ 6 → s1 < 3 → mSnap (co, dn, fu, ct, vo, wo, th, ow, ba, mr) = (s1, (cov, dnv, fuv, ctv, vov, fillW wov vov (24 * s1) 24, thv, fillO owv (6 * s1 + i) (6 - i), bav, mrv)) → ∀ (H : Heap) (locs : List Loc), smI D cA A s h (cov, dnv, fuv, ctv, vov, wov, thv, owv, bav, mrv) H locs → ∀ (ls : Array Slot), lv_has ls 3 [(0, .ref (h 0)), (1, .int (nI s1)), (2, .int (nI i))] → W p l e (rmL 1) s m args below meth c H locs 0 0 (MQ below (va_Qi (fun r u' => r = nI (mSnap (co, dn, fu, ct, vo, wo, th, ow, ba, mr)).1 ∧ u' = (mSnap (co, dn, fu, ct, vo, wo, th, ow, ba, mr)).2) (smAt D cA A h) A) args s 0 0 A) (F0 m 104 ls []) := by
  intro fuel
  induction fuel with
  | zero =>
    intro _ _ _ _ _ _ _ _ _ _ _ _ hfuel
    exact absurd hfuel (Nat.not_lt_zero _)
  | succ fuel ih =>
    intro i s1 cov dnv fuv ctv vov wov thv owv bav mrv hfuel hi hs1 hR H locs I ls hl
    refine lv_iload_n C.1 C.2.1 d_M_snapshot_104 rfl (lv_at hl 2 rfl) ?_
    refine lv_bipush (v := nI 6) C.1 C.2.1 d_M_snapshot_105 (by decide) ?_
    refine n_icmp_ge C.1 C.2.1 (a := i) (b := 6) (tgt := 128) (by omega) (by omega) d_M_snapshot_107 (by decide) (fun q107 => ?_) (fun q107 => ?_)
    · refine lv_iconst (v := nI 0) C.1 C.2.1 d_M_snapshot_128 (by decide) ?_
      refine lv_istore_n (lv' := [(2, .int (nI 0)), (0, .ref (h 0)), (1, .int (nI s1))]) C.1 C.2.1 d_M_snapshot_129 rfl hl (by decide) rfl (fun ls hl => ?_)
      exact lp_M_snapshot_130 C hr hfu  _ 0 s1 cov dnv fuv ctv vov wov thv owv bav mrv (Nat.lt_succ_self _) (by omega) hs1 (hR.trans (congrArg (fun f => (s1, (cov, dnv, fuv, ctv, vov, fillW wov vov (24 * s1) 24, thv, f, bav, mrv))) (fillO_end (by omega)))) _ _ I ls (lv_sub hl [1, 2, 0] rfl)
    · refine lv_aload_n C.1 C.2.1 d_M_snapshot_110 rfl (lv_at hl 0 rfl) ?_
      refine sm_g7 C I d_M_snapshot_111 ?_
      refine lv_bipush (v := nI 6) C.1 C.2.1 d_M_snapshot_114 (by decide) ?_
      refine lv_iload_n C.1 C.2.1 d_M_snapshot_116 rfl (lv_at hl 1 rfl) ?_
      refine n_imul C.1 C.2.1 (a := 6) (b := s1) d_M_snapshot_117 ?_
      refine lv_iload_n C.1 C.2.1 d_M_snapshot_118 rfl (lv_at hl 2 rfl) ?_
      refine n_iadd C.1 C.2.1 (a := 6 * s1) (b := i) d_M_snapshot_119 ?_
      refine lv_iconst (v := nI 0) C.1 C.2.1 d_M_snapshot_120 (by decide) ?_
      refine sm_s4 C I (k := (6 * s1) + i) (x := 0) (by omega) d_M_snapshot_121 (fun H locs I => ?_)
      refine lv_iinc (v := nI (i + 1)) (lv' := [(2, .int (nI (i + 1))), (0, .ref (h 0)), (1, .int (nI s1))]) C.1 C.2.1 d_M_snapshot_122 hl (k := 2) rfl (by rw [show nI (i + 1) = nI i + nI 1 from (nI_add _ _).symm]; rfl) (by decide) rfl (fun ls hl => ?_)
      refine lv_goto (tgt := 104) C.1 C.2.1 d_M_snapshot_125 (by decide) ?_
      exact ih (i + 1) s1 cov dnv fuv ctv vov wov thv (va_up owv ((6 * s1) + i) 0) bav mrv (by omega) (by omega) hs1 (hR.trans (congrArg (fun f => (s1, (cov, dnv, fuv, ctv, vov, fillW wov vov (24 * s1) 24, thv, f, bav, mrv))) (fillO_next (by omega)))) _ _ I ls (lv_sub hl [1, 2, 0] rfl)
set_option maxHeartbeats 4000000 in
set_option maxRecDepth 100000 in
/-- R_M.snapshot -/
theorem c_M_snapshot (l : Launch) (D : va_G) (cA : Nat → ClassId) (h : Nat → Nat) (sz : Nat) (co : Nat) (dn : Bool) (fu : Option Nat) (ct : Nat) (vo : (Nat → Int32)) (wo : (Nat → Int32)) (th : (Nat → Bool)) (ow : (Nat → Nat)) (ba : Nat) (mr : Nat) (hfu : ∀ k, fu = some k → k < 2 ^ 31) : smMi l D cA h (co, dn, fu, ct, vo, wo, th, ow, ba, mr) sz y_M_snapshot (.code y_M_snapshot b_M_snapshot 3 (some .int)) (rmL 1) [] (fun r u' => r = nI (mSnap (co, dn, fu, ct, vo, wo, th, ow, ba, mr)).1 ∧ u' = (mSnap (co, dn, fu, ct, vo, wo, th, ow, ba, mr)).2) := by
  refine sm_mi (by decide) rfl (Nat.le_of_ble_eq_true rfl) ?_
  intro p e s m args below meth c C hr hsz I ls hl
  generalize smA cA h (co, dn, fu, ct, vo, wo, th, ow, ba, mr) sz = A at I ⊢
  have hl : lv_has ls 3 [(0, .ref (h 0))] := hl
  refine lv_aload_n C.1 C.2.1 d_M_snapshot_0 rfl (lv_at hl 0 rfl) ?_
  refine sm_g6 C I d_M_snapshot_1 ?_
  refine lv_iconst (v := nI 0) C.1 C.2.1 d_M_snapshot_4 (by decide) ?_
  refine sm_l3 C I (k := 0) (by omega) d_M_snapshot_5 ?_
  refine n_ifeq (b := (th 0)) (tgt := 39) C.1 C.2.1 d_M_snapshot_6 (by decide) (fun q6 => ?_) (fun q6 => ?_)
  · refine lv_iconst (v := nI 0) C.1 C.2.1 d_M_snapshot_39 (by decide) ?_
    refine lv_istore_n (lv' := [(1, .int (nI 0)), (0, .ref (h 0))]) C.1 C.2.1 d_M_snapshot_40 rfl hl (by decide) rfl (fun ls hl => ?_)
    have hle : mLE th = 0 := by simp [mLE, q6]
    refine lv_aload_n C.1 C.2.1 d_M_snapshot_41 rfl (lv_at hl 1 rfl) ?_
    refine lv_aload_n C.1 C.2.1 d_M_snapshot_42 rfl (lv_at hl 1 rfl) ?_
    refine sm_g1 C I d_M_snapshot_43 ?_
    refine n_ifeq (b := dn) (tgt := 53) C.1 C.2.1 d_M_snapshot_46 (by decide) (fun q46 => ?_) (fun q46 => ?_)
    · subst q46
      refine lv_iload_n C.1 C.2.1 d_M_snapshot_53 rfl (lv_at hl 0 rfl) ?_
      refine lv_iconst (v := nI 3) C.1 C.2.1 d_M_snapshot_54 (by decide) ?_
      refine n_icmp_ne C.1 C.2.1 (a := 0) (b := 3) (tgt := 62) (by omega) (by omega) d_M_snapshot_55 (by decide) (fun q55 => ?_) (fun q55 => absurd q55 (by omega))
      refine lv_iconst (v := nI 0) C.1 C.2.1 d_M_snapshot_62 (by decide) ?_
      refine sm_p0 C I 0 rfl d_M_snapshot_63 (fun H locs I => ?_)
      refine lv_aload_n C.1 C.2.1 d_M_snapshot_66 rfl (lv_at hl 1 rfl) ?_
      refine sm_g0 C I d_M_snapshot_67 ?_
      refine n_ifz_le (a := 0) (tgt := 75) C.1 C.2.1 (by omega) d_M_snapshot_70 (by decide) (fun q70 => ?_) (fun q70 => absurd q70 (by omega))
      refine lv_aload_n C.1 C.2.1 d_M_snapshot_75 rfl (lv_at hl 1 rfl) ?_
      refine lv_iconst (v := nI 1) C.1 C.2.1 d_M_snapshot_76 (by decide) ?_
      refine sm_ci C I (c_M_lasts l D cA h _ 0 false fu ct vo wo th ow ba mr 1 (by omega) hfu) lk_M59 rfl rfl ⟨by decide, by decide⟩ ⟨Nat.zero_le _, Nat.zero_le _⟩ rfl hl.1 (rest := []) rfl (Nat.le_of_ble_eq_true rfl) d_M_snapshot_77 (fun r u' H locs w77 I => ?_)
      obtain ⟨bl, fl, cl, dl, hml, rfl, rfl⟩ := w77
      refine n_ifne (b := bl) (tgt := 95) C.1 C.2.1 d_M_snapshot_80 (by decide) (fun q80 => ?_) (fun q80 => ?_)
      · subst q80
        refine lv_aload_n C.1 C.2.1 d_M_snapshot_95 rfl (lv_at hl 1 rfl) ?_
        refine sm_g6 C I d_M_snapshot_96 ?_
        refine lv_iload_n C.1 C.2.1 d_M_snapshot_99 rfl (lv_at hl 0 rfl) ?_
        refine lv_iconst (v := nI 1) C.1 C.2.1 d_M_snapshot_100 (by decide) ?_
        refine sm_s3 C I (k := 0) (x := true) (by omega) d_M_snapshot_101 (fun H locs I => ?_)
        refine lv_iconst (v := nI 0) C.1 C.2.1 d_M_snapshot_102 (by decide) ?_
        refine lv_istore_n (lv' := [(2, .int (nI 0)), (1, .int (nI 0)), (0, .ref (h 0))]) C.1 C.2.1 d_M_snapshot_103 rfl hl (by decide) rfl (fun ls hl => ?_)
        exact lp_M_snapshot_104 C hr hfu  _ 0 0 0 dl fl cl vo wo (va_up th 0 true) ow ba mr (Nat.lt_succ_self _) (by omega) (by omega) (mSnap_y hle (by omega) hml) _ _ I ls (lv_sub hl [2, 1, 0] rfl)
      · subst q80
        refine lv_aload_n C.1 C.2.1 d_M_snapshot_83 rfl (lv_at hl 1 rfl) ?_
        refine lv_iconst (v := oI none) C.1 C.2.1 d_M_snapshot_84 (by decide) ?_
        refine sm_p2 C I none rfl d_M_snapshot_85 (fun H locs I => ?_)
        refine lv_aload_n C.1 C.2.1 d_M_snapshot_88 rfl (lv_at hl 1 rfl) ?_
        refine lv_iconst (v := nI 2) C.1 C.2.1 d_M_snapshot_89 (by decide) ?_
        refine sm_p0 C I 2 rfl d_M_snapshot_90 (fun H locs I => ?_)
        refine lv_iconst (v := nI 0) C.1 C.2.1 d_M_snapshot_93 (by decide) ?_
        exact sm_ri (v := nI 0) C hr I (two (f := nI) (mSnap_n hle (by omega) hml)) d_M_snapshot_94
    · subst q46
      refine lv_iconst (v := nI 2) C.1 C.2.1 d_M_snapshot_49 (by decide) ?_
      refine lv_goto (tgt := 63) C.1 C.2.1 d_M_snapshot_50 (by decide) ?_
      refine sm_p0 C I 2 rfl d_M_snapshot_63 (fun H locs I => ?_)
      refine lv_aload_n C.1 C.2.1 d_M_snapshot_66 rfl (lv_at hl 1 rfl) ?_
      refine sm_g0 C I d_M_snapshot_67 ?_
      refine n_ifz_le (a := 2) (tgt := 75) C.1 C.2.1 (by omega) d_M_snapshot_70 (by decide) (fun q70 => absurd q70 (by omega)) (fun q70 => ?_)
      refine lv_iconst (v := nI 0) C.1 C.2.1 d_M_snapshot_73 (by decide) ?_
      exact sm_ri (v := nI 0) C hr I (two (f := nI) (mSnap_2)) d_M_snapshot_74
  · refine lv_aload_n C.1 C.2.1 d_M_snapshot_9 rfl (lv_at hl 0 rfl) ?_
    refine sm_g6 C I d_M_snapshot_10 ?_
    refine lv_iconst (v := nI 1) C.1 C.2.1 d_M_snapshot_13 (by decide) ?_
    refine sm_l3 C I (k := 1) (by omega) d_M_snapshot_14 ?_
    refine n_ifeq (b := (th 1)) (tgt := 35) C.1 C.2.1 d_M_snapshot_15 (by decide) (fun q15 => ?_) (fun q15 => ?_)
    · refine lv_iconst (v := nI 1) C.1 C.2.1 d_M_snapshot_35 (by decide) ?_
      refine lv_goto (tgt := 40) C.1 C.2.1 d_M_snapshot_36 (by decide) ?_
      refine lv_istore_n (lv' := [(1, .int (nI 1)), (0, .ref (h 0))]) C.1 C.2.1 d_M_snapshot_40 rfl hl (by decide) rfl (fun ls hl => ?_)
      have hle : mLE th = 1 := by simp [mLE, q6, q15]
      refine lv_aload_n C.1 C.2.1 d_M_snapshot_41 rfl (lv_at hl 1 rfl) ?_
      refine lv_aload_n C.1 C.2.1 d_M_snapshot_42 rfl (lv_at hl 1 rfl) ?_
      refine sm_g1 C I d_M_snapshot_43 ?_
      refine n_ifeq (b := dn) (tgt := 53) C.1 C.2.1 d_M_snapshot_46 (by decide) (fun q46 => ?_) (fun q46 => ?_)
      · subst q46
        refine lv_iload_n C.1 C.2.1 d_M_snapshot_53 rfl (lv_at hl 0 rfl) ?_
        refine lv_iconst (v := nI 3) C.1 C.2.1 d_M_snapshot_54 (by decide) ?_
        refine n_icmp_ne C.1 C.2.1 (a := 1) (b := 3) (tgt := 62) (by omega) (by omega) d_M_snapshot_55 (by decide) (fun q55 => ?_) (fun q55 => absurd q55 (by omega))
        refine lv_iconst (v := nI 0) C.1 C.2.1 d_M_snapshot_62 (by decide) ?_
        refine sm_p0 C I 0 rfl d_M_snapshot_63 (fun H locs I => ?_)
        refine lv_aload_n C.1 C.2.1 d_M_snapshot_66 rfl (lv_at hl 1 rfl) ?_
        refine sm_g0 C I d_M_snapshot_67 ?_
        refine n_ifz_le (a := 0) (tgt := 75) C.1 C.2.1 (by omega) d_M_snapshot_70 (by decide) (fun q70 => ?_) (fun q70 => absurd q70 (by omega))
        refine lv_aload_n C.1 C.2.1 d_M_snapshot_75 rfl (lv_at hl 1 rfl) ?_
        refine lv_iconst (v := nI 1) C.1 C.2.1 d_M_snapshot_76 (by decide) ?_
        refine sm_ci C I (c_M_lasts l D cA h _ 0 false fu ct vo wo th ow ba mr 1 (by omega) hfu) lk_M59 rfl rfl ⟨by decide, by decide⟩ ⟨Nat.zero_le _, Nat.zero_le _⟩ rfl hl.1 (rest := []) rfl (Nat.le_of_ble_eq_true rfl) d_M_snapshot_77 (fun r u' H locs w77 I => ?_)
        obtain ⟨bl, fl, cl, dl, hml, rfl, rfl⟩ := w77
        refine n_ifne (b := bl) (tgt := 95) C.1 C.2.1 d_M_snapshot_80 (by decide) (fun q80 => ?_) (fun q80 => ?_)
        · subst q80
          refine lv_aload_n C.1 C.2.1 d_M_snapshot_95 rfl (lv_at hl 1 rfl) ?_
          refine sm_g6 C I d_M_snapshot_96 ?_
          refine lv_iload_n C.1 C.2.1 d_M_snapshot_99 rfl (lv_at hl 0 rfl) ?_
          refine lv_iconst (v := nI 1) C.1 C.2.1 d_M_snapshot_100 (by decide) ?_
          refine sm_s3 C I (k := 1) (x := true) (by omega) d_M_snapshot_101 (fun H locs I => ?_)
          refine lv_iconst (v := nI 0) C.1 C.2.1 d_M_snapshot_102 (by decide) ?_
          refine lv_istore_n (lv' := [(2, .int (nI 0)), (1, .int (nI 1)), (0, .ref (h 0))]) C.1 C.2.1 d_M_snapshot_103 rfl hl (by decide) rfl (fun ls hl => ?_)
          exact lp_M_snapshot_104 C hr hfu  _ 0 1 0 dl fl cl vo wo (va_up th 1 true) ow ba mr (Nat.lt_succ_self _) (by omega) (by omega) (mSnap_y hle (by omega) hml) _ _ I ls (lv_sub hl [2, 1, 0] rfl)
        · subst q80
          refine lv_aload_n C.1 C.2.1 d_M_snapshot_83 rfl (lv_at hl 1 rfl) ?_
          refine lv_iconst (v := oI none) C.1 C.2.1 d_M_snapshot_84 (by decide) ?_
          refine sm_p2 C I none rfl d_M_snapshot_85 (fun H locs I => ?_)
          refine lv_aload_n C.1 C.2.1 d_M_snapshot_88 rfl (lv_at hl 1 rfl) ?_
          refine lv_iconst (v := nI 2) C.1 C.2.1 d_M_snapshot_89 (by decide) ?_
          refine sm_p0 C I 2 rfl d_M_snapshot_90 (fun H locs I => ?_)
          refine lv_iconst (v := nI 0) C.1 C.2.1 d_M_snapshot_93 (by decide) ?_
          exact sm_ri (v := nI 0) C hr I (two (f := nI) (mSnap_n hle (by omega) hml)) d_M_snapshot_94
      · subst q46
        refine lv_iconst (v := nI 2) C.1 C.2.1 d_M_snapshot_49 (by decide) ?_
        refine lv_goto (tgt := 63) C.1 C.2.1 d_M_snapshot_50 (by decide) ?_
        refine sm_p0 C I 2 rfl d_M_snapshot_63 (fun H locs I => ?_)
        refine lv_aload_n C.1 C.2.1 d_M_snapshot_66 rfl (lv_at hl 1 rfl) ?_
        refine sm_g0 C I d_M_snapshot_67 ?_
        refine n_ifz_le (a := 2) (tgt := 75) C.1 C.2.1 (by omega) d_M_snapshot_70 (by decide) (fun q70 => absurd q70 (by omega)) (fun q70 => ?_)
        refine lv_iconst (v := nI 0) C.1 C.2.1 d_M_snapshot_73 (by decide) ?_
        exact sm_ri (v := nI 0) C hr I (two (f := nI) (mSnap_2)) d_M_snapshot_74
    · refine lv_aload_n C.1 C.2.1 d_M_snapshot_18 rfl (lv_at hl 0 rfl) ?_
      refine sm_g6 C I d_M_snapshot_19 ?_
      refine lv_iconst (v := nI 2) C.1 C.2.1 d_M_snapshot_22 (by decide) ?_
      refine sm_l3 C I (k := 2) (by omega) d_M_snapshot_23 ?_
      refine n_ifeq (b := (th 2)) (tgt := 31) C.1 C.2.1 d_M_snapshot_24 (by decide) (fun q24 => ?_) (fun q24 => ?_)
      · refine lv_iconst (v := nI 2) C.1 C.2.1 d_M_snapshot_31 (by decide) ?_
        refine lv_goto (tgt := 40) C.1 C.2.1 d_M_snapshot_32 (by decide) ?_
        refine lv_istore_n (lv' := [(1, .int (nI 2)), (0, .ref (h 0))]) C.1 C.2.1 d_M_snapshot_40 rfl hl (by decide) rfl (fun ls hl => ?_)
        have hle : mLE th = 2 := by simp [mLE, q6, q15, q24]
        refine lv_aload_n C.1 C.2.1 d_M_snapshot_41 rfl (lv_at hl 1 rfl) ?_
        refine lv_aload_n C.1 C.2.1 d_M_snapshot_42 rfl (lv_at hl 1 rfl) ?_
        refine sm_g1 C I d_M_snapshot_43 ?_
        refine n_ifeq (b := dn) (tgt := 53) C.1 C.2.1 d_M_snapshot_46 (by decide) (fun q46 => ?_) (fun q46 => ?_)
        · subst q46
          refine lv_iload_n C.1 C.2.1 d_M_snapshot_53 rfl (lv_at hl 0 rfl) ?_
          refine lv_iconst (v := nI 3) C.1 C.2.1 d_M_snapshot_54 (by decide) ?_
          refine n_icmp_ne C.1 C.2.1 (a := 2) (b := 3) (tgt := 62) (by omega) (by omega) d_M_snapshot_55 (by decide) (fun q55 => ?_) (fun q55 => absurd q55 (by omega))
          refine lv_iconst (v := nI 0) C.1 C.2.1 d_M_snapshot_62 (by decide) ?_
          refine sm_p0 C I 0 rfl d_M_snapshot_63 (fun H locs I => ?_)
          refine lv_aload_n C.1 C.2.1 d_M_snapshot_66 rfl (lv_at hl 1 rfl) ?_
          refine sm_g0 C I d_M_snapshot_67 ?_
          refine n_ifz_le (a := 0) (tgt := 75) C.1 C.2.1 (by omega) d_M_snapshot_70 (by decide) (fun q70 => ?_) (fun q70 => absurd q70 (by omega))
          refine lv_aload_n C.1 C.2.1 d_M_snapshot_75 rfl (lv_at hl 1 rfl) ?_
          refine lv_iconst (v := nI 1) C.1 C.2.1 d_M_snapshot_76 (by decide) ?_
          refine sm_ci C I (c_M_lasts l D cA h _ 0 false fu ct vo wo th ow ba mr 1 (by omega) hfu) lk_M59 rfl rfl ⟨by decide, by decide⟩ ⟨Nat.zero_le _, Nat.zero_le _⟩ rfl hl.1 (rest := []) rfl (Nat.le_of_ble_eq_true rfl) d_M_snapshot_77 (fun r u' H locs w77 I => ?_)
          obtain ⟨bl, fl, cl, dl, hml, rfl, rfl⟩ := w77
          refine n_ifne (b := bl) (tgt := 95) C.1 C.2.1 d_M_snapshot_80 (by decide) (fun q80 => ?_) (fun q80 => ?_)
          · subst q80
            refine lv_aload_n C.1 C.2.1 d_M_snapshot_95 rfl (lv_at hl 1 rfl) ?_
            refine sm_g6 C I d_M_snapshot_96 ?_
            refine lv_iload_n C.1 C.2.1 d_M_snapshot_99 rfl (lv_at hl 0 rfl) ?_
            refine lv_iconst (v := nI 1) C.1 C.2.1 d_M_snapshot_100 (by decide) ?_
            refine sm_s3 C I (k := 2) (x := true) (by omega) d_M_snapshot_101 (fun H locs I => ?_)
            refine lv_iconst (v := nI 0) C.1 C.2.1 d_M_snapshot_102 (by decide) ?_
            refine lv_istore_n (lv' := [(2, .int (nI 0)), (1, .int (nI 2)), (0, .ref (h 0))]) C.1 C.2.1 d_M_snapshot_103 rfl hl (by decide) rfl (fun ls hl => ?_)
            exact lp_M_snapshot_104 C hr hfu  _ 0 2 0 dl fl cl vo wo (va_up th 2 true) ow ba mr (Nat.lt_succ_self _) (by omega) (by omega) (mSnap_y hle (by omega) hml) _ _ I ls (lv_sub hl [2, 1, 0] rfl)
          · subst q80
            refine lv_aload_n C.1 C.2.1 d_M_snapshot_83 rfl (lv_at hl 1 rfl) ?_
            refine lv_iconst (v := oI none) C.1 C.2.1 d_M_snapshot_84 (by decide) ?_
            refine sm_p2 C I none rfl d_M_snapshot_85 (fun H locs I => ?_)
            refine lv_aload_n C.1 C.2.1 d_M_snapshot_88 rfl (lv_at hl 1 rfl) ?_
            refine lv_iconst (v := nI 2) C.1 C.2.1 d_M_snapshot_89 (by decide) ?_
            refine sm_p0 C I 2 rfl d_M_snapshot_90 (fun H locs I => ?_)
            refine lv_iconst (v := nI 0) C.1 C.2.1 d_M_snapshot_93 (by decide) ?_
            exact sm_ri (v := nI 0) C hr I (two (f := nI) (mSnap_n hle (by omega) hml)) d_M_snapshot_94
        · subst q46
          refine lv_iconst (v := nI 2) C.1 C.2.1 d_M_snapshot_49 (by decide) ?_
          refine lv_goto (tgt := 63) C.1 C.2.1 d_M_snapshot_50 (by decide) ?_
          refine sm_p0 C I 2 rfl d_M_snapshot_63 (fun H locs I => ?_)
          refine lv_aload_n C.1 C.2.1 d_M_snapshot_66 rfl (lv_at hl 1 rfl) ?_
          refine sm_g0 C I d_M_snapshot_67 ?_
          refine n_ifz_le (a := 2) (tgt := 75) C.1 C.2.1 (by omega) d_M_snapshot_70 (by decide) (fun q70 => absurd q70 (by omega)) (fun q70 => ?_)
          refine lv_iconst (v := nI 0) C.1 C.2.1 d_M_snapshot_73 (by decide) ?_
          exact sm_ri (v := nI 0) C hr I (two (f := nI) (mSnap_2)) d_M_snapshot_74
      · refine lv_iconst (v := nI 3) C.1 C.2.1 d_M_snapshot_27 (by decide) ?_
        refine lv_goto (tgt := 40) C.1 C.2.1 d_M_snapshot_28 (by decide) ?_
        refine lv_istore_n (lv' := [(1, .int (nI 3)), (0, .ref (h 0))]) C.1 C.2.1 d_M_snapshot_40 rfl hl (by decide) rfl (fun ls hl => ?_)
        have hle : mLE th = 3 := by simp [mLE, q6, q15, q24]
        refine lv_aload_n C.1 C.2.1 d_M_snapshot_41 rfl (lv_at hl 1 rfl) ?_
        refine lv_aload_n C.1 C.2.1 d_M_snapshot_42 rfl (lv_at hl 1 rfl) ?_
        refine sm_g1 C I d_M_snapshot_43 ?_
        refine n_ifeq (b := dn) (tgt := 53) C.1 C.2.1 d_M_snapshot_46 (by decide) (fun q46 => ?_) (fun q46 => ?_)
        · subst q46
          refine lv_iload_n C.1 C.2.1 d_M_snapshot_53 rfl (lv_at hl 0 rfl) ?_
          refine lv_iconst (v := nI 3) C.1 C.2.1 d_M_snapshot_54 (by decide) ?_
          refine n_icmp_ne C.1 C.2.1 (a := 3) (b := 3) (tgt := 62) (by omega) (by omega) d_M_snapshot_55 (by decide) (fun q55 => absurd q55 (by omega)) (fun q55 => ?_)
          refine lv_iconst (v := nI 1) C.1 C.2.1 d_M_snapshot_58 (by decide) ?_
          refine lv_goto (tgt := 63) C.1 C.2.1 d_M_snapshot_59 (by decide) ?_
          refine sm_p0 C I 1 rfl d_M_snapshot_63 (fun H locs I => ?_)
          refine lv_aload_n C.1 C.2.1 d_M_snapshot_66 rfl (lv_at hl 1 rfl) ?_
          refine sm_g0 C I d_M_snapshot_67 ?_
          refine n_ifz_le (a := 1) (tgt := 75) C.1 C.2.1 (by omega) d_M_snapshot_70 (by decide) (fun q70 => absurd q70 (by omega)) (fun q70 => ?_)
          refine lv_iconst (v := nI 0) C.1 C.2.1 d_M_snapshot_73 (by decide) ?_
          exact sm_ri (v := nI 0) C hr I (two (f := nI) (mSnap_1 hle)) d_M_snapshot_74
        · subst q46
          refine lv_iconst (v := nI 2) C.1 C.2.1 d_M_snapshot_49 (by decide) ?_
          refine lv_goto (tgt := 63) C.1 C.2.1 d_M_snapshot_50 (by decide) ?_
          refine sm_p0 C I 2 rfl d_M_snapshot_63 (fun H locs I => ?_)
          refine lv_aload_n C.1 C.2.1 d_M_snapshot_66 rfl (lv_at hl 1 rfl) ?_
          refine sm_g0 C I d_M_snapshot_67 ?_
          refine n_ifz_le (a := 2) (tgt := 75) C.1 C.2.1 (by omega) d_M_snapshot_70 (by decide) (fun q70 => absurd q70 (by omega)) (fun q70 => ?_)
          refine lv_iconst (v := nI 0) C.1 C.2.1 d_M_snapshot_73 (by decide) ?_
          exact sm_ri (v := nI 0) C hr I (two (f := nI) (mSnap_2)) d_M_snapshot_74
set_option maxHeartbeats 4000000 in
set_option maxRecDepth 100000 in
theorem lp_M_changed_51 {p : Program} {l : Launch} {e : Env} {s : State} {m : MethodId} {args : Array Value} {below : List Frame} {meth : Method} {c : Code} {D : va_G} {cA : Nat → ClassId} {A : Nat → Prop} {h : Nat → Nat} {co : Nat} {dn : Bool} {fu : Option Nat} {ct : Nat} {vo : (Nat → Int32)} {wo : (Nat → Int32)} {th : (Nat → Bool)} {ow : (Nat → Nat)} {ba : Nat} {mr : Nat} (C : gC p s m args meth c b_M_changed 6 R_M) (hr : meth.sig.returnType = (some .int)) (x : Int32) (s1 : Nat) (hs1 : s1 < 3) (a b : Nat) (hb : b < 6) (kk : ∀ (sa : Bool), sa = mSame vo wo s1 b → ∀ (H : Heap) (locs : List Loc), smI D cA A s h (0, false, fu, ct, vo, wo, th, ow, ba, mr) H locs → ∀ (ls : Array Slot), lv_has ls 6 [(0, .ref (h 0)), (1, .int (nI s1)), (2, .int (nI a)), (3, .int (nI b)), (4, .int (bI sa))] → W p l e (rmL 2) s m args below meth c H locs 0 0 (MQ below (va_Qi (fun r u' => r = nI (mChanged x (co, dn, fu, ct, vo, wo, th, ow, ba, mr)).1 ∧ u' = (mChanged x (co, dn, fu, ct, vo, wo, th, ow, ba, mr)).2) (smAt D cA A h) A) args s 0 0 A) (F0 m 105 ls [])) : ∀ (fuel : Nat) (i : Nat) (sa : Bool), 4 - i < fuel → i ≤ 4 → sa = (List.range i).all (fun i => decide (wo (24 * s1 + 4 * b + i) = vo (4 * b + i))) → ∀ (H : Heap) (locs : List Loc), smI D cA A s h (0, false, fu, ct, vo, wo, th, ow, ba, mr) H locs → ∀ (ls : Array Slot), lv_has ls 6 [(0, .ref (h 0)), (1, .int (nI s1)), (2, .int (nI a)), (3, .int (nI b)), (4, .int (bI sa)), (5, .int (nI i))] → W p l e (rmL 2) s m args below meth c H locs 0 0 (MQ below (va_Qi (fun r u' => r = nI (mChanged x (co, dn, fu, ct, vo, wo, th, ow, ba, mr)).1 ∧ u' = (mChanged x (co, dn, fu, ct, vo, wo, th, ow, ba, mr)).2) (smAt D cA A h) A) args s 0 0 A) (F0 m 51 ls []) := by
  intro fuel
  induction fuel with
  | zero =>
    intro _ _ hfuel
    exact absurd hfuel (Nat.not_lt_zero _)
  | succ fuel ih =>
    intro i sa hfuel hi hsa H locs I ls hl
    refine lv_iload C.1 C.2.1 d_M_changed_51 (lv_at hl 5 rfl) ?_
    refine lv_iconst (v := nI 4) C.1 C.2.1 d_M_changed_53 (by decide) ?_
    refine n_icmp_ge C.1 C.2.1 (a := i) (b := 4) (tgt := 105) (by omega) (by omega) d_M_changed_54 (by decide) (fun q54 => ?_) (fun q54 => ?_)
    · exact kk sa (by rw [hsa, show i = 4 by omega]; rfl) _ _ I ls (lv_sub hl [0, 1, 2, 3, 4] rfl)
    · refine lv_iload C.1 C.2.1 d_M_changed_57 (lv_at hl 4 rfl) ?_
      refine n_ifeq (b := sa) (tgt := 96) C.1 C.2.1 d_M_changed_59 (by decide) (fun q59 => ?_) (fun q59 => ?_)
      · refine lv_iconst (v := nI 0) C.1 C.2.1 d_M_changed_96 (by decide) ?_
        refine lv_istore (lv' := [(4, .int (nI 0)), (0, .ref (h 0)), (1, .int (nI s1)), (2, .int (nI a)), (3, .int (nI b)), (5, .int (nI i))]) C.1 C.2.1 d_M_changed_97 hl (by decide) rfl (fun ls hl => ?_)
        refine lv_iinc (v := nI (i + 1)) (lv' := [(5, .int (nI (i + 1))), (4, .int (nI 0)), (0, .ref (h 0)), (1, .int (nI s1)), (2, .int (nI a)), (3, .int (nI b))]) C.1 C.2.1 d_M_changed_99 hl (k := 5) rfl (by rw [show nI (i + 1) = nI i + nI 1 from (nI_add _ _).symm]; rfl) (by decide) rfl (fun ls hl => ?_)
        refine lv_goto (tgt := 51) C.1 C.2.1 d_M_changed_102 (by decide) ?_
        exact ih (i + 1) false (by omega) (by omega) (by first | exact all_f (Or.inl (hsa.symm.trans q59)) | exact all_t (hsa.symm.trans q59) (decide_eq_true q89) | exact all_f (Or.inr (decide_eq_false q89))) _ _ I ls (lv_sub hl [2, 3, 4, 5, 1, 0] rfl)
      · refine lv_aload_n C.1 C.2.1 d_M_changed_62 rfl (lv_at hl 0 rfl) ?_
        refine sm_g5 C I d_M_changed_63 ?_
        refine lv_bipush (v := nI 24) C.1 C.2.1 d_M_changed_66 (by decide) ?_
        refine lv_iload_n C.1 C.2.1 d_M_changed_68 rfl (lv_at hl 1 rfl) ?_
        refine n_imul C.1 C.2.1 (a := 24) (b := s1) d_M_changed_69 ?_
        refine lv_iconst (v := nI 4) C.1 C.2.1 d_M_changed_70 (by decide) ?_
        refine lv_iload_n C.1 C.2.1 d_M_changed_71 rfl (lv_at hl 3 rfl) ?_
        refine n_imul C.1 C.2.1 (a := 4) (b := b) d_M_changed_72 ?_
        refine n_iadd C.1 C.2.1 (a := 24 * s1) (b := 4 * b) d_M_changed_73 ?_
        refine lv_iload C.1 C.2.1 d_M_changed_74 (lv_at hl 5 rfl) ?_
        refine n_iadd C.1 C.2.1 (a := (24 * s1) + (4 * b)) (b := i) d_M_changed_76 ?_
        refine sm_l2 C I (k := ((24 * s1) + (4 * b)) + i) (by omega) d_M_changed_77 ?_
        refine lv_aload_n C.1 C.2.1 d_M_changed_78 rfl (lv_at hl 0 rfl) ?_
        refine sm_g4 C I d_M_changed_79 ?_
        refine lv_iconst (v := nI 4) C.1 C.2.1 d_M_changed_82 (by decide) ?_
        refine lv_iload_n C.1 C.2.1 d_M_changed_83 rfl (lv_at hl 3 rfl) ?_
        refine n_imul C.1 C.2.1 (a := 4) (b := b) d_M_changed_84 ?_
        refine lv_iload C.1 C.2.1 d_M_changed_85 (lv_at hl 5 rfl) ?_
        refine n_iadd C.1 C.2.1 (a := 4 * b) (b := i) d_M_changed_87 ?_
        refine sm_l1 C I (k := (4 * b) + i) (by omega) d_M_changed_88 ?_
        refine lv_icmp_ne (x := (wo (((24 * s1) + (4 * b)) + i))) (y := (vo ((4 * b) + i))) (tgt := 96) C.1 C.2.1 d_M_changed_89 (by decide) (fun q89 => ?_) (fun q89 => ?_)
        · refine lv_iconst (v := nI 0) C.1 C.2.1 d_M_changed_96 (by decide) ?_
          refine lv_istore (lv' := [(4, .int (nI 0)), (0, .ref (h 0)), (1, .int (nI s1)), (2, .int (nI a)), (3, .int (nI b)), (5, .int (nI i))]) C.1 C.2.1 d_M_changed_97 hl (by decide) rfl (fun ls hl => ?_)
          refine lv_iinc (v := nI (i + 1)) (lv' := [(5, .int (nI (i + 1))), (4, .int (nI 0)), (0, .ref (h 0)), (1, .int (nI s1)), (2, .int (nI a)), (3, .int (nI b))]) C.1 C.2.1 d_M_changed_99 hl (k := 5) rfl (by rw [show nI (i + 1) = nI i + nI 1 from (nI_add _ _).symm]; rfl) (by decide) rfl (fun ls hl => ?_)
          refine lv_goto (tgt := 51) C.1 C.2.1 d_M_changed_102 (by decide) ?_
          exact ih (i + 1) false (by omega) (by omega) (by first | exact all_f (Or.inl (hsa.symm.trans q59)) | exact all_t (hsa.symm.trans q59) (decide_eq_true q89) | exact all_f (Or.inr (decide_eq_false q89))) _ _ I ls (lv_sub hl [2, 3, 4, 5, 1, 0] rfl)
        · refine lv_iconst (v := nI 1) C.1 C.2.1 d_M_changed_92 (by decide) ?_
          refine lv_goto (tgt := 97) C.1 C.2.1 d_M_changed_93 (by decide) ?_
          refine lv_istore (lv' := [(4, .int (nI 1)), (0, .ref (h 0)), (1, .int (nI s1)), (2, .int (nI a)), (3, .int (nI b)), (5, .int (nI i))]) C.1 C.2.1 d_M_changed_97 hl (by decide) rfl (fun ls hl => ?_)
          refine lv_iinc (v := nI (i + 1)) (lv' := [(5, .int (nI (i + 1))), (4, .int (nI 1)), (0, .ref (h 0)), (1, .int (nI s1)), (2, .int (nI a)), (3, .int (nI b))]) C.1 C.2.1 d_M_changed_99 hl (k := 5) rfl (by rw [show nI (i + 1) = nI i + nI 1 from (nI_add _ _).symm]; rfl) (by decide) rfl (fun ls hl => ?_)
          refine lv_goto (tgt := 51) C.1 C.2.1 d_M_changed_102 (by decide) ?_
          exact ih (i + 1) true (by omega) (by omega) (by first | exact all_f (Or.inl (hsa.symm.trans q59)) | exact all_t (hsa.symm.trans q59) (decide_eq_true q89) | exact all_f (Or.inr (decide_eq_false q89))) _ _ I ls (lv_sub hl [2, 3, 4, 5, 1, 0] rfl)
set_option maxHeartbeats 4000000 in
set_option maxRecDepth 100000 in
theorem lp_M_changed_32 {p : Program} {l : Launch} {e : Env} {s : State} {m : MethodId} {args : Array Value} {below : List Frame} {meth : Method} {c : Code} {D : va_G} {cA : Nat → ClassId} {A : Nat → Prop} {h : Nat → Nat} {co : Nat} {dn : Bool} {fu : Option Nat} {ct : Nat} {vo : (Nat → Int32)} {wo : (Nat → Int32)} {th : (Nat → Bool)} {ow : (Nat → Nat)} {ba : Nat} {mr : Nat} (C : gC p s m args meth c b_M_changed 6 R_M) (hr : meth.sig.returnType = (some .int)) (x : Int32) (s1 : Nat) (hs1 : s1 < 3) (hR : mChanged x (co, dn, fu, ct, vo, wo, th, ow, ba, mr) = (cnt (fun b => ! mSame vo wo s1 b) 6, (0, false, fu, ct, vo, wo, th, ow, ba, mr)))  : ∀ (fuel : Nat) (b : Nat) (a : Nat), 6 - b < fuel → b ≤ 6 → a = cnt (fun b => ! mSame vo wo s1 b) b → ∀ (H : Heap) (locs : List Loc), smI D cA A s h (0, false, fu, ct, vo, wo, th, ow, ba, mr) H locs → ∀ (ls : Array Slot), lv_has ls 6 [(0, .ref (h 0)), (1, .int (nI s1)), (2, .int (nI a)), (3, .int (nI b))] → W p l e (rmL 2) s m args below meth c H locs 0 0 (MQ below (va_Qi (fun r u' => r = nI (mChanged x (co, dn, fu, ct, vo, wo, th, ow, ba, mr)).1 ∧ u' = (mChanged x (co, dn, fu, ct, vo, wo, th, ow, ba, mr)).2) (smAt D cA A h) A) args s 0 0 A) (F0 m 32 ls []) := by
  intro fuel
  induction fuel with
  | zero =>
    intro _ _ hfuel
    exact absurd hfuel (Nat.not_lt_zero _)
  | succ fuel ih =>
    intro b a hfuel hi ha H locs I ls hl
    refine lv_iload_n C.1 C.2.1 d_M_changed_32 rfl (lv_at hl 3 rfl) ?_
    refine lv_bipush (v := nI 6) C.1 C.2.1 d_M_changed_33 (by decide) ?_
    refine n_icmp_ge C.1 C.2.1 (a := b) (b := 6) (tgt := 124) (by omega) (by omega) d_M_changed_35 (by decide) (fun q35 => ?_) (fun q35 => ?_)
    · refine lv_iload_n C.1 C.2.1 d_M_changed_124 rfl (lv_at hl 2 rfl) ?_
      exact sm_ri (v := nI a) C hr I (two (f := nI) (hR.trans (by rw [ha, show b = 6 by omega]))) d_M_changed_125
    · refine lv_aload_n C.1 C.2.1 d_M_changed_38 rfl (lv_at hl 0 rfl) ?_
      refine sm_g0 C I d_M_changed_39 ?_
      refine n_ifz_ne (a := 0) (tgt := 124) C.1 C.2.1 (by omega) d_M_changed_42 (by decide) (fun q42 => absurd q42 (by omega)) (fun q42 => ?_)
      refine lv_iconst (v := nI 1) C.1 C.2.1 d_M_changed_45 (by decide) ?_
      refine lv_istore (lv' := [(4, .int (nI 1)), (0, .ref (h 0)), (1, .int (nI s1)), (2, .int (nI a)), (3, .int (nI b))]) C.1 C.2.1 d_M_changed_46 hl (by decide) rfl (fun ls hl => ?_)
      refine lv_iconst (v := nI 0) C.1 C.2.1 d_M_changed_48 (by decide) ?_
      refine lv_istore (lv' := [(5, .int (nI 0)), (4, .int (nI 1)), (0, .ref (h 0)), (1, .int (nI s1)), (2, .int (nI a)), (3, .int (nI b))]) C.1 C.2.1 d_M_changed_49 hl (by decide) rfl (fun ls hl => ?_)
      refine lp_M_changed_51 C hr _ s1 hs1 a b (by omega) (fun sa hsm H locs I ls hl => ?_) _ 0 true (Nat.lt_succ_self _) (by omega) rfl _ _ I ls (lv_sub hl [2, 3, 4, 5, 1, 0] rfl)
      refine lv_iload C.1 C.2.1 d_M_changed_105 (lv_at hl 4 rfl) ?_
      refine n_ifeq (b := sa) (tgt := 114) C.1 C.2.1 d_M_changed_107 (by decide) (fun q107 => ?_) (fun q107 => ?_)
      · refine lv_iload_n C.1 C.2.1 d_M_changed_114 rfl (lv_at hl 2 rfl) ?_
        refine lv_iconst (v := nI 1) C.1 C.2.1 d_M_changed_115 (by decide) ?_
        refine n_iadd C.1 C.2.1 (a := a) (b := 1) d_M_changed_116 ?_
        refine lv_istore_n (lv' := [(2, .int (nI (a + 1))), (0, .ref (h 0)), (1, .int (nI s1)), (3, .int (nI b)), (4, .int (bI sa))]) C.1 C.2.1 d_M_changed_117 rfl hl (by decide) rfl (fun ls hl => ?_)
        refine lv_iinc (v := nI (b + 1)) (lv' := [(3, .int (nI (b + 1))), (2, .int (nI (a + 1))), (0, .ref (h 0)), (1, .int (nI s1)), (4, .int (bI sa))]) C.1 C.2.1 d_M_changed_118 hl (k := 3) rfl (by rw [show nI (b + 1) = nI b + nI 1 from (nI_add _ _).symm]; rfl) (by decide) rfl (fun ls hl => ?_)
        refine lv_goto (tgt := 32) C.1 C.2.1 d_M_changed_121 (by decide) ?_
        exact ih (b + 1) (a + 1) (by omega) (by omega) (by rw [ha]; first | exact (cnt_y (by show (! mSame vo wo s1 b) = true; rw [← hsm, q107]; rfl)).symm | exact (cnt_s (by show (! mSame vo wo s1 b) = false; rw [← hsm, q107]; rfl)).symm) _ _ I ls (lv_sub hl [2, 3, 1, 0] rfl)
      · refine lv_iload_n C.1 C.2.1 d_M_changed_110 rfl (lv_at hl 2 rfl) ?_
        refine lv_goto (tgt := 117) C.1 C.2.1 d_M_changed_111 (by decide) ?_
        refine lv_istore_n (lv' := [(2, .int (nI a)), (0, .ref (h 0)), (1, .int (nI s1)), (3, .int (nI b)), (4, .int (bI sa))]) C.1 C.2.1 d_M_changed_117 rfl hl (by decide) rfl (fun ls hl => ?_)
        refine lv_iinc (v := nI (b + 1)) (lv' := [(3, .int (nI (b + 1))), (2, .int (nI a)), (0, .ref (h 0)), (1, .int (nI s1)), (4, .int (bI sa))]) C.1 C.2.1 d_M_changed_118 hl (k := 3) rfl (by rw [show nI (b + 1) = nI b + nI 1 from (nI_add _ _).symm]; rfl) (by decide) rfl (fun ls hl => ?_)
        refine lv_goto (tgt := 32) C.1 C.2.1 d_M_changed_121 (by decide) ?_
        exact ih (b + 1) a (by omega) (by omega) (by rw [ha]; first | exact (cnt_y (by show (! mSame vo wo s1 b) = true; rw [← hsm, q107]; rfl)).symm | exact (cnt_s (by show (! mSame vo wo s1 b) = false; rw [← hsm, q107]; rfl)).symm) _ _ I ls (lv_sub hl [2, 3, 1, 0] rfl)
set_option maxHeartbeats 4000000 in
set_option maxRecDepth 100000 in
/-- R_M.changed -/
theorem c_M_changed (l : Launch) (D : va_G) (cA : Nat → ClassId) (h : Nat → Nat) (sz : Nat) (co : Nat) (dn : Bool) (fu : Option Nat) (ct : Nat) (vo : (Nat → Int32)) (wo : (Nat → Int32)) (th : (Nat → Bool)) (ow : (Nat → Nat)) (ba : Nat) (mr : Nat) (x : Int32) : smMi l D cA h (co, dn, fu, ct, vo, wo, th, ow, ba, mr) sz y_M_changed (.code y_M_changed b_M_changed 6 (some .int)) (rmL 2) [.int x] (fun r u' => r = nI (mChanged x (co, dn, fu, ct, vo, wo, th, ow, ba, mr)).1 ∧ u' = (mChanged x (co, dn, fu, ct, vo, wo, th, ow, ba, mr)).2) := by
  refine sm_mi (by decide) rfl (Nat.le_of_ble_eq_true rfl) ?_
  intro p e s m args below meth c C hr hsz I ls hl
  generalize smA cA h (co, dn, fu, ct, vo, wo, th, ow, ba, mr) sz = A at I ⊢
  have hl : lv_has ls 6 [(0, .ref (h 0)), (1, .int x)] := hl
  refine lv_aload_n C.1 C.2.1 d_M_changed_0 rfl (lv_at hl 0 rfl) ?_
  refine lv_aload_n C.1 C.2.1 d_M_changed_1 rfl (lv_at hl 0 rfl) ?_
  refine sm_g1 C I d_M_changed_2 ?_
  refine n_ifeq (b := dn) (tgt := 12) C.1 C.2.1 d_M_changed_5 (by decide) (fun q5 => ?_) (fun q5 => ?_)
  · subst q5
    refine lv_aload_n C.1 C.2.1 d_M_changed_12 rfl (lv_at hl 0 rfl) ?_
    refine lv_iload_n C.1 C.2.1 d_M_changed_13 rfl (lv_at hl 1 rfl) ?_
    refine sm_ci C I (c_M_isSnapshot l D cA h _ co false fu ct vo wo th ow ba mr x) lk_M70 rfl rfl ⟨by decide, by decide⟩ ⟨Nat.zero_le _, Nat.zero_le _⟩ rfl hl.1 (rest := [.ref (h 0)]) rfl (Nat.le_of_ble_eq_true rfl) d_M_changed_14 (fun r u' H locs w14 I => ?_)
    obtain ⟨rfl, rfl⟩ := w14
    refine n_ifeq (b := (mHasS th x).isSome) (tgt := 24) C.1 C.2.1 d_M_changed_17 (by decide) (fun q17 => ?_) (fun q17 => ?_)
    · refine lv_iconst (v := nI 1) C.1 C.2.1 d_M_changed_24 (by decide) ?_
      refine sm_p0 C I 1 rfl d_M_changed_25 (fun H locs I => ?_)
      refine lv_iconst (v := nI 0) C.1 C.2.1 d_M_changed_28 (by decide) ?_
      refine lv_istore_n (lv' := [(2, .int (nI 0)), (0, .ref (h 0)), (1, .int x)]) C.1 C.2.1 d_M_changed_29 rfl hl (by decide) rfl (fun ls hl => ?_)
      refine lv_iconst (v := nI 0) C.1 C.2.1 d_M_changed_30 (by decide) ?_
      refine lv_istore_n (lv' := [(3, .int (nI 0)), (2, .int (nI 0)), (0, .ref (h 0)), (1, .int x)]) C.1 C.2.1 d_M_changed_31 rfl hl (by decide) rfl (fun ls hl => ?_)
      refine lv_iload_n C.1 C.2.1 d_M_changed_32 rfl (lv_at hl 0 rfl) ?_
      refine lv_bipush (v := nI 6) C.1 C.2.1 d_M_changed_33 (by decide) ?_
      refine n_icmp_ge C.1 C.2.1 (a := 0) (b := 6) (tgt := 124) (by omega) (by omega) d_M_changed_35 (by decide) (fun q35 => absurd q35 (by omega)) (fun q35 => ?_)
      refine lv_aload_n C.1 C.2.1 d_M_changed_38 rfl (lv_at hl 2 rfl) ?_
      refine sm_g0 C I d_M_changed_39 ?_
      refine n_ifz_ne (a := 1) (tgt := 124) C.1 C.2.1 (by omega) d_M_changed_42 (by decide) (fun q42 => ?_) (fun q42 => absurd q42 (by omega))
      refine lv_iload_n C.1 C.2.1 d_M_changed_124 rfl (lv_at hl 1 rfl) ?_
      exact sm_ri (v := nI 0) C hr I (two (f := nI) (mChanged_1 q17)) d_M_changed_125
    · obtain ⟨s1, hs1, rfl, ht1, hm1⟩ := mHasS_in q17
      refine lv_iconst (v := nI 0) C.1 C.2.1 d_M_changed_20 (by decide) ?_
      refine lv_goto (tgt := 25) C.1 C.2.1 d_M_changed_21 (by decide) ?_
      refine sm_p0 C I 0 rfl d_M_changed_25 (fun H locs I => ?_)
      refine lv_iconst (v := nI 0) C.1 C.2.1 d_M_changed_28 (by decide) ?_
      refine lv_istore_n (lv' := [(2, .int (nI 0)), (0, .ref (h 0)), (1, .int (nI s1))]) C.1 C.2.1 d_M_changed_29 rfl hl (by decide) rfl (fun ls hl => ?_)
      refine lv_iconst (v := nI 0) C.1 C.2.1 d_M_changed_30 (by decide) ?_
      refine lv_istore_n (lv' := [(3, .int (nI 0)), (2, .int (nI 0)), (0, .ref (h 0)), (1, .int (nI s1))]) C.1 C.2.1 d_M_changed_31 rfl hl (by decide) rfl (fun ls hl => ?_)
      exact lp_M_changed_32 C hr _ s1 hs1 (mChanged_0 hm1) _ 0 0 (Nat.lt_succ_self _) (by omega) rfl _ _ I ls (lv_sub hl [2, 3, 1, 0] rfl)
  · subst q5
    refine lv_iconst (v := nI 2) C.1 C.2.1 d_M_changed_8 (by decide) ?_
    refine lv_goto (tgt := 25) C.1 C.2.1 d_M_changed_9 (by decide) ?_
    refine sm_p0 C I 2 rfl d_M_changed_25 (fun H locs I => ?_)
    refine lv_iconst (v := nI 0) C.1 C.2.1 d_M_changed_28 (by decide) ?_
    refine lv_istore_n (lv' := [(2, .int (nI 0)), (0, .ref (h 0)), (1, .int x)]) C.1 C.2.1 d_M_changed_29 rfl hl (by decide) rfl (fun ls hl => ?_)
    refine lv_iconst (v := nI 0) C.1 C.2.1 d_M_changed_30 (by decide) ?_
    refine lv_istore_n (lv' := [(3, .int (nI 0)), (2, .int (nI 0)), (0, .ref (h 0)), (1, .int x)]) C.1 C.2.1 d_M_changed_31 rfl hl (by decide) rfl (fun ls hl => ?_)
    refine lv_iload_n C.1 C.2.1 d_M_changed_32 rfl (lv_at hl 0 rfl) ?_
    refine lv_bipush (v := nI 6) C.1 C.2.1 d_M_changed_33 (by decide) ?_
    refine n_icmp_ge C.1 C.2.1 (a := 0) (b := 6) (tgt := 124) (by omega) (by omega) d_M_changed_35 (by decide) (fun q35 => absurd q35 (by omega)) (fun q35 => ?_)
    refine lv_aload_n C.1 C.2.1 d_M_changed_38 rfl (lv_at hl 2 rfl) ?_
    refine sm_g0 C I d_M_changed_39 ?_
    refine n_ifz_ne (a := 2) (tgt := 124) C.1 C.2.1 (by omega) d_M_changed_42 (by decide) (fun q42 => ?_) (fun q42 => absurd q42 (by omega))
    refine lv_iload_n C.1 C.2.1 d_M_changed_124 rfl (lv_at hl 1 rfl) ?_
    exact sm_ri (v := nI 0) C hr I (two (f := nI) (mChanged_2)) d_M_changed_125
set_option maxHeartbeats 4000000 in
set_option maxRecDepth 100000 in
theorem lp_M_rollback_151 {p : Program} {l : Launch} {e : Env} {s : State} {m : MethodId} {args : Array Value} {below : List Frame} {meth : Method} {c : Code} {D : va_G} {cA : Nat → ClassId} {A : Nat → Prop} {h : Nat → Nat} {co : Nat} {dn : Bool} {fu : Option Nat} {ct : Nat} {vo : (Nat → Int32)} {wo : (Nat → Int32)} {th : (Nat → Bool)} {ow : (Nat → Nat)} {ba : Nat} {mr : Nat} (C : gC p s m args meth c b_M_rollback 7 R_M) (hr : meth.sig.returnType = (some .int)) (x : Int32) (hfu : ∀ k, fu = some k → k < 2 ^ 31) (how : oB th ow) (hu : mUsed th ow ≤ 9) (s1 : Nat) (hs1 : s1 < 3)  : ∀ (fuel : Nat) (b : Nat) (lf : Nat) (cov : Nat) (dnv : Bool) (fuv : Option Nat) (ctv : Nat) (vov : (Nat → Int32)) (wov : (Nat → Int32)) (thv : (Nat → Bool)) (owv : (Nat → Nat)) (bav : Nat) (mrv : Nat), 6 - b < fuel → b ≤ 6 → lf < 2 ^ 31 → mRoll x (co, dn, fu, ct, vo, wo, th, ow, ba, mr) = fC cov dnv fuv ctv wov thv bav (mCutL thv wov s1 (6 - b) b lf mrv vov owv) → thv s1 = true → oB thv owv → mUsed thv owv + mNd thv owv s1 (6 - b) b ≤ 9 → ∀ (H : Heap) (locs : List Loc), smI D cA A s h (cov, dnv, fuv, ctv, vov, wov, thv, owv, bav, mrv) H locs → ∀ (ls : Array Slot), lv_has ls 7 [(0, .ref (h 0)), (1, .int (nI s1)), (3, .int (nI lf)), (4, .int (nI 1)), (5, .int (nI b))] → W p l e (rmL 4) s m args below meth c H locs 0 0 (MQ below (va_Qi (fun r u' => r = nI (mRoll x (co, dn, fu, ct, vo, wo, th, ow, ba, mr)).1 ∧ u' = (mRoll x (co, dn, fu, ct, vo, wo, th, ow, ba, mr)).2) (smAt D cA A h) A) args s 0 0 A) (F0 m 151 ls []) := by
  intro fuel
  induction fuel with
  | zero =>
    intro _ _ _ _ _ _ _ _ _ _ _ _ hfuel
    exact absurd hfuel (Nat.not_lt_zero _)
  | succ fuel ih =>
    intro b lf cov dnv fuv ctv vov wov thv owv bav mrv hfuel hi hlf hR htv hv hu2 H locs I ls hl
    refine lv_iload C.1 C.2.1 d_M_rollback_151 (lv_at hl 4 rfl) ?_
    refine lv_bipush (v := nI 6) C.1 C.2.1 d_M_rollback_153 (by decide) ?_
    refine n_icmp_ge C.1 C.2.1 (a := b) (b := 6) (tgt := 260) (by omega) (by omega) d_M_rollback_155 (by decide) (fun q155 => ?_) (fun q155 => ?_)
    · refine lv_iconst (v := nI 0) C.1 C.2.1 d_M_rollback_260 (by decide) ?_
      exact sm_ri (v := nI 0) C hr I (two (f := nI) (hR.trans (by rw [show 6 - b = 0 by omega]; rfl))) d_M_rollback_261
    · refine lv_iload C.1 C.2.1 d_M_rollback_158 (lv_at hl 3 rfl) ?_
      refine n_ifz_eq (a := 1) (tgt := 260) C.1 C.2.1 (by omega) d_M_rollback_160 (by decide) (fun q160 => absurd q160 (by omega)) (fun q160 => ?_)
      refine lv_aload_n C.1 C.2.1 d_M_rollback_163 rfl (lv_at hl 0 rfl) ?_
      refine lv_iload_n C.1 C.2.1 d_M_rollback_164 rfl (lv_at hl 1 rfl) ?_
      refine lv_iload C.1 C.2.1 d_M_rollback_165 (lv_at hl 4 rfl) ?_
      refine sm_ci C I (c_M_has l D cA h _ cov dnv fuv ctv vov wov thv owv bav mrv s1 b (by omega) (by omega) (hv.sb (by omega) (by omega) htv)) lk_M73 rfl rfl ⟨by decide, by decide⟩ ⟨Nat.zero_le _, Nat.zero_le _⟩ rfl hl.1 (rest := []) rfl (Nat.le_of_ble_eq_true rfl) d_M_rollback_167 (fun r u' H locs w167 I => ?_)
      obtain ⟨rfl, rfl⟩ := w167
      refine n_ifeq (b := mHas owv s1 b) (tgt := 254) C.1 C.2.1 d_M_rollback_170 (by decide) (fun q170 => ?_) (fun q170 => ?_)
      · refine lv_iinc (v := nI (b + 1)) (lv' := [(5, .int (nI (b + 1))), (0, .ref (h 0)), (1, .int (nI s1)), (3, .int (nI lf)), (4, .int (nI 1))]) C.1 C.2.1 d_M_rollback_254 hl (k := 4) rfl (by rw [show nI (b + 1) = nI b + nI 1 from (nI_add _ _).symm]; rfl) (by decide) rfl (fun ls hl => ?_)
        refine lv_goto (tgt := 151) C.1 C.2.1 d_M_rollback_257 (by decide) ?_
        exact ih (b + 1) lf cov dnv fuv ctv vov wov thv owv bav mrv (by omega) (by omega) (by omega) (hR.trans (by rw [show 6 - b = (6 - (b + 1)) + 1 by omega]; first | exact congrArg (fC cov dnv fuv ctv wov thv bav) hcy | exact congrArg (fC cov dnv fuv ctv wov thv bav) (mCut_no q170))) htv (by first | exact hnp.1 | exact hv) (by first | exact hnp.2 | (rw [show 6 - b = (6 - (b + 1)) + 1 by omega, mNd_no q170] at hu2; exact hu2)) _ _ I ls (lv_sub hl [1, 2, 3, 4, 0] rfl)
      · have hu3 : mUsed thv owv + (mShr thv owv b (some s1) + mNd thv owv s1 (6 - (b + 1)) (b + 1)) ≤ 9 := by rw [show 6 - b = (6 - (b + 1)) + 1 by omega, mNd_yes q170] at hu2; exact hu2
        refine lv_aload_n C.1 C.2.1 d_M_rollback_173 rfl (lv_at hl 0 rfl) ?_
        refine lv_iload C.1 C.2.1 d_M_rollback_174 (lv_at hl 4 rfl) ?_
        refine lv_iload_n C.1 C.2.1 d_M_rollback_176 rfl (lv_at hl 1 rfl) ?_
        refine sm_ci C I (c_M_sharers l D cA h _ cov dnv fuv ctv vov wov thv owv bav mrv b (some s1) (by omega) (fun j e => by cases e; omega) hv) lk_M52 rfl rfl ⟨by decide, by decide⟩ ⟨Nat.zero_le _, Nat.zero_le _⟩ rfl hl.1 (rest := []) rfl (Nat.le_of_ble_eq_true rfl) d_M_rollback_177 (fun r u' H locs w177 I => ?_)
        obtain ⟨rfl, rfl⟩ := w177
        obtain ⟨cp, hcp⟩ : ∃ z, mShr thv owv b (some s1) = z := ⟨_, rfl⟩
        have hcp3 : cp ≤ 3 := by rw [← hcp]; exact cnt_le _ 3
        rw [hcp]
        refine lv_istore (lv' := [(6, .int (nI cp)), (0, .ref (h 0)), (1, .int (nI s1)), (3, .int (nI lf)), (4, .int (nI 1)), (5, .int (nI b))]) C.1 C.2.1 d_M_rollback_180 hl (by decide) rfl (fun ls hl => ?_)
        refine lv_iload_n C.1 C.2.1 d_M_rollback_182 rfl (lv_at hl 3 rfl) ?_
        refine lv_iconst (v := nI 5) C.1 C.2.1 d_M_rollback_183 (by decide) ?_
        refine lv_iload C.1 C.2.1 d_M_rollback_184 (lv_at hl 0 rfl) ?_
        refine n_imul C.1 C.2.1 (a := 5) (b := cp) d_M_rollback_186 ?_
        refine lv_iconst (v := nI 5) C.1 C.2.1 d_M_rollback_187 (by decide) ?_
        refine n_iadd C.1 C.2.1 (a := 5 * cp) (b := 5) d_M_rollback_188 ?_
        refine n_icmp_lt C.1 C.2.1 (a := lf) (b := (5 * cp) + 5) (tgt := 196) (by omega) (by omega) d_M_rollback_189 (by decide) (fun q189 => ?_) (fun q189 => ?_)
        · refine lv_iconst (v := nI 0) C.1 C.2.1 d_M_rollback_196 (by decide) ?_
          refine lv_istore (lv' := [(4, .int (nI 0)), (6, .int (nI cp)), (0, .ref (h 0)), (1, .int (nI s1)), (3, .int (nI lf)), (5, .int (nI b))]) C.1 C.2.1 d_M_rollback_197 hl (by decide) rfl (fun ls hl => ?_)
          refine lv_iload C.1 C.2.1 d_M_rollback_199 (lv_at hl 0 rfl) ?_
          refine n_ifz_eq (a := 0) (tgt := 231) C.1 C.2.1 (by omega) d_M_rollback_201 (by decide) (fun q201 => ?_) (fun q201 => absurd q201 (by omega))
          refine lv_aload_n C.1 C.2.1 d_M_rollback_231 rfl (lv_at hl 2 rfl) ?_
          refine lv_iload C.1 C.2.1 d_M_rollback_232 (lv_at hl 5 rfl) ?_
          refine lv_iload_n C.1 C.2.1 d_M_rollback_234 rfl (lv_at hl 3 rfl) ?_
          refine lv_iload_n C.1 C.2.1 d_M_rollback_235 rfl (lv_at hl 4 rfl) ?_
          refine lv_iconst (v := nI 5) C.1 C.2.1 d_M_rollback_236 (by decide) ?_
          refine n_idiv C.1 C.2.1 (a := lf) (b := 5) (by omega) (by omega) (by omega) d_M_rollback_237 ?_
          refine lv_iload C.1 C.2.1 d_M_rollback_238 (lv_at hl 1 rfl) ?_
          refine n_icmp_ge C.1 C.2.1 (a := lf / 5) (b := cp) (tgt := 249) (by omega) (by omega) d_M_rollback_240 (by decide) (fun q240 => ?_) (fun q240 => ?_)
          · refine lv_iload C.1 C.2.1 d_M_rollback_249 (lv_at hl 1 rfl) ?_
            refine sm_cv C I (c_M_part l D cA h _ cov dnv fuv ctv vov wov thv owv bav mrv b (some s1) (by omega) (fun j e => by cases e; omega) cp (by omega) hv (by omega)) lk_M63 rfl rfl ⟨by decide, by decide⟩ ⟨Nat.zero_le _, Nat.zero_le _⟩ rfl hl.1 (rest := []) rfl (Nat.le_of_ble_eq_true rfl) d_M_rollback_251 (fun u' H locs w251 I => ?_)
            obtain rfl := w251
            have hpm : (if lf / 5 < cp then lf / 5 else cp) = cp := by first | exact if_pos (by omega) | exact if_neg (by omega)
            refine lv_iinc (v := nI (b + 1)) (lv' := [(5, .int (nI (b + 1))), (4, .int (nI 0)), (6, .int (nI cp)), (0, .ref (h 0)), (1, .int (nI s1)), (3, .int (nI lf))]) C.1 C.2.1 d_M_rollback_254 hl (k := 5) rfl (by rw [show nI (b + 1) = nI b + nI 1 from (nI_add _ _).symm]; rfl) (by decide) rfl (fun ls hl => ?_)
            refine lv_goto (tgt := 151) C.1 C.2.1 d_M_rollback_257 (by decide) ?_
            refine lv_iload C.1 C.2.1 d_M_rollback_151 (lv_at hl 0 rfl) ?_
            refine lv_bipush (v := nI 6) C.1 C.2.1 d_M_rollback_153 (by decide) ?_
            refine n_icmp_ge C.1 C.2.1 (a := b + 1) (b := 6) (tgt := 260) (by omega) (by omega) d_M_rollback_155 (by decide) (fun q155 => ?_) (fun q155 => ?_)
            · refine lv_iconst (v := nI 0) C.1 C.2.1 d_M_rollback_260 (by decide) ?_
              exact sm_ri (v := nI 0) C hr I (two (f := nI) (hR.trans (by rw [show 6 - b = (6 - (b + 1)) + 1 by omega, mCut_part q170 hcp (by omega) hpm]; rfl))) d_M_rollback_261
            · refine lv_iload C.1 C.2.1 d_M_rollback_158 (lv_at hl 1 rfl) ?_
              refine n_ifz_eq (a := 0) (tgt := 260) C.1 C.2.1 (by omega) d_M_rollback_160 (by decide) (fun q160 => ?_) (fun q160 => absurd q160 (by omega))
              refine lv_iconst (v := nI 0) C.1 C.2.1 d_M_rollback_260 (by decide) ?_
              exact sm_ri (v := nI 0) C hr I (two (f := nI) (hR.trans (by rw [show 6 - b = (6 - (b + 1)) + 1 by omega, mCut_part q170 hcp (by omega) hpm]; rfl))) d_M_rollback_261
          · refine lv_iload_n C.1 C.2.1 d_M_rollback_243 rfl (lv_at hl 4 rfl) ?_
            refine lv_iconst (v := nI 5) C.1 C.2.1 d_M_rollback_244 (by decide) ?_
            refine n_idiv C.1 C.2.1 (a := lf) (b := 5) (by omega) (by omega) (by omega) d_M_rollback_245 ?_
            refine lv_goto (tgt := 251) C.1 C.2.1 d_M_rollback_246 (by decide) ?_
            refine sm_cv C I (c_M_part l D cA h _ cov dnv fuv ctv vov wov thv owv bav mrv b (some s1) (by omega) (fun j e => by cases e; omega) (lf / 5) (by omega) hv (by omega)) lk_M63 rfl rfl ⟨by decide, by decide⟩ ⟨Nat.zero_le _, Nat.zero_le _⟩ rfl hl.1 (rest := []) rfl (Nat.le_of_ble_eq_true rfl) d_M_rollback_251 (fun u' H locs w251 I => ?_)
            obtain rfl := w251
            have hpm : (if lf / 5 < cp then lf / 5 else cp) = (lf / 5) := by first | exact if_pos (by omega) | exact if_neg (by omega)
            refine lv_iinc (v := nI (b + 1)) (lv' := [(5, .int (nI (b + 1))), (4, .int (nI 0)), (6, .int (nI cp)), (0, .ref (h 0)), (1, .int (nI s1)), (3, .int (nI lf))]) C.1 C.2.1 d_M_rollback_254 hl (k := 5) rfl (by rw [show nI (b + 1) = nI b + nI 1 from (nI_add _ _).symm]; rfl) (by decide) rfl (fun ls hl => ?_)
            refine lv_goto (tgt := 151) C.1 C.2.1 d_M_rollback_257 (by decide) ?_
            refine lv_iload C.1 C.2.1 d_M_rollback_151 (lv_at hl 0 rfl) ?_
            refine lv_bipush (v := nI 6) C.1 C.2.1 d_M_rollback_153 (by decide) ?_
            refine n_icmp_ge C.1 C.2.1 (a := b + 1) (b := 6) (tgt := 260) (by omega) (by omega) d_M_rollback_155 (by decide) (fun q155 => ?_) (fun q155 => ?_)
            · refine lv_iconst (v := nI 0) C.1 C.2.1 d_M_rollback_260 (by decide) ?_
              exact sm_ri (v := nI 0) C hr I (two (f := nI) (hR.trans (by rw [show 6 - b = (6 - (b + 1)) + 1 by omega, mCut_part q170 hcp (by omega) hpm]; rfl))) d_M_rollback_261
            · refine lv_iload C.1 C.2.1 d_M_rollback_158 (lv_at hl 1 rfl) ?_
              refine n_ifz_eq (a := 0) (tgt := 260) C.1 C.2.1 (by omega) d_M_rollback_160 (by decide) (fun q160 => ?_) (fun q160 => absurd q160 (by omega))
              refine lv_iconst (v := nI 0) C.1 C.2.1 d_M_rollback_260 (by decide) ?_
              exact sm_ri (v := nI 0) C hr I (two (f := nI) (hR.trans (by rw [show 6 - b = (6 - (b + 1)) + 1 by omega, mCut_part q170 hcp (by omega) hpm]; rfl))) d_M_rollback_261
        · refine lv_iconst (v := nI 1) C.1 C.2.1 d_M_rollback_192 (by decide) ?_
          refine lv_goto (tgt := 197) C.1 C.2.1 d_M_rollback_193 (by decide) ?_
          refine lv_istore (lv' := [(4, .int (nI 1)), (6, .int (nI cp)), (0, .ref (h 0)), (1, .int (nI s1)), (3, .int (nI lf)), (5, .int (nI b))]) C.1 C.2.1 d_M_rollback_197 hl (by decide) rfl (fun ls hl => ?_)
          refine lv_iload C.1 C.2.1 d_M_rollback_199 (lv_at hl 0 rfl) ?_
          refine n_ifz_eq (a := 1) (tgt := 231) C.1 C.2.1 (by omega) d_M_rollback_201 (by decide) (fun q201 => absurd q201 (by omega)) (fun q201 => ?_)
          have hnp := mNd_part (many := 3) (show b < 6 by omega) hv hu3
          have hcy := mCut_yes (wo := wov) (vo := vov) (mr := mrv) (n := 6 - (b + 1)) q170 hcp (show 5 * cp + 5 ≤ lf by omega)
          refine lv_aload_n C.1 C.2.1 d_M_rollback_204 rfl (lv_at hl 2 rfl) ?_
          refine lv_iload_n C.1 C.2.1 d_M_rollback_205 rfl (lv_at hl 3 rfl) ?_
          refine lv_iload C.1 C.2.1 d_M_rollback_206 (lv_at hl 5 rfl) ?_
          refine sm_cv C I (c_M_restore l D cA h _ cov dnv fuv ctv vov wov thv owv bav mrv s1 b (by omega) (by omega) hv (by omega)) lk_M76 rfl rfl ⟨by decide, by decide⟩ ⟨Nat.zero_le _, Nat.zero_le _⟩ rfl hl.1 (rest := []) rfl (Nat.le_of_ble_eq_true rfl) d_M_rollback_208 (fun u' H locs w208 I => ?_)
          obtain rfl := w208
          refine lv_iload_n C.1 C.2.1 d_M_rollback_211 rfl (lv_at hl 4 rfl) ?_
          refine lv_iconst (v := nI 5) C.1 C.2.1 d_M_rollback_212 (by decide) ?_
          refine lv_iload C.1 C.2.1 d_M_rollback_213 (lv_at hl 1 rfl) ?_
          refine n_imul C.1 C.2.1 (a := 5) (b := cp) d_M_rollback_215 ?_
          refine n_isub C.1 C.2.1 (a := lf) (b := 5 * cp) (by omega) d_M_rollback_216 ?_
          refine lv_iconst (v := nI 5) C.1 C.2.1 d_M_rollback_217 (by decide) ?_
          refine n_isub C.1 C.2.1 (a := lf - (5 * cp)) (b := 5) (by omega) d_M_rollback_218 ?_
          refine lv_istore_n (lv' := [(3, .int (nI ((lf - (5 * cp)) - 5))), (4, .int (nI 1)), (6, .int (nI cp)), (0, .ref (h 0)), (1, .int (nI s1)), (5, .int (nI b))]) C.1 C.2.1 d_M_rollback_219 rfl hl (by decide) rfl (fun ls hl => ?_)
          refine lv_aload_n C.1 C.2.1 d_M_rollback_220 rfl (lv_at hl 3 rfl) ?_
          refine lv_iload C.1 C.2.1 d_M_rollback_221 (lv_at hl 5 rfl) ?_
          refine lv_iconst (v := nI 1) C.1 C.2.1 d_M_rollback_223 (by decide) ?_
          refine n_iadd C.1 C.2.1 (a := b) (b := 1) d_M_rollback_224 ?_
          refine sm_p9 C I (b + 1) rfl d_M_rollback_225 (fun H locs I => ?_)
          refine lv_goto (tgt := 254) C.1 C.2.1 d_M_rollback_228 (by decide) ?_
          refine lv_iinc (v := nI (b + 1)) (lv' := [(5, .int (nI (b + 1))), (3, .int (nI ((lf - (5 * cp)) - 5))), (4, .int (nI 1)), (6, .int (nI cp)), (0, .ref (h 0)), (1, .int (nI s1))]) C.1 C.2.1 d_M_rollback_254 hl (k := 5) rfl (by rw [show nI (b + 1) = nI b + nI 1 from (nI_add _ _).symm]; rfl) (by decide) rfl (fun ls hl => ?_)
          refine lv_goto (tgt := 151) C.1 C.2.1 d_M_rollback_257 (by decide) ?_
          exact ih (b + 1) ((lf - (5 * cp)) - 5) cov dnv fuv ctv (mVol vov wov s1 b 4 0) wov thv (mPart thv owv b (some s1) 3) bav (b + 1) (by omega) (by omega) (by omega) (hR.trans (by rw [show 6 - b = (6 - (b + 1)) + 1 by omega]; first | exact congrArg (fC cov dnv fuv ctv wov thv bav) hcy | exact congrArg (fC cov dnv fuv ctv wov thv bav) (mCut_no q170))) htv (by first | exact hnp.1 | exact hv) (by first | exact hnp.2 | (rw [show 6 - b = (6 - (b + 1)) + 1 by omega, mNd_no q170] at hu2; exact hu2)) _ _ I ls (lv_sub hl [4, 5, 1, 2, 0] rfl)
set_option maxHeartbeats 4000000 in
set_option maxRecDepth 100000 in
theorem lp_M_rollback_41 {p : Program} {l : Launch} {e : Env} {s : State} {m : MethodId} {args : Array Value} {below : List Frame} {meth : Method} {c : Code} {D : va_G} {cA : Nat → ClassId} {A : Nat → Prop} {h : Nat → Nat} {co : Nat} {dn : Bool} {fu : Option Nat} {ct : Nat} {vo : (Nat → Int32)} {wo : (Nat → Int32)} {th : (Nat → Bool)} {ow : (Nat → Nat)} {ba : Nat} {mr : Nat} (C : gC p s m args meth c b_M_rollback 7 R_M) (hr : meth.sig.returnType = (some .int)) (x : Int32) (hfu : ∀ k, fu = some k → k < 2 ^ 31) (how : oB th ow) (hu : mUsed th ow ≤ 9) (s1 : Nat) (hs1 : s1 < 3) (ht1 : th s1 = true) (kk : ∀ (nd : Nat), nd = mNeed th ow s1 → ∀ (H : Heap) (locs : List Loc), smI D cA A s h (0, false, fu, ct, vo, wo, th, ow, ba, mr) H locs → ∀ (ls : Array Slot), lv_has ls 7 [(0, .ref (h 0)), (1, .int (nI s1)), (2, .int (nI nd))] → W p l e (rmL 4) s m args below meth c H locs 0 0 (MQ below (va_Qi (fun r u' => r = nI (mRoll x (co, dn, fu, ct, vo, wo, th, ow, ba, mr)).1 ∧ u' = (mRoll x (co, dn, fu, ct, vo, wo, th, ow, ba, mr)).2) (smAt D cA A h) A) args s 0 0 A) (F0 m 75 ls [])) : ∀ (fuel : Nat) (b : Nat) (a : Nat), 6 - b < fuel → b ≤ 6 → a = sm (fun b => if mHas ow s1 b then mShr th ow b (some s1) else 0) b → ∀ (H : Heap) (locs : List Loc), smI D cA A s h (0, false, fu, ct, vo, wo, th, ow, ba, mr) H locs → ∀ (ls : Array Slot), lv_has ls 7 [(0, .ref (h 0)), (1, .int (nI s1)), (2, .int (nI a)), (3, .int (nI b))] → W p l e (rmL 4) s m args below meth c H locs 0 0 (MQ below (va_Qi (fun r u' => r = nI (mRoll x (co, dn, fu, ct, vo, wo, th, ow, ba, mr)).1 ∧ u' = (mRoll x (co, dn, fu, ct, vo, wo, th, ow, ba, mr)).2) (smAt D cA A h) A) args s 0 0 A) (F0 m 41 ls []) := by
  intro fuel
  induction fuel with
  | zero =>
    intro _ _ hfuel
    exact absurd hfuel (Nat.not_lt_zero _)
  | succ fuel ih =>
    intro b a hfuel hi ha H locs I ls hl
    refine lv_iload_n C.1 C.2.1 d_M_rollback_41 rfl (lv_at hl 3 rfl) ?_
    refine lv_bipush (v := nI 6) C.1 C.2.1 d_M_rollback_42 (by decide) ?_
    refine n_icmp_ge C.1 C.2.1 (a := b) (b := 6) (tgt := 75) (by omega) (by omega) d_M_rollback_44 (by decide) (fun q44 => ?_) (fun q44 => ?_)
    · exact kk a (by rw [ha, show b = 6 by omega]; rfl) _ _ I ls (lv_sub hl [0, 1, 2] rfl)
    · refine lv_aload_n C.1 C.2.1 d_M_rollback_47 rfl (lv_at hl 0 rfl) ?_
      refine lv_iload_n C.1 C.2.1 d_M_rollback_48 rfl (lv_at hl 1 rfl) ?_
      refine lv_iload_n C.1 C.2.1 d_M_rollback_49 rfl (lv_at hl 3 rfl) ?_
      refine sm_ci C I (c_M_has l D cA h _ 0 false fu ct vo wo th ow ba mr s1 b (by omega) (by omega) (how.sb (by omega) (by omega) ht1)) lk_M73 rfl rfl ⟨by decide, by decide⟩ ⟨Nat.zero_le _, Nat.zero_le _⟩ rfl hl.1 (rest := []) rfl (Nat.le_of_ble_eq_true rfl) d_M_rollback_50 (fun r u' H locs w50 I => ?_)
      obtain ⟨rfl, rfl⟩ := w50
      refine n_ifeq (b := mHas ow s1 b) (tgt := 67) C.1 C.2.1 d_M_rollback_53 (by decide) (fun q53 => ?_) (fun q53 => ?_)
      · refine lv_iload_n C.1 C.2.1 d_M_rollback_67 rfl (lv_at hl 2 rfl) ?_
        refine lv_istore_n (lv' := [(2, .int (nI a)), (0, .ref (h 0)), (1, .int (nI s1)), (3, .int (nI b))]) C.1 C.2.1 d_M_rollback_68 rfl hl (by decide) rfl (fun ls hl => ?_)
        refine lv_iinc (v := nI (b + 1)) (lv' := [(3, .int (nI (b + 1))), (2, .int (nI a)), (0, .ref (h 0)), (1, .int (nI s1))]) C.1 C.2.1 d_M_rollback_69 hl (k := 3) rfl (by rw [show nI (b + 1) = nI b + nI 1 from (nI_add _ _).symm]; rfl) (by decide) rfl (fun ls hl => ?_)
        refine lv_goto (tgt := 41) C.1 C.2.1 d_M_rollback_72 (by decide) ?_
        exact ih (b + 1) a (by omega) (by omega) (by rw [ha]; show _ = sm (fun b => if mHas ow s1 b then mShr th ow b (some s1) else 0) b + (if mHas ow s1 b = true then mShr th ow b (some s1) else 0); first | rw [if_pos q53] | (rw [if_neg (by rw [q53]; decide)]; rfl)) _ _ I ls (lv_sub hl [2, 3, 1, 0] rfl)
      · refine lv_iload_n C.1 C.2.1 d_M_rollback_56 rfl (lv_at hl 2 rfl) ?_
        refine lv_aload_n C.1 C.2.1 d_M_rollback_57 rfl (lv_at hl 0 rfl) ?_
        refine lv_iload_n C.1 C.2.1 d_M_rollback_58 rfl (lv_at hl 3 rfl) ?_
        refine lv_iload_n C.1 C.2.1 d_M_rollback_59 rfl (lv_at hl 1 rfl) ?_
        refine sm_ci C I (c_M_sharers l D cA h _ 0 false fu ct vo wo th ow ba mr b (some s1) (by omega) (fun j e => by cases e; omega) how) lk_M52 rfl rfl ⟨by decide, by decide⟩ ⟨Nat.zero_le _, Nat.zero_le _⟩ rfl hl.1 (rest := [.int (nI a)]) rfl (Nat.le_of_ble_eq_true rfl) d_M_rollback_60 (fun r u' H locs w60 I => ?_)
        obtain ⟨rfl, rfl⟩ := w60
        refine n_iadd C.1 C.2.1 (a := a) (b := mShr th ow b (some s1)) d_M_rollback_63 ?_
        refine lv_goto (tgt := 68) C.1 C.2.1 d_M_rollback_64 (by decide) ?_
        refine lv_istore_n (lv' := [(2, .int (nI (a + (mShr th ow b (some s1))))), (0, .ref (h 0)), (1, .int (nI s1)), (3, .int (nI b))]) C.1 C.2.1 d_M_rollback_68 rfl hl (by decide) rfl (fun ls hl => ?_)
        refine lv_iinc (v := nI (b + 1)) (lv' := [(3, .int (nI (b + 1))), (2, .int (nI (a + (mShr th ow b (some s1))))), (0, .ref (h 0)), (1, .int (nI s1))]) C.1 C.2.1 d_M_rollback_69 hl (k := 3) rfl (by rw [show nI (b + 1) = nI b + nI 1 from (nI_add _ _).symm]; rfl) (by decide) rfl (fun ls hl => ?_)
        refine lv_goto (tgt := 41) C.1 C.2.1 d_M_rollback_72 (by decide) ?_
        exact ih (b + 1) (a + (mShr th ow b (some s1))) (by omega) (by omega) (by rw [ha]; show _ = sm (fun b => if mHas ow s1 b then mShr th ow b (some s1) else 0) b + (if mHas ow s1 b = true then mShr th ow b (some s1) else 0); first | rw [if_pos q53] | (rw [if_neg (by rw [q53]; decide)]; rfl)) _ _ I ls (lv_sub hl [2, 3, 1, 0] rfl)
set_option maxHeartbeats 4000000 in
set_option maxRecDepth 100000 in
/-- R_M.rollback -/
theorem c_M_rollback (l : Launch) (D : va_G) (cA : Nat → ClassId) (h : Nat → Nat) (sz : Nat) (co : Nat) (dn : Bool) (fu : Option Nat) (ct : Nat) (vo : (Nat → Int32)) (wo : (Nat → Int32)) (th : (Nat → Bool)) (ow : (Nat → Nat)) (ba : Nat) (mr : Nat) (x : Int32) (hfu : ∀ k, fu = some k → k < 2 ^ 31) (how : oB th ow) (hu : mUsed th ow ≤ 9) : smMi l D cA h (co, dn, fu, ct, vo, wo, th, ow, ba, mr) sz y_M_rollback (.code y_M_rollback b_M_rollback 7 (some .int)) (rmL 4) [.int x] (fun r u' => r = nI (mRoll x (co, dn, fu, ct, vo, wo, th, ow, ba, mr)).1 ∧ u' = (mRoll x (co, dn, fu, ct, vo, wo, th, ow, ba, mr)).2) := by
  refine sm_mi (by decide) rfl (Nat.le_of_ble_eq_true rfl) ?_
  intro p e s m args below meth c C hr hsz I ls hl
  generalize smA cA h (co, dn, fu, ct, vo, wo, th, ow, ba, mr) sz = A at I ⊢
  have hl : lv_has ls 7 [(0, .ref (h 0)), (1, .int x)] := hl
  refine lv_aload_n C.1 C.2.1 d_M_rollback_0 rfl (lv_at hl 0 rfl) ?_
  refine lv_aload_n C.1 C.2.1 d_M_rollback_1 rfl (lv_at hl 0 rfl) ?_
  refine sm_g1 C I d_M_rollback_2 ?_
  refine n_ifeq (b := dn) (tgt := 12) C.1 C.2.1 d_M_rollback_5 (by decide) (fun q5 => ?_) (fun q5 => ?_)
  · subst q5
    refine lv_aload_n C.1 C.2.1 d_M_rollback_12 rfl (lv_at hl 0 rfl) ?_
    refine lv_iload_n C.1 C.2.1 d_M_rollback_13 rfl (lv_at hl 1 rfl) ?_
    refine sm_ci C I (c_M_isSnapshot l D cA h _ co false fu ct vo wo th ow ba mr x) lk_M70 rfl rfl ⟨by decide, by decide⟩ ⟨Nat.zero_le _, Nat.zero_le _⟩ rfl hl.1 (rest := [.ref (h 0)]) rfl (Nat.le_of_ble_eq_true rfl) d_M_rollback_14 (fun r u' H locs w14 I => ?_)
    obtain ⟨rfl, rfl⟩ := w14
    refine n_ifeq (b := (mHasS th x).isSome) (tgt := 24) C.1 C.2.1 d_M_rollback_17 (by decide) (fun q17 => ?_) (fun q17 => ?_)
    · refine lv_iconst (v := nI 1) C.1 C.2.1 d_M_rollback_24 (by decide) ?_
      refine sm_p0 C I 1 rfl d_M_rollback_25 (fun H locs I => ?_)
      refine lv_aload_n C.1 C.2.1 d_M_rollback_28 rfl (lv_at hl 0 rfl) ?_
      refine sm_g0 C I d_M_rollback_29 ?_
      refine n_ifz_le (a := 1) (tgt := 37) C.1 C.2.1 (by omega) d_M_rollback_32 (by decide) (fun q32 => absurd q32 (by omega)) (fun q32 => ?_)
      refine lv_iconst (v := nI 0) C.1 C.2.1 d_M_rollback_35 (by decide) ?_
      exact sm_ri (v := nI 0) C hr I (two (f := nI) (mRoll_1 q17)) d_M_rollback_36
    · obtain ⟨nu, hnu⟩ : ∃ z, mUsed th ow = z := ⟨_, rfl⟩
      have hu9 : nu ≤ 9 := by rw [← hnu]; exact hu
      obtain ⟨s1, hs1, rfl, ht1, hm1⟩ := mHasS_in q17
      refine lv_iconst (v := nI 0) C.1 C.2.1 d_M_rollback_20 (by decide) ?_
      refine lv_goto (tgt := 25) C.1 C.2.1 d_M_rollback_21 (by decide) ?_
      refine sm_p0 C I 0 rfl d_M_rollback_25 (fun H locs I => ?_)
      refine lv_aload_n C.1 C.2.1 d_M_rollback_28 rfl (lv_at hl 0 rfl) ?_
      refine sm_g0 C I d_M_rollback_29 ?_
      refine n_ifz_le (a := 0) (tgt := 37) C.1 C.2.1 (by omega) d_M_rollback_32 (by decide) (fun q32 => ?_) (fun q32 => absurd q32 (by omega))
      refine lv_iconst (v := nI 0) C.1 C.2.1 d_M_rollback_37 (by decide) ?_
      refine lv_istore_n (lv' := [(2, .int (nI 0)), (0, .ref (h 0)), (1, .int (nI s1))]) C.1 C.2.1 d_M_rollback_38 rfl hl (by decide) rfl (fun ls hl => ?_)
      refine lv_iconst (v := nI 0) C.1 C.2.1 d_M_rollback_39 (by decide) ?_
      refine lv_istore_n (lv' := [(3, .int (nI 0)), (2, .int (nI 0)), (0, .ref (h 0)), (1, .int (nI s1))]) C.1 C.2.1 d_M_rollback_40 rfl hl (by decide) rfl (fun ls hl => ?_)
      refine lp_M_rollback_41 C hr _ hfu how hu s1 hs1 ht1 (fun nd hnd H locs I ls hl => ?_) _ 0 0 (Nat.lt_succ_self _) (by omega) rfl _ _ I ls (lv_sub hl [2, 3, 1, 0] rfl)
      have hnd18 : nd ≤ 18 := by rw [hnd]; exact mNeed_le _ _ _
      refine lv_iload_n C.1 C.2.1 d_M_rollback_75 rfl (lv_at hl 2 rfl) ?_
      refine lv_bipush (v := nI 9) C.1 C.2.1 d_M_rollback_76 (by decide) ?_
      refine lv_aload_n C.1 C.2.1 d_M_rollback_78 rfl (lv_at hl 0 rfl) ?_
      refine sm_ci C I (c_M_usedCopies l D cA h _ 0 false fu ct vo wo th ow ba mr how) lk_M56 rfl rfl ⟨by decide, by decide⟩ ⟨Nat.zero_le _, Nat.zero_le _⟩ rfl hl.1 (rest := [.int (nI 9), .int (nI nd)]) rfl (Nat.le_of_ble_eq_true rfl) d_M_rollback_79 (fun r u' H locs w79 I => ?_)
      obtain ⟨rfl, rfl⟩ := w79
      rw [hnu]
      refine n_isub C.1 C.2.1 (a := 9) (b := nu) (by omega) d_M_rollback_82 ?_
      refine n_icmp_le C.1 C.2.1 (a := nd) (b := 9 - nu) (tgt := 93) (by omega) (by omega) d_M_rollback_83 (by decide) (fun q83 => ?_) (fun q83 => ?_)
      · refine lv_aload_n C.1 C.2.1 d_M_rollback_93 rfl (lv_at hl 0 rfl) ?_
        refine lv_iconst (v := nI 3) C.1 C.2.1 d_M_rollback_94 (by decide) ?_
        refine lv_aload_n C.1 C.2.1 d_M_rollback_95 rfl (lv_at hl 0 rfl) ?_
        refine lv_iload_n C.1 C.2.1 d_M_rollback_96 rfl (lv_at hl 1 rfl) ?_
        refine lv_iconst (v := nI 0) C.1 C.2.1 d_M_rollback_97 (by decide) ?_
        refine sm_ci C I (c_M_writesFrom l D cA h _ 0 false fu ct vo wo th ow ba mr s1 0 (by omega) (by omega) ht1 how) lk_M80 rfl rfl ⟨by decide, by decide⟩ ⟨Nat.zero_le _, Nat.zero_le _⟩ rfl hl.1 (rest := [.int (nI 3), .ref (h 0)]) rfl (Nat.le_of_ble_eq_true rfl) d_M_rollback_98 (fun r u' H locs w98 I => ?_)
        obtain ⟨rfl, rfl⟩ := w98
        obtain ⟨wf, hwf⟩ : ∃ z, mWF th ow s1 6 0 = z := ⟨_, rfl⟩
        have hwf9 : wf ≤ 120 := by rw [← hwf]; exact mWF_le _ _ _ 6 0
        rw [show mWF th ow s1 (6 - 0) 0 = wf from hwf]
        refine n_iadd C.1 C.2.1 (a := 3) (b := wf) d_M_rollback_101 ?_
        refine sm_ci C I (c_M_lasts l D cA h _ 0 false fu ct vo wo th ow ba mr (3 + wf) (by omega) hfu) lk_M59 rfl rfl ⟨by decide, by decide⟩ ⟨Nat.zero_le _, Nat.zero_le _⟩ rfl hl.1 (rest := []) rfl (Nat.le_of_ble_eq_true rfl) d_M_rollback_102 (fun r u' H locs w102 I => ?_)
        obtain ⟨bl, fl, cl, dl, hml, rfl, rfl⟩ := w102
        refine n_ifeq (b := bl) (tgt := 115) C.1 C.2.1 d_M_rollback_105 (by decide) (fun q105 => ?_) (fun q105 => ?_)
        · subst q105
          obtain ⟨k, rfl, hkw⟩ := mLast_false hml
          refine lv_aload_n C.1 C.2.1 d_M_rollback_115 rfl (lv_at hl 0 rfl) ?_
          refine lv_iconst (v := nI 3) C.1 C.2.1 d_M_rollback_116 (by decide) ?_
          refine sm_p0 C I 3 rfl d_M_rollback_117 (fun H locs I => ?_)
          refine lv_aload_n C.1 C.2.1 d_M_rollback_120 rfl (lv_at hl 0 rfl) ?_
          refine sm_ci C I (c_M_cut l D cA h _ 3 dl (some k) cl vo wo th ow ba mr) lk_M67 rfl rfl ⟨by decide, by decide⟩ ⟨Nat.zero_le _, Nat.zero_le _⟩ rfl hl.1 (rest := []) rfl (Nat.le_of_ble_eq_true rfl) d_M_rollback_121 (fun r u' H locs w121 I => ?_)
          obtain ⟨rfl, rfl⟩ := w121
          rcases (show k = 0 ∨ k = 1 ∨ ¬ k < 2 by omega) with hk2 | hk2 | hk2
          · rw [show oI (some k) = nI 0 by rw [hk2]; rfl]
            refine lv_iconst (v := nI 2) C.1 C.2.1 d_M_rollback_124 (by decide) ?_
            refine lv_isub C.1 C.2.1 d_M_rollback_125 ?_
            refine lv_istore_n (lv' := [(3, .int (nI 0 - nI 2)), (0, .ref (h 0)), (1, .int (nI s1)), (2, .int (nI nd))]) C.1 C.2.1 d_M_rollback_126 rfl hl (by decide) rfl (fun ls hl => ?_)
            refine lv_iload_n C.1 C.2.1 d_M_rollback_127 rfl (lv_at hl 0 rfl) ?_
            refine lv_if_ge (x := (nI 0 - nI 2)) (tgt := 133) C.1 C.2.1 d_M_rollback_128 (by decide) (fun q128 => absurd q128 (by decide)) (fun q128 => ?_)
            refine lv_iconst (v := nI 0) C.1 C.2.1 d_M_rollback_131 (by decide) ?_
            exact sm_ri (v := nI 0) C hr I (two (f := nI) (mRoll_c hm1 hnd hnu (by omega) hwf hml (by omega))) d_M_rollback_132
          · rw [show oI (some k) = nI 1 by rw [hk2]; rfl]
            refine lv_iconst (v := nI 2) C.1 C.2.1 d_M_rollback_124 (by decide) ?_
            refine lv_isub C.1 C.2.1 d_M_rollback_125 ?_
            refine lv_istore_n (lv' := [(3, .int (nI 1 - nI 2)), (0, .ref (h 0)), (1, .int (nI s1)), (2, .int (nI nd))]) C.1 C.2.1 d_M_rollback_126 rfl hl (by decide) rfl (fun ls hl => ?_)
            refine lv_iload_n C.1 C.2.1 d_M_rollback_127 rfl (lv_at hl 0 rfl) ?_
            refine lv_if_ge (x := (nI 1 - nI 2)) (tgt := 133) C.1 C.2.1 d_M_rollback_128 (by decide) (fun q128 => absurd q128 (by decide)) (fun q128 => ?_)
            refine lv_iconst (v := nI 0) C.1 C.2.1 d_M_rollback_131 (by decide) ?_
            exact sm_ri (v := nI 0) C hr I (two (f := nI) (mRoll_c hm1 hnd hnu (by omega) hwf hml (by omega))) d_M_rollback_132
          · refine lv_iconst (v := nI 2) C.1 C.2.1 d_M_rollback_124 (by decide) ?_
            refine n_isub C.1 C.2.1 (a := k) (b := 2) (by omega) d_M_rollback_125 ?_
            refine lv_istore_n (lv' := [(3, .int (nI (k - 2))), (0, .ref (h 0)), (1, .int (nI s1)), (2, .int (nI nd))]) C.1 C.2.1 d_M_rollback_126 rfl hl (by decide) rfl (fun ls hl => ?_)
            refine lv_iload_n C.1 C.2.1 d_M_rollback_127 rfl (lv_at hl 0 rfl) ?_
            refine n_ifz_ge (a := k - 2) (tgt := 133) C.1 C.2.1 (by omega) d_M_rollback_128 (by decide) (fun q128 => ?_) (fun q128 => absurd q128 (by omega))
            refine lv_aload_n C.1 C.2.1 d_M_rollback_133 rfl (lv_at hl 1 rfl) ?_
            refine lv_iconst (v := nI 1) C.1 C.2.1 d_M_rollback_134 (by decide) ?_
            refine lv_iload_n C.1 C.2.1 d_M_rollback_135 rfl (lv_at hl 2 rfl) ?_
            refine n_iadd C.1 C.2.1 (a := 1) (b := s1) d_M_rollback_136 ?_
            refine sm_p8 C I (1 + s1) rfl d_M_rollback_137 (fun H locs I => ?_)
            refine lv_aload_n C.1 C.2.1 d_M_rollback_140 rfl (lv_at hl 1 rfl) ?_
            refine lv_iconst (v := nI 0) C.1 C.2.1 d_M_rollback_141 (by decide) ?_
            refine sm_p9 C I 0 rfl d_M_rollback_142 (fun H locs I => ?_)
            refine lv_iconst (v := nI 1) C.1 C.2.1 d_M_rollback_145 (by decide) ?_
            refine lv_istore (lv' := [(4, .int (nI 1)), (3, .int (nI (k - 2))), (0, .ref (h 0)), (1, .int (nI s1)), (2, .int (nI nd))]) C.1 C.2.1 d_M_rollback_146 hl (by decide) rfl (fun ls hl => ?_)
            refine lv_iconst (v := nI 0) C.1 C.2.1 d_M_rollback_148 (by decide) ?_
            refine lv_istore (lv' := [(5, .int (nI 0)), (4, .int (nI 1)), (3, .int (nI (k - 2))), (0, .ref (h 0)), (1, .int (nI s1)), (2, .int (nI nd))]) C.1 C.2.1 d_M_rollback_149 hl (by decide) rfl (fun ls hl => ?_)
            exact lp_M_rollback_151 C hr _ hfu how hu s1 hs1 _ 0 (k - 2) 3 dl none cl vo wo th ow (1 + s1) 0 (Nat.lt_succ_self _) (by omega) (by omega) (mRoll_k hm1 hnd hnu (by omega) hwf hml hk2) ht1 how (by rw [hnu, show mNd th ow s1 (6 - 0) 0 = nd from (hnd.trans (mNeed_nd _ _ _)).symm]; omega) _ _ I ls (lv_sub hl [3, 4, 2, 1, 0] rfl)
        · subst q105
          refine lv_aload_n C.1 C.2.1 d_M_rollback_108 rfl (lv_at hl 0 rfl) ?_
          refine lv_iload_n C.1 C.2.1 d_M_rollback_109 rfl (lv_at hl 1 rfl) ?_
          refine lv_iconst (v := nI 0) C.1 C.2.1 d_M_rollback_110 (by decide) ?_
          refine sm_ci C I (c_M_restoreFrom l D cA h _ 0 dl fl cl vo wo th ow ba mr s1 0 (by omega) (by omega) ht1 how (by rw [hnu, show mNd th ow s1 (6 - 0) 0 = nd from (hnd.trans (mNeed_nd _ _ _)).symm]; omega)) lk_M83 rfl rfl ⟨by decide, by decide⟩ ⟨Nat.zero_le _, Nat.zero_le _⟩ rfl hl.1 (rest := []) rfl (Nat.le_of_ble_eq_true rfl) d_M_rollback_111 (fun r u' H locs w111 I => ?_)
          obtain ⟨n1, vo1, ow1, hre, rfl, rfl⟩ := w111
          exact sm_ri (v := nI n1) C hr I (two (f := nI) (mRoll_y hm1 hnd hnu (by omega) hwf hml hre)) d_M_rollback_114
      · refine lv_aload_n C.1 C.2.1 d_M_rollback_86 rfl (lv_at hl 0 rfl) ?_
        refine lv_iconst (v := nI 2) C.1 C.2.1 d_M_rollback_87 (by decide) ?_
        refine sm_p0 C I 2 rfl d_M_rollback_88 (fun H locs I => ?_)
        refine lv_iconst (v := nI 0) C.1 C.2.1 d_M_rollback_91 (by decide) ?_
        exact sm_ri (v := nI 0) C hr I (two (f := nI) (mRoll_2 hm1 hnd hnu (by omega))) d_M_rollback_92
  · subst q5
    refine lv_iconst (v := nI 3) C.1 C.2.1 d_M_rollback_8 (by decide) ?_
    refine lv_goto (tgt := 25) C.1 C.2.1 d_M_rollback_9 (by decide) ?_
    refine sm_p0 C I 3 rfl d_M_rollback_25 (fun H locs I => ?_)
    refine lv_aload_n C.1 C.2.1 d_M_rollback_28 rfl (lv_at hl 0 rfl) ?_
    refine sm_g0 C I d_M_rollback_29 ?_
    refine n_ifz_le (a := 3) (tgt := 37) C.1 C.2.1 (by omega) d_M_rollback_32 (by decide) (fun q32 => absurd q32 (by omega)) (fun q32 => ?_)
    refine lv_iconst (v := nI 0) C.1 C.2.1 d_M_rollback_35 (by decide) ?_
    exact sm_ri (v := nI 0) C hr I (two (f := nI) (mRoll_3)) d_M_rollback_36
set_option maxHeartbeats 4000000 in
set_option maxRecDepth 100000 in
theorem lp_M_format_28 {p : Program} {l : Launch} {e : Env} {s : State} {m : MethodId} {args : Array Value} {below : List Frame} {meth : Method} {c : Code} {D : va_G} {cA : Nat → ClassId} {A : Nat → Prop} {h : Nat → Nat} {co : Nat} {dn : Bool} {fu : Option Nat} {ct : Nat} {vo : (Nat → Int32)} {wo : (Nat → Int32)} {th : (Nat → Bool)} {ow : (Nat → Nat)} {ba : Nat} {mr : Nat} (C : gC p s m args meth c b_M_format 2 R_M) (hr : meth.sig.returnType = none)    : ∀ (fuel : Nat) (i : Nat) (vov : Nat → Int32) (thv : Nat → Bool), 3 - i < fuel → i ≤ 3 → (∀ k, k < 24 → vov k = nI 0) → (∀ k, k < i → thv k = false) → ∀ (H : Heap) (locs : List Loc), smI D cA A s h (0, dn, fu, ct, vov, wo, thv, ow, ba, mr) H locs → ∀ (ls : Array Slot), lv_has ls 2 [(0, .ref (h 0)), (1, .int (nI i))] → W p l e (rmL 0) s m args below meth c H locs 0 0 (MQ below (va_Qv (fun u' => ∃ vo' th', u' = (0, false, none, 0, vo', wo, th', ow, 0, mr) ∧ (∀ k, k < 24 → vo' k = nI 0) ∧ (∀ k, k < 3 → th' k = false)) (smAt D cA A h) A) args s 0 0 A) (F0 m 28 ls []) := by
  intro fuel
  induction fuel with
  | zero =>
    intro _ _ _ hfuel
    exact absurd hfuel (Nat.not_lt_zero _)
  | succ fuel ih =>
    intro i vov thv hfuel hi ha hb H locs I ls hl
    refine lv_iload_n C.1 C.2.1 d_M_format_28 rfl (lv_at hl 1 rfl) ?_
    refine lv_iconst (v := nI 3) C.1 C.2.1 d_M_format_29 (by decide) ?_
    refine n_icmp_ge C.1 C.2.1 (a := i) (b := 3) (tgt := 46) (by omega) (by omega) d_M_format_30 (by decide) (fun q30 => ?_) (fun q30 => ?_)
    · refine lv_aload_n C.1 C.2.1 d_M_format_46 rfl (lv_at hl 0 rfl) ?_
      refine lv_iconst (v := nI 0) C.1 C.2.1 d_M_format_47 (by decide) ?_
      refine sm_p8 C I 0 rfl d_M_format_48 (fun H locs I => ?_)
      refine lv_aload_n C.1 C.2.1 d_M_format_51 rfl (lv_at hl 0 rfl) ?_
      refine lv_iconst (v := oI none) C.1 C.2.1 d_M_format_52 (by decide) ?_
      refine sm_p2 C I none rfl d_M_format_53 (fun H locs I => ?_)
      refine lv_aload_n C.1 C.2.1 d_M_format_56 rfl (lv_at hl 0 rfl) ?_
      refine lv_iconst (v := nI 0) C.1 C.2.1 d_M_format_57 (by decide) ?_
      refine sm_p1 C I false rfl d_M_format_58 (fun H locs I => ?_)
      refine lv_aload_n C.1 C.2.1 d_M_format_61 rfl (lv_at hl 0 rfl) ?_
      refine lv_iconst (v := nI 0) C.1 C.2.1 d_M_format_62 (by decide) ?_
      refine sm_p3 C I 0 rfl d_M_format_63 (fun H locs I => ?_)
      exact sm_rv C hr I ⟨vov, thv, rfl, ha, (fun k hk => hb k (by omega))⟩ d_M_format_66
    · refine lv_aload_n C.1 C.2.1 d_M_format_33 rfl (lv_at hl 0 rfl) ?_
      refine sm_g6 C I d_M_format_34 ?_
      refine lv_iload_n C.1 C.2.1 d_M_format_37 rfl (lv_at hl 1 rfl) ?_
      refine lv_iconst (v := nI 0) C.1 C.2.1 d_M_format_38 (by decide) ?_
      refine sm_s3 C I (k := i) (x := false) (by omega) d_M_format_39 (fun H locs I => ?_)
      refine lv_iinc (v := nI (i + 1)) (lv' := [(1, .int (nI (i + 1))), (0, .ref (h 0))]) C.1 C.2.1 d_M_format_40 hl (k := 1) rfl (by rw [show nI (i + 1) = nI i + nI 1 from (nI_add _ _).symm]; rfl) (by decide) rfl (fun ls hl => ?_)
      refine lv_goto (tgt := 28) C.1 C.2.1 d_M_format_43 (by decide) ?_
      exact ih (i + 1) vov (va_up thv i false) (by omega) (by omega) ha (fun k hk => by unfold va_up; split; rfl; exact hb k (by omega)) _ _ I ls (lv_sub hl [1, 0] rfl)
set_option maxHeartbeats 4000000 in
set_option maxRecDepth 100000 in
theorem lp_M_format_7 {p : Program} {l : Launch} {e : Env} {s : State} {m : MethodId} {args : Array Value} {below : List Frame} {meth : Method} {c : Code} {D : va_G} {cA : Nat → ClassId} {A : Nat → Prop} {h : Nat → Nat} {co : Nat} {dn : Bool} {fu : Option Nat} {ct : Nat} {vo : (Nat → Int32)} {wo : (Nat → Int32)} {th : (Nat → Bool)} {ow : (Nat → Nat)} {ba : Nat} {mr : Nat} (C : gC p s m args meth c b_M_format 2 R_M) (hr : meth.sig.returnType = none)    : ∀ (fuel : Nat) (i : Nat) (vov : Nat → Int32), 24 - i < fuel → i ≤ 24 → (∀ k, k < i → vov k = nI 0) → ∀ (H : Heap) (locs : List Loc), smI D cA A s h (0, dn, fu, ct, vov, wo, th, ow, ba, mr) H locs → ∀ (ls : Array Slot), lv_has ls 2 [(0, .ref (h 0)), (1, .int (nI i))] → W p l e (rmL 0) s m args below meth c H locs 0 0 (MQ below (va_Qv (fun u' => ∃ vo' th', u' = (0, false, none, 0, vo', wo, th', ow, 0, mr) ∧ (∀ k, k < 24 → vo' k = nI 0) ∧ (∀ k, k < 3 → th' k = false)) (smAt D cA A h) A) args s 0 0 A) (F0 m 7 ls []) := by
  intro fuel
  induction fuel with
  | zero =>
    intro _ _ hfuel
    exact absurd hfuel (Nat.not_lt_zero _)
  | succ fuel ih =>
    intro i vov hfuel hi ha H locs I ls hl
    refine lv_iload_n C.1 C.2.1 d_M_format_7 rfl (lv_at hl 1 rfl) ?_
    refine lv_bipush (v := nI 24) C.1 C.2.1 d_M_format_8 (by decide) ?_
    refine n_icmp_ge C.1 C.2.1 (a := i) (b := 24) (tgt := 26) (by omega) (by omega) d_M_format_10 (by decide) (fun q10 => ?_) (fun q10 => ?_)
    · refine lv_iconst (v := nI 0) C.1 C.2.1 d_M_format_26 (by decide) ?_
      refine lv_istore_n (lv' := [(1, .int (nI 0)), (0, .ref (h 0))]) C.1 C.2.1 d_M_format_27 rfl hl (by decide) rfl (fun ls hl => ?_)
      exact lp_M_format_28 (co := co) (dn := dn) (fu := fu) (ct := ct) (vo := vo) (wo := wo) (th := th) (ow := ow) (ba := ba) (mr := mr) C hr   _ 0 vov th (Nat.lt_succ_self _) (by omega) (fun k hk => ha k (by omega)) (fun k hk => absurd hk (Nat.not_lt_zero k)) _ _ I ls (lv_sub hl [1, 0] rfl)
    · refine lv_aload_n C.1 C.2.1 d_M_format_13 rfl (lv_at hl 0 rfl) ?_
      refine sm_g4 C I d_M_format_14 ?_
      refine lv_iload_n C.1 C.2.1 d_M_format_17 rfl (lv_at hl 1 rfl) ?_
      refine lv_iconst (v := nI 0) C.1 C.2.1 d_M_format_18 (by decide) ?_
      refine sm_s1 C I (k := i) (x := nI 0) (by omega) d_M_format_19 (fun H locs I => ?_)
      refine lv_iinc (v := nI (i + 1)) (lv' := [(1, .int (nI (i + 1))), (0, .ref (h 0))]) C.1 C.2.1 d_M_format_20 hl (k := 1) rfl (by rw [show nI (i + 1) = nI i + nI 1 from (nI_add _ _).symm]; rfl) (by decide) rfl (fun ls hl => ?_)
      refine lv_goto (tgt := 7) C.1 C.2.1 d_M_format_23 (by decide) ?_
      exact ih (i + 1) (upd vov i (nI 0)) (by omega) (by omega) (upd_pre ha) _ _ I ls (lv_sub hl [1, 0] rfl)
set_option maxHeartbeats 4000000 in
set_option maxRecDepth 100000 in
/-- R_M.format -/
theorem c_M_format (l : Launch) (D : va_G) (cA : Nat → ClassId) (h : Nat → Nat) (sz : Nat) (co : Nat) (dn : Bool) (fu : Option Nat) (ct : Nat) (vo : (Nat → Int32)) (wo : (Nat → Int32)) (th : (Nat → Bool)) (ow : (Nat → Nat)) (ba : Nat) (mr : Nat)  : smMv l D cA h (co, dn, fu, ct, vo, wo, th, ow, ba, mr) sz y_M_format (.code y_M_format b_M_format 2 none) (rmL 0) [] (fun u' => ∃ vo' th', u' = (0, false, none, 0, vo', wo, th', ow, 0, mr) ∧ (∀ k, k < 24 → vo' k = nI 0) ∧ (∀ k, k < 3 → th' k = false)) := by
  refine sm_mv (by decide) rfl (Nat.le_of_ble_eq_true rfl) ?_
  intro p e s m args below meth c C hr hsz I ls hl
  generalize smA cA h (co, dn, fu, ct, vo, wo, th, ow, ba, mr) sz = A at I ⊢
  have hl : lv_has ls 2 [(0, .ref (h 0))] := hl
  refine lv_aload_n C.1 C.2.1 d_M_format_0 rfl (lv_at hl 0 rfl) ?_
  refine lv_iconst (v := nI 0) C.1 C.2.1 d_M_format_1 (by decide) ?_
  refine sm_p0 C I 0 rfl d_M_format_2 (fun H locs I => ?_)
  refine lv_iconst (v := nI 0) C.1 C.2.1 d_M_format_5 (by decide) ?_
  refine lv_istore_n (lv' := [(1, .int (nI 0)), (0, .ref (h 0))]) C.1 C.2.1 d_M_format_6 rfl hl (by decide) rfl (fun ls hl => ?_)
  exact lp_M_format_7 (co := co) (dn := dn) (fu := fu) (ct := ct) (vo := vo) (wo := wo) (th := th) (ow := ow) (ba := ba) (mr := mr) C hr   _ 0 vo (Nat.lt_succ_self _) (by omega) (fun k hk => absurd hk (Nat.not_lt_zero k)) _ _ I ls (lv_sub hl [1, 0] rfl)
