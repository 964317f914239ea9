set_option maxHeartbeats 4000000 in
set_option maxRecDepth 100000 in
/-- R_M.write -/
theorem c_M_write (l : Launch) (D : va_G) (cA : Nat → ClassId) (h : Nat → Nat) (sz : Nat) (co : Nat) (dn : Bool) (fu : Option Nat) (ct : Nat) (vo : (Nat → Int32)) (wo : (Nat → Int32)) (th : (Nat → Bool)) (ow : (Nat → Nat)) (ba : Nat) (mr : Nat) (x y w0 : Int32) (hfu : ∀ k, fu = some k → k < 2 ^ 31) (how : oB th ow) (hu : mUsed th ow ≤ 9) : smMi l D cA h (co, dn, fu, ct, vo, wo, th, ow, ba, mr) sz y_M_write (.code y_M_write b_M_write 5 (some .int)) (rmL 2) [.int x, .int y, .int w0] (fun r u' => r = nI (mWrite x y w0 (co, dn, fu, ct, vo, wo, th, ow, ba, mr)).1 ∧ u' = (mWrite x y w0 (co, dn, fu, ct, vo, wo, th, ow, ba, mr)).2) := by
  refine sm_mi (by decide) rfl (Nat.le_of_ble_eq_true rfl) ?_
  intro p e s m args below meth c C hr hsz I ls hl
  generalize smA cA h (co, dn, fu, ct, vo, wo, th, ow, ba, mr) sz = A at I ⊢
  have hl : lv_has ls 5 [(0, .ref (h 0)), (1, .int x), (2, .int y), (3, .int w0)] := hl
  refine lv_aload_n C.1 C.2.1 d_M_write_0 rfl (lv_at hl 0 rfl) ?_
  refine lv_aload_n C.1 C.2.1 d_M_write_1 rfl (lv_at hl 0 rfl) ?_
  refine sm_g1 C I d_M_write_2 ?_
  refine n_ifeq (b := dn) (tgt := 12) C.1 C.2.1 d_M_write_5 (by decide) (fun q5 => ?_) (fun q5 => ?_)
  · subst q5
    refine lv_iload_n C.1 C.2.1 d_M_write_12 rfl (lv_at hl 1 rfl) ?_
    refine lv_iload_n C.1 C.2.1 d_M_write_13 rfl (lv_at hl 2 rfl) ?_
    refine sm_cs C I (c_M_isWord l _ x y) lk_M48 rfl rfl ⟨by decide, by decide⟩ ⟨Nat.zero_le _, Nat.zero_le _⟩ rfl hl.1 (rest := [.ref (h 0)]) rfl (Nat.le_of_ble_eq_true rfl) d_M_write_14 (fun r H locs w14 I => ?_)
    subst w14
    refine n_ifne (b := ((ixI x 6).isSome && (ixI y 4).isSome)) (tgt := 24) C.1 C.2.1 d_M_write_17 (by decide) (fun q17 => ?_) (fun q17 => ?_)
    · obtain ⟨⟨b1, hb1, rfl⟩, i1, hi1, rfl⟩ := isW q17
      obtain ⟨ns, hns⟩ : ∃ z, mShr th ow b1 none = z := ⟨_, rfl⟩
      have hn3 : ns ≤ 3 := by rw [← hns]; exact cnt_le _ 3
      obtain ⟨nu, hnu⟩ : ∃ z, mUsed th ow = z := ⟨_, rfl⟩
      have hu9 : nu ≤ 9 := by rw [← hnu]; exact hu
      refine lv_aload_n C.1 C.2.1 d_M_write_24 rfl (lv_at hl 0 rfl) ?_
      refine lv_iload_n C.1 C.2.1 d_M_write_25 rfl (lv_at hl 1 rfl) ?_
      refine lv_iconst (v := oI none) C.1 C.2.1 d_M_write_26 (by decide) ?_
      refine sm_ci C I (c_M_sharers l D cA h _ co false fu ct vo wo th ow ba mr b1 none (by omega) (fun j e => by cases e) how) lk_M52 rfl rfl ⟨by decide, by decide⟩ ⟨Nat.zero_le _, Nat.zero_le _⟩ rfl hl.1 (rest := [.ref (h 0)]) rfl (Nat.le_of_ble_eq_true rfl) d_M_write_27 (fun r u' H locs w27 I => ?_)
      obtain ⟨rfl, rfl⟩ := w27
      rw [hns]
      refine lv_bipush (v := nI 9) C.1 C.2.1 d_M_write_30 (by decide) ?_
      refine lv_aload_n C.1 C.2.1 d_M_write_32 rfl (lv_at hl 0 rfl) ?_
      refine sm_ci C I (c_M_usedCopies l D cA h _ co false fu ct vo wo th ow ba mr how) lk_M56 rfl rfl ⟨by decide, by decide⟩ ⟨Nat.zero_le _, Nat.zero_le _⟩ rfl hl.1 (rest := [.int (nI 9), .int (nI ns), .ref (h 0)]) rfl (Nat.le_of_ble_eq_true rfl) d_M_write_33 (fun r u' H locs w33 I => ?_)
      obtain ⟨rfl, rfl⟩ := w33
      rw [hnu]
      refine n_isub C.1 C.2.1 (a := 9) (b := nu) (by omega) d_M_write_36 ?_
      refine n_icmp_le C.1 C.2.1 (a := ns) (b := 9 - nu) (tgt := 44) (by omega) (by omega) d_M_write_37 (by decide) (fun q37 => ?_) (fun q37 => ?_)
      · refine lv_iconst (v := nI 0) C.1 C.2.1 d_M_write_44 (by decide) ?_
        refine sm_p0 C I 0 rfl d_M_write_45 (fun H locs I => ?_)
        refine lv_aload_n C.1 C.2.1 d_M_write_48 rfl (lv_at hl 0 rfl) ?_
        refine sm_g0 C I d_M_write_49 ?_
        refine n_ifz_le (a := 0) (tgt := 57) C.1 C.2.1 (by omega) d_M_write_52 (by decide) (fun q52 => ?_) (fun q52 => absurd q52 (by omega))
        refine lv_aload_n C.1 C.2.1 d_M_write_57 rfl (lv_at hl 0 rfl) ?_
        refine lv_iload_n C.1 C.2.1 d_M_write_58 rfl (lv_at hl 1 rfl) ?_
        refine lv_iconst (v := oI none) C.1 C.2.1 d_M_write_59 (by decide) ?_
        refine sm_ci C I (c_M_sharers l D cA h _ 0 false fu ct vo wo th ow ba mr b1 none (by omega) (fun j e => by cases e) how) lk_M52 rfl rfl ⟨by decide, by decide⟩ ⟨Nat.zero_le _, Nat.zero_le _⟩ rfl hl.1 (rest := []) rfl (Nat.le_of_ble_eq_true rfl) d_M_write_60 (fun r u' H locs w60 I => ?_)
        obtain ⟨rfl, rfl⟩ := w60
        rw [hns]
        refine lv_istore (lv' := [(4, .int (nI ns)), (0, .ref (h 0)), (1, .int (nI b1)), (2, .int (nI i1)), (3, .int w0)]) C.1 C.2.1 d_M_write_63 hl (by decide) rfl (fun ls hl => ?_)
        refine lv_aload_n C.1 C.2.1 d_M_write_65 rfl (lv_at hl 1 rfl) ?_
        refine lv_iconst (v := nI 5) C.1 C.2.1 d_M_write_66 (by decide) ?_
        refine lv_iload C.1 C.2.1 d_M_write_67 (lv_at hl 0 rfl) ?_
        refine n_imul C.1 C.2.1 (a := 5) (b := ns) d_M_write_69 ?_
        refine lv_iconst (v := nI 1) C.1 C.2.1 d_M_write_70 (by decide) ?_
        refine n_iadd C.1 C.2.1 (a := 5 * ns) (b := 1) d_M_write_71 ?_
        refine sm_ci C I (c_M_lasts l D cA h _ 0 false fu ct vo wo th ow ba mr ((5 * ns) + 1) (by omega) hfu) lk_M59 rfl rfl ⟨by decide, by decide⟩ ⟨Nat.zero_le _, Nat.zero_le _⟩ rfl hl.1 (rest := []) rfl (Nat.le_of_ble_eq_true rfl) d_M_write_72 (fun r u' H locs w72 I => ?_)
        obtain ⟨bl, fl, cl, dl, hml, rfl, rfl⟩ := w72
        refine n_ifeq (b := bl) (tgt := 100) C.1 C.2.1 d_M_write_75 (by decide) (fun q75 => ?_) (fun q75 => ?_)
        · subst q75
          obtain ⟨k, rfl, hkw⟩ := mLast_false hml
          refine lv_aload_n C.1 C.2.1 d_M_write_100 rfl (lv_at hl 1 rfl) ?_
          refine lv_iload_n C.1 C.2.1 d_M_write_101 rfl (lv_at hl 2 rfl) ?_
          refine lv_iconst (v := oI none) C.1 C.2.1 d_M_write_102 (by decide) ?_
          refine lv_aload_n C.1 C.2.1 d_M_write_103 rfl (lv_at hl 1 rfl) ?_
          refine sm_ci C I (c_M_cut l D cA h _ 0 dl (some k) cl vo wo th ow ba mr) lk_M67 rfl rfl ⟨by decide, by decide⟩ ⟨Nat.zero_le _, Nat.zero_le _⟩ rfl hl.1 (rest := [.int (oI none), .int (nI b1), .ref (h 0)]) rfl (Nat.le_of_ble_eq_true rfl) d_M_write_104 (fun r u' H locs w104 I => ?_)
          obtain ⟨rfl, rfl⟩ := w104
          refine lv_iconst (v := nI 5) C.1 C.2.1 d_M_write_107 (by decide) ?_
          refine n_idiv C.1 C.2.1 (a := k) (b := 5) (by omega) (by omega) (by omega) d_M_write_108 ?_
          refine sm_cv C I (c_M_part l D cA h _ 0 dl none cl vo wo th ow ba mr b1 none (by omega) (fun j e => by cases e) (k / 5) (by omega) how (by rw [hns, hnu]; omega)) lk_M63 rfl rfl ⟨by decide, by decide⟩ ⟨Nat.zero_le _, Nat.zero_le _⟩ rfl hl.1 (rest := []) rfl (Nat.le_of_ble_eq_true rfl) d_M_write_109 (fun u' H locs w109 I => ?_)
          obtain rfl := w109
          refine lv_aload_n C.1 C.2.1 d_M_write_112 rfl (lv_at hl 1 rfl) ?_
          refine lv_iconst (v := nI 3) C.1 C.2.1 d_M_write_113 (by decide) ?_
          refine sm_p0 C I 3 rfl d_M_write_114 (fun H locs I => ?_)
          refine lv_iconst (v := nI 0) C.1 C.2.1 d_M_write_117 (by decide) ?_
          exact sm_ri (v := nI 0) C hr I (two (f := nI) (mWrite_n hb1 hi1 hns hnu (by omega) hml)) d_M_write_118
        · subst q75
          refine lv_aload_n C.1 C.2.1 d_M_write_78 rfl (lv_at hl 1 rfl) ?_
          refine lv_iload_n C.1 C.2.1 d_M_write_79 rfl (lv_at hl 2 rfl) ?_
          refine lv_iconst (v := oI none) C.1 C.2.1 d_M_write_80 (by decide) ?_
          refine lv_iload C.1 C.2.1 d_M_write_81 (lv_at hl 0 rfl) ?_
          refine sm_cv C I (c_M_part l D cA h _ 0 dl fl cl vo wo th ow ba mr b1 none (by omega) (fun j e => by cases e) ns (by omega) how (by rw [hns, hnu]; omega)) lk_M63 rfl rfl ⟨by decide, by decide⟩ ⟨Nat.zero_le _, Nat.zero_le _⟩ rfl hl.1 (rest := []) rfl (Nat.le_of_ble_eq_true rfl) d_M_write_83 (fun u' H locs w83 I => ?_)
          obtain rfl := w83
          refine lv_aload_n C.1 C.2.1 d_M_write_86 rfl (lv_at hl 1 rfl) ?_
          refine sm_g4 C I d_M_write_87 ?_
          refine lv_iconst (v := nI 4) C.1 C.2.1 d_M_write_90 (by decide) ?_
          refine lv_iload_n C.1 C.2.1 d_M_write_91 rfl (lv_at hl 2 rfl) ?_
          refine n_imul C.1 C.2.1 (a := 4) (b := b1) d_M_write_92 ?_
          refine lv_iload_n C.1 C.2.1 d_M_write_93 rfl (lv_at hl 3 rfl) ?_
          refine n_iadd C.1 C.2.1 (a := 4 * b1) (b := i1) d_M_write_94 ?_
          refine lv_iload_n C.1 C.2.1 d_M_write_95 rfl (lv_at hl 4 rfl) ?_
          refine sm_s1 C I (k := (4 * b1) + i1) (x := w0) (by omega) d_M_write_96 (fun H locs I => ?_)
          refine lv_iload C.1 C.2.1 d_M_write_97 (lv_at hl 0 rfl) ?_
          exact sm_ri (v := nI ns) C hr I (two (f := nI) (mWrite_y hb1 hi1 hns hnu (by omega) hml)) d_M_write_99
      · refine lv_iconst (v := nI 2) C.1 C.2.1 d_M_write_40 (by decide) ?_
        refine lv_goto (tgt := 45) C.1 C.2.1 d_M_write_41 (by decide) ?_
        refine sm_p0 C I 2 rfl d_M_write_45 (fun H locs I => ?_)
        refine lv_aload_n C.1 C.2.1 d_M_write_48 rfl (lv_at hl 0 rfl) ?_
        refine sm_g0 C I d_M_write_49 ?_
        refine n_ifz_le (a := 2) (tgt := 57) C.1 C.2.1 (by omega) d_M_write_52 (by decide) (fun q52 => absurd q52 (by omega)) (fun q52 => ?_)
        refine lv_iconst (v := nI 0) C.1 C.2.1 d_M_write_55 (by decide) ?_
        exact sm_ri (v := nI 0) C hr I (two (f := nI) (mWrite_2 hb1 hi1 hns hnu (by omega))) d_M_write_56
    · refine lv_iconst (v := nI 1) C.1 C.2.1 d_M_write_20 (by decide) ?_
      refine lv_goto (tgt := 45) C.1 C.2.1 d_M_write_21 (by decide) ?_
      refine sm_p0 C I 1 rfl d_M_write_45 (fun H locs I => ?_)
      refine lv_aload_n C.1 C.2.1 d_M_write_48 rfl (lv_at hl 0 rfl) ?_
      refine sm_g0 C I d_M_write_49 ?_
      refine n_ifz_le (a := 1) (tgt := 57) C.1 C.2.1 (by omega) d_M_write_52 (by decide) (fun q52 => absurd q52 (by omega)) (fun q52 => ?_)
      refine lv_iconst (v := nI 0) C.1 C.2.1 d_M_write_55 (by decide) ?_
      exact sm_ri (v := nI 0) C hr I (two (f := nI) (mWrite_1 q17)) d_M_write_56
  · subst q5
    refine lv_iconst (v := nI 3) C.1 C.2.1 d_M_write_8 (by decide) ?_
    refine lv_goto (tgt := 45) C.1 C.2.1 d_M_write_9 (by decide) ?_
    refine sm_p0 C I 3 rfl d_M_write_45 (fun H locs I => ?_)
    refine lv_aload_n C.1 C.2.1 d_M_write_48 rfl (lv_at hl 0 rfl) ?_
    refine sm_g0 C I d_M_write_49 ?_
    refine n_ifz_le (a := 3) (tgt := 57) C.1 C.2.1 (by omega) d_M_write_52 (by decide) (fun q52 => absurd q52 (by omega)) (fun q52 => ?_)
    refine lv_iconst (v := nI 0) C.1 C.2.1 d_M_write_55 (by decide) ?_
    exact sm_ri (v := nI 0) C hr I (two (f := nI) (mWrite_3)) d_M_write_56
set_option maxHeartbeats 4000000 in
set_option maxRecDepth 100000 in
/-- R_M.read -/
theorem c_M_read (l : Launch) (D : va_G) (cA : Nat → ClassId) (h : Nat → Nat) (sz : Nat) (co : Nat) (dn : Bool) (fu : Option Nat) (ct : Nat) (vo : (Nat → Int32)) (wo : (Nat → Int32)) (th : (Nat → Bool)) (ow : (Nat → Nat)) (ba : Nat) (mr : Nat) (x y : Int32) : smMi l D cA h (co, dn, fu, ct, vo, wo, th, ow, ba, mr) sz y_M_read (.code y_M_read b_M_read 3 (some .int)) (rmL 2) [.int x, .int y] (fun r u' => r = (fun z => z) (mRead x y (co, dn, fu, ct, vo, wo, th, ow, ba, mr)).1 ∧ u' = (mRead x y (co, dn, fu, ct, vo, wo, th, ow, ba, mr)).2) := by
  refine sm_mi (by decide) rfl (Nat.le_of_ble_eq_true rfl) ?_
  intro p e s m args below meth c C hr hsz I ls hl
  generalize smA cA h (co, dn, fu, ct, vo, wo, th, ow, ba, mr) sz = A at I ⊢
  have hl : lv_has ls 3 [(0, .ref (h 0)), (1, .int x), (2, .int y)] := hl
  refine lv_aload_n C.1 C.2.1 d_M_read_0 rfl (lv_at hl 0 rfl) ?_
  refine lv_aload_n C.1 C.2.1 d_M_read_1 rfl (lv_at hl 0 rfl) ?_
  refine sm_g1 C I d_M_read_2 ?_
  refine n_ifeq (b := dn) (tgt := 12) C.1 C.2.1 d_M_read_5 (by decide) (fun q5 => ?_) (fun q5 => ?_)
  · subst q5
    refine lv_iload_n C.1 C.2.1 d_M_read_12 rfl (lv_at hl 1 rfl) ?_
    refine lv_iload_n C.1 C.2.1 d_M_read_13 rfl (lv_at hl 2 rfl) ?_
    refine sm_cs C I (c_M_isWord l _ x y) lk_M48 rfl rfl ⟨by decide, by decide⟩ ⟨Nat.zero_le _, Nat.zero_le _⟩ rfl hl.1 (rest := [.ref (h 0)]) rfl (Nat.le_of_ble_eq_true rfl) d_M_read_14 (fun r H locs w14 I => ?_)
    subst w14
    refine n_ifeq (b := ((ixI x 6).isSome && (ixI y 4).isSome)) (tgt := 24) C.1 C.2.1 d_M_read_17 (by decide) (fun q17 => ?_) (fun q17 => ?_)
    · refine lv_iconst (v := nI 1) C.1 C.2.1 d_M_read_24 (by decide) ?_
      refine sm_p0 C I 1 rfl d_M_read_25 (fun H locs I => ?_)
      refine lv_aload_n C.1 C.2.1 d_M_read_28 rfl (lv_at hl 0 rfl) ?_
      refine sm_g0 C I d_M_read_29 ?_
      refine n_ifz_le (a := 1) (tgt := 39) C.1 C.2.1 (by omega) d_M_read_32 (by decide) (fun q32 => absurd q32 (by omega)) (fun q32 => ?_)
      refine lv_iconst (v := nI 0) C.1 C.2.1 d_M_read_35 (by decide) ?_
      refine lv_goto (tgt := 49) C.1 C.2.1 d_M_read_36 (by decide) ?_
      exact sm_ri (v := nI 0) C hr I (two (f := (fun z => z)) (mRead_1 q17)) d_M_read_49
    · obtain ⟨⟨b1, hb1, rfl⟩, i1, hi1, rfl⟩ := isW q17
      refine lv_iconst (v := nI 0) C.1 C.2.1 d_M_read_20 (by decide) ?_
      refine lv_goto (tgt := 25) C.1 C.2.1 d_M_read_21 (by decide) ?_
      refine sm_p0 C I 0 rfl d_M_read_25 (fun H locs I => ?_)
      refine lv_aload_n C.1 C.2.1 d_M_read_28 rfl (lv_at hl 0 rfl) ?_
      refine sm_g0 C I d_M_read_29 ?_
      refine n_ifz_le (a := 0) (tgt := 39) C.1 C.2.1 (by omega) d_M_read_32 (by decide) (fun q32 => ?_) (fun q32 => absurd q32 (by omega))
      refine lv_aload_n C.1 C.2.1 d_M_read_39 rfl (lv_at hl 0 rfl) ?_
      refine sm_g4 C I d_M_read_40 ?_
      refine lv_iconst (v := nI 4) C.1 C.2.1 d_M_read_43 (by decide) ?_
      refine lv_iload_n C.1 C.2.1 d_M_read_44 rfl (lv_at hl 1 rfl) ?_
      refine n_imul C.1 C.2.1 (a := 4) (b := b1) d_M_read_45 ?_
      refine lv_iload_n C.1 C.2.1 d_M_read_46 rfl (lv_at hl 2 rfl) ?_
      refine n_iadd C.1 C.2.1 (a := 4 * b1) (b := i1) d_M_read_47 ?_
      refine sm_l1 C I (k := (4 * b1) + i1) (by omega) d_M_read_48 ?_
      exact sm_ri (v := (vo ((4 * b1) + i1))) C hr I (two (f := (fun z => z)) (mRead_0 hb1 hi1)) d_M_read_49
  · subst q5
    refine lv_iconst (v := nI 2) C.1 C.2.1 d_M_read_8 (by decide) ?_
    refine lv_goto (tgt := 25) C.1 C.2.1 d_M_read_9 (by decide) ?_
    refine sm_p0 C I 2 rfl d_M_read_25 (fun H locs I => ?_)
    refine lv_aload_n C.1 C.2.1 d_M_read_28 rfl (lv_at hl 0 rfl) ?_
    refine sm_g0 C I d_M_read_29 ?_
    refine n_ifz_le (a := 2) (tgt := 39) C.1 C.2.1 (by omega) d_M_read_32 (by decide) (fun q32 => absurd q32 (by omega)) (fun q32 => ?_)
    refine lv_iconst (v := nI 0) C.1 C.2.1 d_M_read_35 (by decide) ?_
    refine lv_goto (tgt := 49) C.1 C.2.1 d_M_read_36 (by decide) ?_
    exact sm_ri (v := nI 0) C hr I (two (f := (fun z => z)) (mRead_2)) d_M_read_49
set_option maxHeartbeats 4000000 in
set_option maxRecDepth 100000 in
/-- R_M.drop -/
theorem c_M_drop (l : Launch) (D : va_G) (cA : Nat → ClassId) (h : Nat → Nat) (sz : Nat) (co : Nat) (dn : Bool) (fu : Option Nat) (ct : Nat) (vo : (Nat → Int32)) (wo : (Nat → Int32)) (th : (Nat → Bool)) (ow : (Nat → Nat)) (ba : Nat) (mr : Nat) (x : Int32) (hfu : ∀ k, fu = some k → k < 2 ^ 31) : smMv l D cA h (co, dn, fu, ct, vo, wo, th, ow, ba, mr) sz y_M_drop (.code y_M_drop b_M_drop 2 none) (rmL 2) [.int x] (fun u' => u' = mDrop x (co, dn, fu, ct, vo, wo, th, ow, ba, mr)) := by
  refine sm_mv (by decide) rfl (Nat.le_of_ble_eq_true rfl) ?_
  intro p e s m args below meth c C hr hsz I ls hl
  generalize smA cA h (co, dn, fu, ct, vo, wo, th, ow, ba, mr) sz = A at I ⊢
  have hl : lv_has ls 2 [(0, .ref (h 0)), (1, .int x)] := hl
  refine lv_aload_n C.1 C.2.1 d_M_drop_0 rfl (lv_at hl 0 rfl) ?_
  refine lv_aload_n C.1 C.2.1 d_M_drop_1 rfl (lv_at hl 0 rfl) ?_
  refine sm_g1 C I d_M_drop_2 ?_
  refine n_ifeq (b := dn) (tgt := 12) C.1 C.2.1 d_M_drop_5 (by decide) (fun q5 => ?_) (fun q5 => ?_)
  · subst q5
    refine lv_aload_n C.1 C.2.1 d_M_drop_12 rfl (lv_at hl 0 rfl) ?_
    refine lv_iload_n C.1 C.2.1 d_M_drop_13 rfl (lv_at hl 1 rfl) ?_
    refine sm_ci C I (c_M_isSnapshot l D cA h _ co false fu ct vo wo th ow ba mr x) lk_M70 rfl rfl ⟨by decide, by decide⟩ ⟨Nat.zero_le _, Nat.zero_le _⟩ rfl hl.1 (rest := [.ref (h 0)]) rfl (Nat.le_of_ble_eq_true rfl) d_M_drop_14 (fun r u' H locs w14 I => ?_)
    obtain ⟨rfl, rfl⟩ := w14
    refine n_ifeq (b := (mHasS th x).isSome) (tgt := 24) C.1 C.2.1 d_M_drop_17 (by decide) (fun q17 => ?_) (fun q17 => ?_)
    · refine lv_iconst (v := nI 1) C.1 C.2.1 d_M_drop_24 (by decide) ?_
      refine sm_p0 C I 1 rfl d_M_drop_25 (fun H locs I => ?_)
      refine lv_aload_n C.1 C.2.1 d_M_drop_28 rfl (lv_at hl 0 rfl) ?_
      refine sm_g0 C I d_M_drop_29 ?_
      refine n_ifz_ne (a := 1) (tgt := 63) C.1 C.2.1 (by omega) d_M_drop_32 (by decide) (fun q32 => ?_) (fun q32 => absurd q32 (by omega))
      exact sm_rv C hr I (mDrop_1 q17).symm d_M_drop_63
    · obtain ⟨s1, hs1, rfl, ht1, hm1⟩ := mHasS_in q17
      refine lv_iconst (v := nI 0) C.1 C.2.1 d_M_drop_20 (by decide) ?_
      refine lv_goto (tgt := 25) C.1 C.2.1 d_M_drop_21 (by decide) ?_
      refine sm_p0 C I 0 rfl d_M_drop_25 (fun H locs I => ?_)
      refine lv_aload_n C.1 C.2.1 d_M_drop_28 rfl (lv_at hl 0 rfl) ?_
      refine sm_g0 C I d_M_drop_29 ?_
      refine n_ifz_ne (a := 0) (tgt := 63) C.1 C.2.1 (by omega) d_M_drop_32 (by decide) (fun q32 => absurd q32 (by omega)) (fun q32 => ?_)
      refine lv_aload_n C.1 C.2.1 d_M_drop_35 rfl (lv_at hl 0 rfl) ?_
      refine lv_iconst (v := nI 1) C.1 C.2.1 d_M_drop_36 (by decide) ?_
      refine sm_ci C I (c_M_lasts l D cA h _ 0 false fu ct vo wo th ow ba mr 1 (by omega) hfu) lk_M59 rfl rfl ⟨by decide, by decide⟩ ⟨Nat.zero_le _, Nat.zero_le _⟩ rfl hl.1 (rest := []) rfl (Nat.le_of_ble_eq_true rfl) d_M_drop_37 (fun r u' H locs w37 I => ?_)
      obtain ⟨bl, fl, cl, dl, hml, rfl, rfl⟩ := w37
      refine n_ifeq (b := bl) (tgt := 53) C.1 C.2.1 d_M_drop_40 (by decide) (fun q40 => ?_) (fun q40 => ?_)
      · subst q40
        refine lv_aload_n C.1 C.2.1 d_M_drop_53 rfl (lv_at hl 0 rfl) ?_
        refine lv_iconst (v := oI none) C.1 C.2.1 d_M_drop_54 (by decide) ?_
        refine sm_p2 C I none rfl d_M_drop_55 (fun H locs I => ?_)
        refine lv_aload_n C.1 C.2.1 d_M_drop_58 rfl (lv_at hl 0 rfl) ?_
        refine lv_iconst (v := nI 2) C.1 C.2.1 d_M_drop_59 (by decide) ?_
        refine sm_p0 C I 2 rfl d_M_drop_60 (fun H locs I => ?_)
        exact sm_rv C hr I (mDrop_n hm1 hml).symm d_M_drop_63
      · subst q40
        refine lv_aload_n C.1 C.2.1 d_M_drop_43 rfl (lv_at hl 0 rfl) ?_
        refine sm_g6 C I d_M_drop_44 ?_
        refine lv_iload_n C.1 C.2.1 d_M_drop_47 rfl (lv_at hl 1 rfl) ?_
        refine lv_iconst (v := nI 0) C.1 C.2.1 d_M_drop_48 (by decide) ?_
        refine sm_s3 C I (k := s1) (x := false) (by omega) d_M_drop_49 (fun H locs I => ?_)
        refine lv_goto (tgt := 63) C.1 C.2.1 d_M_drop_50 (by decide) ?_
        exact sm_rv C hr I (mDrop_y hm1 hml).symm d_M_drop_63
  · subst q5
    refine lv_iconst (v := nI 2) C.1 C.2.1 d_M_drop_8 (by decide) ?_
    refine lv_goto (tgt := 25) C.1 C.2.1 d_M_drop_9 (by decide) ?_
    refine sm_p0 C I 2 rfl d_M_drop_25 (fun H locs I => ?_)
    refine lv_aload_n C.1 C.2.1 d_M_drop_28 rfl (lv_at hl 0 rfl) ?_
    refine sm_g0 C I d_M_drop_29 ?_
    refine n_ifz_ne (a := 2) (tgt := 63) C.1 C.2.1 (by omega) d_M_drop_32 (by decide) (fun q32 => ?_) (fun q32 => absurd q32 (by omega))
    exact sm_rv C hr I (mDrop_2).symm d_M_drop_63
set_option maxHeartbeats 4000000 in
set_option maxRecDepth 100000 in
/-- R_M.readSnapshot -/
theorem c_M_readSnapshot (l : Launch) (D : va_G) (cA : Nat → ClassId) (h : Nat → Nat) (sz : Nat) (co : Nat) (dn : Bool) (fu : Option Nat) (ct : Nat) (vo : (Nat → Int32)) (wo : (Nat → Int32)) (th : (Nat → Bool)) (ow : (Nat → Nat)) (ba : Nat) (mr : Nat) (x y z : Int32) : smMi l D cA h (co, dn, fu, ct, vo, wo, th, ow, ba, mr) sz y_M_readSnapshot (.code y_M_readSnapshot b_M_readSnapshot 4 (some .int)) (rmL 2) [.int x, .int y, .int z] (fun r u' => r = (fun z => z) (mReadS x y z (co, dn, fu, ct, vo, wo, th, ow, ba, mr)).1 ∧ u' = (mReadS x y z (co, dn, fu, ct, vo, wo, th, ow, ba, mr)).2) := by
  refine sm_mi (by decide) rfl (Nat.le_of_ble_eq_true rfl) ?_
  intro p e s m args below meth c C hr hsz I ls hl
  generalize smA cA h (co, dn, fu, ct, vo, wo, th, ow, ba, mr) sz = A at I ⊢
  have hl : lv_has ls 4 [(0, .ref (h 0)), (1, .int x), (2, .int y), (3, .int z)] := hl
  refine lv_aload_n C.1 C.2.1 d_M_readSnapshot_0 rfl (lv_at hl 0 rfl) ?_
  refine lv_aload_n C.1 C.2.1 d_M_readSnapshot_1 rfl (lv_at hl 0 rfl) ?_
  refine sm_g1 C I d_M_readSnapshot_2 ?_
  refine n_ifeq (b := dn) (tgt := 12) C.1 C.2.1 d_M_readSnapshot_5 (by decide) (fun q5 => ?_) (fun q5 => ?_)
  · subst q5
    refine lv_aload_n C.1 C.2.1 d_M_readSnapshot_12 rfl (lv_at hl 0 rfl) ?_
    refine lv_iload_n C.1 C.2.1 d_M_readSnapshot_13 rfl (lv_at hl 1 rfl) ?_
    refine sm_ci C I (c_M_isSnapshot l D cA h _ co false fu ct vo wo th ow ba mr x) lk_M70 rfl rfl ⟨by decide, by decide⟩ ⟨Nat.zero_le _, Nat.zero_le _⟩ rfl hl.1 (rest := [.ref (h 0)]) rfl (Nat.le_of_ble_eq_true rfl) d_M_readSnapshot_14 (fun r u' H locs w14 I => ?_)
    obtain ⟨rfl, rfl⟩ := w14
    refine n_ifne (b := (mHasS th x).isSome) (tgt := 24) C.1 C.2.1 d_M_readSnapshot_17 (by decide) (fun q17 => ?_) (fun q17 => ?_)
    · obtain ⟨s1, hs1, rfl, ht1, hm1⟩ := mHasS_in q17
      refine lv_iload_n C.1 C.2.1 d_M_readSnapshot_24 rfl (lv_at hl 2 rfl) ?_
      refine lv_iload_n C.1 C.2.1 d_M_readSnapshot_25 rfl (lv_at hl 3 rfl) ?_
      refine sm_cs C I (c_M_isWord l _ y z) lk_M48 rfl rfl ⟨by decide, by decide⟩ ⟨Nat.zero_le _, Nat.zero_le _⟩ rfl hl.1 (rest := [.ref (h 0)]) rfl (Nat.le_of_ble_eq_true rfl) d_M_readSnapshot_26 (fun r H locs w26 I => ?_)
      subst w26
      refine n_ifeq (b := ((ixI y 6).isSome && (ixI z 4).isSome)) (tgt := 36) C.1 C.2.1 d_M_readSnapshot_29 (by decide) (fun q29 => ?_) (fun q29 => ?_)
      · refine lv_iconst (v := nI 2) C.1 C.2.1 d_M_readSnapshot_36 (by decide) ?_
        refine sm_p0 C I 2 rfl d_M_readSnapshot_37 (fun H locs I => ?_)
        refine lv_aload_n C.1 C.2.1 d_M_readSnapshot_40 rfl (lv_at hl 0 rfl) ?_
        refine sm_g0 C I d_M_readSnapshot_41 ?_
        refine n_ifz_le (a := 2) (tgt := 51) C.1 C.2.1 (by omega) d_M_readSnapshot_44 (by decide) (fun q44 => absurd q44 (by omega)) (fun q44 => ?_)
        refine lv_iconst (v := nI 0) C.1 C.2.1 d_M_readSnapshot_47 (by decide) ?_
        refine lv_goto (tgt := 66) C.1 C.2.1 d_M_readSnapshot_48 (by decide) ?_
        exact sm_ri (v := nI 0) C hr I (two (f := (fun z => z)) (mReadS_2 hm1 q29)) d_M_readSnapshot_66
      · obtain ⟨⟨b1, hb1, rfl⟩, i1, hi1, rfl⟩ := isW q29
        refine lv_iconst (v := nI 0) C.1 C.2.1 d_M_readSnapshot_32 (by decide) ?_
        refine lv_goto (tgt := 37) C.1 C.2.1 d_M_readSnapshot_33 (by decide) ?_
        refine sm_p0 C I 0 rfl d_M_readSnapshot_37 (fun H locs I => ?_)
        refine lv_aload_n C.1 C.2.1 d_M_readSnapshot_40 rfl (lv_at hl 0 rfl) ?_
        refine sm_g0 C I d_M_readSnapshot_41 ?_
        refine n_ifz_le (a := 0) (tgt := 51) C.1 C.2.1 (by omega) d_M_readSnapshot_44 (by decide) (fun q44 => ?_) (fun q44 => absurd q44 (by omega))
        refine lv_aload_n C.1 C.2.1 d_M_readSnapshot_51 rfl (lv_at hl 0 rfl) ?_
        refine sm_g5 C I d_M_readSnapshot_52 ?_
        refine lv_bipush (v := nI 24) C.1 C.2.1 d_M_readSnapshot_55 (by decide) ?_
        refine lv_iload_n C.1 C.2.1 d_M_readSnapshot_57 rfl (lv_at hl 1 rfl) ?_
        refine n_imul C.1 C.2.1 (a := 24) (b := s1) d_M_readSnapshot_58 ?_
        refine lv_iconst (v := nI 4) C.1 C.2.1 d_M_readSnapshot_59 (by decide) ?_
        refine lv_iload_n C.1 C.2.1 d_M_readSnapshot_60 rfl (lv_at hl 2 rfl) ?_
        refine n_imul C.1 C.2.1 (a := 4) (b := b1) d_M_readSnapshot_61 ?_
        refine n_iadd C.1 C.2.1 (a := 24 * s1) (b := 4 * b1) d_M_readSnapshot_62 ?_
        refine lv_iload_n C.1 C.2.1 d_M_readSnapshot_63 rfl (lv_at hl 3 rfl) ?_
        refine n_iadd C.1 C.2.1 (a := (24 * s1) + (4 * b1)) (b := i1) d_M_readSnapshot_64 ?_
        refine sm_l2 C I (k := ((24 * s1) + (4 * b1)) + i1) (by omega) d_M_readSnapshot_65 ?_
        exact sm_ri (v := (wo (((24 * s1) + (4 * b1)) + i1))) C hr I (two (f := (fun z => z)) (mReadS_0 hm1 hb1 hi1)) d_M_readSnapshot_66
    · refine lv_iconst (v := nI 1) C.1 C.2.1 d_M_readSnapshot_20 (by decide) ?_
      refine lv_goto (tgt := 37) C.1 C.2.1 d_M_readSnapshot_21 (by decide) ?_
      refine sm_p0 C I 1 rfl d_M_readSnapshot_37 (fun H locs I => ?_)
      refine lv_aload_n C.1 C.2.1 d_M_readSnapshot_40 rfl (lv_at hl 0 rfl) ?_
      refine sm_g0 C I d_M_readSnapshot_41 ?_
      refine n_ifz_le (a := 1) (tgt := 51) C.1 C.2.1 (by omega) d_M_readSnapshot_44 (by decide) (fun q44 => absurd q44 (by omega)) (fun q44 => ?_)
      refine lv_iconst (v := nI 0) C.1 C.2.1 d_M_readSnapshot_47 (by decide) ?_
      refine lv_goto (tgt := 66) C.1 C.2.1 d_M_readSnapshot_48 (by decide) ?_
      exact sm_ri (v := nI 0) C hr I (two (f := (fun z => z)) (mReadS_1 q17)) d_M_readSnapshot_66
  · subst q5
    refine lv_iconst (v := nI 3) C.1 C.2.1 d_M_readSnapshot_8 (by decide) ?_
    refine lv_goto (tgt := 37) C.1 C.2.1 d_M_readSnapshot_9 (by decide) ?_
    refine sm_p0 C I 3 rfl d_M_readSnapshot_37 (fun H locs I => ?_)
    refine lv_aload_n C.1 C.2.1 d_M_readSnapshot_40 rfl (lv_at hl 0 rfl) ?_
    refine sm_g0 C I d_M_readSnapshot_41 ?_
    refine n_ifz_le (a := 3) (tgt := 51) C.1 C.2.1 (by omega) d_M_readSnapshot_44 (by decide) (fun q44 => absurd q44 (by omega)) (fun q44 => ?_)
    refine lv_iconst (v := nI 0) C.1 C.2.1 d_M_readSnapshot_47 (by decide) ?_
    refine lv_goto (tgt := 66) C.1 C.2.1 d_M_readSnapshot_48 (by decide) ?_
    exact sm_ri (v := nI 0) C hr I (two (f := (fun z => z)) (mReadS_3)) d_M_readSnapshot_66
set_option maxHeartbeats 4000000 in
set_option maxRecDepth 100000 in
/-- R_M.writeSnapshot -/
theorem c_M_writeSnapshot (l : Launch) (D : va_G) (cA : Nat → ClassId) (h : Nat → Nat) (sz : Nat) (co : Nat) (dn : Bool) (fu : Option Nat) (ct : Nat) (vo : (Nat → Int32)) (wo : (Nat → Int32)) (th : (Nat → Bool)) (ow : (Nat → Nat)) (ba : Nat) (mr : Nat) (x y z w0 : Int32) (hfu : ∀ k, fu = some k → k < 2 ^ 31) (how : oB th ow) (hu : mUsed th ow ≤ 9) : smMi l D cA h (co, dn, fu, ct, vo, wo, th, ow, ba, mr) sz y_M_writeSnapshot (.code y_M_writeSnapshot b_M_writeSnapshot 6 (some .boolean)) (rmL 2) [.int x, .int y, .int z, .int w0] (fun r u' => r = bI (mWriteS x y z w0 (co, dn, fu, ct, vo, wo, th, ow, ba, mr)).1 ∧ u' = (mWriteS x y z w0 (co, dn, fu, ct, vo, wo, th, ow, ba, mr)).2) := by
  refine sm_mi (by decide) rfl (Nat.le_of_ble_eq_true rfl) ?_
  intro p e s m args below meth c C hr hsz I ls hl
  generalize smA cA h (co, dn, fu, ct, vo, wo, th, ow, ba, mr) sz = A at I ⊢
  have hl : lv_has ls 6 [(0, .ref (h 0)), (1, .int x), (2, .int y), (3, .int z), (4, .int w0)] := hl
  refine lv_aload_n C.1 C.2.1 d_M_writeSnapshot_0 rfl (lv_at hl 0 rfl) ?_
  refine lv_aload_n C.1 C.2.1 d_M_writeSnapshot_1 rfl (lv_at hl 0 rfl) ?_
  refine sm_g1 C I d_M_writeSnapshot_2 ?_
  refine n_ifeq (b := dn) (tgt := 12) C.1 C.2.1 d_M_writeSnapshot_5 (by decide) (fun q5 => ?_) (fun q5 => ?_)
  · subst q5
    refine lv_aload_n C.1 C.2.1 d_M_writeSnapshot_12 rfl (lv_at hl 0 rfl) ?_
    refine lv_iload_n C.1 C.2.1 d_M_writeSnapshot_13 rfl (lv_at hl 1 rfl) ?_
    refine sm_ci C I (c_M_isSnapshot l D cA h _ co false fu ct vo wo th ow ba mr x) lk_M70 rfl rfl ⟨by decide, by decide⟩ ⟨Nat.zero_le _, Nat.zero_le _⟩ rfl hl.1 (rest := [.ref (h 0)]) rfl (Nat.le_of_ble_eq_true rfl) d_M_writeSnapshot_14 (fun r u' H locs w14 I => ?_)
    obtain ⟨rfl, rfl⟩ := w14
    refine n_ifne (b := (mHasS th x).isSome) (tgt := 24) C.1 C.2.1 d_M_writeSnapshot_17 (by decide) (fun q17 => ?_) (fun q17 => ?_)
    · obtain ⟨s1, hs1, rfl, ht1, hm1⟩ := mHasS_in q17
      refine lv_iload_n C.1 C.2.1 d_M_writeSnapshot_24 rfl (lv_at hl 2 rfl) ?_
      refine lv_iload_n C.1 C.2.1 d_M_writeSnapshot_25 rfl (lv_at hl 3 rfl) ?_
      refine sm_cs C I (c_M_isWord l _ y z) lk_M48 rfl rfl ⟨by decide, by decide⟩ ⟨Nat.zero_le _, Nat.zero_le _⟩ rfl hl.1 (rest := [.ref (h 0)]) rfl (Nat.le_of_ble_eq_true rfl) d_M_writeSnapshot_26 (fun r H locs w26 I => ?_)
      subst w26
      refine n_ifne (b := ((ixI y 6).isSome && (ixI z 4).isSome)) (tgt := 36) C.1 C.2.1 d_M_writeSnapshot_29 (by decide) (fun q29 => ?_) (fun q29 => ?_)
      · obtain ⟨⟨b1, hb1, rfl⟩, i1, hi1, rfl⟩ := isW q29
        obtain ⟨nu, hnu⟩ : ∃ z, mUsed th ow = z := ⟨_, rfl⟩
        have hu9 : nu ≤ 9 := by rw [← hnu]; exact hu
        refine lv_iconst (v := nI 0) C.1 C.2.1 d_M_writeSnapshot_36 (by decide) ?_
        refine sm_p0 C I 0 rfl d_M_writeSnapshot_37 (fun H locs I => ?_)
        refine lv_aload_n C.1 C.2.1 d_M_writeSnapshot_40 rfl (lv_at hl 0 rfl) ?_
        refine sm_g0 C I d_M_writeSnapshot_41 ?_
        refine n_ifz_le (a := 0) (tgt := 49) C.1 C.2.1 (by omega) d_M_writeSnapshot_44 (by decide) (fun q44 => ?_) (fun q44 => absurd q44 (by omega))
        refine lv_aload_n C.1 C.2.1 d_M_writeSnapshot_49 rfl (lv_at hl 0 rfl) ?_
        refine sm_g7 C I d_M_writeSnapshot_50 ?_
        refine lv_bipush (v := nI 6) C.1 C.2.1 d_M_writeSnapshot_53 (by decide) ?_
        refine lv_iload_n C.1 C.2.1 d_M_writeSnapshot_55 rfl (lv_at hl 1 rfl) ?_
        refine n_imul C.1 C.2.1 (a := 6) (b := s1) d_M_writeSnapshot_56 ?_
        refine lv_iload_n C.1 C.2.1 d_M_writeSnapshot_57 rfl (lv_at hl 2 rfl) ?_
        refine n_iadd C.1 C.2.1 (a := 6 * s1) (b := b1) d_M_writeSnapshot_58 ?_
        refine sm_l4 C I (k := (6 * s1) + b1) (by omega) d_M_writeSnapshot_59 ?_
        have hw := how.sb (s := s1) (b := b1) hs1 hb1 ht1
        refine n_ifz_ne (a := (ow ((6 * s1) + b1))) (tgt := 67) C.1 C.2.1 (by omega) d_M_writeSnapshot_60 (by decide) (fun q60 => ?_) (fun q60 => ?_)
        · have h0 : ¬ ow (6 * s1 + b1) = 0 := by omega
          refine lv_iconst (v := nI 0) C.1 C.2.1 d_M_writeSnapshot_67 (by decide) ?_
          refine lv_istore (lv' := [(5, .int (nI 0)), (0, .ref (h 0)), (1, .int (nI s1)), (2, .int (nI b1)), (3, .int (nI i1)), (4, .int w0)]) C.1 C.2.1 d_M_writeSnapshot_68 hl (by decide) rfl (fun ls hl => ?_)
          refine lv_iload C.1 C.2.1 d_M_writeSnapshot_70 (lv_at hl 0 rfl) ?_
          refine n_ifz_eq (a := 0) (tgt := 91) C.1 C.2.1 (by omega) d_M_writeSnapshot_72 (by decide) (fun q72 => ?_) (fun q72 => absurd q72 (by omega))
          refine lv_aload_n C.1 C.2.1 d_M_writeSnapshot_91 rfl (lv_at hl 1 rfl) ?_
          refine lv_iload C.1 C.2.1 d_M_writeSnapshot_92 (lv_at hl 0 rfl) ?_
          refine n_ifz_eq (a := 0) (tgt := 101) C.1 C.2.1 (by omega) d_M_writeSnapshot_94 (by decide) (fun q94 => ?_) (fun q94 => absurd q94 (by omega))
          refine lv_iconst (v := nI 1) C.1 C.2.1 d_M_writeSnapshot_101 (by decide) ?_
          refine sm_ci C I (c_M_lasts l D cA h _ 0 false fu ct vo wo th ow ba mr 1 (by omega) hfu) lk_M59 rfl rfl ⟨by decide, by decide⟩ ⟨Nat.zero_le _, Nat.zero_le _⟩ rfl hl.1 (rest := []) rfl (Nat.le_of_ble_eq_true rfl) d_M_writeSnapshot_102 (fun r u' H locs w102 I => ?_)
          obtain ⟨bl, fl, cl, dl, hml, rfl, rfl⟩ := w102
          refine n_ifne (b := bl) (tgt := 120) C.1 C.2.1 d_M_writeSnapshot_105 (by decide) (fun q105 => ?_) (fun q105 => ?_)
          · subst q105
            refine lv_aload_n C.1 C.2.1 d_M_writeSnapshot_120 rfl (lv_at hl 1 rfl) ?_
            refine sm_g7 C I d_M_writeSnapshot_121 ?_
            refine lv_bipush (v := nI 6) C.1 C.2.1 d_M_writeSnapshot_124 (by decide) ?_
            refine lv_iload_n C.1 C.2.1 d_M_writeSnapshot_126 rfl (lv_at hl 2 rfl) ?_
            refine n_imul C.1 C.2.1 (a := 6) (b := s1) d_M_writeSnapshot_127 ?_
            refine lv_iload_n C.1 C.2.1 d_M_writeSnapshot_128 rfl (lv_at hl 3 rfl) ?_
            refine n_iadd C.1 C.2.1 (a := 6 * s1) (b := b1) d_M_writeSnapshot_129 ?_
            refine lv_iload C.1 C.2.1 d_M_writeSnapshot_130 (lv_at hl 0 rfl) ?_
            refine n_ifz_eq (a := 0) (tgt := 142) C.1 C.2.1 (by omega) d_M_writeSnapshot_132 (by decide) (fun q132 => ?_) (fun q132 => absurd q132 (by omega))
            refine lv_aload_n C.1 C.2.1 d_M_writeSnapshot_142 rfl (lv_at hl 1 rfl) ?_
            refine sm_g7 C I d_M_writeSnapshot_143 ?_
            refine lv_bipush (v := nI 6) C.1 C.2.1 d_M_writeSnapshot_146 (by decide) ?_
            refine lv_iload_n C.1 C.2.1 d_M_writeSnapshot_148 rfl (lv_at hl 2 rfl) ?_
            refine n_imul C.1 C.2.1 (a := 6) (b := s1) d_M_writeSnapshot_149 ?_
            refine lv_iload_n C.1 C.2.1 d_M_writeSnapshot_150 rfl (lv_at hl 3 rfl) ?_
            refine n_iadd C.1 C.2.1 (a := 6 * s1) (b := b1) d_M_writeSnapshot_151 ?_
            refine sm_l4 C I (k := (6 * s1) + b1) (by omega) d_M_writeSnapshot_152 ?_
            refine sm_s4 C I (k := (6 * s1) + b1) (x := (ow ((6 * s1) + b1))) (by omega) d_M_writeSnapshot_153 (fun H locs I => ?_)
            refine lv_aload_n C.1 C.2.1 d_M_writeSnapshot_154 rfl (lv_at hl 1 rfl) ?_
            refine sm_g5 C I d_M_writeSnapshot_155 ?_
            refine lv_bipush (v := nI 24) C.1 C.2.1 d_M_writeSnapshot_158 (by decide) ?_
            refine lv_iload_n C.1 C.2.1 d_M_writeSnapshot_160 rfl (lv_at hl 2 rfl) ?_
            refine n_imul C.1 C.2.1 (a := 24) (b := s1) d_M_writeSnapshot_161 ?_
            refine lv_iconst (v := nI 4) C.1 C.2.1 d_M_writeSnapshot_162 (by decide) ?_
            refine lv_iload_n C.1 C.2.1 d_M_writeSnapshot_163 rfl (lv_at hl 3 rfl) ?_
            refine n_imul C.1 C.2.1 (a := 4) (b := b1) d_M_writeSnapshot_164 ?_
            refine n_iadd C.1 C.2.1 (a := 24 * s1) (b := 4 * b1) d_M_writeSnapshot_165 ?_
            refine lv_iload_n C.1 C.2.1 d_M_writeSnapshot_166 rfl (lv_at hl 4 rfl) ?_
            refine n_iadd C.1 C.2.1 (a := (24 * s1) + (4 * b1)) (b := i1) d_M_writeSnapshot_167 ?_
            refine lv_iload C.1 C.2.1 d_M_writeSnapshot_168 (lv_at hl 5 rfl) ?_
            refine sm_s2 C I (k := ((24 * s1) + (4 * b1)) + i1) (x := w0) (by omega) d_M_writeSnapshot_170 (fun H locs I => ?_)
            refine lv_iload C.1 C.2.1 d_M_writeSnapshot_171 (lv_at hl 0 rfl) ?_
            exact sm_rz (b := false) C hr I (two (f := bI) (mWS_n hm1 hb1 hi1 h0 hml)) d_M_writeSnapshot_173
          · subst q105
            refine lv_aload_n C.1 C.2.1 d_M_writeSnapshot_108 rfl (lv_at hl 1 rfl) ?_
            refine lv_iconst (v := oI none) C.1 C.2.1 d_M_writeSnapshot_109 (by decide) ?_
            refine sm_p2 C I none rfl d_M_writeSnapshot_110 (fun H locs I => ?_)
            refine lv_aload_n C.1 C.2.1 d_M_writeSnapshot_113 rfl (lv_at hl 1 rfl) ?_
            refine lv_iconst (v := nI 4) C.1 C.2.1 d_M_writeSnapshot_114 (by decide) ?_
            refine sm_p0 C I 4 rfl d_M_writeSnapshot_115 (fun H locs I => ?_)
            refine lv_iconst (v := nI 0) C.1 C.2.1 d_M_writeSnapshot_118 (by decide) ?_
            exact sm_rz (b := false) C hr I (two (f := bI) (mWS_nc hm1 hb1 hi1 h0 hml)) d_M_writeSnapshot_119
        · have h0 : ow (6 * s1 + b1) = 0 := by omega
          refine lv_iconst (v := nI 1) C.1 C.2.1 d_M_writeSnapshot_63 (by decide) ?_
          refine lv_goto (tgt := 68) C.1 C.2.1 d_M_writeSnapshot_64 (by decide) ?_
          refine lv_istore (lv' := [(5, .int (nI 1)), (0, .ref (h 0)), (1, .int (nI s1)), (2, .int (nI b1)), (3, .int (nI i1)), (4, .int w0)]) C.1 C.2.1 d_M_writeSnapshot_68 hl (by decide) rfl (fun ls hl => ?_)
          refine lv_iload C.1 C.2.1 d_M_writeSnapshot_70 (lv_at hl 0 rfl) ?_
          refine n_ifz_eq (a := 1) (tgt := 91) C.1 C.2.1 (by omega) d_M_writeSnapshot_72 (by decide) (fun q72 => absurd q72 (by omega)) (fun q72 => ?_)
          refine lv_aload_n C.1 C.2.1 d_M_writeSnapshot_75 rfl (lv_at hl 1 rfl) ?_
          refine sm_ci C I (c_M_usedCopies l D cA h _ 0 false fu ct vo wo th ow ba mr how) lk_M56 rfl rfl ⟨by decide, by decide⟩ ⟨Nat.zero_le _, Nat.zero_le _⟩ rfl hl.1 (rest := []) rfl (Nat.le_of_ble_eq_true rfl) d_M_writeSnapshot_76 (fun r u' H locs w76 I => ?_)
          obtain ⟨rfl, rfl⟩ := w76
          rw [hnu]
          refine lv_bipush (v := nI 9) C.1 C.2.1 d_M_writeSnapshot_79 (by decide) ?_
          refine n_icmp_ne C.1 C.2.1 (a := nu) (b := 9) (tgt := 91) (by omega) (by omega) d_M_writeSnapshot_81 (by decide) (fun q81 => ?_) (fun q81 => ?_)
          · refine lv_aload_n C.1 C.2.1 d_M_writeSnapshot_91 rfl (lv_at hl 1 rfl) ?_
            refine lv_iload C.1 C.2.1 d_M_writeSnapshot_92 (lv_at hl 0 rfl) ?_
            refine n_ifz_eq (a := 1) (tgt := 101) C.1 C.2.1 (by omega) d_M_writeSnapshot_94 (by decide) (fun q94 => absurd q94 (by omega)) (fun q94 => ?_)
            refine lv_iconst (v := nI 5) C.1 C.2.1 d_M_writeSnapshot_97 (by decide) ?_
            refine lv_goto (tgt := 102) C.1 C.2.1 d_M_writeSnapshot_98 (by decide) ?_
            refine sm_ci C I (c_M_lasts l D cA h _ 0 false fu ct vo wo th ow ba mr 5 (by omega) hfu) lk_M59 rfl rfl ⟨by decide, by decide⟩ ⟨Nat.zero_le _, Nat.zero_le _⟩ rfl hl.1 (rest := []) rfl (Nat.le_of_ble_eq_true rfl) d_M_writeSnapshot_102 (fun r u' H locs w102 I => ?_)
            obtain ⟨bl, fl, cl, dl, hml, rfl, rfl⟩ := w102
            refine n_ifne (b := bl) (tgt := 120) C.1 C.2.1 d_M_writeSnapshot_105 (by decide) (fun q105 => ?_) (fun q105 => ?_)
            · subst q105
              refine lv_aload_n C.1 C.2.1 d_M_writeSnapshot_120 rfl (lv_at hl 1 rfl) ?_
              refine sm_g7 C I d_M_writeSnapshot_121 ?_
              refine lv_bipush (v := nI 6) C.1 C.2.1 d_M_writeSnapshot_124 (by decide) ?_
              refine lv_iload_n C.1 C.2.1 d_M_writeSnapshot_126 rfl (lv_at hl 2 rfl) ?_
              refine n_imul C.1 C.2.1 (a := 6) (b := s1) d_M_writeSnapshot_127 ?_
              refine lv_iload_n C.1 C.2.1 d_M_writeSnapshot_128 rfl (lv_at hl 3 rfl) ?_
              refine n_iadd C.1 C.2.1 (a := 6 * s1) (b := b1) d_M_writeSnapshot_129 ?_
              refine lv_iload C.1 C.2.1 d_M_writeSnapshot_130 (lv_at hl 0 rfl) ?_
              refine n_ifz_eq (a := 1) (tgt := 142) C.1 C.2.1 (by omega) d_M_writeSnapshot_132 (by decide) (fun q132 => absurd q132 (by omega)) (fun q132 => ?_)
              refine lv_aload_n C.1 C.2.1 d_M_writeSnapshot_135 rfl (lv_at hl 1 rfl) ?_
              refine sm_ci C I (c_M_lowest l D cA h _ 0 dl fl cl vo wo th ow ba mr how) lk_M44 rfl rfl ⟨by decide, by decide⟩ ⟨Nat.zero_le _, Nat.zero_le _⟩ rfl hl.1 (rest := [.int (nI ((6 * s1) + b1)), .ref (h 4)]) rfl (Nat.le_of_ble_eq_true rfl) d_M_writeSnapshot_136 (fun r u' H locs w136 I => ?_)
              obtain ⟨rfl, rfl⟩ := w136
              refine lv_goto (tgt := 153) C.1 C.2.1 d_M_writeSnapshot_139 (by decide) ?_
              refine sm_s4 C I (k := (6 * s1) + b1) (x := mLow th ow) (by omega) d_M_writeSnapshot_153 (fun H locs I => ?_)
              refine lv_aload_n C.1 C.2.1 d_M_writeSnapshot_154 rfl (lv_at hl 1 rfl) ?_
              refine sm_g5 C I d_M_writeSnapshot_155 ?_
              refine lv_bipush (v := nI 24) C.1 C.2.1 d_M_writeSnapshot_158 (by decide) ?_
              refine lv_iload_n C.1 C.2.1 d_M_writeSnapshot_160 rfl (lv_at hl 2 rfl) ?_
              refine n_imul C.1 C.2.1 (a := 24) (b := s1) d_M_writeSnapshot_161 ?_
              refine lv_iconst (v := nI 4) C.1 C.2.1 d_M_writeSnapshot_162 (by decide) ?_
              refine lv_iload_n C.1 C.2.1 d_M_writeSnapshot_163 rfl (lv_at hl 3 rfl) ?_
              refine n_imul C.1 C.2.1 (a := 4) (b := b1) d_M_writeSnapshot_164 ?_
              refine n_iadd C.1 C.2.1 (a := 24 * s1) (b := 4 * b1) d_M_writeSnapshot_165 ?_
              refine lv_iload_n C.1 C.2.1 d_M_writeSnapshot_166 rfl (lv_at hl 4 rfl) ?_
              refine n_iadd C.1 C.2.1 (a := (24 * s1) + (4 * b1)) (b := i1) d_M_writeSnapshot_167 ?_
              refine lv_iload C.1 C.2.1 d_M_writeSnapshot_168 (lv_at hl 5 rfl) ?_
              refine sm_s2 C I (k := ((24 * s1) + (4 * b1)) + i1) (x := w0) (by omega) d_M_writeSnapshot_170 (fun H locs I => ?_)
              refine lv_iload C.1 C.2.1 d_M_writeSnapshot_171 (lv_at hl 0 rfl) ?_
              exact sm_rz (b := true) C hr I (two (f := bI) (mWS_y hm1 hb1 hi1 h0 (fun e => q81 (hnu.symm.trans e)) hml)) d_M_writeSnapshot_173
            · subst q105
              refine lv_aload_n C.1 C.2.1 d_M_writeSnapshot_108 rfl (lv_at hl 1 rfl) ?_
              refine lv_iconst (v := oI none) C.1 C.2.1 d_M_writeSnapshot_109 (by decide) ?_
              refine sm_p2 C I none rfl d_M_writeSnapshot_110 (fun H locs I => ?_)
              refine lv_aload_n C.1 C.2.1 d_M_writeSnapshot_113 rfl (lv_at hl 1 rfl) ?_
              refine lv_iconst (v := nI 4) C.1 C.2.1 d_M_writeSnapshot_114 (by decide) ?_
              refine sm_p0 C I 4 rfl d_M_writeSnapshot_115 (fun H locs I => ?_)
              refine lv_iconst (v := nI 0) C.1 C.2.1 d_M_writeSnapshot_118 (by decide) ?_
              exact sm_rz (b := false) C hr I (two (f := bI) (mWS_yc hm1 hb1 hi1 h0 (fun e => q81 (hnu.symm.trans e)) hml)) d_M_writeSnapshot_119
          · refine lv_aload_n C.1 C.2.1 d_M_writeSnapshot_84 rfl (lv_at hl 1 rfl) ?_
            refine lv_iconst (v := nI 3) C.1 C.2.1 d_M_writeSnapshot_85 (by decide) ?_
            refine sm_p0 C I 3 rfl d_M_writeSnapshot_86 (fun H locs I => ?_)
            refine lv_iconst (v := nI 0) C.1 C.2.1 d_M_writeSnapshot_89 (by decide) ?_
            exact sm_rz (b := false) C hr I (two (f := bI) (mWS_3 hm1 hb1 hi1 h0 (hnu.trans q81))) d_M_writeSnapshot_90
      · refine lv_iconst (v := nI 2) C.1 C.2.1 d_M_writeSnapshot_32 (by decide) ?_
        refine lv_goto (tgt := 37) C.1 C.2.1 d_M_writeSnapshot_33 (by decide) ?_
        refine sm_p0 C I 2 rfl d_M_writeSnapshot_37 (fun H locs I => ?_)
        refine lv_aload_n C.1 C.2.1 d_M_writeSnapshot_40 rfl (lv_at hl 0 rfl) ?_
        refine sm_g0 C I d_M_writeSnapshot_41 ?_
        refine n_ifz_le (a := 2) (tgt := 49) C.1 C.2.1 (by omega) d_M_writeSnapshot_44 (by decide) (fun q44 => absurd q44 (by omega)) (fun q44 => ?_)
        refine lv_iconst (v := nI 0) C.1 C.2.1 d_M_writeSnapshot_47 (by decide) ?_
        exact sm_rz (b := false) C hr I (two (f := bI) (mWS_2 hm1 q29)) d_M_writeSnapshot_48
    · refine lv_iconst (v := nI 1) C.1 C.2.1 d_M_writeSnapshot_20 (by decide) ?_
      refine lv_goto (tgt := 37) C.1 C.2.1 d_M_writeSnapshot_21 (by decide) ?_
      refine sm_p0 C I 1 rfl d_M_writeSnapshot_37 (fun H locs I => ?_)
      refine lv_aload_n C.1 C.2.1 d_M_writeSnapshot_40 rfl (lv_at hl 0 rfl) ?_
      refine sm_g0 C I d_M_writeSnapshot_41 ?_
      refine n_ifz_le (a := 1) (tgt := 49) C.1 C.2.1 (by omega) d_M_writeSnapshot_44 (by decide) (fun q44 => absurd q44 (by omega)) (fun q44 => ?_)
      refine lv_iconst (v := nI 0) C.1 C.2.1 d_M_writeSnapshot_47 (by decide) ?_
      exact sm_rz (b := false) C hr I (two (f := bI) (mWS_1 q17)) d_M_writeSnapshot_48
  · subst q5
    refine lv_iconst (v := nI 4) C.1 C.2.1 d_M_writeSnapshot_8 (by decide) ?_
    refine lv_goto (tgt := 37) C.1 C.2.1 d_M_writeSnapshot_9 (by decide) ?_
    refine sm_p0 C I 4 rfl d_M_writeSnapshot_37 (fun H locs I => ?_)
    refine lv_aload_n C.1 C.2.1 d_M_writeSnapshot_40 rfl (lv_at hl 0 rfl) ?_
    refine sm_g0 C I d_M_writeSnapshot_41 ?_
    refine n_ifz_le (a := 4) (tgt := 49) C.1 C.2.1 (by omega) d_M_writeSnapshot_44 (by decide) (fun q44 => absurd q44 (by omega)) (fun q44 => ?_)
    refine lv_iconst (v := nI 0) C.1 C.2.1 d_M_writeSnapshot_47 (by decide) ?_
    exact sm_rz (b := false) C hr I (two (f := bI) (mWS_4)) d_M_writeSnapshot_48
set_option maxHeartbeats 4000000 in
set_option maxRecDepth 100000 in
/-- R_M.recover -/
theorem c_M_recover (l : Launch) (D : va_G) (cA : Nat → ClassId) (h : Nat → Nat) (sz : Nat) (co : Nat) (dn : Bool) (fu : Option Nat) (ct : Nat) (vo : (Nat → Int32)) (wo : (Nat → Int32)) (th : (Nat → Bool)) (ow : (Nat → Nat)) (ba : Nat) (mr : Nat) (how : oB th ow) (hba : ∀ r, ba = r + 1 → r < 3 ∧ th r = true ∧ mr ≤ 6 ∧ mUsed th ow + mNd th ow r (6 - mr) mr ≤ 9) (hb31 : ba < 2 ^ 31) : smMi l D cA h (co, dn, fu, ct, vo, wo, th, ow, ba, mr) sz y_M_recover (.code y_M_recover b_M_recover 2 (some .int)) (rmL 4) [] (fun r u' => r = nI (mRec (co, dn, fu, ct, vo, wo, th, ow, ba, mr)).1 ∧ u' = (mRec (co, dn, fu, ct, vo, wo, th, ow, ba, mr)).2) := by
  refine sm_mi (by decide) rfl (Nat.le_of_ble_eq_true rfl) ?_
  intro p e s m args below meth c C hr hsz I ls hl
  generalize smA cA h (co, dn, fu, ct, vo, wo, th, ow, ba, mr) sz = A at I ⊢
  have hl : lv_has ls 2 [(0, .ref (h 0))] := hl
  refine lv_aload_n C.1 C.2.1 d_M_recover_0 rfl (lv_at hl 0 rfl) ?_
  refine lv_aload_n C.1 C.2.1 d_M_recover_1 rfl (lv_at hl 0 rfl) ?_
  refine sm_g1 C I d_M_recover_2 ?_
  refine n_ifeq (b := dn) (tgt := 12) C.1 C.2.1 d_M_recover_5 (by decide) (fun q5 => ?_) (fun q5 => ?_)
  · subst q5
    refine lv_iconst (v := nI 1) C.1 C.2.1 d_M_recover_12 (by decide) ?_
    refine sm_p0 C I 1 rfl d_M_recover_13 (fun H locs I => ?_)
    refine lv_aload_n C.1 C.2.1 d_M_recover_16 rfl (lv_at hl 0 rfl) ?_
    refine sm_g0 C I d_M_recover_17 ?_
    refine n_ifz_le (a := 1) (tgt := 25) C.1 C.2.1 (by omega) d_M_recover_20 (by decide) (fun q20 => absurd q20 (by omega)) (fun q20 => ?_)
    refine lv_iconst (v := nI 0) C.1 C.2.1 d_M_recover_23 (by decide) ?_
    exact sm_ri (v := nI 0) C hr I (two (f := nI) (mRec_1)) d_M_recover_24
  · subst q5
    refine lv_iconst (v := nI 0) C.1 C.2.1 d_M_recover_8 (by decide) ?_
    refine lv_goto (tgt := 13) C.1 C.2.1 d_M_recover_9 (by decide) ?_
    refine sm_p0 C I 0 rfl d_M_recover_13 (fun H locs I => ?_)
    refine lv_aload_n C.1 C.2.1 d_M_recover_16 rfl (lv_at hl 0 rfl) ?_
    refine sm_g0 C I d_M_recover_17 ?_
    refine n_ifz_le (a := 0) (tgt := 25) C.1 C.2.1 (by omega) d_M_recover_20 (by decide) (fun q20 => ?_) (fun q20 => absurd q20 (by omega))
    refine lv_aload_n C.1 C.2.1 d_M_recover_25 rfl (lv_at hl 0 rfl) ?_
    refine lv_iconst (v := nI 0) C.1 C.2.1 d_M_recover_26 (by decide) ?_
    refine sm_p1 C I false rfl d_M_recover_27 (fun H locs I => ?_)
    refine lv_aload_n C.1 C.2.1 d_M_recover_30 rfl (lv_at hl 0 rfl) ?_
    refine sm_g8 C I d_M_recover_31 ?_
    refine n_ifz_ne (a := ba) (tgt := 39) C.1 C.2.1 (by omega) d_M_recover_34 (by decide) (fun q34 => ?_) (fun q34 => ?_)
    · obtain ⟨s1, rfl⟩ : ∃ r, ba = r + 1 := ⟨ba - 1, by omega⟩
      obtain ⟨hs1, hth, hmr, hu⟩ := hba s1 rfl
      refine lv_aload_n C.1 C.2.1 d_M_recover_39 rfl (lv_at hl 0 rfl) ?_
      refine sm_g8 C I d_M_recover_40 ?_
      refine lv_iconst (v := nI 1) C.1 C.2.1 d_M_recover_43 (by decide) ?_
      refine n_isub C.1 C.2.1 (a := s1 + 1) (b := 1) (by omega) d_M_recover_44 ?_
      refine lv_istore_n (lv' := [(1, .int (nI ((s1 + 1) - 1))), (0, .ref (h 0))]) C.1 C.2.1 d_M_recover_45 rfl hl (by decide) rfl (fun ls hl => ?_)
      refine lv_aload_n C.1 C.2.1 d_M_recover_46 rfl (lv_at hl 1 rfl) ?_
      refine lv_iconst (v := nI 0) C.1 C.2.1 d_M_recover_47 (by decide) ?_
      refine sm_p8 C I 0 rfl d_M_recover_48 (fun H locs I => ?_)
      refine lv_aload_n C.1 C.2.1 d_M_recover_51 rfl (lv_at hl 1 rfl) ?_
      refine lv_aload_n C.1 C.2.1 d_M_recover_52 rfl (lv_at hl 1 rfl) ?_
      refine sm_g3 C I d_M_recover_53 ?_
      refine lv_aload_n C.1 C.2.1 d_M_recover_56 rfl (lv_at hl 1 rfl) ?_
      refine lv_iload_n C.1 C.2.1 d_M_recover_57 rfl (lv_at hl 0 rfl) ?_
      refine lv_aload_n C.1 C.2.1 d_M_recover_58 rfl (lv_at hl 1 rfl) ?_
      refine sm_g9 C I d_M_recover_59 ?_
      refine sm_ci C I (c_M_writesFrom l D cA h _ 0 false fu ct vo wo th ow 0 mr s1 mr (by omega) (by omega) hth how) lk_M80 rfl rfl ⟨by decide, by decide⟩ ⟨Nat.zero_le _, Nat.zero_le _⟩ rfl hl.1 (rest := [.int (nI ct), .ref (h 0)]) rfl (Nat.le_of_ble_eq_true rfl) d_M_recover_62 (fun r u' H locs w62 I => ?_)
      obtain ⟨rfl, rfl⟩ := w62
      refine n_iadd C.1 C.2.1 (a := ct) (b := mWF th ow s1 (6 - mr) mr) d_M_recover_65 ?_
      refine lv_iconst (v := nI 1) C.1 C.2.1 d_M_recover_66 (by decide) ?_
      refine n_iadd C.1 C.2.1 (a := ct + (mWF th ow s1 (6 - mr) mr)) (b := 1) d_M_recover_67 ?_
      refine sm_p3 C I ((ct + (mWF th ow s1 (6 - mr) mr)) + 1) rfl d_M_recover_68 (fun H locs I => ?_)
      refine lv_aload_n C.1 C.2.1 d_M_recover_71 rfl (lv_at hl 1 rfl) ?_
      refine lv_iload_n C.1 C.2.1 d_M_recover_72 rfl (lv_at hl 0 rfl) ?_
      refine lv_aload_n C.1 C.2.1 d_M_recover_73 rfl (lv_at hl 1 rfl) ?_
      refine sm_g9 C I d_M_recover_74 ?_
      refine sm_ci C I (c_M_restoreFrom l D cA h _ 0 false fu ((ct + (mWF th ow s1 (6 - mr) mr)) + 1) vo wo th ow 0 mr s1 mr (by omega) (by omega) hth how hu) lk_M83 rfl rfl ⟨by decide, by decide⟩ ⟨Nat.zero_le _, Nat.zero_le _⟩ rfl hl.1 (rest := []) rfl (Nat.le_of_ble_eq_true rfl) d_M_recover_77 (fun r u' H locs w77 I => ?_)
      obtain ⟨n1, vo1, ow1, hre, rfl, rfl⟩ := w77
      exact sm_ri (v := nI n1) C hr I (two (f := nI) (mRec_s hre)) d_M_recover_80
    · subst q34
      refine lv_iconst (v := nI 0) C.1 C.2.1 d_M_recover_37 (by decide) ?_
      exact sm_ri (v := nI 0) C hr I (two (f := nI) (mRec_z)) d_M_recover_38
set_option maxHeartbeats 4000000 in
set_option maxRecDepth 100000 in
/-- R_M.fuse -/
theorem c_M_fuse (l : Launch) (D : va_G) (cA : Nat → ClassId) (h : Nat → Nat) (sz : Nat) (co : Nat) (dn : Bool) (fu : Option Nat) (ct : Nat) (vo : (Nat → Int32)) (wo : (Nat → Int32)) (th : (Nat → Bool)) (ow : (Nat → Nat)) (ba : Nat) (mr : Nat) (x : Int32) : smMi l D cA h (co, dn, fu, ct, vo, wo, th, ow, ba, mr) sz y_M_fuse (.code y_M_fuse b_M_fuse 2 (some .boolean)) (rmL 0) [.int x] (fun r u' => r = bI (mFuse x (co, dn, fu, ct, vo, wo, th, ow, ba, mr)).1 ∧ u' = (mFuse x (co, dn, fu, ct, vo, wo, th, ow, ba, mr)).2) := by
  refine sm_mi (by decide) rfl (Nat.le_of_ble_eq_true rfl) ?_
  intro p e s m args below meth c C hr hsz I ls hl
  generalize smA cA h (co, dn, fu, ct, vo, wo, th, ow, ba, mr) sz = A at I ⊢
  have hl : lv_has ls 2 [(0, .ref (h 0)), (1, .int x)] := hl
  refine lv_aload_n C.1 C.2.1 d_M_fuse_0 rfl (lv_at hl 0 rfl) ?_
  refine lv_iconst (v := nI 0) C.1 C.2.1 d_M_fuse_1 (by decide) ?_
  refine sm_p0 C I 0 rfl d_M_fuse_2 (fun H locs I => ?_)
  refine lv_iload_n C.1 C.2.1 d_M_fuse_5 rfl (lv_at hl 1 rfl) ?_
  refine lv_iconst (v := oI none) C.1 C.2.1 d_M_fuse_6 (by decide) ?_
  refine lv_icmp_lt (x := x) (y := oI none) (tgt := 17) C.1 C.2.1 d_M_fuse_7 (by decide) (fun q7 => ?_) (fun q7 => ?_)
  · refine lv_iconst (v := nI 0) C.1 C.2.1 d_M_fuse_17 (by decide) ?_
    exact sm_rz (b := false) C hr I (two (f := bI) (mFuse_no (by first | exact Or.inl q7 | exact Or.inr q14))) d_M_fuse_18
  · refine lv_aload_n C.1 C.2.1 d_M_fuse_10 rfl (lv_at hl 0 rfl) ?_
    refine sm_g1 C I d_M_fuse_11 ?_
    refine n_ifeq (b := dn) (tgt := 19) C.1 C.2.1 d_M_fuse_14 (by decide) (fun q14 => ?_) (fun q14 => ?_)
    · subst q14
      rcases fuse_cases q7 with rfl | ⟨k, hk, rfl⟩
      · refine lv_aload_n C.1 C.2.1 d_M_fuse_19 rfl (lv_at hl 0 rfl) ?_
        refine lv_iload_n C.1 C.2.1 d_M_fuse_20 rfl (lv_at hl 1 rfl) ?_
        refine sm_p2 C I none rfl d_M_fuse_21 (fun H locs I => ?_)
        refine lv_iconst (v := nI 1) C.1 C.2.1 d_M_fuse_24 (by decide) ?_
        exact sm_rz (b := true) C hr I (two (f := bI) (mFuse_off)) d_M_fuse_25
      · refine lv_aload_n C.1 C.2.1 d_M_fuse_19 rfl (lv_at hl 0 rfl) ?_
        refine lv_iload_n C.1 C.2.1 d_M_fuse_20 rfl (lv_at hl 1 rfl) ?_
        refine sm_p2 C I (some k) rfl d_M_fuse_21 (fun H locs I => ?_)
        refine lv_iconst (v := nI 1) C.1 C.2.1 d_M_fuse_24 (by decide) ?_
        exact sm_rz (b := true) C hr I (two (f := bI) (mFuse_k hk)) d_M_fuse_25
    · refine lv_iconst (v := nI 0) C.1 C.2.1 d_M_fuse_17 (by decide) ?_
      exact sm_rz (b := false) C hr I (two (f := bI) (mFuse_no (by first | exact Or.inl q7 | exact Or.inr q14))) d_M_fuse_18
set_option maxHeartbeats 4000000 in
set_option maxRecDepth 100000 in
/-- R_M.isDown -/
theorem c_M_isDown (l : Launch) (D : va_G) (cA : Nat → ClassId) (h : Nat → Nat) (sz : Nat) (co : Nat) (dn : Bool) (fu : Option Nat) (ct : Nat) (vo : (Nat → Int32)) (wo : (Nat → Int32)) (th : (Nat → Bool)) (ow : (Nat → Nat)) (ba : Nat) (mr : Nat)  : smMi l D cA h (co, dn, fu, ct, vo, wo, th, ow, ba, mr) sz y_M_isDown (.code y_M_isDown b_M_isDown 1 (some .boolean)) (rmL 0) [] (fun r u' => r = bI dn ∧ u' = (0, dn, fu, ct, vo, wo, th, ow, ba, mr)) := by
  refine sm_mi (by decide) rfl (Nat.le_of_ble_eq_true rfl) ?_
  intro p e s m args below meth c C hr hsz I ls hl
  generalize smA cA h (co, dn, fu, ct, vo, wo, th, ow, ba, mr) sz = A at I ⊢
  have hl : lv_has ls 1 [(0, .ref (h 0))] := hl
  refine lv_aload_n C.1 C.2.1 d_M_isDown_0 rfl (lv_at hl 0 rfl) ?_
  refine lv_iconst (v := nI 0) C.1 C.2.1 d_M_isDown_1 (by decide) ?_
  refine sm_p0 C I 0 rfl d_M_isDown_2 (fun H locs I => ?_)
  refine lv_aload_n C.1 C.2.1 d_M_isDown_5 rfl (lv_at hl 0 rfl) ?_
  refine sm_g1 C I d_M_isDown_6 ?_
  exact sm_rz (b := dn) C hr I ⟨rfl, rfl⟩ d_M_isDown_9
set_option maxHeartbeats 4000000 in
set_option maxRecDepth 100000 in
/-- R_M.writes -/
theorem c_M_writes (l : Launch) (D : va_G) (cA : Nat → ClassId) (h : Nat → Nat) (sz : Nat) (co : Nat) (dn : Bool) (fu : Option Nat) (ct : Nat) (vo : (Nat → Int32)) (wo : (Nat → Int32)) (th : (Nat → Bool)) (ow : (Nat → Nat)) (ba : Nat) (mr : Nat)  : smMi l D cA h (co, dn, fu, ct, vo, wo, th, ow, ba, mr) sz y_M_writes (.code y_M_writes b_M_writes 1 (some .int)) (rmL 0) [] (fun r u' => r = nI ct ∧ u' = (0, dn, fu, ct, vo, wo, th, ow, ba, mr)) := by
  refine sm_mi (by decide) rfl (Nat.le_of_ble_eq_true rfl) ?_
  intro p e s m args below meth c C hr hsz I ls hl
  generalize smA cA h (co, dn, fu, ct, vo, wo, th, ow, ba, mr) sz = A at I ⊢
  have hl : lv_has ls 1 [(0, .ref (h 0))] := hl
  refine lv_aload_n C.1 C.2.1 d_M_writes_0 rfl (lv_at hl 0 rfl) ?_
  refine lv_iconst (v := nI 0) C.1 C.2.1 d_M_writes_1 (by decide) ?_
  refine sm_p0 C I 0 rfl d_M_writes_2 (fun H locs I => ?_)
  refine lv_aload_n C.1 C.2.1 d_M_writes_5 rfl (lv_at hl 0 rfl) ?_
  refine sm_g3 C I d_M_writes_6 ?_
  exact sm_ri (v := nI ct) C hr I ⟨rfl, rfl⟩ d_M_writes_9
set_option maxHeartbeats 4000000 in
set_option maxRecDepth 100000 in
/-- R_M.used -/
theorem c_M_used (l : Launch) (D : va_G) (cA : Nat → ClassId) (h : Nat → Nat) (sz : Nat) (co : Nat) (dn : Bool) (fu : Option Nat) (ct : Nat) (vo : (Nat → Int32)) (wo : (Nat → Int32)) (th : (Nat → Bool)) (ow : (Nat → Nat)) (ba : Nat) (mr : Nat) (how : oB th ow) : smMi l D cA h (co, dn, fu, ct, vo, wo, th, ow, ba, mr) sz y_M_used (.code y_M_used b_M_used 1 (some .int)) (rmL 1) [] (fun r u' => r = nI (mUsedC (co, dn, fu, ct, vo, wo, th, ow, ba, mr)).1 ∧ u' = (mUsedC (co, dn, fu, ct, vo, wo, th, ow, ba, mr)).2) := by
  refine sm_mi (by decide) rfl (Nat.le_of_ble_eq_true rfl) ?_
  intro p e s m args below meth c C hr hsz I ls hl
  generalize smA cA h (co, dn, fu, ct, vo, wo, th, ow, ba, mr) sz = A at I ⊢
  have hl : lv_has ls 1 [(0, .ref (h 0))] := hl
  refine lv_aload_n C.1 C.2.1 d_M_used_0 rfl (lv_at hl 0 rfl) ?_
  refine lv_aload_n C.1 C.2.1 d_M_used_1 rfl (lv_at hl 0 rfl) ?_
  refine sm_g1 C I d_M_used_2 ?_
  refine n_ifeq (b := dn) (tgt := 12) C.1 C.2.1 d_M_used_5 (by decide) (fun q5 => ?_) (fun q5 => ?_)
  · subst q5
    refine lv_iconst (v := nI 0) C.1 C.2.1 d_M_used_12 (by decide) ?_
    refine sm_p0 C I 0 rfl d_M_used_13 (fun H locs I => ?_)
    refine lv_aload_n C.1 C.2.1 d_M_used_16 rfl (lv_at hl 0 rfl) ?_
    refine sm_g0 C I d_M_used_17 ?_
    refine n_ifz_le (a := 0) (tgt := 27) C.1 C.2.1 (by omega) d_M_used_20 (by decide) (fun q20 => ?_) (fun q20 => absurd q20 (by omega))
    refine lv_aload_n C.1 C.2.1 d_M_used_27 rfl (lv_at hl 0 rfl) ?_
    refine sm_ci C I (c_M_usedCopies l D cA h _ 0 false fu ct vo wo th ow ba mr how) lk_M56 rfl rfl ⟨by decide, by decide⟩ ⟨Nat.zero_le _, Nat.zero_le _⟩ rfl hl.1 (rest := []) rfl (Nat.le_of_ble_eq_true rfl) d_M_used_28 (fun r u' H locs w28 I => ?_)
    obtain ⟨rfl, rfl⟩ := w28
    exact sm_ri (v := nI (mUsed th ow)) C hr I (two (f := nI) (rfl)) d_M_used_31
  · subst q5
    refine lv_iconst (v := nI 1) C.1 C.2.1 d_M_used_8 (by decide) ?_
    refine lv_goto (tgt := 13) C.1 C.2.1 d_M_used_9 (by decide) ?_
    refine sm_p0 C I 1 rfl d_M_used_13 (fun H locs I => ?_)
    refine lv_aload_n C.1 C.2.1 d_M_used_16 rfl (lv_at hl 0 rfl) ?_
    refine sm_g0 C I d_M_used_17 ?_
    refine n_ifz_le (a := 1) (tgt := 27) C.1 C.2.1 (by omega) d_M_used_20 (by decide) (fun q20 => absurd q20 (by omega)) (fun q20 => ?_)
    refine lv_iconst (v := nI 0) C.1 C.2.1 d_M_used_23 (by decide) ?_
    refine lv_goto (tgt := 31) C.1 C.2.1 d_M_used_24 (by decide) ?_
    exact sm_ri (v := nI 0) C hr I (two (f := nI) (rfl)) d_M_used_31
set_option maxHeartbeats 4000000 in
set_option maxRecDepth 100000 in
/-- R_M.copyOf -/
theorem c_M_copyOf (l : Launch) (D : va_G) (cA : Nat → ClassId) (h : Nat → Nat) (sz : Nat) (co : Nat) (dn : Bool) (fu : Option Nat) (ct : Nat) (vo : (Nat → Int32)) (wo : (Nat → Int32)) (th : (Nat → Bool)) (ow : (Nat → Nat)) (ba : Nat) (mr : Nat) (x y : Int32) (how : oB th ow) : smMi l D cA h (co, dn, fu, ct, vo, wo, th, ow, ba, mr) sz y_M_copyOf (.code y_M_copyOf b_M_copyOf 3 (some .int)) (rmL 2) [.int x, .int y] (fun r u' => r = oI (mCopyOf x y (co, dn, fu, ct, vo, wo, th, ow, ba, mr)).1 ∧ u' = (mCopyOf x y (co, dn, fu, ct, vo, wo, th, ow, ba, mr)).2) := by
  refine sm_mi (by decide) rfl (Nat.le_of_ble_eq_true rfl) ?_
  intro p e s m args below meth c C hr hsz I ls hl
  generalize smA cA h (co, dn, fu, ct, vo, wo, th, ow, ba, mr) sz = A at I ⊢
  have hl : lv_has ls 3 [(0, .ref (h 0)), (1, .int x), (2, .int y)] := hl
  refine lv_aload_n C.1 C.2.1 d_M_copyOf_0 rfl (lv_at hl 0 rfl) ?_
  refine lv_aload_n C.1 C.2.1 d_M_copyOf_1 rfl (lv_at hl 0 rfl) ?_
  refine sm_g1 C I d_M_copyOf_2 ?_
  refine n_ifeq (b := dn) (tgt := 12) C.1 C.2.1 d_M_copyOf_5 (by decide) (fun q5 => ?_) (fun q5 => ?_)
  · subst q5
    refine lv_aload_n C.1 C.2.1 d_M_copyOf_12 rfl (lv_at hl 0 rfl) ?_
    refine lv_iload_n C.1 C.2.1 d_M_copyOf_13 rfl (lv_at hl 1 rfl) ?_
    refine sm_ci C I (c_M_isSnapshot l D cA h _ co false fu ct vo wo th ow ba mr x) lk_M70 rfl rfl ⟨by decide, by decide⟩ ⟨Nat.zero_le _, Nat.zero_le _⟩ rfl hl.1 (rest := [.ref (h 0)]) rfl (Nat.le_of_ble_eq_true rfl) d_M_copyOf_14 (fun r u' H locs w14 I => ?_)
    obtain ⟨rfl, rfl⟩ := w14
    refine n_ifne (b := (mHasS th x).isSome) (tgt := 24) C.1 C.2.1 d_M_copyOf_17 (by decide) (fun q17 => ?_) (fun q17 => ?_)
    · obtain ⟨s1, hs1, rfl, ht1, hm1⟩ := mHasS_in q17
      refine lv_iload_n C.1 C.2.1 d_M_copyOf_24 rfl (lv_at hl 2 rfl) ?_
      refine lv_iconst (v := nI 0) C.1 C.2.1 d_M_copyOf_25 (by decide) ?_
      refine lv_iconst (v := nI 5) C.1 C.2.1 d_M_copyOf_26 (by decide) ?_
      refine sm_cs C I (c_M_within l _ y 5 (by decide)) lk_M40 rfl rfl ⟨by decide, by decide⟩ ⟨Nat.zero_le _, Nat.zero_le _⟩ rfl hl.1 (rest := [.ref (h 0)]) rfl (Nat.le_of_ble_eq_true rfl) d_M_copyOf_27 (fun r H locs w27 I => ?_)
      subst w27
      refine n_ifeq (b := (ixI y 6).isSome) (tgt := 37) C.1 C.2.1 d_M_copyOf_30 (by decide) (fun q30 => ?_) (fun q30 => ?_)
      · refine lv_iconst (v := nI 2) C.1 C.2.1 d_M_copyOf_37 (by decide) ?_
        refine sm_p0 C I 2 rfl d_M_copyOf_38 (fun H locs I => ?_)
        refine lv_aload_n C.1 C.2.1 d_M_copyOf_41 rfl (lv_at hl 0 rfl) ?_
        refine sm_g0 C I d_M_copyOf_42 ?_
        refine n_ifz_le (a := 2) (tgt := 52) C.1 C.2.1 (by omega) d_M_copyOf_45 (by decide) (fun q45 => absurd q45 (by omega)) (fun q45 => ?_)
        refine lv_iconst (v := nI 0) C.1 C.2.1 d_M_copyOf_48 (by decide) ?_
        refine lv_goto (tgt := 65) C.1 C.2.1 d_M_copyOf_49 (by decide) ?_
        exact sm_ri (v := nI 0) C hr I (two (f := oI) (mCopyOf_2 hm1 q30)) d_M_copyOf_65
      · obtain ⟨b1, hb1, rfl⟩ := isB_in q30
        refine lv_iconst (v := nI 0) C.1 C.2.1 d_M_copyOf_33 (by decide) ?_
        refine lv_goto (tgt := 38) C.1 C.2.1 d_M_copyOf_34 (by decide) ?_
        refine sm_p0 C I 0 rfl d_M_copyOf_38 (fun H locs I => ?_)
        refine lv_aload_n C.1 C.2.1 d_M_copyOf_41 rfl (lv_at hl 0 rfl) ?_
        refine sm_g0 C I d_M_copyOf_42 ?_
        refine n_ifz_le (a := 0) (tgt := 52) C.1 C.2.1 (by omega) d_M_copyOf_45 (by decide) (fun q45 => ?_) (fun q45 => absurd q45 (by omega))
        refine lv_aload_n C.1 C.2.1 d_M_copyOf_52 rfl (lv_at hl 0 rfl) ?_
        refine sm_g7 C I d_M_copyOf_53 ?_
        refine lv_bipush (v := nI 6) C.1 C.2.1 d_M_copyOf_56 (by decide) ?_
        refine lv_iload_n C.1 C.2.1 d_M_copyOf_58 rfl (lv_at hl 1 rfl) ?_
        refine n_imul C.1 C.2.1 (a := 6) (b := s1) d_M_copyOf_59 ?_
        refine lv_iload_n C.1 C.2.1 d_M_copyOf_60 rfl (lv_at hl 2 rfl) ?_
        refine n_iadd C.1 C.2.1 (a := 6 * s1) (b := b1) d_M_copyOf_61 ?_
        refine sm_l4 C I (k := (6 * s1) + b1) (by omega) d_M_copyOf_62 ?_
        rcases hoc : ow (6 * s1 + b1) with _ | c2
        · refine lv_iconst (v := nI 1) C.1 C.2.1 d_M_copyOf_63 (by decide) ?_
          refine lv_isub C.1 C.2.1 d_M_copyOf_64 ?_
          exact sm_ri (v := (nI 0 - nI 1)) C hr I (two (f := oI) (mCopyOf_0 hm1 hb1 hoc)) d_M_copyOf_65
        · refine lv_iconst (v := nI 1) C.1 C.2.1 d_M_copyOf_63 (by decide) ?_
          refine n_isub C.1 C.2.1 (a := c2 + 1) (b := 1) (by omega) d_M_copyOf_64 ?_
          exact sm_ri (v := nI ((c2 + 1) - 1)) C hr I (two (f := oI) (mCopyOf_k hm1 hb1 hoc)) d_M_copyOf_65
    · refine lv_iconst (v := nI 1) C.1 C.2.1 d_M_copyOf_20 (by decide) ?_
      refine lv_goto (tgt := 38) C.1 C.2.1 d_M_copyOf_21 (by decide) ?_
      refine sm_p0 C I 1 rfl d_M_copyOf_38 (fun H locs I => ?_)
      refine lv_aload_n C.1 C.2.1 d_M_copyOf_41 rfl (lv_at hl 0 rfl) ?_
      refine sm_g0 C I d_M_copyOf_42 ?_
      refine n_ifz_le (a := 1) (tgt := 52) C.1 C.2.1 (by omega) d_M_copyOf_45 (by decide) (fun q45 => absurd q45 (by omega)) (fun q45 => ?_)
      refine lv_iconst (v := nI 0) C.1 C.2.1 d_M_copyOf_48 (by decide) ?_
      refine lv_goto (tgt := 65) C.1 C.2.1 d_M_copyOf_49 (by decide) ?_
      exact sm_ri (v := nI 0) C hr I (two (f := oI) (mCopyOf_1 q17)) d_M_copyOf_65
  · subst q5
    refine lv_iconst (v := nI 3) C.1 C.2.1 d_M_copyOf_8 (by decide) ?_
    refine lv_goto (tgt := 38) C.1 C.2.1 d_M_copyOf_9 (by decide) ?_
    refine sm_p0 C I 3 rfl d_M_copyOf_38 (fun H locs I => ?_)
    refine lv_aload_n C.1 C.2.1 d_M_copyOf_41 rfl (lv_at hl 0 rfl) ?_
    refine sm_g0 C I d_M_copyOf_42 ?_
    refine n_ifz_le (a := 3) (tgt := 52) C.1 C.2.1 (by omega) d_M_copyOf_45 (by decide) (fun q45 => absurd q45 (by omega)) (fun q45 => ?_)
    refine lv_iconst (v := nI 0) C.1 C.2.1 d_M_copyOf_48 (by decide) ?_
    refine lv_goto (tgt := 65) C.1 C.2.1 d_M_copyOf_49 (by decide) ?_
    exact sm_ri (v := nI 0) C hr I (two (f := oI) (mCopyOf_3)) d_M_copyOf_65
set_option maxHeartbeats 4000000 in
set_option maxRecDepth 100000 in
/-- R_M.places -/
theorem c_M_places (l : Launch) (D : va_G) (cA : Nat → ClassId) (h : Nat → Nat) (sz : Nat) (co : Nat) (dn : Bool) (fu : Option Nat) (ct : Nat) (vo : (Nat → Int32)) (wo : (Nat → Int32)) (th : (Nat → Bool)) (ow : (Nat → Nat)) (ba : Nat) (mr : Nat)  : smMi l D cA h (co, dn, fu, ct, vo, wo, th, ow, ba, mr) sz y_M_places (.code y_M_places b_M_places 2 (some .int)) (rmL 0) [] (fun r u' => r = nI (mPlaces (co, dn, fu, ct, vo, wo, th, ow, ba, mr)).1 ∧ u' = (mPlaces (co, dn, fu, ct, vo, wo, th, ow, ba, mr)).2) := by
  refine sm_mi (by decide) rfl (Nat.le_of_ble_eq_true rfl) ?_
  intro p e s m args below meth c C hr hsz I ls hl
  generalize smA cA h (co, dn, fu, ct, vo, wo, th, ow, ba, mr) sz = A at I ⊢
  have hl : lv_has ls 2 [(0, .ref (h 0))] := hl
  refine lv_aload_n C.1 C.2.1 d_M_places_0 rfl (lv_at hl 0 rfl) ?_
  refine lv_aload_n C.1 C.2.1 d_M_places_1 rfl (lv_at hl 0 rfl) ?_
  refine sm_g1 C I d_M_places_2 ?_
  refine n_ifeq (b := dn) (tgt := 12) C.1 C.2.1 d_M_places_5 (by decide) (fun q5 => ?_) (fun q5 => ?_)
  · subst q5
    refine lv_iconst (v := nI 0) C.1 C.2.1 d_M_places_12 (by decide) ?_
    refine sm_p0 C I 0 rfl d_M_places_13 (fun H locs I => ?_)
    refine lv_aload_n C.1 C.2.1 d_M_places_16 rfl (lv_at hl 0 rfl) ?_
    refine sm_g6 C I d_M_places_17 ?_
    refine lv_iconst (v := nI 0) C.1 C.2.1 d_M_places_20 (by decide) ?_
    refine sm_l3 C I (k := 0) (by omega) d_M_places_21 ?_
    refine n_ifeq (b := (th 0)) (tgt := 29) C.1 C.2.1 d_M_places_22 (by decide) (fun q22 => ?_) (fun q22 => ?_)
    · refine lv_iconst (v := nI 0) C.1 C.2.1 d_M_places_29 (by decide) ?_
      refine lv_aload_n C.1 C.2.1 d_M_places_30 rfl (lv_at hl 0 rfl) ?_
      refine sm_g6 C I d_M_places_31 ?_
      refine lv_iconst (v := nI 1) C.1 C.2.1 d_M_places_34 (by decide) ?_
      refine sm_l3 C I (k := 1) (by omega) d_M_places_35 ?_
      refine n_ifeq (b := (th 1)) (tgt := 43) C.1 C.2.1 d_M_places_36 (by decide) (fun q36 => ?_) (fun q36 => ?_)
      · refine lv_iconst (v := nI 0) C.1 C.2.1 d_M_places_43 (by decide) ?_
        refine n_iadd C.1 C.2.1 (a := 0) (b := 0) d_M_places_44 ?_
        refine lv_aload_n C.1 C.2.1 d_M_places_45 rfl (lv_at hl 0 rfl) ?_
        refine sm_g6 C I d_M_places_46 ?_
        refine lv_iconst (v := nI 2) C.1 C.2.1 d_M_places_49 (by decide) ?_
        refine sm_l3 C I (k := 2) (by omega) d_M_places_50 ?_
        refine n_ifeq (b := (th 2)) (tgt := 58) C.1 C.2.1 d_M_places_51 (by decide) (fun q51 => ?_) (fun q51 => ?_)
        · refine lv_iconst (v := nI 0) C.1 C.2.1 d_M_places_58 (by decide) ?_
          refine n_iadd C.1 C.2.1 (a := 0 + 0) (b := 0) d_M_places_59 ?_
          refine lv_istore_n (lv' := [(1, .int (nI ((0 + 0) + 0))), (0, .ref (h 0))]) C.1 C.2.1 d_M_places_60 rfl hl (by decide) rfl (fun ls hl => ?_)
          refine lv_aload_n C.1 C.2.1 d_M_places_61 rfl (lv_at hl 1 rfl) ?_
          refine sm_g0 C I d_M_places_62 ?_
          refine n_ifz_le (a := 0) (tgt := 72) C.1 C.2.1 (by omega) d_M_places_65 (by decide) (fun q65 => ?_) (fun q65 => absurd q65 (by omega))
          refine lv_iload_n C.1 C.2.1 d_M_places_72 rfl (lv_at hl 0 rfl) ?_
          exact sm_ri (v := nI ((0 + 0) + 0)) C hr I (two (f := nI) (mPlaces_0 q22 q36 q51)) d_M_places_73
        · refine lv_iconst (v := nI 4) C.1 C.2.1 d_M_places_54 (by decide) ?_
          refine lv_goto (tgt := 59) C.1 C.2.1 d_M_places_55 (by decide) ?_
          refine n_iadd C.1 C.2.1 (a := 0 + 0) (b := 4) d_M_places_59 ?_
          refine lv_istore_n (lv' := [(1, .int (nI ((0 + 0) + 4))), (0, .ref (h 0))]) C.1 C.2.1 d_M_places_60 rfl hl (by decide) rfl (fun ls hl => ?_)
          refine lv_aload_n C.1 C.2.1 d_M_places_61 rfl (lv_at hl 1 rfl) ?_
          refine sm_g0 C I d_M_places_62 ?_
          refine n_ifz_le (a := 0) (tgt := 72) C.1 C.2.1 (by omega) d_M_places_65 (by decide) (fun q65 => ?_) (fun q65 => absurd q65 (by omega))
          refine lv_iload_n C.1 C.2.1 d_M_places_72 rfl (lv_at hl 0 rfl) ?_
          exact sm_ri (v := nI ((0 + 0) + 4)) C hr I (two (f := nI) (mPlaces_0 q22 q36 q51)) d_M_places_73
      · refine lv_iconst (v := nI 2) C.1 C.2.1 d_M_places_39 (by decide) ?_
        refine lv_goto (tgt := 44) C.1 C.2.1 d_M_places_40 (by decide) ?_
        refine n_iadd C.1 C.2.1 (a := 0) (b := 2) d_M_places_44 ?_
        refine lv_aload_n C.1 C.2.1 d_M_places_45 rfl (lv_at hl 0 rfl) ?_
        refine sm_g6 C I d_M_places_46 ?_
        refine lv_iconst (v := nI 2) C.1 C.2.1 d_M_places_49 (by decide) ?_
        refine sm_l3 C I (k := 2) (by omega) d_M_places_50 ?_
        refine n_ifeq (b := (th 2)) (tgt := 58) C.1 C.2.1 d_M_places_51 (by decide) (fun q51 => ?_) (fun q51 => ?_)
        · refine lv_iconst (v := nI 0) C.1 C.2.1 d_M_places_58 (by decide) ?_
          refine n_iadd C.1 C.2.1 (a := 0 + 2) (b := 0) d_M_places_59 ?_
          refine lv_istore_n (lv' := [(1, .int (nI ((0 + 2) + 0))), (0, .ref (h 0))]) C.1 C.2.1 d_M_places_60 rfl hl (by decide) rfl (fun ls hl => ?_)
          refine lv_aload_n C.1 C.2.1 d_M_places_61 rfl (lv_at hl 1 rfl) ?_
          refine sm_g0 C I d_M_places_62 ?_
          refine n_ifz_le (a := 0) (tgt := 72) C.1 C.2.1 (by omega) d_M_places_65 (by decide) (fun q65 => ?_) (fun q65 => absurd q65 (by omega))
          refine lv_iload_n C.1 C.2.1 d_M_places_72 rfl (lv_at hl 0 rfl) ?_
          exact sm_ri (v := nI ((0 + 2) + 0)) C hr I (two (f := nI) (mPlaces_0 q22 q36 q51)) d_M_places_73
        · refine lv_iconst (v := nI 4) C.1 C.2.1 d_M_places_54 (by decide) ?_
          refine lv_goto (tgt := 59) C.1 C.2.1 d_M_places_55 (by decide) ?_
          refine n_iadd C.1 C.2.1 (a := 0 + 2) (b := 4) d_M_places_59 ?_
          refine lv_istore_n (lv' := [(1, .int (nI ((0 + 2) + 4))), (0, .ref (h 0))]) C.1 C.2.1 d_M_places_60 rfl hl (by decide) rfl (fun ls hl => ?_)
          refine lv_aload_n C.1 C.2.1 d_M_places_61 rfl (lv_at hl 1 rfl) ?_
          refine sm_g0 C I d_M_places_62 ?_
          refine n_ifz_le (a := 0) (tgt := 72) C.1 C.2.1 (by omega) d_M_places_65 (by decide) (fun q65 => ?_) (fun q65 => absurd q65 (by omega))
          refine lv_iload_n C.1 C.2.1 d_M_places_72 rfl (lv_at hl 0 rfl) ?_
          exact sm_ri (v := nI ((0 + 2) + 4)) C hr I (two (f := nI) (mPlaces_0 q22 q36 q51)) d_M_places_73
    · refine lv_iconst (v := nI 1) C.1 C.2.1 d_M_places_25 (by decide) ?_
      refine lv_goto (tgt := 30) C.1 C.2.1 d_M_places_26 (by decide) ?_
      refine lv_aload_n C.1 C.2.1 d_M_places_30 rfl (lv_at hl 0 rfl) ?_
      refine sm_g6 C I d_M_places_31 ?_
      refine lv_iconst (v := nI 1) C.1 C.2.1 d_M_places_34 (by decide) ?_
      refine sm_l3 C I (k := 1) (by omega) d_M_places_35 ?_
      refine n_ifeq (b := (th 1)) (tgt := 43) C.1 C.2.1 d_M_places_36 (by decide) (fun q36 => ?_) (fun q36 => ?_)
      · refine lv_iconst (v := nI 0) C.1 C.2.1 d_M_places_43 (by decide) ?_
        refine n_iadd C.1 C.2.1 (a := 1) (b := 0) d_M_places_44 ?_
        refine lv_aload_n C.1 C.2.1 d_M_places_45 rfl (lv_at hl 0 rfl) ?_
        refine sm_g6 C I d_M_places_46 ?_
        refine lv_iconst (v := nI 2) C.1 C.2.1 d_M_places_49 (by decide) ?_
        refine sm_l3 C I (k := 2) (by omega) d_M_places_50 ?_
        refine n_ifeq (b := (th 2)) (tgt := 58) C.1 C.2.1 d_M_places_51 (by decide) (fun q51 => ?_) (fun q51 => ?_)
        · refine lv_iconst (v := nI 0) C.1 C.2.1 d_M_places_58 (by decide) ?_
          refine n_iadd C.1 C.2.1 (a := 1 + 0) (b := 0) d_M_places_59 ?_
          refine lv_istore_n (lv' := [(1, .int (nI ((1 + 0) + 0))), (0, .ref (h 0))]) C.1 C.2.1 d_M_places_60 rfl hl (by decide) rfl (fun ls hl => ?_)
          refine lv_aload_n C.1 C.2.1 d_M_places_61 rfl (lv_at hl 1 rfl) ?_
          refine sm_g0 C I d_M_places_62 ?_
          refine n_ifz_le (a := 0) (tgt := 72) C.1 C.2.1 (by omega) d_M_places_65 (by decide) (fun q65 => ?_) (fun q65 => absurd q65 (by omega))
          refine lv_iload_n C.1 C.2.1 d_M_places_72 rfl (lv_at hl 0 rfl) ?_
          exact sm_ri (v := nI ((1 + 0) + 0)) C hr I (two (f := nI) (mPlaces_0 q22 q36 q51)) d_M_places_73
        · refine lv_iconst (v := nI 4) C.1 C.2.1 d_M_places_54 (by decide) ?_
          refine lv_goto (tgt := 59) C.1 C.2.1 d_M_places_55 (by decide) ?_
          refine n_iadd C.1 C.2.1 (a := 1 + 0) (b := 4) d_M_places_59 ?_
          refine lv_istore_n (lv' := [(1, .int (nI ((1 + 0) + 4))), (0, .ref (h 0))]) C.1 C.2.1 d_M_places_60 rfl hl (by decide) rfl (fun ls hl => ?_)
          refine lv_aload_n C.1 C.2.1 d_M_places_61 rfl (lv_at hl 1 rfl) ?_
          refine sm_g0 C I d_M_places_62 ?_
          refine n_ifz_le (a := 0) (tgt := 72) C.1 C.2.1 (by omega) d_M_places_65 (by decide) (fun q65 => ?_) (fun q65 => absurd q65 (by omega))
          refine lv_iload_n C.1 C.2.1 d_M_places_72 rfl (lv_at hl 0 rfl) ?_
          exact sm_ri (v := nI ((1 + 0) + 4)) C hr I (two (f := nI) (mPlaces_0 q22 q36 q51)) d_M_places_73
      · refine lv_iconst (v := nI 2) C.1 C.2.1 d_M_places_39 (by decide) ?_
        refine lv_goto (tgt := 44) C.1 C.2.1 d_M_places_40 (by decide) ?_
        refine n_iadd C.1 C.2.1 (a := 1) (b := 2) d_M_places_44 ?_
        refine lv_aload_n C.1 C.2.1 d_M_places_45 rfl (lv_at hl 0 rfl) ?_
        refine sm_g6 C I d_M_places_46 ?_
        refine lv_iconst (v := nI 2) C.1 C.2.1 d_M_places_49 (by decide) ?_
        refine sm_l3 C I (k := 2) (by omega) d_M_places_50 ?_
        refine n_ifeq (b := (th 2)) (tgt := 58) C.1 C.2.1 d_M_places_51 (by decide) (fun q51 => ?_) (fun q51 => ?_)
        · refine lv_iconst (v := nI 0) C.1 C.2.1 d_M_places_58 (by decide) ?_
          refine n_iadd C.1 C.2.1 (a := 1 + 2) (b := 0) d_M_places_59 ?_
          refine lv_istore_n (lv' := [(1, .int (nI ((1 + 2) + 0))), (0, .ref (h 0))]) C.1 C.2.1 d_M_places_60 rfl hl (by decide) rfl (fun ls hl => ?_)
          refine lv_aload_n C.1 C.2.1 d_M_places_61 rfl (lv_at hl 1 rfl) ?_
          refine sm_g0 C I d_M_places_62 ?_
          refine n_ifz_le (a := 0) (tgt := 72) C.1 C.2.1 (by omega) d_M_places_65 (by decide) (fun q65 => ?_) (fun q65 => absurd q65 (by omega))
          refine lv_iload_n C.1 C.2.1 d_M_places_72 rfl (lv_at hl 0 rfl) ?_
          exact sm_ri (v := nI ((1 + 2) + 0)) C hr I (two (f := nI) (mPlaces_0 q22 q36 q51)) d_M_places_73
        · refine lv_iconst (v := nI 4) C.1 C.2.1 d_M_places_54 (by decide) ?_
          refine lv_goto (tgt := 59) C.1 C.2.1 d_M_places_55 (by decide) ?_
          refine n_iadd C.1 C.2.1 (a := 1 + 2) (b := 4) d_M_places_59 ?_
          refine lv_istore_n (lv' := [(1, .int (nI ((1 + 2) + 4))), (0, .ref (h 0))]) C.1 C.2.1 d_M_places_60 rfl hl (by decide) rfl (fun ls hl => ?_)
          refine lv_aload_n C.1 C.2.1 d_M_places_61 rfl (lv_at hl 1 rfl) ?_
          refine sm_g0 C I d_M_places_62 ?_
          refine n_ifz_le (a := 0) (tgt := 72) C.1 C.2.1 (by omega) d_M_places_65 (by decide) (fun q65 => ?_) (fun q65 => absurd q65 (by omega))
          refine lv_iload_n C.1 C.2.1 d_M_places_72 rfl (lv_at hl 0 rfl) ?_
          exact sm_ri (v := nI ((1 + 2) + 4)) C hr I (two (f := nI) (mPlaces_0 q22 q36 q51)) d_M_places_73
  · subst q5
    refine lv_iconst (v := nI 1) C.1 C.2.1 d_M_places_8 (by decide) ?_
    refine lv_goto (tgt := 13) C.1 C.2.1 d_M_places_9 (by decide) ?_
    refine sm_p0 C I 1 rfl d_M_places_13 (fun H locs I => ?_)
    refine lv_aload_n C.1 C.2.1 d_M_places_16 rfl (lv_at hl 0 rfl) ?_
    refine sm_g6 C I d_M_places_17 ?_
    refine lv_iconst (v := nI 0) C.1 C.2.1 d_M_places_20 (by decide) ?_
    refine sm_l3 C I (k := 0) (by omega) d_M_places_21 ?_
    refine n_ifeq (b := (th 0)) (tgt := 29) C.1 C.2.1 d_M_places_22 (by decide) (fun q22 => ?_) (fun q22 => ?_)
    · refine lv_iconst (v := nI 0) C.1 C.2.1 d_M_places_29 (by decide) ?_
      refine lv_aload_n C.1 C.2.1 d_M_places_30 rfl (lv_at hl 0 rfl) ?_
      refine sm_g6 C I d_M_places_31 ?_
      refine lv_iconst (v := nI 1) C.1 C.2.1 d_M_places_34 (by decide) ?_
      refine sm_l3 C I (k := 1) (by omega) d_M_places_35 ?_
      refine n_ifeq (b := (th 1)) (tgt := 43) C.1 C.2.1 d_M_places_36 (by decide) (fun q36 => ?_) (fun q36 => ?_)
      · refine lv_iconst (v := nI 0) C.1 C.2.1 d_M_places_43 (by decide) ?_
        refine n_iadd C.1 C.2.1 (a := 0) (b := 0) d_M_places_44 ?_
        refine lv_aload_n C.1 C.2.1 d_M_places_45 rfl (lv_at hl 0 rfl) ?_
        refine sm_g6 C I d_M_places_46 ?_
        refine lv_iconst (v := nI 2) C.1 C.2.1 d_M_places_49 (by decide) ?_
        refine sm_l3 C I (k := 2) (by omega) d_M_places_50 ?_
        refine n_ifeq (b := (th 2)) (tgt := 58) C.1 C.2.1 d_M_places_51 (by decide) (fun q51 => ?_) (fun q51 => ?_)
        · refine lv_iconst (v := nI 0) C.1 C.2.1 d_M_places_58 (by decide) ?_
          refine n_iadd C.1 C.2.1 (a := 0 + 0) (b := 0) d_M_places_59 ?_
          refine lv_istore_n (lv' := [(1, .int (nI ((0 + 0) + 0))), (0, .ref (h 0))]) C.1 C.2.1 d_M_places_60 rfl hl (by decide) rfl (fun ls hl => ?_)
          refine lv_aload_n C.1 C.2.1 d_M_places_61 rfl (lv_at hl 1 rfl) ?_
          refine sm_g0 C I d_M_places_62 ?_
          refine n_ifz_le (a := 1) (tgt := 72) C.1 C.2.1 (by omega) d_M_places_65 (by decide) (fun q65 => absurd q65 (by omega)) (fun q65 => ?_)
          refine lv_iconst (v := nI 0) C.1 C.2.1 d_M_places_68 (by decide) ?_
          refine lv_goto (tgt := 73) C.1 C.2.1 d_M_places_69 (by decide) ?_
          exact sm_ri (v := nI 0) C hr I (two (f := nI) (rfl)) d_M_places_73
        · refine lv_iconst (v := nI 4) C.1 C.2.1 d_M_places_54 (by decide) ?_
          refine lv_goto (tgt := 59) C.1 C.2.1 d_M_places_55 (by decide) ?_
          refine n_iadd C.1 C.2.1 (a := 0 + 0) (b := 4) d_M_places_59 ?_
          refine lv_istore_n (lv' := [(1, .int (nI ((0 + 0) + 4))), (0, .ref (h 0))]) C.1 C.2.1 d_M_places_60 rfl hl (by decide) rfl (fun ls hl => ?_)
          refine lv_aload_n C.1 C.2.1 d_M_places_61 rfl (lv_at hl 1 rfl) ?_
          refine sm_g0 C I d_M_places_62 ?_
          refine n_ifz_le (a := 1) (tgt := 72) C.1 C.2.1 (by omega) d_M_places_65 (by decide) (fun q65 => absurd q65 (by omega)) (fun q65 => ?_)
          refine lv_iconst (v := nI 0) C.1 C.2.1 d_M_places_68 (by decide) ?_
          refine lv_goto (tgt := 73) C.1 C.2.1 d_M_places_69 (by decide) ?_
          exact sm_ri (v := nI 0) C hr I (two (f := nI) (rfl)) d_M_places_73
      · refine lv_iconst (v := nI 2) C.1 C.2.1 d_M_places_39 (by decide) ?_
        refine lv_goto (tgt := 44) C.1 C.2.1 d_M_places_40 (by decide) ?_
        refine n_iadd C.1 C.2.1 (a := 0) (b := 2) d_M_places_44 ?_
        refine lv_aload_n C.1 C.2.1 d_M_places_45 rfl (lv_at hl 0 rfl) ?_
        refine sm_g6 C I d_M_places_46 ?_
        refine lv_iconst (v := nI 2) C.1 C.2.1 d_M_places_49 (by decide) ?_
        refine sm_l3 C I (k := 2) (by omega) d_M_places_50 ?_
        refine n_ifeq (b := (th 2)) (tgt := 58) C.1 C.2.1 d_M_places_51 (by decide) (fun q51 => ?_) (fun q51 => ?_)
        · refine lv_iconst (v := nI 0) C.1 C.2.1 d_M_places_58 (by decide) ?_
          refine n_iadd C.1 C.2.1 (a := 0 + 2) (b := 0) d_M_places_59 ?_
          refine lv_istore_n (lv' := [(1, .int (nI ((0 + 2) + 0))), (0, .ref (h 0))]) C.1 C.2.1 d_M_places_60 rfl hl (by decide) rfl (fun ls hl => ?_)
          refine lv_aload_n C.1 C.2.1 d_M_places_61 rfl (lv_at hl 1 rfl) ?_
          refine sm_g0 C I d_M_places_62 ?_
          refine n_ifz_le (a := 1) (tgt := 72) C.1 C.2.1 (by omega) d_M_places_65 (by decide) (fun q65 => absurd q65 (by omega)) (fun q65 => ?_)
          refine lv_iconst (v := nI 0) C.1 C.2.1 d_M_places_68 (by decide) ?_
          refine lv_goto (tgt := 73) C.1 C.2.1 d_M_places_69 (by decide) ?_
          exact sm_ri (v := nI 0) C hr I (two (f := nI) (rfl)) d_M_places_73
        · refine lv_iconst (v := nI 4) C.1 C.2.1 d_M_places_54 (by decide) ?_
          refine lv_goto (tgt := 59) C.1 C.2.1 d_M_places_55 (by decide) ?_
          refine n_iadd C.1 C.2.1 (a := 0 + 2) (b := 4) d_M_places_59 ?_
          refine lv_istore_n (lv' := [(1, .int (nI ((0 + 2) + 4))), (0, .ref (h 0))]) C.1 C.2.1 d_M_places_60 rfl hl (by decide) rfl (fun ls hl => ?_)
          refine lv_aload_n C.1 C.2.1 d_M_places_61 rfl (lv_at hl 1 rfl) ?_
          refine sm_g0 C I d_M_places_62 ?_
          refine n_ifz_le (a := 1) (tgt := 72) C.1 C.2.1 (by omega) d_M_places_65 (by decide) (fun q65 => absurd q65 (by omega)) (fun q65 => ?_)
          refine lv_iconst (v := nI 0) C.1 C.2.1 d_M_places_68 (by decide) ?_
          refine lv_goto (tgt := 73) C.1 C.2.1 d_M_places_69 (by decide) ?_
          exact sm_ri (v := nI 0) C hr I (two (f := nI) (rfl)) d_M_places_73
    · refine lv_iconst (v := nI 1) C.1 C.2.1 d_M_places_25 (by decide) ?_
      refine lv_goto (tgt := 30) C.1 C.2.1 d_M_places_26 (by decide) ?_
      refine lv_aload_n C.1 C.2.1 d_M_places_30 rfl (lv_at hl 0 rfl) ?_
      refine sm_g6 C I d_M_places_31 ?_
      refine lv_iconst (v := nI 1) C.1 C.2.1 d_M_places_34 (by decide) ?_
      refine sm_l3 C I (k := 1) (by omega) d_M_places_35 ?_
      refine n_ifeq (b := (th 1)) (tgt := 43) C.1 C.2.1 d_M_places_36 (by decide) (fun q36 => ?_) (fun q36 => ?_)
      · refine lv_iconst (v := nI 0) C.1 C.2.1 d_M_places_43 (by decide) ?_
        refine n_iadd C.1 C.2.1 (a := 1) (b := 0) d_M_places_44 ?_
        refine lv_aload_n C.1 C.2.1 d_M_places_45 rfl (lv_at hl 0 rfl) ?_
        refine sm_g6 C I d_M_places_46 ?_
        refine lv_iconst (v := nI 2) C.1 C.2.1 d_M_places_49 (by decide) ?_
        refine sm_l3 C I (k := 2) (by omega) d_M_places_50 ?_
        refine n_ifeq (b := (th 2)) (tgt := 58) C.1 C.2.1 d_M_places_51 (by decide) (fun q51 => ?_) (fun q51 => ?_)
        · refine lv_iconst (v := nI 0) C.1 C.2.1 d_M_places_58 (by decide) ?_
          refine n_iadd C.1 C.2.1 (a := 1 + 0) (b := 0) d_M_places_59 ?_
          refine lv_istore_n (lv' := [(1, .int (nI ((1 + 0) + 0))), (0, .ref (h 0))]) C.1 C.2.1 d_M_places_60 rfl hl (by decide) rfl (fun ls hl => ?_)
          refine lv_aload_n C.1 C.2.1 d_M_places_61 rfl (lv_at hl 1 rfl) ?_
          refine sm_g0 C I d_M_places_62 ?_
          refine n_ifz_le (a := 1) (tgt := 72) C.1 C.2.1 (by omega) d_M_places_65 (by decide) (fun q65 => absurd q65 (by omega)) (fun q65 => ?_)
          refine lv_iconst (v := nI 0) C.1 C.2.1 d_M_places_68 (by decide) ?_
          refine lv_goto (tgt := 73) C.1 C.2.1 d_M_places_69 (by decide) ?_
          exact sm_ri (v := nI 0) C hr I (two (f := nI) (rfl)) d_M_places_73
        · refine lv_iconst (v := nI 4) C.1 C.2.1 d_M_places_54 (by decide) ?_
          refine lv_goto (tgt := 59) C.1 C.2.1 d_M_places_55 (by decide) ?_
          refine n_iadd C.1 C.2.1 (a := 1 + 0) (b := 4) d_M_places_59 ?_
          refine lv_istore_n (lv' := [(1, .int (nI ((1 + 0) + 4))), (0, .ref (h 0))]) C.1 C.2.1 d_M_places_60 rfl hl (by decide) rfl (fun ls hl => ?_)
          refine lv_aload_n C.1 C.2.1 d_M_places_61 rfl (lv_at hl 1 rfl) ?_
          refine sm_g0 C I d_M_places_62 ?_
          refine n_ifz_le (a := 1) (tgt := 72) C.1 C.2.1 (by omega) d_M_places_65 (by decide) (fun q65 => absurd q65 (by omega)) (fun q65 => ?_)
          refine lv_iconst (v := nI 0) C.1 C.2.1 d_M_places_68 (by decide) ?_
          refine lv_goto (tgt := 73) C.1 C.2.1 d_M_places_69 (by decide) ?_
          exact sm_ri (v := nI 0) C hr I (two (f := nI) (rfl)) d_M_places_73
      · refine lv_iconst (v := nI 2) C.1 C.2.1 d_M_places_39 (by decide) ?_
        refine lv_goto (tgt := 44) C.1 C.2.1 d_M_places_40 (by decide) ?_
        refine n_iadd C.1 C.2.1 (a := 1) (b := 2) d_M_places_44 ?_
        refine lv_aload_n C.1 C.2.1 d_M_places_45 rfl (lv_at hl 0 rfl) ?_
        refine sm_g6 C I d_M_places_46 ?_
        refine lv_iconst (v := nI 2) C.1 C.2.1 d_M_places_49 (by decide) ?_
        refine sm_l3 C I (k := 2) (by omega) d_M_places_50 ?_
        refine n_ifeq (b := (th 2)) (tgt := 58) C.1 C.2.1 d_M_places_51 (by decide) (fun q51 => ?_) (fun q51 => ?_)
        · refine lv_iconst (v := nI 0) C.1 C.2.1 d_M_places_58 (by decide) ?_
          refine n_iadd C.1 C.2.1 (a := 1 + 2) (b := 0) d_M_places_59 ?_
          refine lv_istore_n (lv' := [(1, .int (nI ((1 + 2) + 0))), (0, .ref (h 0))]) C.1 C.2.1 d_M_places_60 rfl hl (by decide) rfl (fun ls hl => ?_)
          refine lv_aload_n C.1 C.2.1 d_M_places_61 rfl (lv_at hl 1 rfl) ?_
          refine sm_g0 C I d_M_places_62 ?_
          refine n_ifz_le (a := 1) (tgt := 72) C.1 C.2.1 (by omega) d_M_places_65 (by decide) (fun q65 => absurd q65 (by omega)) (fun q65 => ?_)
          refine lv_iconst (v := nI 0) C.1 C.2.1 d_M_places_68 (by decide) ?_
          refine lv_goto (tgt := 73) C.1 C.2.1 d_M_places_69 (by decide) ?_
          exact sm_ri (v := nI 0) C hr I (two (f := nI) (rfl)) d_M_places_73
        · refine lv_iconst (v := nI 4) C.1 C.2.1 d_M_places_54 (by decide) ?_
          refine lv_goto (tgt := 59) C.1 C.2.1 d_M_places_55 (by decide) ?_
          refine n_iadd C.1 C.2.1 (a := 1 + 2) (b := 4) d_M_places_59 ?_
          refine lv_istore_n (lv' := [(1, .int (nI ((1 + 2) + 4))), (0, .ref (h 0))]) C.1 C.2.1 d_M_places_60 rfl hl (by decide) rfl (fun ls hl => ?_)
          refine lv_aload_n C.1 C.2.1 d_M_places_61 rfl (lv_at hl 1 rfl) ?_
          refine sm_g0 C I d_M_places_62 ?_
          refine n_ifz_le (a := 1) (tgt := 72) C.1 C.2.1 (by omega) d_M_places_65 (by decide) (fun q65 => absurd q65 (by omega)) (fun q65 => ?_)
          refine lv_iconst (v := nI 0) C.1 C.2.1 d_M_places_68 (by decide) ?_
          refine lv_goto (tgt := 73) C.1 C.2.1 d_M_places_69 (by decide) ?_
          exact sm_ri (v := nI 0) C hr I (two (f := nI) (rfl)) d_M_places_73
