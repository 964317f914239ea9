theorem lw_67 : lkW R_L 67 y_L_write b_L_write 6 (some .int) [(0, 12, 15, 13), (0, 12, 19, 15), (0, 12, 23, 17)] 5 := ⟨wg_i (by decide +kernel), wg_i (by decide +kernel), wg_i (by decide +kernel), wg_i (by decide +kernel), by decide +kernel⟩
theorem lw_76 : lkW R_L 76 y_L_read b_L_read 5 (some .int) [(0, 10, 13, 13), (0, 10, 17, 17)] 4 := ⟨wg_i (by decide +kernel), wg_i (by decide +kernel), wg_i (by decide +kernel), wg_i (by decide +kernel), by decide +kernel⟩
theorem lw_80 : lkW R_L 80 y_L_snapshot b_L_snapshot 3 (some .int) [(0, 8, 11, 15), (0, 8, 14, 17)] 2 := ⟨wg_i (by decide +kernel), wg_i (by decide +kernel), wg_i (by decide +kernel), wg_i (by decide +kernel), by decide +kernel⟩
theorem lw_84 : lkW R_L 84 y_L_drop b_L_drop 3 (some .int) [(0, 5, 8, 31), (0, 5, 11, 17)] 2 := ⟨wg_i (by decide +kernel), wg_i (by decide +kernel), wg_i (by decide +kernel), wg_i (by decide +kernel), by decide +kernel⟩
theorem lw_88 : lkW R_L 88 y_L_readSnapshot b_L_readSnapshot 6 (some .int) [(0, 12, 15, 31), (0, 12, 19, 13), (0, 12, 23, 17)] 5 := ⟨wg_i (by decide +kernel), wg_i (by decide +kernel), wg_i (by decide +kernel), wg_i (by decide +kernel), by decide +kernel⟩
theorem lw_91 : lkW R_L 91 y_L_writeSnapshot b_L_writeSnapshot 7 (some .int) [(0, 21, 24, 31), (0, 21, 28, 13), (0, 21, 32, 15), (0, 21, 36, 17)] 6 := ⟨wg_i (by decide +kernel), wg_i (by decide +kernel), wg_i (by decide +kernel), wg_i (by decide +kernel), by decide +kernel⟩
theorem lw_95 : lkW R_L 95 y_L_rollback b_L_rollback 4 (some .int) [(0, 9, 12, 31), (0, 9, 15, 15), (0, 9, 18, 17)] 3 := ⟨wg_i (by decide +kernel), wg_i (by decide +kernel), wg_i (by decide +kernel), wg_i (by decide +kernel), by decide +kernel⟩
theorem lw_104 : lkW R_L 104 y_L_recover b_L_recover 3 (some .int) [(0, 8, 11, 15)] 2 := ⟨wg_i (by decide +kernel), wg_i (by decide +kernel), wg_i (by decide +kernel), wg_i (by decide +kernel), by decide +kernel⟩
theorem lw_116 : lkW R_L 116 y_L_used b_L_used 3 (some .int) [(0, 8, 11, 17)] 2 := ⟨wg_i (by decide +kernel), wg_i (by decide +kernel), wg_i (by decide +kernel), wg_i (by decide +kernel), by decide +kernel⟩
theorem lw_119 : lkW R_L 119 y_L_copyOf b_L_copyOf 5 (some .int) [(0, 10, 13, 31), (0, 10, 17, 13), (0, 10, 21, 17)] 4 := ⟨wg_i (by decide +kernel), wg_i (by decide +kernel), wg_i (by decide +kernel), wg_i (by decide +kernel), by decide +kernel⟩
theorem lw_122 : lkW R_L 122 y_L_places b_L_places 3 (some .int) [(0, 8, 11, 17)] 2 := ⟨wg_i (by decide +kernel), wg_i (by decide +kernel), wg_i (by decide +kernel), wg_i (by decide +kernel), by decide +kernel⟩
theorem lw_125 : lkW R_L 125 y_L_changed b_L_changed 4 (some .int) [(0, 9, 12, 31), (0, 9, 15, 17)] 3 := ⟨wg_i (by decide +kernel), wg_i (by decide +kernel), wg_i (by decide +kernel), wg_i (by decide +kernel), by decide +kernel⟩
set_option maxHeartbeats 4000000 in
set_option maxRecDepth 100000 in
theorem arm_format {p : Program} {l : Launch} {e : Env} {s : State} {m : MethodId} {below : List Frame} {meth : Method} {c : Code} {H : Heap} {locs : List Loc} {cells slots : Nat} {Q : State → Prop} {D : va_G} {cA : Nat → ClassId} {hS hM : Nat → Nat} {qo b L i N : Nat} {f : Nat → Int64} {xs : Nat → Int32} {ls : Array Slot} {bw : (Nat → Int32)} {cw : (Nat → Int32)} {ts : (Nat → Int32)} {tb : (Nat → Int32)} {st : (Nat → Int32)} {ro : Nat} {mr : Nat} {la : Nat} {fu : Option Nat} {dn : Bool} {wr : Nat} {co : Nat} {dm : Bool} {fm : Option Nat} {ct : Nat} {vo : (Nat → Int32)} {wo : (Nat → Int32)} {th : (Nat → Bool)} {ow : (Nat → Nat)} {ba : Nat} {mm : Nat} (C : gC p s m #[.ref b] meth c b_L_law 7 R_L) (G : gL l s) (hX : va_X b L xs s s.heap) (hbl : b < s.heap.size) (hL : L ≤ 2560) (hi : i + 5 ≤ L) (hN : N + 1 < 2 ^ 30) (hc : cells + 1 ≤ 1044 ∧ slots + 6 ≤ 8460) (hR : Rel N (bw, cw, ts, tb, st, ro, mr, la, fu, dn, wr) (co, dm, fm, ct, vo, wo, th, ow, ba, mm)) (I : lI D cA s hS hM qo f (bw, cw, ts, tb, st, ro, mr, la, fu, dn, wr) (co, dm, fm, ct, vo, wo, th, ow, ba, mm) H locs) (hl : lv_has ls 7 [(0, .ref b), (1, .ref (hS 0)), (2, .ref (hM 0)), (3, .ref qo), (4, .int (nI i))])
    (kk : ∀ (f : Nat → Int64) (u : SV) (w : SM) (H : Heap) (locs : List Loc) (ls : Array Slot), Rel (N + 1) u w → lI D cA s hS hM qo f u w H locs → lv_has ls 7 [(0, .ref b), (1, .ref (hS 0)), (2, .ref (hM 0)), (3, .ref qo), (4, .int (nI i))] → W p l e room_1 s m #[.ref b] below meth c H locs (cells + 1) (slots + 6) Q (F0 m 897 ls [])) : W p l e room_1 s m #[.ref b] below meth c H locs cells slots Q (F0 m 116 ls []) := by
  obtain ⟨hfu, hfm, how, hus, hba, hb31, hmr, hro, hdf, hdn, hct⟩ := rel_f hR
  refine lv_aload_n C.1 C.2.1 d_L_law_116 rfl (lv_at hl 1 rfl) ?_
  refine ll_sv C I (c_S_format l D cA hS _ bw cw ts tb st ro mr la fu dn wr) lk_L63 rfl rfl ⟨by decide, by decide⟩ ⟨by show cells ≤ 1044; omega, by show slots ≤ 8460; omega⟩ rfl hl.1 (rest := []) rfl (Nat.le_of_ble_eq_true rfl) d_L_law_117 (fun u1 H locs w1 I => ?_)
  refine lv_aload_n C.1 C.2.1 d_L_law_120 rfl (lv_at hl 2 rfl) ?_
  refine ll_mv C I (c_M_format l D cA hM _ co dm fm ct vo wo th ow ba mm) lk_L66 rfl rfl ⟨by decide, by decide⟩ ⟨by show cells ≤ 1044; omega, by show slots ≤ 8460; omega⟩ rfl hl.1 (rest := []) rfl (Nat.le_of_ble_eq_true rfl) d_L_law_121 (fun w2 H locs hw2 I => ?_)
  obtain ⟨vo', th', rfl, hv, ht⟩ := hw2
  refine lv_goto (tgt := 897) C.1 C.2.1 d_L_law_124 (by decide) ?_
  refine W.widen (k := cells + 1) (n := slots + 6) (by omega) (by omega) ?_
  exact kk f _ _ _ _ ls (rel_init w1 hv ht) I (lv_sub hl [0, 1, 2, 3, 4] rfl)
set_option maxHeartbeats 4000000 in
set_option maxRecDepth 100000 in
theorem arm_write {p : Program} {l : Launch} {e : Env} {s : State} {m : MethodId} {below : List Frame} {meth : Method} {c : Code} {H : Heap} {locs : List Loc} {cells slots : Nat} {Q : State → Prop} {D : va_G} {cA : Nat → ClassId} {hS hM : Nat → Nat} {qo b L i N : Nat} {f : Nat → Int64} {xs : Nat → Int32} {ls : Array Slot} {bw : (Nat → Int32)} {cw : (Nat → Int32)} {ts : (Nat → Int32)} {tb : (Nat → Int32)} {st : (Nat → Int32)} {ro : Nat} {mr : Nat} {la : Nat} {fu : Option Nat} {dn : Bool} {wr : Nat} {co : Nat} {dm : Bool} {fm : Option Nat} {ct : Nat} {vo : (Nat → Int32)} {wo : (Nat → Int32)} {th : (Nat → Bool)} {ow : (Nat → Nat)} {ba : Nat} {mm : Nat} (C : gC p s m #[.ref b] meth c b_L_law 7 R_L) (G : gL l s) (hX : va_X b L xs s s.heap) (hbl : b < s.heap.size) (hL : L ≤ 2560) (hi : i + 5 ≤ L) (hN : N + 1 < 2 ^ 30) (hc : cells + 1 ≤ 1044 ∧ slots + 6 ≤ 8460) (hR : Rel N (bw, cw, ts, tb, st, ro, mr, la, fu, dn, wr) (co, dm, fm, ct, vo, wo, th, ow, ba, mm)) (I : lI D cA s hS hM qo f (bw, cw, ts, tb, st, ro, mr, la, fu, dn, wr) (co, dm, fm, ct, vo, wo, th, ow, ba, mm) H locs) (hl : lv_has ls 7 [(0, .ref b), (1, .ref (hS 0)), (2, .ref (hM 0)), (3, .ref qo), (4, .int (nI i))])
    (kk : ∀ (f : Nat → Int64) (u : SV) (w : SM) (H : Heap) (locs : List Loc) (ls : Array Slot), Rel (N + 1) u w → lI D cA s hS hM qo f u w H locs → lv_has ls 7 [(0, .ref b), (1, .ref (hS 0)), (2, .ref (hM 0)), (3, .ref qo), (4, .int (nI i))] → W p l e room_1 s m #[.ref b] below meth c H locs (cells + 1) (slots + 6) Q (F0 m 897 ls [])) : W p l e room_1 s m #[.ref b] below meth c H locs cells slots Q (F0 m 127 ls []) := by
  obtain ⟨hfu, hfm, how, hus, hba, hb31, hmr, hro, hdf, hdn, hct⟩ := rel_f hR
  refine lv_aload_n C.1 C.2.1 d_L_law_127 rfl (lv_at hl 1 rfl) ?_
  refine lv_aload_n C.1 C.2.1 d_L_law_128 rfl (lv_at hl 0 rfl) ?_
  refine lv_iload C.1 C.2.1 d_L_law_129 (lv_at hl 4 rfl) ?_
  refine lv_iconst (v := nI 1) C.1 C.2.1 d_L_law_131 (by decide) ?_
  refine n_iadd C.1 C.2.1 (a := i) (b := 1) d_L_law_132 ?_
  refine ll_ld C I hX hbl (k := i + 1) (by omega) (by omega) d_L_law_133 ?_
  refine lv_aload_n C.1 C.2.1 d_L_law_134 rfl (lv_at hl 0 rfl) ?_
  refine lv_iload C.1 C.2.1 d_L_law_135 (lv_at hl 4 rfl) ?_
  refine lv_iconst (v := nI 2) C.1 C.2.1 d_L_law_137 (by decide) ?_
  refine n_iadd C.1 C.2.1 (a := i) (b := 2) d_L_law_138 ?_
  refine ll_ld C I hX hbl (k := i + 2) (by omega) (by omega) d_L_law_139 ?_
  refine lv_aload_n C.1 C.2.1 d_L_law_140 rfl (lv_at hl 0 rfl) ?_
  refine lv_iload C.1 C.2.1 d_L_law_141 (lv_at hl 4 rfl) ?_
  refine lv_iconst (v := nI 3) C.1 C.2.1 d_L_law_143 (by decide) ?_
  refine n_iadd C.1 C.2.1 (a := i) (b := 3) d_L_law_144 ?_
  refine ll_ld C I hX hbl (k := i + 3) (by omega) (by omega) d_L_law_145 ?_
  refine lv_aload_n C.1 C.2.1 d_L_law_146 rfl (lv_at hl 3 rfl) ?_
  refine ll_wrap C G I (c_L_write l G.1 D cA hS qo f _ bw cw ts tb st ro mr la fu dn wr (xs (i + 1)) (xs (i + 2)) (xs (i + 3)) hfu ) lw_67 rfl rfl ⟨by decide, by decide⟩ hc rfl hl.1 (rest := []) rfl (Nat.le_of_ble_eq_true rfl) d_L_law_147 (fun r f1 u1 H locs w1 I => ?_)
  refine lv_istore (lv' := [(5, .int r), (0, .ref b), (1, .ref (hS 0)), (2, .ref (hM 0)), (3, .ref qo), (4, .int (nI i))]) C.1 C.2.1 d_L_law_150 hl (by decide) rfl (fun ls hl => ?_)
  refine lv_aload_n C.1 C.2.1 d_L_law_152 rfl (lv_at hl 3 rfl) ?_
  refine lv_aload_n C.1 C.2.1 d_L_law_153 rfl (lv_at hl 1 rfl) ?_
  refine lv_iload C.1 C.2.1 d_L_law_154 (lv_at hl 5 rfl) ?_
  refine lv_iconst (v := nI 1) C.1 C.2.1 d_L_law_156 (by decide) ?_
  refine n_iadd C.1 C.2.1 (a := i) (b := 1) d_L_law_157 ?_
  refine ll_ld C I hX hbl (k := i + 1) (by omega) (by omega) d_L_law_158 ?_
  refine lv_aload_n C.1 C.2.1 d_L_law_159 rfl (lv_at hl 1 rfl) ?_
  refine lv_iload C.1 C.2.1 d_L_law_160 (lv_at hl 5 rfl) ?_
  refine lv_iconst (v := nI 2) C.1 C.2.1 d_L_law_162 (by decide) ?_
  refine n_iadd C.1 C.2.1 (a := i) (b := 2) d_L_law_163 ?_
  refine ll_ld C I hX hbl (k := i + 2) (by omega) (by omega) d_L_law_164 ?_
  refine lv_aload_n C.1 C.2.1 d_L_law_165 rfl (lv_at hl 1 rfl) ?_
  refine lv_iload C.1 C.2.1 d_L_law_166 (lv_at hl 5 rfl) ?_
  refine lv_iconst (v := nI 3) C.1 C.2.1 d_L_law_168 (by decide) ?_
  refine n_iadd C.1 C.2.1 (a := i) (b := 3) d_L_law_169 ?_
  refine ll_ld C I hX hbl (k := i + 3) (by omega) (by omega) d_L_law_170 ?_
  refine ll_mi C I (c_M_write l D cA hM _ co dm fm ct vo wo th ow ba mm (xs (i + 1)) (xs (i + 2)) (xs (i + 3)) hfm how hus) lk_L72 rfl rfl ⟨by decide, by decide⟩ ⟨hc.1, hc.2⟩ rfl hl.1 (rest := []) rfl (Nat.le_of_ble_eq_true rfl) d_L_law_171 (fun r2 w' H locs w2 I => ?_)
  obtain ⟨rfl, rfl⟩ := w2
  have hA := ag_w (kc := kcW) (fun k hk => by rcases (show k = 0 ∨ k = 1 ∨ k = 2 ∨ k = 3 by omega) with rfl | rfl | rfl | rfl <;> decide) w1 (op_write hR (xs (i + 1)) (xs (i + 2)) (xs (i + 3)))
  generalize hmm : mWrite (xs (i + 1)) (xs (i + 2)) (xs (i + 3)) (co, dm, fm, ct, vo, wo, th, ow, ba, mm) = mr2 at I hA ⊢
  obtain ⟨a2, co2, dm2, fm2, ct2, vo2, wo2, th2, ow2, ba2, mm2⟩ := mr2
  refine lv_istore (lv' := [(6, .int (nI a2)), (5, .int r), (0, .ref b), (1, .ref (hS 0)), (2, .ref (hM 0)), (3, .ref qo), (4, .int (nI i))]) C.1 C.2.1 d_L_law_174 hl (by decide) rfl (fun ls hl => ?_)
  obtain ⟨hR2, hr2, hE⟩ := hA
  have hr2 : r = nI co2 := hr2
  refine lv_aload_n C.1 C.2.1 d_L_law_176 rfl (lv_at hl 4 rfl) ?_
  refine ll_mi C I (c_M_thrown l D cA hM _ co2 dm2 fm2 ct2 vo2 wo2 th2 ow2 ba2 mm2) lk_L73 rfl rfl ⟨by decide, by decide⟩ ⟨hc.1, hc.2⟩ rfl hl.1 (rest := []) rfl (Nat.le_of_ble_eq_true rfl) d_L_law_177 (fun r3 w' H locs w3 I => ?_)
  obtain ⟨rfl, rfl⟩ := w3
  refine lv_iload C.1 C.2.1 d_L_law_180 (lv_at hl 1 rfl) ?_
  refine lv_icmp_eq (x := nI co2) (y := r) (tgt := 187) C.1 C.2.1 d_L_law_182 (by decide) (fun q => ?_) (fun q => absurd hr2.symm q)
  refine lv_iload C.1 C.2.1 d_L_law_187 (lv_at hl 1 rfl) ?_
  refine lv_if_ne (x := r) (tgt := 204) C.1 C.2.1 d_L_law_189 (by decide) (fun q0 => ?_) (fun q0 => ?_)
  · refine lv_goto (tgt := 897) C.1 C.2.1 d_L_law_204 (by decide) ?_
    exact kk f1 _ _ _ _ ls (rel_mono (Nat.le_succ N) hR2) I (lv_sub hl [2, 3, 4, 5, 6] rfl)
  · have ho : f1 0 = (nI a2).toInt64 := by
      rcases hE with ⟨a, h0, hE, heq⟩ | ⟨h1, h5⟩
      · have heq : a2 = a := heq
        rw [heq]; exact hE
      · have h1 : 0 < co2 := h1
        have h5 : co2 < 5 := h5
        exact absurd (hr2.symm.trans q0) (nI_ne0 h1 (by omega))
    refine lv_aload_n C.1 C.2.1 d_L_law_192 rfl (lv_at hl 5 rfl) ?_
    refine lv_iconst (v := nI 0) C.1 C.2.1 d_L_law_193 (by decide) ?_
    refine ll_out C I d_L_law_194 ?_
    refine lv_iload C.1 C.2.1 d_L_law_195 (lv_at hl 0 rfl) ?_
    refine lv_i2l C.1 C.2.1 d_L_law_197 rfl ?_
    refine ll_cmp C ho d_L_law_198 ?_
    refine lv_if_eq (x := nI 0) (tgt := 204) C.1 C.2.1 d_L_law_199 (by decide) (fun q => ?_) (fun q => absurd rfl q)
    refine lv_goto (tgt := 897) C.1 C.2.1 d_L_law_204 (by decide) ?_
    exact kk f1 _ _ _ _ ls (rel_mono (Nat.le_succ N) hR2) I (lv_sub hl [2, 3, 4, 5, 6] rfl)
set_option maxHeartbeats 4000000 in
set_option maxRecDepth 100000 in
theorem arm_read {p : Program} {l : Launch} {e : Env} {s : State} {m : MethodId} {below : List Frame} {meth : Method} {c : Code} {H : Heap} {locs : List Loc} {cells slots : Nat} {Q : State → Prop} {D : va_G} {cA : Nat → ClassId} {hS hM : Nat → Nat} {qo b L i N : Nat} {f : Nat → Int64} {xs : Nat → Int32} {ls : Array Slot} {bw : (Nat → Int32)} {cw : (Nat → Int32)} {ts : (Nat → Int32)} {tb : (Nat → Int32)} {st : (Nat → Int32)} {ro : Nat} {mr : Nat} {la : Nat} {fu : Option Nat} {dn : Bool} {wr : Nat} {co : Nat} {dm : Bool} {fm : Option Nat} {ct : Nat} {vo : (Nat → Int32)} {wo : (Nat → Int32)} {th : (Nat → Bool)} {ow : (Nat → Nat)} {ba : Nat} {mm : Nat} (C : gC p s m #[.ref b] meth c b_L_law 7 R_L) (G : gL l s) (hX : va_X b L xs s s.heap) (hbl : b < s.heap.size) (hL : L ≤ 2560) (hi : i + 5 ≤ L) (hN : N + 1 < 2 ^ 30) (hc : cells + 1 ≤ 1044 ∧ slots + 6 ≤ 8460) (hR : Rel N (bw, cw, ts, tb, st, ro, mr, la, fu, dn, wr) (co, dm, fm, ct, vo, wo, th, ow, ba, mm)) (I : lI D cA s hS hM qo f (bw, cw, ts, tb, st, ro, mr, la, fu, dn, wr) (co, dm, fm, ct, vo, wo, th, ow, ba, mm) H locs) (hl : lv_has ls 7 [(0, .ref b), (1, .ref (hS 0)), (2, .ref (hM 0)), (3, .ref qo), (4, .int (nI i))])
    (kk : ∀ (f : Nat → Int64) (u : SV) (w : SM) (H : Heap) (locs : List Loc) (ls : Array Slot), Rel (N + 1) u w → lI D cA s hS hM qo f u w H locs → lv_has ls 7 [(0, .ref b), (1, .ref (hS 0)), (2, .ref (hM 0)), (3, .ref qo), (4, .int (nI i))] → W p l e room_1 s m #[.ref b] below meth c H locs (cells + 1) (slots + 6) Q (F0 m 897 ls [])) : W p l e room_1 s m #[.ref b] below meth c H locs cells slots Q (F0 m 207 ls []) := by
  obtain ⟨hfu, hfm, how, hus, hba, hb31, hmr, hro, hdf, hdn, hct⟩ := rel_f hR
  refine lv_aload_n C.1 C.2.1 d_L_law_207 rfl (lv_at hl 1 rfl) ?_
  refine lv_aload_n C.1 C.2.1 d_L_law_208 rfl (lv_at hl 0 rfl) ?_
  refine lv_iload C.1 C.2.1 d_L_law_209 (lv_at hl 4 rfl) ?_
  refine lv_iconst (v := nI 1) C.1 C.2.1 d_L_law_211 (by decide) ?_
  refine n_iadd C.1 C.2.1 (a := i) (b := 1) d_L_law_212 ?_
  refine ll_ld C I hX hbl (k := i + 1) (by omega) (by omega) d_L_law_213 ?_
  refine lv_aload_n C.1 C.2.1 d_L_law_214 rfl (lv_at hl 0 rfl) ?_
  refine lv_iload C.1 C.2.1 d_L_law_215 (lv_at hl 4 rfl) ?_
  refine lv_iconst (v := nI 2) C.1 C.2.1 d_L_law_217 (by decide) ?_
  refine n_iadd C.1 C.2.1 (a := i) (b := 2) d_L_law_218 ?_
  refine ll_ld C I hX hbl (k := i + 2) (by omega) (by omega) d_L_law_219 ?_
  refine lv_aload_n C.1 C.2.1 d_L_law_220 rfl (lv_at hl 3 rfl) ?_
  refine ll_wrap C G I (c_L_read l G.1 D cA hS qo f _ bw cw ts tb st ro mr la fu dn wr (xs (i + 1)) (xs (i + 2)) hfu ) lw_76 rfl rfl ⟨by decide, by decide⟩ hc rfl hl.1 (rest := []) rfl (Nat.le_of_ble_eq_true rfl) d_L_law_221 (fun r f1 u1 H locs w1 I => ?_)
  refine lv_istore (lv' := [(5, .int r), (0, .ref b), (1, .ref (hS 0)), (2, .ref (hM 0)), (3, .ref qo), (4, .int (nI i))]) C.1 C.2.1 d_L_law_224 hl (by decide) rfl (fun ls hl => ?_)
  refine lv_aload_n C.1 C.2.1 d_L_law_226 rfl (lv_at hl 3 rfl) ?_
  refine lv_aload_n C.1 C.2.1 d_L_law_227 rfl (lv_at hl 1 rfl) ?_
  refine lv_iload C.1 C.2.1 d_L_law_228 (lv_at hl 5 rfl) ?_
  refine lv_iconst (v := nI 1) C.1 C.2.1 d_L_law_230 (by decide) ?_
  refine n_iadd C.1 C.2.1 (a := i) (b := 1) d_L_law_231 ?_
  refine ll_ld C I hX hbl (k := i + 1) (by omega) (by omega) d_L_law_232 ?_
  refine lv_aload_n C.1 C.2.1 d_L_law_233 rfl (lv_at hl 1 rfl) ?_
  refine lv_iload C.1 C.2.1 d_L_law_234 (lv_at hl 5 rfl) ?_
  refine lv_iconst (v := nI 2) C.1 C.2.1 d_L_law_236 (by decide) ?_
  refine n_iadd C.1 C.2.1 (a := i) (b := 2) d_L_law_237 ?_
  refine ll_ld C I hX hbl (k := i + 2) (by omega) (by omega) d_L_law_238 ?_
  refine ll_mi C I (c_M_read l D cA hM _ co dm fm ct vo wo th ow ba mm (xs (i + 1)) (xs (i + 2))) lk_L79 rfl rfl ⟨by decide, by decide⟩ ⟨hc.1, hc.2⟩ rfl hl.1 (rest := []) rfl (Nat.le_of_ble_eq_true rfl) d_L_law_239 (fun r2 w' H locs w2 I => ?_)
  obtain ⟨rfl, rfl⟩ := w2
  have hA := ag_w (kc := kcR) (fun k hk => by rcases (show k = 0 ∨ k = 1 ∨ k = 2 ∨ k = 3 by omega) with rfl | rfl | rfl | rfl <;> decide) w1 (op_read hR (xs (i + 1)) (xs (i + 2)))
  generalize hmm : mRead (xs (i + 1)) (xs (i + 2)) (co, dm, fm, ct, vo, wo, th, ow, ba, mm) = mr2 at I hA ⊢
  obtain ⟨a2, co2, dm2, fm2, ct2, vo2, wo2, th2, ow2, ba2, mm2⟩ := mr2
  refine lv_istore (lv' := [(6, .int (a2)), (5, .int r), (0, .ref b), (1, .ref (hS 0)), (2, .ref (hM 0)), (3, .ref qo), (4, .int (nI i))]) C.1 C.2.1 d_L_law_242 hl (by decide) rfl (fun ls hl => ?_)
  obtain ⟨hR2, hr2, hE⟩ := hA
  have hr2 : r = nI co2 := hr2
  refine lv_aload_n C.1 C.2.1 d_L_law_244 rfl (lv_at hl 4 rfl) ?_
  refine ll_mi C I (c_M_thrown l D cA hM _ co2 dm2 fm2 ct2 vo2 wo2 th2 ow2 ba2 mm2) lk_L73 rfl rfl ⟨by decide, by decide⟩ ⟨hc.1, hc.2⟩ rfl hl.1 (rest := []) rfl (Nat.le_of_ble_eq_true rfl) d_L_law_245 (fun r3 w' H locs w3 I => ?_)
  obtain ⟨rfl, rfl⟩ := w3
  refine lv_iload C.1 C.2.1 d_L_law_248 (lv_at hl 1 rfl) ?_
  refine lv_icmp_eq (x := nI co2) (y := r) (tgt := 255) C.1 C.2.1 d_L_law_250 (by decide) (fun q => ?_) (fun q => absurd hr2.symm q)
  refine lv_iload C.1 C.2.1 d_L_law_255 (lv_at hl 1 rfl) ?_
  refine lv_if_ne (x := r) (tgt := 272) C.1 C.2.1 d_L_law_257 (by decide) (fun q0 => ?_) (fun q0 => ?_)
  · refine lv_goto (tgt := 897) C.1 C.2.1 d_L_law_272 (by decide) ?_
    exact kk f1 _ _ _ _ ls (rel_mono (Nat.le_succ N) hR2) I (lv_sub hl [2, 3, 4, 5, 6] rfl)
  · have ho : f1 0 = a2.toInt64 := by
      rcases hE with ⟨a, h0, hE, heq⟩ | ⟨h1, h5⟩
      · have heq : a2 = a := heq
        rw [heq]; exact hE
      · have h1 : 0 < co2 := h1
        have h5 : co2 < 5 := h5
        exact absurd (hr2.symm.trans q0) (nI_ne0 h1 (by omega))
    refine lv_aload_n C.1 C.2.1 d_L_law_260 rfl (lv_at hl 5 rfl) ?_
    refine lv_iconst (v := nI 0) C.1 C.2.1 d_L_law_261 (by decide) ?_
    refine ll_out C I d_L_law_262 ?_
    refine lv_iload C.1 C.2.1 d_L_law_263 (lv_at hl 0 rfl) ?_
    refine lv_i2l C.1 C.2.1 d_L_law_265 rfl ?_
    refine ll_cmp C ho d_L_law_266 ?_
    refine lv_if_eq (x := nI 0) (tgt := 272) C.1 C.2.1 d_L_law_267 (by decide) (fun q => ?_) (fun q => absurd rfl q)
    refine lv_goto (tgt := 897) C.1 C.2.1 d_L_law_272 (by decide) ?_
    exact kk f1 _ _ _ _ ls (rel_mono (Nat.le_succ N) hR2) I (lv_sub hl [2, 3, 4, 5, 6] rfl)
set_option maxHeartbeats 4000000 in
set_option maxRecDepth 100000 in
theorem arm_snapshot {p : Program} {l : Launch} {e : Env} {s : State} {m : MethodId} {below : List Frame} {meth : Method} {c : Code} {H : Heap} {locs : List Loc} {cells slots : Nat} {Q : State → Prop} {D : va_G} {cA : Nat → ClassId} {hS hM : Nat → Nat} {qo b L i N : Nat} {f : Nat → Int64} {xs : Nat → Int32} {ls : Array Slot} {bw : (Nat → Int32)} {cw : (Nat → Int32)} {ts : (Nat → Int32)} {tb : (Nat → Int32)} {st : (Nat → Int32)} {ro : Nat} {mr : Nat} {la : Nat} {fu : Option Nat} {dn : Bool} {wr : Nat} {co : Nat} {dm : Bool} {fm : Option Nat} {ct : Nat} {vo : (Nat → Int32)} {wo : (Nat → Int32)} {th : (Nat → Bool)} {ow : (Nat → Nat)} {ba : Nat} {mm : Nat} (C : gC p s m #[.ref b] meth c b_L_law 7 R_L) (G : gL l s) (hX : va_X b L xs s s.heap) (hbl : b < s.heap.size) (hL : L ≤ 2560) (hi : i + 5 ≤ L) (hN : N + 1 < 2 ^ 30) (hc : cells + 1 ≤ 1044 ∧ slots + 6 ≤ 8460) (hR : Rel N (bw, cw, ts, tb, st, ro, mr, la, fu, dn, wr) (co, dm, fm, ct, vo, wo, th, ow, ba, mm)) (I : lI D cA s hS hM qo f (bw, cw, ts, tb, st, ro, mr, la, fu, dn, wr) (co, dm, fm, ct, vo, wo, th, ow, ba, mm) H locs) (hl : lv_has ls 7 [(0, .ref b), (1, .ref (hS 0)), (2, .ref (hM 0)), (3, .ref qo), (4, .int (nI i))])
    (kk : ∀ (f : Nat → Int64) (u : SV) (w : SM) (H : Heap) (locs : List Loc) (ls : Array Slot), Rel (N + 1) u w → lI D cA s hS hM qo f u w H locs → lv_has ls 7 [(0, .ref b), (1, .ref (hS 0)), (2, .ref (hM 0)), (3, .ref qo), (4, .int (nI i))] → W p l e room_1 s m #[.ref b] below meth c H locs (cells + 1) (slots + 6) Q (F0 m 897 ls [])) : W p l e room_1 s m #[.ref b] below meth c H locs cells slots Q (F0 m 275 ls []) := by
  obtain ⟨hfu, hfm, how, hus, hba, hb31, hmr, hro, hdf, hdn, hct⟩ := rel_f hR
  refine lv_aload_n C.1 C.2.1 d_L_law_275 rfl (lv_at hl 1 rfl) ?_
  refine lv_aload_n C.1 C.2.1 d_L_law_276 rfl (lv_at hl 3 rfl) ?_
  refine ll_wrap C G I (c_L_snapshot l G.1 D cA hS qo f _ bw cw ts tb st ro mr la fu dn wr  hfu ) lw_80 rfl rfl ⟨by decide, by decide⟩ hc rfl hl.1 (rest := []) rfl (Nat.le_of_ble_eq_true rfl) d_L_law_277 (fun r f1 u1 H locs w1 I => ?_)
  refine lv_istore (lv' := [(5, .int r), (0, .ref b), (1, .ref (hS 0)), (2, .ref (hM 0)), (3, .ref qo), (4, .int (nI i))]) C.1 C.2.1 d_L_law_280 hl (by decide) rfl (fun ls hl => ?_)
  refine lv_aload_n C.1 C.2.1 d_L_law_282 rfl (lv_at hl 3 rfl) ?_
  refine ll_mi C I (c_M_snapshot l D cA hM _ co dm fm ct vo wo th ow ba mm hfm) lk_L83 rfl rfl ⟨by decide, by decide⟩ ⟨hc.1, hc.2⟩ rfl hl.1 (rest := []) rfl (Nat.le_of_ble_eq_true rfl) d_L_law_283 (fun r2 w' H locs w2 I => ?_)
  obtain ⟨rfl, rfl⟩ := w2
  have hA := ag_w (kc := kcS) (fun k hk => by rcases (show k = 0 ∨ k = 1 ∨ k = 2 ∨ k = 3 by omega) with rfl | rfl | rfl | rfl <;> decide) w1 (op_snap hR hN)
  generalize hmm : mSnap (co, dm, fm, ct, vo, wo, th, ow, ba, mm) = mr2 at I hA ⊢
  obtain ⟨a2, co2, dm2, fm2, ct2, vo2, wo2, th2, ow2, ba2, mm2⟩ := mr2
  refine lv_istore (lv' := [(6, .int (nI a2)), (5, .int r), (0, .ref b), (1, .ref (hS 0)), (2, .ref (hM 0)), (3, .ref qo), (4, .int (nI i))]) C.1 C.2.1 d_L_law_286 hl (by decide) rfl (fun ls hl => ?_)
  obtain ⟨hR2, hr2, hE⟩ := hA
  have hr2 : r = nI co2 := hr2
  refine lv_aload_n C.1 C.2.1 d_L_law_288 rfl (lv_at hl 4 rfl) ?_
  refine ll_mi C I (c_M_thrown l D cA hM _ co2 dm2 fm2 ct2 vo2 wo2 th2 ow2 ba2 mm2) lk_L73 rfl rfl ⟨by decide, by decide⟩ ⟨hc.1, hc.2⟩ rfl hl.1 (rest := []) rfl (Nat.le_of_ble_eq_true rfl) d_L_law_289 (fun r3 w' H locs w3 I => ?_)
  obtain ⟨rfl, rfl⟩ := w3
  refine lv_iload C.1 C.2.1 d_L_law_292 (lv_at hl 1 rfl) ?_
  refine lv_icmp_eq (x := nI co2) (y := r) (tgt := 299) C.1 C.2.1 d_L_law_294 (by decide) (fun q => ?_) (fun q => absurd hr2.symm q)
  refine lv_iload C.1 C.2.1 d_L_law_299 (lv_at hl 1 rfl) ?_
  refine lv_if_ne (x := r) (tgt := 316) C.1 C.2.1 d_L_law_301 (by decide) (fun q0 => ?_) (fun q0 => ?_)
  · refine lv_goto (tgt := 897) C.1 C.2.1 d_L_law_316 (by decide) ?_
    exact kk f1 _ _ _ _ ls hR2 I (lv_sub hl [2, 3, 4, 5, 6] rfl)
  · have ho : f1 0 = (nI a2).toInt64 := by
      rcases hE with ⟨a, h0, hE, heq⟩ | ⟨h1, h5⟩
      · have heq : a2 = a := heq
        rw [heq]; exact hE
      · have h1 : 0 < co2 := h1
        have h5 : co2 < 5 := h5
        exact absurd (hr2.symm.trans q0) (nI_ne0 h1 (by omega))
    refine lv_aload_n C.1 C.2.1 d_L_law_304 rfl (lv_at hl 5 rfl) ?_
    refine lv_iconst (v := nI 0) C.1 C.2.1 d_L_law_305 (by decide) ?_
    refine ll_out C I d_L_law_306 ?_
    refine lv_iload C.1 C.2.1 d_L_law_307 (lv_at hl 0 rfl) ?_
    refine lv_i2l C.1 C.2.1 d_L_law_309 rfl ?_
    refine ll_cmp C ho d_L_law_310 ?_
    refine lv_if_eq (x := nI 0) (tgt := 316) C.1 C.2.1 d_L_law_311 (by decide) (fun q => ?_) (fun q => absurd rfl q)
    refine lv_goto (tgt := 897) C.1 C.2.1 d_L_law_316 (by decide) ?_
    exact kk f1 _ _ _ _ ls hR2 I (lv_sub hl [2, 3, 4, 5, 6] rfl)
set_option maxHeartbeats 4000000 in
set_option maxRecDepth 100000 in
theorem arm_drop {p : Program} {l : Launch} {e : Env} {s : State} {m : MethodId} {below : List Frame} {meth : Method} {c : Code} {H : Heap} {locs : List Loc} {cells slots : Nat} {Q : State → Prop} {D : va_G} {cA : Nat → ClassId} {hS hM : Nat → Nat} {qo b L i N : Nat} {f : Nat → Int64} {xs : Nat → Int32} {ls : Array Slot} {bw : (Nat → Int32)} {cw : (Nat → Int32)} {ts : (Nat → Int32)} {tb : (Nat → Int32)} {st : (Nat → Int32)} {ro : Nat} {mr : Nat} {la : Nat} {fu : Option Nat} {dn : Bool} {wr : Nat} {co : Nat} {dm : Bool} {fm : Option Nat} {ct : Nat} {vo : (Nat → Int32)} {wo : (Nat → Int32)} {th : (Nat → Bool)} {ow : (Nat → Nat)} {ba : Nat} {mm : Nat} (C : gC p s m #[.ref b] meth c b_L_law 7 R_L) (G : gL l s) (hX : va_X b L xs s s.heap) (hbl : b < s.heap.size) (hL : L ≤ 2560) (hi : i + 5 ≤ L) (hN : N + 1 < 2 ^ 30) (hc : cells + 1 ≤ 1044 ∧ slots + 6 ≤ 8460) (hR : Rel N (bw, cw, ts, tb, st, ro, mr, la, fu, dn, wr) (co, dm, fm, ct, vo, wo, th, ow, ba, mm)) (I : lI D cA s hS hM qo f (bw, cw, ts, tb, st, ro, mr, la, fu, dn, wr) (co, dm, fm, ct, vo, wo, th, ow, ba, mm) H locs) (hl : lv_has ls 7 [(0, .ref b), (1, .ref (hS 0)), (2, .ref (hM 0)), (3, .ref qo), (4, .int (nI i))])
    (kk : ∀ (f : Nat → Int64) (u : SV) (w : SM) (H : Heap) (locs : List Loc) (ls : Array Slot), Rel (N + 1) u w → lI D cA s hS hM qo f u w H locs → lv_has ls 7 [(0, .ref b), (1, .ref (hS 0)), (2, .ref (hM 0)), (3, .ref qo), (4, .int (nI i))] → W p l e room_1 s m #[.ref b] below meth c H locs (cells + 1) (slots + 6) Q (F0 m 897 ls [])) : W p l e room_1 s m #[.ref b] below meth c H locs cells slots Q (F0 m 319 ls []) := by
  obtain ⟨hfu, hfm, how, hus, hba, hb31, hmr, hro, hdf, hdn, hct⟩ := rel_f hR
  refine lv_aload_n C.1 C.2.1 d_L_law_319 rfl (lv_at hl 1 rfl) ?_
  refine lv_aload_n C.1 C.2.1 d_L_law_320 rfl (lv_at hl 0 rfl) ?_
  refine lv_iload C.1 C.2.1 d_L_law_321 (lv_at hl 4 rfl) ?_
  refine lv_iconst (v := nI 1) C.1 C.2.1 d_L_law_323 (by decide) ?_
  refine n_iadd C.1 C.2.1 (a := i) (b := 1) d_L_law_324 ?_
  refine ll_ld C I hX hbl (k := i + 1) (by omega) (by omega) d_L_law_325 ?_
  refine ll_wrap C G I (c_L_drop l G.1 D cA hS qo f _ bw cw ts tb st ro mr la fu dn wr (xs (i + 1)) hfu ) lw_84 rfl rfl ⟨by decide, by decide⟩ hc rfl hl.1 (rest := []) rfl (Nat.le_of_ble_eq_true rfl) d_L_law_326 (fun r f1 u1 H locs w1 I => ?_)
  refine lv_istore (lv' := [(5, .int r), (0, .ref b), (1, .ref (hS 0)), (2, .ref (hM 0)), (3, .ref qo), (4, .int (nI i))]) C.1 C.2.1 d_L_law_329 hl (by decide) rfl (fun ls hl => ?_)
  refine lv_aload_n C.1 C.2.1 d_L_law_331 rfl (lv_at hl 3 rfl) ?_
  refine lv_aload_n C.1 C.2.1 d_L_law_332 rfl (lv_at hl 1 rfl) ?_
  refine lv_iload C.1 C.2.1 d_L_law_333 (lv_at hl 5 rfl) ?_
  refine lv_iconst (v := nI 1) C.1 C.2.1 d_L_law_335 (by decide) ?_
  refine n_iadd C.1 C.2.1 (a := i) (b := 1) d_L_law_336 ?_
  refine ll_ld C I hX hbl (k := i + 1) (by omega) (by omega) d_L_law_337 ?_
  refine ll_mv C I (c_M_drop l D cA hM _ co dm fm ct vo wo th ow ba mm (xs (i + 1)) hfm) lk_L87 rfl rfl ⟨by decide, by decide⟩ ⟨hc.1, hc.2⟩ rfl hl.1 (rest := []) rfl (Nat.le_of_ble_eq_true rfl) d_L_law_338 (fun w' H locs w2 I => ?_)
  obtain rfl := w2
  have hA := ag_w (kc := kcD) (fun k hk => by rcases (show k = 0 ∨ k = 1 ∨ k = 2 ∨ k = 3 by omega) with rfl | rfl | rfl | rfl <;> decide) w1 (op_drop hR (xs (i + 1)))
  generalize hmm : mDrop (xs (i + 1)) (co, dm, fm, ct, vo, wo, th, ow, ba, mm) = w2 at I hA ⊢
  obtain ⟨co2, dm2, fm2, ct2, vo2, wo2, th2, ow2, ba2, mm2⟩ := w2
  obtain ⟨hR2, hr2, hE⟩ := hA
  have hr2 : r = nI co2 := hr2
  refine lv_aload_n C.1 C.2.1 d_L_law_341 rfl (lv_at hl 3 rfl) ?_
  refine ll_mi C I (c_M_thrown l D cA hM _ co2 dm2 fm2 ct2 vo2 wo2 th2 ow2 ba2 mm2) lk_L73 rfl rfl ⟨by decide, by decide⟩ ⟨hc.1, hc.2⟩ rfl hl.1 (rest := []) rfl (Nat.le_of_ble_eq_true rfl) d_L_law_342 (fun r3 w' H locs w3 I => ?_)
  obtain ⟨rfl, rfl⟩ := w3
  refine lv_iload C.1 C.2.1 d_L_law_345 (lv_at hl 0 rfl) ?_
  refine lv_icmp_eq (x := nI co2) (y := r) (tgt := 352) C.1 C.2.1 d_L_law_347 (by decide) (fun q => ?_) (fun q => absurd hr2.symm q)
  refine lv_goto (tgt := 897) C.1 C.2.1 d_L_law_352 (by decide) ?_
  exact kk f1 _ _ _ _ ls (rel_mono (Nat.le_succ N) hR2) I (lv_sub hl [1, 2, 3, 4, 5] rfl)
set_option maxHeartbeats 4000000 in
set_option maxRecDepth 100000 in
theorem arm_readS {p : Program} {l : Launch} {e : Env} {s : State} {m : MethodId} {below : List Frame} {meth : Method} {c : Code} {H : Heap} {locs : List Loc} {cells slots : Nat} {Q : State → Prop} {D : va_G} {cA : Nat → ClassId} {hS hM : Nat → Nat} {qo b L i N : Nat} {f : Nat → Int64} {xs : Nat → Int32} {ls : Array Slot} {bw : (Nat → Int32)} {cw : (Nat → Int32)} {ts : (Nat → Int32)} {tb : (Nat → Int32)} {st : (Nat → Int32)} {ro : Nat} {mr : Nat} {la : Nat} {fu : Option Nat} {dn : Bool} {wr : Nat} {co : Nat} {dm : Bool} {fm : Option Nat} {ct : Nat} {vo : (Nat → Int32)} {wo : (Nat → Int32)} {th : (Nat → Bool)} {ow : (Nat → Nat)} {ba : Nat} {mm : Nat} (C : gC p s m #[.ref b] meth c b_L_law 7 R_L) (G : gL l s) (hX : va_X b L xs s s.heap) (hbl : b < s.heap.size) (hL : L ≤ 2560) (hi : i + 5 ≤ L) (hN : N + 1 < 2 ^ 30) (hc : cells + 1 ≤ 1044 ∧ slots + 6 ≤ 8460) (hR : Rel N (bw, cw, ts, tb, st, ro, mr, la, fu, dn, wr) (co, dm, fm, ct, vo, wo, th, ow, ba, mm)) (I : lI D cA s hS hM qo f (bw, cw, ts, tb, st, ro, mr, la, fu, dn, wr) (co, dm, fm, ct, vo, wo, th, ow, ba, mm) H locs) (hl : lv_has ls 7 [(0, .ref b), (1, .ref (hS 0)), (2, .ref (hM 0)), (3, .ref qo), (4, .int (nI i))])
    (kk : ∀ (f : Nat → Int64) (u : SV) (w : SM) (H : Heap) (locs : List Loc) (ls : Array Slot), Rel (N + 1) u w → lI D cA s hS hM qo f u w H locs → lv_has ls 7 [(0, .ref b), (1, .ref (hS 0)), (2, .ref (hM 0)), (3, .ref qo), (4, .int (nI i))] → W p l e room_1 s m #[.ref b] below meth c H locs (cells + 1) (slots + 6) Q (F0 m 897 ls [])) : W p l e room_1 s m #[.ref b] below meth c H locs cells slots Q (F0 m 355 ls []) := by
  obtain ⟨hfu, hfm, how, hus, hba, hb31, hmr, hro, hdf, hdn, hct⟩ := rel_f hR
  refine lv_aload_n C.1 C.2.1 d_L_law_355 rfl (lv_at hl 1 rfl) ?_
  refine lv_aload_n C.1 C.2.1 d_L_law_356 rfl (lv_at hl 0 rfl) ?_
  refine lv_iload C.1 C.2.1 d_L_law_357 (lv_at hl 4 rfl) ?_
  refine lv_iconst (v := nI 1) C.1 C.2.1 d_L_law_359 (by decide) ?_
  refine n_iadd C.1 C.2.1 (a := i) (b := 1) d_L_law_360 ?_
  refine ll_ld C I hX hbl (k := i + 1) (by omega) (by omega) d_L_law_361 ?_
  refine lv_aload_n C.1 C.2.1 d_L_law_362 rfl (lv_at hl 0 rfl) ?_
  refine lv_iload C.1 C.2.1 d_L_law_363 (lv_at hl 4 rfl) ?_
  refine lv_iconst (v := nI 2) C.1 C.2.1 d_L_law_365 (by decide) ?_
  refine n_iadd C.1 C.2.1 (a := i) (b := 2) d_L_law_366 ?_
  refine ll_ld C I hX hbl (k := i + 2) (by omega) (by omega) d_L_law_367 ?_
  refine lv_aload_n C.1 C.2.1 d_L_law_368 rfl (lv_at hl 0 rfl) ?_
  refine lv_iload C.1 C.2.1 d_L_law_369 (lv_at hl 4 rfl) ?_
  refine lv_iconst (v := nI 3) C.1 C.2.1 d_L_law_371 (by decide) ?_
  refine n_iadd C.1 C.2.1 (a := i) (b := 3) d_L_law_372 ?_
  refine ll_ld C I hX hbl (k := i + 3) (by omega) (by omega) d_L_law_373 ?_
  refine lv_aload_n C.1 C.2.1 d_L_law_374 rfl (lv_at hl 3 rfl) ?_
  refine ll_wrap C G I (c_L_readSnapshot l G.1 D cA hS qo f _ bw cw ts tb st ro mr la fu dn wr (xs (i + 1)) (xs (i + 2)) (xs (i + 3)) hfu ) lw_88 rfl rfl ⟨by decide, by decide⟩ hc rfl hl.1 (rest := []) rfl (Nat.le_of_ble_eq_true rfl) d_L_law_375 (fun r f1 u1 H locs w1 I => ?_)
  refine lv_istore (lv' := [(5, .int r), (0, .ref b), (1, .ref (hS 0)), (2, .ref (hM 0)), (3, .ref qo), (4, .int (nI i))]) C.1 C.2.1 d_L_law_378 hl (by decide) rfl (fun ls hl => ?_)
  refine lv_aload_n C.1 C.2.1 d_L_law_380 rfl (lv_at hl 3 rfl) ?_
  refine lv_aload_n C.1 C.2.1 d_L_law_381 rfl (lv_at hl 1 rfl) ?_
  refine lv_iload C.1 C.2.1 d_L_law_382 (lv_at hl 5 rfl) ?_
  refine lv_iconst (v := nI 1) C.1 C.2.1 d_L_law_384 (by decide) ?_
  refine n_iadd C.1 C.2.1 (a := i) (b := 1) d_L_law_385 ?_
  refine ll_ld C I hX hbl (k := i + 1) (by omega) (by omega) d_L_law_386 ?_
  refine lv_aload_n C.1 C.2.1 d_L_law_387 rfl (lv_at hl 1 rfl) ?_
  refine lv_iload C.1 C.2.1 d_L_law_388 (lv_at hl 5 rfl) ?_
  refine lv_iconst (v := nI 2) C.1 C.2.1 d_L_law_390 (by decide) ?_
  refine n_iadd C.1 C.2.1 (a := i) (b := 2) d_L_law_391 ?_
  refine ll_ld C I hX hbl (k := i + 2) (by omega) (by omega) d_L_law_392 ?_
  refine lv_aload_n C.1 C.2.1 d_L_law_393 rfl (lv_at hl 1 rfl) ?_
  refine lv_iload C.1 C.2.1 d_L_law_394 (lv_at hl 5 rfl) ?_
  refine lv_iconst (v := nI 3) C.1 C.2.1 d_L_law_396 (by decide) ?_
  refine n_iadd C.1 C.2.1 (a := i) (b := 3) d_L_law_397 ?_
  refine ll_ld C I hX hbl (k := i + 3) (by omega) (by omega) d_L_law_398 ?_
  refine ll_mi C I (c_M_readSnapshot l D cA hM _ co dm fm ct vo wo th ow ba mm (xs (i + 1)) (xs (i + 2)) (xs (i + 3))) lk_L90 rfl rfl ⟨by decide, by decide⟩ ⟨hc.1, hc.2⟩ rfl hl.1 (rest := []) rfl (Nat.le_of_ble_eq_true rfl) d_L_law_399 (fun r2 w' H locs w2 I => ?_)
  obtain ⟨rfl, rfl⟩ := w2
  have hA := ag_w (kc := kcRS) (fun k hk => by rcases (show k = 0 ∨ k = 1 ∨ k = 2 ∨ k = 3 by omega) with rfl | rfl | rfl | rfl <;> decide) w1 (op_readS hR (xs (i + 1)) (xs (i + 2)) (xs (i + 3)))
  generalize hmm : mReadS (xs (i + 1)) (xs (i + 2)) (xs (i + 3)) (co, dm, fm, ct, vo, wo, th, ow, ba, mm) = mr2 at I hA ⊢
  obtain ⟨a2, co2, dm2, fm2, ct2, vo2, wo2, th2, ow2, ba2, mm2⟩ := mr2
  refine lv_istore (lv' := [(6, .int (a2)), (5, .int r), (0, .ref b), (1, .ref (hS 0)), (2, .ref (hM 0)), (3, .ref qo), (4, .int (nI i))]) C.1 C.2.1 d_L_law_402 hl (by decide) rfl (fun ls hl => ?_)
  obtain ⟨hR2, hr2, hE⟩ := hA
  have hr2 : r = nI co2 := hr2
  refine lv_aload_n C.1 C.2.1 d_L_law_404 rfl (lv_at hl 4 rfl) ?_
  refine ll_mi C I (c_M_thrown l D cA hM _ co2 dm2 fm2 ct2 vo2 wo2 th2 ow2 ba2 mm2) lk_L73 rfl rfl ⟨by decide, by decide⟩ ⟨hc.1, hc.2⟩ rfl hl.1 (rest := []) rfl (Nat.le_of_ble_eq_true rfl) d_L_law_405 (fun r3 w' H locs w3 I => ?_)
  obtain ⟨rfl, rfl⟩ := w3
  refine lv_iload C.1 C.2.1 d_L_law_408 (lv_at hl 1 rfl) ?_
  refine lv_icmp_eq (x := nI co2) (y := r) (tgt := 415) C.1 C.2.1 d_L_law_410 (by decide) (fun q => ?_) (fun q => absurd hr2.symm q)
  refine lv_iload C.1 C.2.1 d_L_law_415 (lv_at hl 1 rfl) ?_
  refine lv_if_ne (x := r) (tgt := 432) C.1 C.2.1 d_L_law_417 (by decide) (fun q0 => ?_) (fun q0 => ?_)
  · refine lv_goto (tgt := 897) C.1 C.2.1 d_L_law_432 (by decide) ?_
    exact kk f1 _ _ _ _ ls (rel_mono (Nat.le_succ N) hR2) I (lv_sub hl [2, 3, 4, 5, 6] rfl)
  · have ho : f1 0 = a2.toInt64 := by
      rcases hE with ⟨a, h0, hE, heq⟩ | ⟨h1, h5⟩
      · have heq : a2 = a := heq
        rw [heq]; exact hE
      · have h1 : 0 < co2 := h1
        have h5 : co2 < 5 := h5
        exact absurd (hr2.symm.trans q0) (nI_ne0 h1 (by omega))
    refine lv_aload_n C.1 C.2.1 d_L_law_420 rfl (lv_at hl 5 rfl) ?_
    refine lv_iconst (v := nI 0) C.1 C.2.1 d_L_law_421 (by decide) ?_
    refine ll_out C I d_L_law_422 ?_
    refine lv_iload C.1 C.2.1 d_L_law_423 (lv_at hl 0 rfl) ?_
    refine lv_i2l C.1 C.2.1 d_L_law_425 rfl ?_
    refine ll_cmp C ho d_L_law_426 ?_
    refine lv_if_eq (x := nI 0) (tgt := 432) C.1 C.2.1 d_L_law_427 (by decide) (fun q => ?_) (fun q => absurd rfl q)
    refine lv_goto (tgt := 897) C.1 C.2.1 d_L_law_432 (by decide) ?_
    exact kk f1 _ _ _ _ ls (rel_mono (Nat.le_succ N) hR2) I (lv_sub hl [2, 3, 4, 5, 6] rfl)
set_option maxHeartbeats 4000000 in
set_option maxRecDepth 100000 in
theorem arm_writeS {p : Program} {l : Launch} {e : Env} {s : State} {m : MethodId} {below : List Frame} {meth : Method} {c : Code} {H : Heap} {locs : List Loc} {cells slots : Nat} {Q : State → Prop} {D : va_G} {cA : Nat → ClassId} {hS hM : Nat → Nat} {qo b L i N : Nat} {f : Nat → Int64} {xs : Nat → Int32} {ls : Array Slot} {bw : (Nat → Int32)} {cw : (Nat → Int32)} {ts : (Nat → Int32)} {tb : (Nat → Int32)} {st : (Nat → Int32)} {ro : Nat} {mr : Nat} {la : Nat} {fu : Option Nat} {dn : Bool} {wr : Nat} {co : Nat} {dm : Bool} {fm : Option Nat} {ct : Nat} {vo : (Nat → Int32)} {wo : (Nat → Int32)} {th : (Nat → Bool)} {ow : (Nat → Nat)} {ba : Nat} {mm : Nat} (C : gC p s m #[.ref b] meth c b_L_law 7 R_L) (G : gL l s) (hX : va_X b L xs s s.heap) (hbl : b < s.heap.size) (hL : L ≤ 2560) (hi : i + 5 ≤ L) (hN : N + 1 < 2 ^ 30) (hc : cells + 1 ≤ 1044 ∧ slots + 6 ≤ 8460) (hR : Rel N (bw, cw, ts, tb, st, ro, mr, la, fu, dn, wr) (co, dm, fm, ct, vo, wo, th, ow, ba, mm)) (I : lI D cA s hS hM qo f (bw, cw, ts, tb, st, ro, mr, la, fu, dn, wr) (co, dm, fm, ct, vo, wo, th, ow, ba, mm) H locs) (hl : lv_has ls 7 [(0, .ref b), (1, .ref (hS 0)), (2, .ref (hM 0)), (3, .ref qo), (4, .int (nI i))])
    (kk : ∀ (f : Nat → Int64) (u : SV) (w : SM) (H : Heap) (locs : List Loc) (ls : Array Slot), Rel (N + 1) u w → lI D cA s hS hM qo f u w H locs → lv_has ls 7 [(0, .ref b), (1, .ref (hS 0)), (2, .ref (hM 0)), (3, .ref qo), (4, .int (nI i))] → W p l e room_1 s m #[.ref b] below meth c H locs (cells + 1) (slots + 6) Q (F0 m 897 ls [])) : W p l e room_1 s m #[.ref b] below meth c H locs cells slots Q (F0 m 435 ls []) := by
  obtain ⟨hfu, hfm, how, hus, hba, hb31, hmr, hro, hdf, hdn, hct⟩ := rel_f hR
  refine lv_aload_n C.1 C.2.1 d_L_law_435 rfl (lv_at hl 1 rfl) ?_
  refine lv_aload_n C.1 C.2.1 d_L_law_436 rfl (lv_at hl 0 rfl) ?_
  refine lv_iload C.1 C.2.1 d_L_law_437 (lv_at hl 4 rfl) ?_
  refine lv_iconst (v := nI 1) C.1 C.2.1 d_L_law_439 (by decide) ?_
  refine n_iadd C.1 C.2.1 (a := i) (b := 1) d_L_law_440 ?_
  refine ll_ld C I hX hbl (k := i + 1) (by omega) (by omega) d_L_law_441 ?_
  refine lv_aload_n C.1 C.2.1 d_L_law_442 rfl (lv_at hl 0 rfl) ?_
  refine lv_iload C.1 C.2.1 d_L_law_443 (lv_at hl 4 rfl) ?_
  refine lv_iconst (v := nI 2) C.1 C.2.1 d_L_law_445 (by decide) ?_
  refine n_iadd C.1 C.2.1 (a := i) (b := 2) d_L_law_446 ?_
  refine ll_ld C I hX hbl (k := i + 2) (by omega) (by omega) d_L_law_447 ?_
  refine lv_aload_n C.1 C.2.1 d_L_law_448 rfl (lv_at hl 0 rfl) ?_
  refine lv_iload C.1 C.2.1 d_L_law_449 (lv_at hl 4 rfl) ?_
  refine lv_iconst (v := nI 3) C.1 C.2.1 d_L_law_451 (by decide) ?_
  refine n_iadd C.1 C.2.1 (a := i) (b := 3) d_L_law_452 ?_
  refine ll_ld C I hX hbl (k := i + 3) (by omega) (by omega) d_L_law_453 ?_
  refine lv_aload_n C.1 C.2.1 d_L_law_454 rfl (lv_at hl 0 rfl) ?_
  refine lv_iload C.1 C.2.1 d_L_law_455 (lv_at hl 4 rfl) ?_
  refine lv_iconst (v := nI 4) C.1 C.2.1 d_L_law_457 (by decide) ?_
  refine n_iadd C.1 C.2.1 (a := i) (b := 4) d_L_law_458 ?_
  refine ll_ld C I hX hbl (k := i + 4) (by omega) (by omega) d_L_law_459 ?_
  refine lv_aload_n C.1 C.2.1 d_L_law_460 rfl (lv_at hl 3 rfl) ?_
  refine ll_wrap C G I (c_L_writeSnapshot l G.1 D cA hS qo f _ bw cw ts tb st ro mr la fu dn wr (xs (i + 1)) (xs (i + 2)) (xs (i + 3)) (xs (i + 4)) hfu ) lw_91 rfl rfl ⟨by decide, by decide⟩ hc rfl hl.1 (rest := []) rfl (Nat.le_of_ble_eq_true rfl) d_L_law_461 (fun r f1 u1 H locs w1 I => ?_)
  refine lv_istore (lv' := [(5, .int r), (0, .ref b), (1, .ref (hS 0)), (2, .ref (hM 0)), (3, .ref qo), (4, .int (nI i))]) C.1 C.2.1 d_L_law_464 hl (by decide) rfl (fun ls hl => ?_)
  refine lv_aload_n C.1 C.2.1 d_L_law_466 rfl (lv_at hl 3 rfl) ?_
  refine lv_aload_n C.1 C.2.1 d_L_law_467 rfl (lv_at hl 1 rfl) ?_
  refine lv_iload C.1 C.2.1 d_L_law_468 (lv_at hl 5 rfl) ?_
  refine lv_iconst (v := nI 1) C.1 C.2.1 d_L_law_470 (by decide) ?_
  refine n_iadd C.1 C.2.1 (a := i) (b := 1) d_L_law_471 ?_
  refine ll_ld C I hX hbl (k := i + 1) (by omega) (by omega) d_L_law_472 ?_
  refine lv_aload_n C.1 C.2.1 d_L_law_473 rfl (lv_at hl 1 rfl) ?_
  refine lv_iload C.1 C.2.1 d_L_law_474 (lv_at hl 5 rfl) ?_
  refine lv_iconst (v := nI 2) C.1 C.2.1 d_L_law_476 (by decide) ?_
  refine n_iadd C.1 C.2.1 (a := i) (b := 2) d_L_law_477 ?_
  refine ll_ld C I hX hbl (k := i + 2) (by omega) (by omega) d_L_law_478 ?_
  refine lv_aload_n C.1 C.2.1 d_L_law_479 rfl (lv_at hl 1 rfl) ?_
  refine lv_iload C.1 C.2.1 d_L_law_480 (lv_at hl 5 rfl) ?_
  refine lv_iconst (v := nI 3) C.1 C.2.1 d_L_law_482 (by decide) ?_
  refine n_iadd C.1 C.2.1 (a := i) (b := 3) d_L_law_483 ?_
  refine ll_ld C I hX hbl (k := i + 3) (by omega) (by omega) d_L_law_484 ?_
  refine lv_aload_n C.1 C.2.1 d_L_law_485 rfl (lv_at hl 1 rfl) ?_
  refine lv_iload C.1 C.2.1 d_L_law_486 (lv_at hl 5 rfl) ?_
  refine lv_iconst (v := nI 4) C.1 C.2.1 d_L_law_488 (by decide) ?_
  refine n_iadd C.1 C.2.1 (a := i) (b := 4) d_L_law_489 ?_
  refine ll_ld C I hX hbl (k := i + 4) (by omega) (by omega) d_L_law_490 ?_
  refine ll_mi C I (c_M_writeSnapshot l D cA hM _ co dm fm ct vo wo th ow ba mm (xs (i + 1)) (xs (i + 2)) (xs (i + 3)) (xs (i + 4)) hfm how hus) lk_L94 rfl rfl ⟨by decide, by decide⟩ ⟨hc.1, hc.2⟩ rfl hl.1 (rest := []) rfl (Nat.le_of_ble_eq_true rfl) d_L_law_491 (fun r2 w' H locs w2 I => ?_)
  obtain ⟨rfl, rfl⟩ := w2
  have hA := ag_w (kc := kcWS) (fun k hk => by rcases (show k = 0 ∨ k = 1 ∨ k = 2 ∨ k = 3 by omega) with rfl | rfl | rfl | rfl <;> decide) w1 (op_writeS hR (xs (i + 1)) (xs (i + 2)) (xs (i + 3)) (xs (i + 4)))
  generalize hmm : mWriteS (xs (i + 1)) (xs (i + 2)) (xs (i + 3)) (xs (i + 4)) (co, dm, fm, ct, vo, wo, th, ow, ba, mm) = mr2 at I hA ⊢
  obtain ⟨a2, co2, dm2, fm2, ct2, vo2, wo2, th2, ow2, ba2, mm2⟩ := mr2
  refine lv_istore (lv' := [(6, .int (bI a2)), (5, .int r), (0, .ref b), (1, .ref (hS 0)), (2, .ref (hM 0)), (3, .ref qo), (4, .int (nI i))]) C.1 C.2.1 d_L_law_494 hl (by decide) rfl (fun ls hl => ?_)
  obtain ⟨hR2, hr2, hE⟩ := hA
  have hr2 : r = nI co2 := hr2
  refine lv_aload_n C.1 C.2.1 d_L_law_496 rfl (lv_at hl 4 rfl) ?_
  refine ll_mi C I (c_M_thrown l D cA hM _ co2 dm2 fm2 ct2 vo2 wo2 th2 ow2 ba2 mm2) lk_L73 rfl rfl ⟨by decide, by decide⟩ ⟨hc.1, hc.2⟩ rfl hl.1 (rest := []) rfl (Nat.le_of_ble_eq_true rfl) d_L_law_497 (fun r3 w' H locs w3 I => ?_)
  obtain ⟨rfl, rfl⟩ := w3
  refine lv_iload C.1 C.2.1 d_L_law_500 (lv_at hl 1 rfl) ?_
  refine lv_icmp_eq (x := nI co2) (y := r) (tgt := 507) C.1 C.2.1 d_L_law_502 (by decide) (fun q => ?_) (fun q => absurd hr2.symm q)
  refine lv_iload C.1 C.2.1 d_L_law_507 (lv_at hl 1 rfl) ?_
  refine lv_if_ne (x := r) (tgt := 531) C.1 C.2.1 d_L_law_509 (by decide) (fun q0 => ?_) (fun q0 => ?_)
  · refine lv_goto (tgt := 897) C.1 C.2.1 d_L_law_531 (by decide) ?_
    exact kk f1 _ _ _ _ ls (rel_mono (Nat.le_succ N) hR2) I (lv_sub hl [2, 3, 4, 5, 6] rfl)
  · have ho : f1 0 = (if a2 = true then 1 else 0) := by
      rcases hE with ⟨a, h0, hE, heq⟩ | ⟨h1, h5⟩
      · have heq : a2 = a := heq
        rw [heq]; exact hE
      · have h1 : 0 < co2 := h1
        have h5 : co2 < 5 := h5
        exact absurd (hr2.symm.trans q0) (nI_ne0 h1 (by omega))
    refine lv_aload_n C.1 C.2.1 d_L_law_512 rfl (lv_at hl 5 rfl) ?_
    refine lv_iconst (v := nI 0) C.1 C.2.1 d_L_law_513 (by decide) ?_
    refine ll_out C I d_L_law_514 ?_
    refine lv_iload C.1 C.2.1 d_L_law_515 (lv_at hl 0 rfl) ?_
    refine n_ifeq (b := a2) (tgt := 524) C.1 C.2.1 d_L_law_517 (by decide) (fun q6 => ?_) (fun q6 => ?_)
    · rw [q6] at ho
      have ho : f1 0 = 0 := ho
      refine lv_lconst (v := 0) C.1 C.2.1 d_L_law_524 (by decide) ?_
      refine ll_cmp C ho d_L_law_525 ?_
      refine lv_if_eq (x := nI 0) (tgt := 531) C.1 C.2.1 d_L_law_526 (by decide) (fun q => ?_) (fun q => absurd rfl q)
      refine lv_goto (tgt := 897) C.1 C.2.1 d_L_law_531 (by decide) ?_
      exact kk f1 _ _ _ _ ls (rel_mono (Nat.le_succ N) hR2) I (lv_sub hl [2, 3, 4, 5, 6] rfl)
    · rw [q6] at ho
      have ho : f1 0 = 1 := ho
      refine lv_lconst (v := 1) C.1 C.2.1 d_L_law_520 (by decide) ?_
      refine lv_goto (tgt := 525) C.1 C.2.1 d_L_law_521 (by decide) ?_
      refine ll_cmp C ho d_L_law_525 ?_
      refine lv_if_eq (x := nI 0) (tgt := 531) C.1 C.2.1 d_L_law_526 (by decide) (fun q => ?_) (fun q => absurd rfl q)
      refine lv_goto (tgt := 897) C.1 C.2.1 d_L_law_531 (by decide) ?_
      exact kk f1 _ _ _ _ ls (rel_mono (Nat.le_succ N) hR2) I (lv_sub hl [2, 3, 4, 5, 6] rfl)
set_option maxHeartbeats 4000000 in
set_option maxRecDepth 100000 in
theorem arm_roll {p : Program} {l : Launch} {e : Env} {s : State} {m : MethodId} {below : List Frame} {meth : Method} {c : Code} {H : Heap} {locs : List Loc} {cells slots : Nat} {Q : State → Prop} {D : va_G} {cA : Nat → ClassId} {hS hM : Nat → Nat} {qo b L i N : Nat} {f : Nat → Int64} {xs : Nat → Int32} {ls : Array Slot} {bw : (Nat → Int32)} {cw : (Nat → Int32)} {ts : (Nat → Int32)} {tb : (Nat → Int32)} {st : (Nat → Int32)} {ro : Nat} {mr : Nat} {la : Nat} {fu : Option Nat} {dn : Bool} {wr : Nat} {co : Nat} {dm : Bool} {fm : Option Nat} {ct : Nat} {vo : (Nat → Int32)} {wo : (Nat → Int32)} {th : (Nat → Bool)} {ow : (Nat → Nat)} {ba : Nat} {mm : Nat} (C : gC p s m #[.ref b] meth c b_L_law 7 R_L) (G : gL l s) (hX : va_X b L xs s s.heap) (hbl : b < s.heap.size) (hL : L ≤ 2560) (hi : i + 5 ≤ L) (hN : N + 1 < 2 ^ 30) (hc : cells + 1 ≤ 1044 ∧ slots + 6 ≤ 8460) (hR : Rel N (bw, cw, ts, tb, st, ro, mr, la, fu, dn, wr) (co, dm, fm, ct, vo, wo, th, ow, ba, mm)) (I : lI D cA s hS hM qo f (bw, cw, ts, tb, st, ro, mr, la, fu, dn, wr) (co, dm, fm, ct, vo, wo, th, ow, ba, mm) H locs) (hl : lv_has ls 7 [(0, .ref b), (1, .ref (hS 0)), (2, .ref (hM 0)), (3, .ref qo), (4, .int (nI i))])
    (kk : ∀ (f : Nat → Int64) (u : SV) (w : SM) (H : Heap) (locs : List Loc) (ls : Array Slot), Rel (N + 1) u w → lI D cA s hS hM qo f u w H locs → lv_has ls 7 [(0, .ref b), (1, .ref (hS 0)), (2, .ref (hM 0)), (3, .ref qo), (4, .int (nI i))] → W p l e room_1 s m #[.ref b] below meth c H locs (cells + 1) (slots + 6) Q (F0 m 897 ls [])) : W p l e room_1 s m #[.ref b] below meth c H locs cells slots Q (F0 m 534 ls []) := by
  obtain ⟨hfu, hfm, how, hus, hba, hb31, hmr, hro, hdf, hdn, hct⟩ := rel_f hR
  refine lv_aload_n C.1 C.2.1 d_L_law_534 rfl (lv_at hl 1 rfl) ?_
  refine lv_aload_n C.1 C.2.1 d_L_law_535 rfl (lv_at hl 0 rfl) ?_
  refine lv_iload C.1 C.2.1 d_L_law_536 (lv_at hl 4 rfl) ?_
  refine lv_iconst (v := nI 1) C.1 C.2.1 d_L_law_538 (by decide) ?_
  refine n_iadd C.1 C.2.1 (a := i) (b := 1) d_L_law_539 ?_
  refine ll_ld C I hX hbl (k := i + 1) (by omega) (by omega) d_L_law_540 ?_
  refine lv_aload_n C.1 C.2.1 d_L_law_541 rfl (lv_at hl 3 rfl) ?_
  refine ll_wrap C G I (c_L_rollback l G.1 D cA hS qo f _ bw cw ts tb st ro mr la fu dn wr (xs (i + 1)) hfu ) lw_95 rfl rfl ⟨by decide, by decide⟩ hc rfl hl.1 (rest := []) rfl (Nat.le_of_ble_eq_true rfl) d_L_law_542 (fun r f1 u1 H locs w1 I => ?_)
  refine lv_istore (lv' := [(5, .int r), (0, .ref b), (1, .ref (hS 0)), (2, .ref (hM 0)), (3, .ref qo), (4, .int (nI i))]) C.1 C.2.1 d_L_law_545 hl (by decide) rfl (fun ls hl => ?_)
  refine lv_aload_n C.1 C.2.1 d_L_law_547 rfl (lv_at hl 3 rfl) ?_
  refine lv_aload_n C.1 C.2.1 d_L_law_548 rfl (lv_at hl 1 rfl) ?_
  refine lv_iload C.1 C.2.1 d_L_law_549 (lv_at hl 5 rfl) ?_
  refine lv_iconst (v := nI 1) C.1 C.2.1 d_L_law_551 (by decide) ?_
  refine n_iadd C.1 C.2.1 (a := i) (b := 1) d_L_law_552 ?_
  refine ll_ld C I hX hbl (k := i + 1) (by omega) (by omega) d_L_law_553 ?_
  refine ll_mi C I (c_M_rollback l D cA hM _ co dm fm ct vo wo th ow ba mm (xs (i + 1)) hfm how hus) lk_L98 rfl rfl ⟨by decide, by decide⟩ ⟨hc.1, hc.2⟩ rfl hl.1 (rest := []) rfl (Nat.le_of_ble_eq_true rfl) d_L_law_554 (fun r2 w' H locs w2 I => ?_)
  obtain ⟨rfl, rfl⟩ := w2
  have hA := ag_w (kc := kcRo) (fun k hk => by rcases (show k = 0 ∨ k = 1 ∨ k = 2 ∨ k = 3 by omega) with rfl | rfl | rfl | rfl <;> decide) w1 (op_roll hR (xs (i + 1)))
  generalize hmm : mRoll (xs (i + 1)) (co, dm, fm, ct, vo, wo, th, ow, ba, mm) = mr2 at I hA ⊢
  obtain ⟨a2, co2, dm2, fm2, ct2, vo2, wo2, th2, ow2, ba2, mm2⟩ := mr2
  refine lv_istore (lv' := [(6, .int (nI a2)), (5, .int r), (0, .ref b), (1, .ref (hS 0)), (2, .ref (hM 0)), (3, .ref qo), (4, .int (nI i))]) C.1 C.2.1 d_L_law_557 hl (by decide) rfl (fun ls hl => ?_)
  obtain ⟨hR2, hr2, hE⟩ := hA
  have hr2 : r = nI co2 := hr2
  refine lv_aload_n C.1 C.2.1 d_L_law_559 rfl (lv_at hl 4 rfl) ?_
  refine ll_mi C I (c_M_thrown l D cA hM _ co2 dm2 fm2 ct2 vo2 wo2 th2 ow2 ba2 mm2) lk_L73 rfl rfl ⟨by decide, by decide⟩ ⟨hc.1, hc.2⟩ rfl hl.1 (rest := []) rfl (Nat.le_of_ble_eq_true rfl) d_L_law_560 (fun r3 w' H locs w3 I => ?_)
  obtain ⟨rfl, rfl⟩ := w3
  refine lv_iload C.1 C.2.1 d_L_law_563 (lv_at hl 1 rfl) ?_
  refine lv_icmp_eq (x := nI co2) (y := r) (tgt := 570) C.1 C.2.1 d_L_law_565 (by decide) (fun q => ?_) (fun q => absurd hr2.symm q)
  refine lv_iload C.1 C.2.1 d_L_law_570 (lv_at hl 1 rfl) ?_
  refine lv_if_ne (x := r) (tgt := 587) C.1 C.2.1 d_L_law_572 (by decide) (fun q0 => ?_) (fun q0 => ?_)
  · refine lv_goto (tgt := 897) C.1 C.2.1 d_L_law_587 (by decide) ?_
    exact kk f1 _ _ _ _ ls (rel_mono (Nat.le_succ N) hR2) I (lv_sub hl [2, 3, 4, 5, 6] rfl)
  · have ho : f1 0 = (nI a2).toInt64 := by
      rcases hE with ⟨a, h0, hE, heq⟩ | ⟨h1, h5⟩
      · have heq : a2 = a := heq
        rw [heq]; exact hE
      · have h1 : 0 < co2 := h1
        have h5 : co2 < 5 := h5
        exact absurd (hr2.symm.trans q0) (nI_ne0 h1 (by omega))
    refine lv_aload_n C.1 C.2.1 d_L_law_575 rfl (lv_at hl 5 rfl) ?_
    refine lv_iconst (v := nI 0) C.1 C.2.1 d_L_law_576 (by decide) ?_
    refine ll_out C I d_L_law_577 ?_
    refine lv_iload C.1 C.2.1 d_L_law_578 (lv_at hl 0 rfl) ?_
    refine lv_i2l C.1 C.2.1 d_L_law_580 rfl ?_
    refine ll_cmp C ho d_L_law_581 ?_
    refine lv_if_eq (x := nI 0) (tgt := 587) C.1 C.2.1 d_L_law_582 (by decide) (fun q => ?_) (fun q => absurd rfl q)
    refine lv_goto (tgt := 897) C.1 C.2.1 d_L_law_587 (by decide) ?_
    exact kk f1 _ _ _ _ ls (rel_mono (Nat.le_succ N) hR2) I (lv_sub hl [2, 3, 4, 5, 6] rfl)
set_option maxHeartbeats 4000000 in
set_option maxRecDepth 100000 in
theorem arm_fuse {p : Program} {l : Launch} {e : Env} {s : State} {m : MethodId} {below : List Frame} {meth : Method} {c : Code} {H : Heap} {locs : List Loc} {cells slots : Nat} {Q : State → Prop} {D : va_G} {cA : Nat → ClassId} {hS hM : Nat → Nat} {qo b L i N : Nat} {f : Nat → Int64} {xs : Nat → Int32} {ls : Array Slot} {bw : (Nat → Int32)} {cw : (Nat → Int32)} {ts : (Nat → Int32)} {tb : (Nat → Int32)} {st : (Nat → Int32)} {ro : Nat} {mr : Nat} {la : Nat} {fu : Option Nat} {dn : Bool} {wr : Nat} {co : Nat} {dm : Bool} {fm : Option Nat} {ct : Nat} {vo : (Nat → Int32)} {wo : (Nat → Int32)} {th : (Nat → Bool)} {ow : (Nat → Nat)} {ba : Nat} {mm : Nat} (C : gC p s m #[.ref b] meth c b_L_law 7 R_L) (G : gL l s) (hX : va_X b L xs s s.heap) (hbl : b < s.heap.size) (hL : L ≤ 2560) (hi : i + 5 ≤ L) (hN : N + 1 < 2 ^ 30) (hc : cells + 1 ≤ 1044 ∧ slots + 6 ≤ 8460) (hR : Rel N (bw, cw, ts, tb, st, ro, mr, la, fu, dn, wr) (co, dm, fm, ct, vo, wo, th, ow, ba, mm)) (I : lI D cA s hS hM qo f (bw, cw, ts, tb, st, ro, mr, la, fu, dn, wr) (co, dm, fm, ct, vo, wo, th, ow, ba, mm) H locs) (hl : lv_has ls 7 [(0, .ref b), (1, .ref (hS 0)), (2, .ref (hM 0)), (3, .ref qo), (4, .int (nI i))])
    (kk : ∀ (f : Nat → Int64) (u : SV) (w : SM) (H : Heap) (locs : List Loc) (ls : Array Slot), Rel (N + 1) u w → lI D cA s hS hM qo f u w H locs → lv_has ls 7 [(0, .ref b), (1, .ref (hS 0)), (2, .ref (hM 0)), (3, .ref qo), (4, .int (nI i))] → W p l e room_1 s m #[.ref b] below meth c H locs (cells + 1) (slots + 6) Q (F0 m 897 ls [])) : W p l e room_1 s m #[.ref b] below meth c H locs cells slots Q (F0 m 590 ls []) := by
  obtain ⟨hfu, hfm, how, hus, hba, hb31, hmr, hro, hdf, hdn, hct⟩ := rel_f hR
  refine lv_aload_n C.1 C.2.1 d_L_law_590 rfl (lv_at hl 1 rfl) ?_
  refine lv_aload_n C.1 C.2.1 d_L_law_591 rfl (lv_at hl 0 rfl) ?_
  refine lv_iload C.1 C.2.1 d_L_law_592 (lv_at hl 4 rfl) ?_
  refine lv_iconst (v := nI 1) C.1 C.2.1 d_L_law_594 (by decide) ?_
  refine n_iadd C.1 C.2.1 (a := i) (b := 1) d_L_law_595 ?_
  refine ll_ld C I hX hbl (k := i + 1) (by omega) (by omega) d_L_law_596 ?_
  refine ll_si C I (c_S_fuse l D cA hS _ bw cw ts tb st ro mr la fu dn wr (xs (i + 1))) lk_L99 rfl rfl ⟨by decide, by decide⟩ ⟨by show cells ≤ 1044; omega, by show slots ≤ 8460; omega⟩ rfl hl.1 (rest := []) rfl (Nat.le_of_ble_eq_true rfl) d_L_law_597 (fun r1 u1 H locs w1 I => ?_)
  obtain ⟨rfl, rfl⟩ := w1
  refine lv_aload_n C.1 C.2.1 d_L_law_600 rfl (lv_at hl 2 rfl) ?_
  refine lv_aload_n C.1 C.2.1 d_L_law_601 rfl (lv_at hl 0 rfl) ?_
  refine lv_iload C.1 C.2.1 d_L_law_602 (lv_at hl 4 rfl) ?_
  refine lv_iconst (v := nI 1) C.1 C.2.1 d_L_law_604 (by decide) ?_
  refine n_iadd C.1 C.2.1 (a := i) (b := 1) d_L_law_605 ?_
  refine ll_ld C I hX hbl (k := i + 1) (by omega) (by omega) d_L_law_606 ?_
  refine ll_mi C I (c_M_fuse l D cA hM _ co dm fm ct vo wo th ow ba mm (xs (i + 1))) lk_L103 rfl rfl ⟨by decide, by decide⟩ ⟨by show cells ≤ 1044; omega, by show slots ≤ 8460; omega⟩ rfl hl.1 (rest := [.int (bI (cFuse (xs (i + 1)) (bw, cw, ts, tb, st, ro, mr, la, fu, dn, wr)).1)]) rfl (Nat.le_of_ble_eq_true rfl) d_L_law_607 (fun r2 w2 H locs hw2 I => ?_)
  obtain ⟨rfl, rfl⟩ := hw2
  refine lv_icmp_eq (x := bI (cFuse (xs (i + 1)) (bw, cw, ts, tb, st, ro, mr, la, fu, dn, wr)).1) (y := bI (mFuse (xs (i + 1)) (co, dm, fm, ct, vo, wo, th, ow, ba, mm)).1) (tgt := 897) C.1 C.2.1 d_L_law_610 (by decide) (fun q => ?_) (fun q => absurd (congrArg bI (op_fuse hR (xs (i + 1))).1.symm) q)
  refine W.widen (k := cells + 1) (n := slots + 6) (by omega) (by omega) ?_
  exact kk f _ _ _ _ ls (rel_mono (Nat.le_succ N) ((op_fuse hR (xs (i + 1))).2)) I (lv_sub hl [0, 1, 2, 3, 4] rfl)
set_option maxHeartbeats 4000000 in
set_option maxRecDepth 100000 in
theorem arm_recover {p : Program} {l : Launch} {e : Env} {s : State} {m : MethodId} {below : List Frame} {meth : Method} {c : Code} {H : Heap} {locs : List Loc} {cells slots : Nat} {Q : State → Prop} {D : va_G} {cA : Nat → ClassId} {hS hM : Nat → Nat} {qo b L i N : Nat} {f : Nat → Int64} {xs : Nat → Int32} {ls : Array Slot} {bw : (Nat → Int32)} {cw : (Nat → Int32)} {ts : (Nat → Int32)} {tb : (Nat → Int32)} {st : (Nat → Int32)} {ro : Nat} {mr : Nat} {la : Nat} {fu : Option Nat} {dn : Bool} {wr : Nat} {co : Nat} {dm : Bool} {fm : Option Nat} {ct : Nat} {vo : (Nat → Int32)} {wo : (Nat → Int32)} {th : (Nat → Bool)} {ow : (Nat → Nat)} {ba : Nat} {mm : Nat} (C : gC p s m #[.ref b] meth c b_L_law 7 R_L) (G : gL l s) (hX : va_X b L xs s s.heap) (hbl : b < s.heap.size) (hL : L ≤ 2560) (hi : i + 5 ≤ L) (hN : N + 1 < 2 ^ 30) (hc : cells + 1 ≤ 1044 ∧ slots + 6 ≤ 8460) (hR : Rel N (bw, cw, ts, tb, st, ro, mr, la, fu, dn, wr) (co, dm, fm, ct, vo, wo, th, ow, ba, mm)) (I : lI D cA s hS hM qo f (bw, cw, ts, tb, st, ro, mr, la, fu, dn, wr) (co, dm, fm, ct, vo, wo, th, ow, ba, mm) H locs) (hl : lv_has ls 7 [(0, .ref b), (1, .ref (hS 0)), (2, .ref (hM 0)), (3, .ref qo), (4, .int (nI i))])
    (kk : ∀ (f : Nat → Int64) (u : SV) (w : SM) (H : Heap) (locs : List Loc) (ls : Array Slot), Rel (N + 1) u w → lI D cA s hS hM qo f u w H locs → lv_has ls 7 [(0, .ref b), (1, .ref (hS 0)), (2, .ref (hM 0)), (3, .ref qo), (4, .int (nI i))] → W p l e room_1 s m #[.ref b] below meth c H locs (cells + 1) (slots + 6) Q (F0 m 897 ls [])) : W p l e room_1 s m #[.ref b] below meth c H locs cells slots Q (F0 m 615 ls []) := by
  obtain ⟨hfu, hfm, how, hus, hba, hb31, hmr, hro, hdf, hdn, hct⟩ := rel_f hR
  refine lv_aload_n C.1 C.2.1 d_L_law_615 rfl (lv_at hl 1 rfl) ?_
  refine lv_aload_n C.1 C.2.1 d_L_law_616 rfl (lv_at hl 3 rfl) ?_
  refine ll_wrap C G I (c_L_recover l G.1 D cA hS qo f _ bw cw ts tb st ro mr la fu dn wr  hfu hmr hro hdf) lw_104 rfl rfl ⟨by decide, by decide⟩ hc rfl hl.1 (rest := []) rfl (Nat.le_of_ble_eq_true rfl) d_L_law_617 (fun r f1 u1 H locs w1 I => ?_)
  refine lv_istore (lv' := [(5, .int r), (0, .ref b), (1, .ref (hS 0)), (2, .ref (hM 0)), (3, .ref qo), (4, .int (nI i))]) C.1 C.2.1 d_L_law_620 hl (by decide) rfl (fun ls hl => ?_)
  refine lv_aload_n C.1 C.2.1 d_L_law_622 rfl (lv_at hl 3 rfl) ?_
  refine ll_mi C I (c_M_recover l D cA hM _ co dm fm ct vo wo th ow ba mm how hba hb31) lk_L106 rfl rfl ⟨by decide, by decide⟩ ⟨hc.1, hc.2⟩ rfl hl.1 (rest := []) rfl (Nat.le_of_ble_eq_true rfl) d_L_law_623 (fun r2 w' H locs w2 I => ?_)
  obtain ⟨rfl, rfl⟩ := w2
  have hA := ag_w (kc := kcX) (fun k hk => by rcases (show k = 0 ∨ k = 1 ∨ k = 2 ∨ k = 3 by omega) with rfl | rfl | rfl | rfl <;> decide) w1 (op_rec hR)
  generalize hmm : mRec (co, dm, fm, ct, vo, wo, th, ow, ba, mm) = mr2 at I hA ⊢
  obtain ⟨a2, co2, dm2, fm2, ct2, vo2, wo2, th2, ow2, ba2, mm2⟩ := mr2
  refine lv_istore (lv' := [(6, .int (nI a2)), (5, .int r), (0, .ref b), (1, .ref (hS 0)), (2, .ref (hM 0)), (3, .ref qo), (4, .int (nI i))]) C.1 C.2.1 d_L_law_626 hl (by decide) rfl (fun ls hl => ?_)
  obtain ⟨hR2, hr2, hE⟩ := hA
  have hr2 : r = nI co2 := hr2
  refine lv_aload_n C.1 C.2.1 d_L_law_628 rfl (lv_at hl 4 rfl) ?_
  refine ll_mi C I (c_M_thrown l D cA hM _ co2 dm2 fm2 ct2 vo2 wo2 th2 ow2 ba2 mm2) lk_L73 rfl rfl ⟨by decide, by decide⟩ ⟨hc.1, hc.2⟩ rfl hl.1 (rest := []) rfl (Nat.le_of_ble_eq_true rfl) d_L_law_629 (fun r3 w' H locs w3 I => ?_)
  obtain ⟨rfl, rfl⟩ := w3
  refine lv_iload C.1 C.2.1 d_L_law_632 (lv_at hl 1 rfl) ?_
  refine lv_icmp_eq (x := nI co2) (y := r) (tgt := 639) C.1 C.2.1 d_L_law_634 (by decide) (fun q => ?_) (fun q => absurd hr2.symm q)
  refine lv_iload C.1 C.2.1 d_L_law_639 (lv_at hl 1 rfl) ?_
  refine lv_if_ne (x := r) (tgt := 656) C.1 C.2.1 d_L_law_641 (by decide) (fun q0 => ?_) (fun q0 => ?_)
  · refine lv_goto (tgt := 897) C.1 C.2.1 d_L_law_656 (by decide) ?_
    exact kk f1 _ _ _ _ ls (rel_mono (Nat.le_succ N) hR2) I (lv_sub hl [2, 3, 4, 5, 6] rfl)
  · have ho : f1 0 = (nI a2).toInt64 := by
      rcases hE with ⟨a, h0, hE, heq⟩ | ⟨h1, h5⟩
      · have heq : a2 = a := heq
        rw [heq]; exact hE
      · have h1 : 0 < co2 := h1
        have h5 : co2 < 5 := h5
        exact absurd (hr2.symm.trans q0) (nI_ne0 h1 (by omega))
    refine lv_aload_n C.1 C.2.1 d_L_law_644 rfl (lv_at hl 5 rfl) ?_
    refine lv_iconst (v := nI 0) C.1 C.2.1 d_L_law_645 (by decide) ?_
    refine ll_out C I d_L_law_646 ?_
    refine lv_iload C.1 C.2.1 d_L_law_647 (lv_at hl 0 rfl) ?_
    refine lv_i2l C.1 C.2.1 d_L_law_649 rfl ?_
    refine ll_cmp C ho d_L_law_650 ?_
    refine lv_if_eq (x := nI 0) (tgt := 656) C.1 C.2.1 d_L_law_651 (by decide) (fun q => ?_) (fun q => absurd rfl q)
    refine lv_goto (tgt := 897) C.1 C.2.1 d_L_law_656 (by decide) ?_
    exact kk f1 _ _ _ _ ls (rel_mono (Nat.le_succ N) hR2) I (lv_sub hl [2, 3, 4, 5, 6] rfl)
set_option maxHeartbeats 4000000 in
set_option maxRecDepth 100000 in
theorem arm_isDown {p : Program} {l : Launch} {e : Env} {s : State} {m : MethodId} {below : List Frame} {meth : Method} {c : Code} {H : Heap} {locs : List Loc} {cells slots : Nat} {Q : State → Prop} {D : va_G} {cA : Nat → ClassId} {hS hM : Nat → Nat} {qo b L i N : Nat} {f : Nat → Int64} {xs : Nat → Int32} {ls : Array Slot} {bw : (Nat → Int32)} {cw : (Nat → Int32)} {ts : (Nat → Int32)} {tb : (Nat → Int32)} {st : (Nat → Int32)} {ro : Nat} {mr : Nat} {la : Nat} {fu : Option Nat} {dn : Bool} {wr : Nat} {co : Nat} {dm : Bool} {fm : Option Nat} {ct : Nat} {vo : (Nat → Int32)} {wo : (Nat → Int32)} {th : (Nat → Bool)} {ow : (Nat → Nat)} {ba : Nat} {mm : Nat} (C : gC p s m #[.ref b] meth c b_L_law 7 R_L) (G : gL l s) (hX : va_X b L xs s s.heap) (hbl : b < s.heap.size) (hL : L ≤ 2560) (hi : i + 5 ≤ L) (hN : N + 1 < 2 ^ 30) (hc : cells + 1 ≤ 1044 ∧ slots + 6 ≤ 8460) (hR : Rel N (bw, cw, ts, tb, st, ro, mr, la, fu, dn, wr) (co, dm, fm, ct, vo, wo, th, ow, ba, mm)) (I : lI D cA s hS hM qo f (bw, cw, ts, tb, st, ro, mr, la, fu, dn, wr) (co, dm, fm, ct, vo, wo, th, ow, ba, mm) H locs) (hl : lv_has ls 7 [(0, .ref b), (1, .ref (hS 0)), (2, .ref (hM 0)), (3, .ref qo), (4, .int (nI i))])
    (kk : ∀ (f : Nat → Int64) (u : SV) (w : SM) (H : Heap) (locs : List Loc) (ls : Array Slot), Rel (N + 1) u w → lI D cA s hS hM qo f u w H locs → lv_has ls 7 [(0, .ref b), (1, .ref (hS 0)), (2, .ref (hM 0)), (3, .ref qo), (4, .int (nI i))] → W p l e room_1 s m #[.ref b] below meth c H locs (cells + 1) (slots + 6) Q (F0 m 897 ls [])) : W p l e room_1 s m #[.ref b] below meth c H locs cells slots Q (F0 m 659 ls []) := by
  obtain ⟨hfu, hfm, how, hus, hba, hb31, hmr, hro, hdf, hdn, hct⟩ := rel_f hR
  refine lv_aload_n C.1 C.2.1 d_L_law_659 rfl (lv_at hl 1 rfl) ?_
  refine ll_si C I (c_S_isDown l D cA hS _ bw cw ts tb st ro mr la fu dn wr) lk_L107 rfl rfl ⟨by decide, by decide⟩ ⟨by show cells ≤ 1044; omega, by show slots ≤ 8460; omega⟩ rfl hl.1 (rest := []) rfl (Nat.le_of_ble_eq_true rfl) d_L_law_660 (fun r1 u1 H locs w1 I => ?_)
  obtain ⟨rfl, rfl⟩ := w1
  refine lv_aload_n C.1 C.2.1 d_L_law_663 rfl (lv_at hl 2 rfl) ?_
  refine ll_mi C I (c_M_isDown l D cA hM _ co dm fm ct vo wo th ow ba mm) lk_L111 rfl rfl ⟨by decide, by decide⟩ ⟨by show cells ≤ 1044; omega, by show slots ≤ 8460; omega⟩ rfl hl.1 (rest := [.int (bI dn)]) rfl (Nat.le_of_ble_eq_true rfl) d_L_law_664 (fun r2 w2 H locs hw2 I => ?_)
  obtain ⟨rfl, rfl⟩ := hw2
  refine lv_icmp_eq (x := bI dn) (y := bI dm) (tgt := 897) C.1 C.2.1 d_L_law_667 (by decide) (fun q => ?_) (fun q => absurd (by rw [hdn]) q)
  refine W.widen (k := cells + 1) (n := slots + 6) (by omega) (by omega) ?_
  exact kk f _ _ _ _ ls (rel_mono (Nat.le_succ N) (rel_co hR)) I (lv_sub hl [0, 1, 2, 3, 4] rfl)
set_option maxHeartbeats 4000000 in
set_option maxRecDepth 100000 in
theorem arm_writes {p : Program} {l : Launch} {e : Env} {s : State} {m : MethodId} {below : List Frame} {meth : Method} {c : Code} {H : Heap} {locs : List Loc} {cells slots : Nat} {Q : State → Prop} {D : va_G} {cA : Nat → ClassId} {hS hM : Nat → Nat} {qo b L i N : Nat} {f : Nat → Int64} {xs : Nat → Int32} {ls : Array Slot} {bw : (Nat → Int32)} {cw : (Nat → Int32)} {ts : (Nat → Int32)} {tb : (Nat → Int32)} {st : (Nat → Int32)} {ro : Nat} {mr : Nat} {la : Nat} {fu : Option Nat} {dn : Bool} {wr : Nat} {co : Nat} {dm : Bool} {fm : Option Nat} {ct : Nat} {vo : (Nat → Int32)} {wo : (Nat → Int32)} {th : (Nat → Bool)} {ow : (Nat → Nat)} {ba : Nat} {mm : Nat} (C : gC p s m #[.ref b] meth c b_L_law 7 R_L) (G : gL l s) (hX : va_X b L xs s s.heap) (hbl : b < s.heap.size) (hL : L ≤ 2560) (hi : i + 5 ≤ L) (hN : N + 1 < 2 ^ 30) (hc : cells + 1 ≤ 1044 ∧ slots + 6 ≤ 8460) (hR : Rel N (bw, cw, ts, tb, st, ro, mr, la, fu, dn, wr) (co, dm, fm, ct, vo, wo, th, ow, ba, mm)) (I : lI D cA s hS hM qo f (bw, cw, ts, tb, st, ro, mr, la, fu, dn, wr) (co, dm, fm, ct, vo, wo, th, ow, ba, mm) H locs) (hl : lv_has ls 7 [(0, .ref b), (1, .ref (hS 0)), (2, .ref (hM 0)), (3, .ref qo), (4, .int (nI i))])
    (kk : ∀ (f : Nat → Int64) (u : SV) (w : SM) (H : Heap) (locs : List Loc) (ls : Array Slot), Rel (N + 1) u w → lI D cA s hS hM qo f u w H locs → lv_has ls 7 [(0, .ref b), (1, .ref (hS 0)), (2, .ref (hM 0)), (3, .ref qo), (4, .int (nI i))] → W p l e room_1 s m #[.ref b] below meth c H locs (cells + 1) (slots + 6) Q (F0 m 897 ls [])) : W p l e room_1 s m #[.ref b] below meth c H locs cells slots Q (F0 m 672 ls []) := by
  obtain ⟨hfu, hfm, how, hus, hba, hb31, hmr, hro, hdf, hdn, hct⟩ := rel_f hR
  refine lv_aload_n C.1 C.2.1 d_L_law_672 rfl (lv_at hl 1 rfl) ?_
  refine ll_si C I (c_S_writes l D cA hS _ bw cw ts tb st ro mr la fu dn wr) lk_L112 rfl rfl ⟨by decide, by decide⟩ ⟨by show cells ≤ 1044; omega, by show slots ≤ 8460; omega⟩ rfl hl.1 (rest := []) rfl (Nat.le_of_ble_eq_true rfl) d_L_law_673 (fun r1 u1 H locs w1 I => ?_)
  obtain ⟨rfl, rfl⟩ := w1
  refine lv_aload_n C.1 C.2.1 d_L_law_676 rfl (lv_at hl 2 rfl) ?_
  refine ll_mi C I (c_M_writes l D cA hM _ co dm fm ct vo wo th ow ba mm) lk_L115 rfl rfl ⟨by decide, by decide⟩ ⟨by show cells ≤ 1044; omega, by show slots ≤ 8460; omega⟩ rfl hl.1 (rest := [.int (nI wr)]) rfl (Nat.le_of_ble_eq_true rfl) d_L_law_677 (fun r2 w2 H locs hw2 I => ?_)
  obtain ⟨rfl, rfl⟩ := hw2
  refine lv_icmp_eq (x := nI wr) (y := nI ct) (tgt := 897) C.1 C.2.1 d_L_law_680 (by decide) (fun q => ?_) (fun q => absurd (by rw [hct]) q)
  refine W.widen (k := cells + 1) (n := slots + 6) (by omega) (by omega) ?_
  exact kk f _ _ _ _ ls (rel_mono (Nat.le_succ N) (rel_co hR)) I (lv_sub hl [0, 1, 2, 3, 4] rfl)
set_option maxHeartbeats 4000000 in
set_option maxRecDepth 100000 in
theorem arm_used {p : Program} {l : Launch} {e : Env} {s : State} {m : MethodId} {below : List Frame} {meth : Method} {c : Code} {H : Heap} {locs : List Loc} {cells slots : Nat} {Q : State → Prop} {D : va_G} {cA : Nat → ClassId} {hS hM : Nat → Nat} {qo b L i N : Nat} {f : Nat → Int64} {xs : Nat → Int32} {ls : Array Slot} {bw : (Nat → Int32)} {cw : (Nat → Int32)} {ts : (Nat → Int32)} {tb : (Nat → Int32)} {st : (Nat → Int32)} {ro : Nat} {mr : Nat} {la : Nat} {fu : Option Nat} {dn : Bool} {wr : Nat} {co : Nat} {dm : Bool} {fm : Option Nat} {ct : Nat} {vo : (Nat → Int32)} {wo : (Nat → Int32)} {th : (Nat → Bool)} {ow : (Nat → Nat)} {ba : Nat} {mm : Nat} (C : gC p s m #[.ref b] meth c b_L_law 7 R_L) (G : gL l s) (hX : va_X b L xs s s.heap) (hbl : b < s.heap.size) (hL : L ≤ 2560) (hi : i + 5 ≤ L) (hN : N + 1 < 2 ^ 30) (hc : cells + 1 ≤ 1044 ∧ slots + 6 ≤ 8460) (hR : Rel N (bw, cw, ts, tb, st, ro, mr, la, fu, dn, wr) (co, dm, fm, ct, vo, wo, th, ow, ba, mm)) (I : lI D cA s hS hM qo f (bw, cw, ts, tb, st, ro, mr, la, fu, dn, wr) (co, dm, fm, ct, vo, wo, th, ow, ba, mm) H locs) (hl : lv_has ls 7 [(0, .ref b), (1, .ref (hS 0)), (2, .ref (hM 0)), (3, .ref qo), (4, .int (nI i))])
    (kk : ∀ (f : Nat → Int64) (u : SV) (w : SM) (H : Heap) (locs : List Loc) (ls : Array Slot), Rel (N + 1) u w → lI D cA s hS hM qo f u w H locs → lv_has ls 7 [(0, .ref b), (1, .ref (hS 0)), (2, .ref (hM 0)), (3, .ref qo), (4, .int (nI i))] → W p l e room_1 s m #[.ref b] below meth c H locs (cells + 1) (slots + 6) Q (F0 m 897 ls [])) : W p l e room_1 s m #[.ref b] below meth c H locs cells slots Q (F0 m 685 ls []) := by
  obtain ⟨hfu, hfm, how, hus, hba, hb31, hmr, hro, hdf, hdn, hct⟩ := rel_f hR
  refine lv_aload_n C.1 C.2.1 d_L_law_685 rfl (lv_at hl 1 rfl) ?_
  refine lv_aload_n C.1 C.2.1 d_L_law_686 rfl (lv_at hl 3 rfl) ?_
  refine ll_wrap C G I (c_L_used l G.1 D cA hS qo f _ bw cw ts tb st ro mr la fu dn wr  hfu ) lw_116 rfl rfl ⟨by decide, by decide⟩ hc rfl hl.1 (rest := []) rfl (Nat.le_of_ble_eq_true rfl) d_L_law_687 (fun r f1 u1 H locs w1 I => ?_)
  refine lv_istore (lv' := [(5, .int r), (0, .ref b), (1, .ref (hS 0)), (2, .ref (hM 0)), (3, .ref qo), (4, .int (nI i))]) C.1 C.2.1 d_L_law_690 hl (by decide) rfl (fun ls hl => ?_)
  refine lv_aload_n C.1 C.2.1 d_L_law_692 rfl (lv_at hl 3 rfl) ?_
  refine ll_mi C I (c_M_used l D cA hM _ co dm fm ct vo wo th ow ba mm how) lk_L118 rfl rfl ⟨by decide, by decide⟩ ⟨hc.1, hc.2⟩ rfl hl.1 (rest := []) rfl (Nat.le_of_ble_eq_true rfl) d_L_law_693 (fun r2 w' H locs w2 I => ?_)
  obtain ⟨rfl, rfl⟩ := w2
  have hA := ag_w (kc := kcX) (fun k hk => by rcases (show k = 0 ∨ k = 1 ∨ k = 2 ∨ k = 3 by omega) with rfl | rfl | rfl | rfl <;> decide) w1 (op_used hR)
  generalize hmm : mUsedC (co, dm, fm, ct, vo, wo, th, ow, ba, mm) = mr2 at I hA ⊢
  obtain ⟨a2, co2, dm2, fm2, ct2, vo2, wo2, th2, ow2, ba2, mm2⟩ := mr2
  refine lv_istore (lv' := [(6, .int (nI a2)), (5, .int r), (0, .ref b), (1, .ref (hS 0)), (2, .ref (hM 0)), (3, .ref qo), (4, .int (nI i))]) C.1 C.2.1 d_L_law_696 hl (by decide) rfl (fun ls hl => ?_)
  obtain ⟨hR2, hr2, hE⟩ := hA
  have hr2 : r = nI co2 := hr2
  refine lv_aload_n C.1 C.2.1 d_L_law_698 rfl (lv_at hl 4 rfl) ?_
  refine ll_mi C I (c_M_thrown l D cA hM _ co2 dm2 fm2 ct2 vo2 wo2 th2 ow2 ba2 mm2) lk_L73 rfl rfl ⟨by decide, by decide⟩ ⟨hc.1, hc.2⟩ rfl hl.1 (rest := []) rfl (Nat.le_of_ble_eq_true rfl) d_L_law_699 (fun r3 w' H locs w3 I => ?_)
  obtain ⟨rfl, rfl⟩ := w3
  refine lv_iload C.1 C.2.1 d_L_law_702 (lv_at hl 1 rfl) ?_
  refine lv_icmp_eq (x := nI co2) (y := r) (tgt := 709) C.1 C.2.1 d_L_law_704 (by decide) (fun q => ?_) (fun q => absurd hr2.symm q)
  refine lv_iload C.1 C.2.1 d_L_law_709 (lv_at hl 1 rfl) ?_
  refine lv_if_ne (x := r) (tgt := 726) C.1 C.2.1 d_L_law_711 (by decide) (fun q0 => ?_) (fun q0 => ?_)
  · refine lv_goto (tgt := 897) C.1 C.2.1 d_L_law_726 (by decide) ?_
    exact kk f1 _ _ _ _ ls (rel_mono (Nat.le_succ N) hR2) I (lv_sub hl [2, 3, 4, 5, 6] rfl)
  · have ho : f1 0 = (nI a2).toInt64 := by
      rcases hE with ⟨a, h0, hE, heq⟩ | ⟨h1, h5⟩
      · have heq : a2 = a := heq
        rw [heq]; exact hE
      · have h1 : 0 < co2 := h1
        have h5 : co2 < 5 := h5
        exact absurd (hr2.symm.trans q0) (nI_ne0 h1 (by omega))
    refine lv_aload_n C.1 C.2.1 d_L_law_714 rfl (lv_at hl 5 rfl) ?_
    refine lv_iconst (v := nI 0) C.1 C.2.1 d_L_law_715 (by decide) ?_
    refine ll_out C I d_L_law_716 ?_
    refine lv_iload C.1 C.2.1 d_L_law_717 (lv_at hl 0 rfl) ?_
    refine lv_i2l C.1 C.2.1 d_L_law_719 rfl ?_
    refine ll_cmp C ho d_L_law_720 ?_
    refine lv_if_eq (x := nI 0) (tgt := 726) C.1 C.2.1 d_L_law_721 (by decide) (fun q => ?_) (fun q => absurd rfl q)
    refine lv_goto (tgt := 897) C.1 C.2.1 d_L_law_726 (by decide) ?_
    exact kk f1 _ _ _ _ ls (rel_mono (Nat.le_succ N) hR2) I (lv_sub hl [2, 3, 4, 5, 6] rfl)
set_option maxHeartbeats 4000000 in
set_option maxRecDepth 100000 in
theorem arm_copyOf {p : Program} {l : Launch} {e : Env} {s : State} {m : MethodId} {below : List Frame} {meth : Method} {c : Code} {H : Heap} {locs : List Loc} {cells slots : Nat} {Q : State → Prop} {D : va_G} {cA : Nat → ClassId} {hS hM : Nat → Nat} {qo b L i N : Nat} {f : Nat → Int64} {xs : Nat → Int32} {ls : Array Slot} {bw : (Nat → Int32)} {cw : (Nat → Int32)} {ts : (Nat → Int32)} {tb : (Nat → Int32)} {st : (Nat → Int32)} {ro : Nat} {mr : Nat} {la : Nat} {fu : Option Nat} {dn : Bool} {wr : Nat} {co : Nat} {dm : Bool} {fm : Option Nat} {ct : Nat} {vo : (Nat → Int32)} {wo : (Nat → Int32)} {th : (Nat → Bool)} {ow : (Nat → Nat)} {ba : Nat} {mm : Nat} (C : gC p s m #[.ref b] meth c b_L_law 7 R_L) (G : gL l s) (hX : va_X b L xs s s.heap) (hbl : b < s.heap.size) (hL : L ≤ 2560) (hi : i + 5 ≤ L) (hN : N + 1 < 2 ^ 30) (hc : cells + 1 ≤ 1044 ∧ slots + 6 ≤ 8460) (hR : Rel N (bw, cw, ts, tb, st, ro, mr, la, fu, dn, wr) (co, dm, fm, ct, vo, wo, th, ow, ba, mm)) (I : lI D cA s hS hM qo f (bw, cw, ts, tb, st, ro, mr, la, fu, dn, wr) (co, dm, fm, ct, vo, wo, th, ow, ba, mm) H locs) (hl : lv_has ls 7 [(0, .ref b), (1, .ref (hS 0)), (2, .ref (hM 0)), (3, .ref qo), (4, .int (nI i))])
    (kk : ∀ (f : Nat → Int64) (u : SV) (w : SM) (H : Heap) (locs : List Loc) (ls : Array Slot), Rel (N + 1) u w → lI D cA s hS hM qo f u w H locs → lv_has ls 7 [(0, .ref b), (1, .ref (hS 0)), (2, .ref (hM 0)), (3, .ref qo), (4, .int (nI i))] → W p l e room_1 s m #[.ref b] below meth c H locs (cells + 1) (slots + 6) Q (F0 m 897 ls [])) : W p l e room_1 s m #[.ref b] below meth c H locs cells slots Q (F0 m 729 ls []) := by
  obtain ⟨hfu, hfm, how, hus, hba, hb31, hmr, hro, hdf, hdn, hct⟩ := rel_f hR
  refine lv_aload_n C.1 C.2.1 d_L_law_729 rfl (lv_at hl 1 rfl) ?_
  refine lv_aload_n C.1 C.2.1 d_L_law_730 rfl (lv_at hl 0 rfl) ?_
  refine lv_iload C.1 C.2.1 d_L_law_731 (lv_at hl 4 rfl) ?_
  refine lv_iconst (v := nI 1) C.1 C.2.1 d_L_law_733 (by decide) ?_
  refine n_iadd C.1 C.2.1 (a := i) (b := 1) d_L_law_734 ?_
  refine ll_ld C I hX hbl (k := i + 1) (by omega) (by omega) d_L_law_735 ?_
  refine lv_aload_n C.1 C.2.1 d_L_law_736 rfl (lv_at hl 0 rfl) ?_
  refine lv_iload C.1 C.2.1 d_L_law_737 (lv_at hl 4 rfl) ?_
  refine lv_iconst (v := nI 2) C.1 C.2.1 d_L_law_739 (by decide) ?_
  refine n_iadd C.1 C.2.1 (a := i) (b := 2) d_L_law_740 ?_
  refine ll_ld C I hX hbl (k := i + 2) (by omega) (by omega) d_L_law_741 ?_
  refine lv_aload_n C.1 C.2.1 d_L_law_742 rfl (lv_at hl 3 rfl) ?_
  refine ll_wrap C G I (c_L_copyOf l G.1 D cA hS qo f _ bw cw ts tb st ro mr la fu dn wr (xs (i + 1)) (xs (i + 2)) hfu ) lw_119 rfl rfl ⟨by decide, by decide⟩ hc rfl hl.1 (rest := []) rfl (Nat.le_of_ble_eq_true rfl) d_L_law_743 (fun r f1 u1 H locs w1 I => ?_)
  refine lv_istore (lv' := [(5, .int r), (0, .ref b), (1, .ref (hS 0)), (2, .ref (hM 0)), (3, .ref qo), (4, .int (nI i))]) C.1 C.2.1 d_L_law_746 hl (by decide) rfl (fun ls hl => ?_)
  refine lv_aload_n C.1 C.2.1 d_L_law_748 rfl (lv_at hl 3 rfl) ?_
  refine lv_aload_n C.1 C.2.1 d_L_law_749 rfl (lv_at hl 1 rfl) ?_
  refine lv_iload C.1 C.2.1 d_L_law_750 (lv_at hl 5 rfl) ?_
  refine lv_iconst (v := nI 1) C.1 C.2.1 d_L_law_752 (by decide) ?_
  refine n_iadd C.1 C.2.1 (a := i) (b := 1) d_L_law_753 ?_
  refine ll_ld C I hX hbl (k := i + 1) (by omega) (by omega) d_L_law_754 ?_
  refine lv_aload_n C.1 C.2.1 d_L_law_755 rfl (lv_at hl 1 rfl) ?_
  refine lv_iload C.1 C.2.1 d_L_law_756 (lv_at hl 5 rfl) ?_
  refine lv_iconst (v := nI 2) C.1 C.2.1 d_L_law_758 (by decide) ?_
  refine n_iadd C.1 C.2.1 (a := i) (b := 2) d_L_law_759 ?_
  refine ll_ld C I hX hbl (k := i + 2) (by omega) (by omega) d_L_law_760 ?_
  refine ll_mi C I (c_M_copyOf l D cA hM _ co dm fm ct vo wo th ow ba mm (xs (i + 1)) (xs (i + 2)) how) lk_L121 rfl rfl ⟨by decide, by decide⟩ ⟨hc.1, hc.2⟩ rfl hl.1 (rest := []) rfl (Nat.le_of_ble_eq_true rfl) d_L_law_761 (fun r2 w' H locs w2 I => ?_)
  obtain ⟨rfl, rfl⟩ := w2
  have hA := ag_w (kc := kcRS) (fun k hk => by rcases (show k = 0 ∨ k = 1 ∨ k = 2 ∨ k = 3 by omega) with rfl | rfl | rfl | rfl <;> decide) w1 (op_copyOf hR (xs (i + 1)) (xs (i + 2)))
  generalize hmm : mCopyOf (xs (i + 1)) (xs (i + 2)) (co, dm, fm, ct, vo, wo, th, ow, ba, mm) = mr2 at I hA ⊢
  obtain ⟨a2, co2, dm2, fm2, ct2, vo2, wo2, th2, ow2, ba2, mm2⟩ := mr2
  refine lv_istore (lv' := [(6, .int (oI a2)), (5, .int r), (0, .ref b), (1, .ref (hS 0)), (2, .ref (hM 0)), (3, .ref qo), (4, .int (nI i))]) C.1 C.2.1 d_L_law_764 hl (by decide) rfl (fun ls hl => ?_)
  obtain ⟨hR2, hr2, hE⟩ := hA
  have hr2 : r = nI co2 := hr2
  refine lv_aload_n C.1 C.2.1 d_L_law_766 rfl (lv_at hl 4 rfl) ?_
  refine ll_mi C I (c_M_thrown l D cA hM _ co2 dm2 fm2 ct2 vo2 wo2 th2 ow2 ba2 mm2) lk_L73 rfl rfl ⟨by decide, by decide⟩ ⟨hc.1, hc.2⟩ rfl hl.1 (rest := []) rfl (Nat.le_of_ble_eq_true rfl) d_L_law_767 (fun r3 w' H locs w3 I => ?_)
  obtain ⟨rfl, rfl⟩ := w3
  refine lv_iload C.1 C.2.1 d_L_law_770 (lv_at hl 1 rfl) ?_
  refine lv_icmp_eq (x := nI co2) (y := r) (tgt := 777) C.1 C.2.1 d_L_law_772 (by decide) (fun q => ?_) (fun q => absurd hr2.symm q)
  refine lv_iload C.1 C.2.1 d_L_law_777 (lv_at hl 1 rfl) ?_
  refine lv_if_ne (x := r) (tgt := 794) C.1 C.2.1 d_L_law_779 (by decide) (fun q0 => ?_) (fun q0 => ?_)
  · refine lv_goto (tgt := 897) C.1 C.2.1 d_L_law_794 (by decide) ?_
    exact kk f1 _ _ _ _ ls (rel_mono (Nat.le_succ N) hR2) I (lv_sub hl [2, 3, 4, 5, 6] rfl)
  · have ho : f1 0 = (oI a2).toInt64 := by
      rcases hE with ⟨a, h0, hE, heq⟩ | ⟨h1, h5⟩
      · have heq : a2 = a := heq
        rw [heq]; exact hE
      · have h1 : 0 < co2 := h1
        have h5 : co2 < 5 := h5
        exact absurd (hr2.symm.trans q0) (nI_ne0 h1 (by omega))
    refine lv_aload_n C.1 C.2.1 d_L_law_782 rfl (lv_at hl 5 rfl) ?_
    refine lv_iconst (v := nI 0) C.1 C.2.1 d_L_law_783 (by decide) ?_
    refine ll_out C I d_L_law_784 ?_
    refine lv_iload C.1 C.2.1 d_L_law_785 (lv_at hl 0 rfl) ?_
    refine lv_i2l C.1 C.2.1 d_L_law_787 rfl ?_
    refine ll_cmp C ho d_L_law_788 ?_
    refine lv_if_eq (x := nI 0) (tgt := 794) C.1 C.2.1 d_L_law_789 (by decide) (fun q => ?_) (fun q => absurd rfl q)
    refine lv_goto (tgt := 897) C.1 C.2.1 d_L_law_794 (by decide) ?_
    exact kk f1 _ _ _ _ ls (rel_mono (Nat.le_succ N) hR2) I (lv_sub hl [2, 3, 4, 5, 6] rfl)
set_option maxHeartbeats 4000000 in
set_option maxRecDepth 100000 in
theorem arm_places {p : Program} {l : Launch} {e : Env} {s : State} {m : MethodId} {below : List Frame} {meth : Method} {c : Code} {H : Heap} {locs : List Loc} {cells slots : Nat} {Q : State → Prop} {D : va_G} {cA : Nat → ClassId} {hS hM : Nat → Nat} {qo b L i N : Nat} {f : Nat → Int64} {xs : Nat → Int32} {ls : Array Slot} {bw : (Nat → Int32)} {cw : (Nat → Int32)} {ts : (Nat → Int32)} {tb : (Nat → Int32)} {st : (Nat → Int32)} {ro : Nat} {mr : Nat} {la : Nat} {fu : Option Nat} {dn : Bool} {wr : Nat} {co : Nat} {dm : Bool} {fm : Option Nat} {ct : Nat} {vo : (Nat → Int32)} {wo : (Nat → Int32)} {th : (Nat → Bool)} {ow : (Nat → Nat)} {ba : Nat} {mm : Nat} (C : gC p s m #[.ref b] meth c b_L_law 7 R_L) (G : gL l s) (hX : va_X b L xs s s.heap) (hbl : b < s.heap.size) (hL : L ≤ 2560) (hi : i + 5 ≤ L) (hN : N + 1 < 2 ^ 30) (hc : cells + 1 ≤ 1044 ∧ slots + 6 ≤ 8460) (hR : Rel N (bw, cw, ts, tb, st, ro, mr, la, fu, dn, wr) (co, dm, fm, ct, vo, wo, th, ow, ba, mm)) (I : lI D cA s hS hM qo f (bw, cw, ts, tb, st, ro, mr, la, fu, dn, wr) (co, dm, fm, ct, vo, wo, th, ow, ba, mm) H locs) (hl : lv_has ls 7 [(0, .ref b), (1, .ref (hS 0)), (2, .ref (hM 0)), (3, .ref qo), (4, .int (nI i))])
    (kk : ∀ (f : Nat → Int64) (u : SV) (w : SM) (H : Heap) (locs : List Loc) (ls : Array Slot), Rel (N + 1) u w → lI D cA s hS hM qo f u w H locs → lv_has ls 7 [(0, .ref b), (1, .ref (hS 0)), (2, .ref (hM 0)), (3, .ref qo), (4, .int (nI i))] → W p l e room_1 s m #[.ref b] below meth c H locs (cells + 1) (slots + 6) Q (F0 m 897 ls [])) : W p l e room_1 s m #[.ref b] below meth c H locs cells slots Q (F0 m 797 ls []) := by
  obtain ⟨hfu, hfm, how, hus, hba, hb31, hmr, hro, hdf, hdn, hct⟩ := rel_f hR
  refine lv_aload_n C.1 C.2.1 d_L_law_797 rfl (lv_at hl 1 rfl) ?_
  refine lv_aload_n C.1 C.2.1 d_L_law_798 rfl (lv_at hl 3 rfl) ?_
  refine ll_wrap C G I (c_L_places l G.1 D cA hS qo f _ bw cw ts tb st ro mr la fu dn wr  hfu ) lw_122 rfl rfl ⟨by decide, by decide⟩ hc rfl hl.1 (rest := []) rfl (Nat.le_of_ble_eq_true rfl) d_L_law_799 (fun r f1 u1 H locs w1 I => ?_)
  refine lv_istore (lv' := [(5, .int r), (0, .ref b), (1, .ref (hS 0)), (2, .ref (hM 0)), (3, .ref qo), (4, .int (nI i))]) C.1 C.2.1 d_L_law_802 hl (by decide) rfl (fun ls hl => ?_)
  refine lv_aload_n C.1 C.2.1 d_L_law_804 rfl (lv_at hl 3 rfl) ?_
  refine ll_mi C I (c_M_places l D cA hM _ co dm fm ct vo wo th ow ba mm) lk_L124 rfl rfl ⟨by decide, by decide⟩ ⟨hc.1, hc.2⟩ rfl hl.1 (rest := []) rfl (Nat.le_of_ble_eq_true rfl) d_L_law_805 (fun r2 w' H locs w2 I => ?_)
  obtain ⟨rfl, rfl⟩ := w2
  have hA := ag_w (kc := kcX) (fun k hk => by rcases (show k = 0 ∨ k = 1 ∨ k = 2 ∨ k = 3 by omega) with rfl | rfl | rfl | rfl <;> decide) w1 (op_places hR)
  generalize hmm : mPlaces (co, dm, fm, ct, vo, wo, th, ow, ba, mm) = mr2 at I hA ⊢
  obtain ⟨a2, co2, dm2, fm2, ct2, vo2, wo2, th2, ow2, ba2, mm2⟩ := mr2
  refine lv_istore (lv' := [(6, .int (nI a2)), (5, .int r), (0, .ref b), (1, .ref (hS 0)), (2, .ref (hM 0)), (3, .ref qo), (4, .int (nI i))]) C.1 C.2.1 d_L_law_808 hl (by decide) rfl (fun ls hl => ?_)
  obtain ⟨hR2, hr2, hE⟩ := hA
  have hr2 : r = nI co2 := hr2
  refine lv_aload_n C.1 C.2.1 d_L_law_810 rfl (lv_at hl 4 rfl) ?_
  refine ll_mi C I (c_M_thrown l D cA hM _ co2 dm2 fm2 ct2 vo2 wo2 th2 ow2 ba2 mm2) lk_L73 rfl rfl ⟨by decide, by decide⟩ ⟨hc.1, hc.2⟩ rfl hl.1 (rest := []) rfl (Nat.le_of_ble_eq_true rfl) d_L_law_811 (fun r3 w' H locs w3 I => ?_)
  obtain ⟨rfl, rfl⟩ := w3
  refine lv_iload C.1 C.2.1 d_L_law_814 (lv_at hl 1 rfl) ?_
  refine lv_icmp_eq (x := nI co2) (y := r) (tgt := 821) C.1 C.2.1 d_L_law_816 (by decide) (fun q => ?_) (fun q => absurd hr2.symm q)
  refine lv_iload C.1 C.2.1 d_L_law_821 (lv_at hl 1 rfl) ?_
  refine lv_if_ne (x := r) (tgt := 838) C.1 C.2.1 d_L_law_823 (by decide) (fun q0 => ?_) (fun q0 => ?_)
  · refine lv_goto (tgt := 897) C.1 C.2.1 d_L_law_838 (by decide) ?_
    exact kk f1 _ _ _ _ ls (rel_mono (Nat.le_succ N) hR2) I (lv_sub hl [2, 3, 4, 5, 6] rfl)
  · have ho : f1 0 = (nI a2).toInt64 := by
      rcases hE with ⟨a, h0, hE, heq⟩ | ⟨h1, h5⟩
      · have heq : a2 = a := heq
        rw [heq]; exact hE
      · have h1 : 0 < co2 := h1
        have h5 : co2 < 5 := h5
        exact absurd (hr2.symm.trans q0) (nI_ne0 h1 (by omega))
    refine lv_aload_n C.1 C.2.1 d_L_law_826 rfl (lv_at hl 5 rfl) ?_
    refine lv_iconst (v := nI 0) C.1 C.2.1 d_L_law_827 (by decide) ?_
    refine ll_out C I d_L_law_828 ?_
    refine lv_iload C.1 C.2.1 d_L_law_829 (lv_at hl 0 rfl) ?_
    refine lv_i2l C.1 C.2.1 d_L_law_831 rfl ?_
    refine ll_cmp C ho d_L_law_832 ?_
    refine lv_if_eq (x := nI 0) (tgt := 838) C.1 C.2.1 d_L_law_833 (by decide) (fun q => ?_) (fun q => absurd rfl q)
    refine lv_goto (tgt := 897) C.1 C.2.1 d_L_law_838 (by decide) ?_
    exact kk f1 _ _ _ _ ls (rel_mono (Nat.le_succ N) hR2) I (lv_sub hl [2, 3, 4, 5, 6] rfl)
set_option maxHeartbeats 4000000 in
set_option maxRecDepth 100000 in
theorem arm_changed {p : Program} {l : Launch} {e : Env} {s : State} {m : MethodId} {below : List Frame} {meth : Method} {c : Code} {H : Heap} {locs : List Loc} {cells slots : Nat} {Q : State → Prop} {D : va_G} {cA : Nat → ClassId} {hS hM : Nat → Nat} {qo b L i N : Nat} {f : Nat → Int64} {xs : Nat → Int32} {ls : Array Slot} {bw : (Nat → Int32)} {cw : (Nat → Int32)} {ts : (Nat → Int32)} {tb : (Nat → Int32)} {st : (Nat → Int32)} {ro : Nat} {mr : Nat} {la : Nat} {fu : Option Nat} {dn : Bool} {wr : Nat} {co : Nat} {dm : Bool} {fm : Option Nat} {ct : Nat} {vo : (Nat → Int32)} {wo : (Nat → Int32)} {th : (Nat → Bool)} {ow : (Nat → Nat)} {ba : Nat} {mm : Nat} (C : gC p s m #[.ref b] meth c b_L_law 7 R_L) (G : gL l s) (hX : va_X b L xs s s.heap) (hbl : b < s.heap.size) (hL : L ≤ 2560) (hi : i + 5 ≤ L) (hN : N + 1 < 2 ^ 30) (hc : cells + 1 ≤ 1044 ∧ slots + 6 ≤ 8460) (hR : Rel N (bw, cw, ts, tb, st, ro, mr, la, fu, dn, wr) (co, dm, fm, ct, vo, wo, th, ow, ba, mm)) (I : lI D cA s hS hM qo f (bw, cw, ts, tb, st, ro, mr, la, fu, dn, wr) (co, dm, fm, ct, vo, wo, th, ow, ba, mm) H locs) (hl : lv_has ls 7 [(0, .ref b), (1, .ref (hS 0)), (2, .ref (hM 0)), (3, .ref qo), (4, .int (nI i))])
    (kk : ∀ (f : Nat → Int64) (u : SV) (w : SM) (H : Heap) (locs : List Loc) (ls : Array Slot), Rel (N + 1) u w → lI D cA s hS hM qo f u w H locs → lv_has ls 7 [(0, .ref b), (1, .ref (hS 0)), (2, .ref (hM 0)), (3, .ref qo), (4, .int (nI i))] → W p l e room_1 s m #[.ref b] below meth c H locs (cells + 1) (slots + 6) Q (F0 m 897 ls [])) : W p l e room_1 s m #[.ref b] below meth c H locs cells slots Q (F0 m 841 ls []) := by
  obtain ⟨hfu, hfm, how, hus, hba, hb31, hmr, hro, hdf, hdn, hct⟩ := rel_f hR
  refine lv_aload_n C.1 C.2.1 d_L_law_841 rfl (lv_at hl 1 rfl) ?_
  refine lv_aload_n C.1 C.2.1 d_L_law_842 rfl (lv_at hl 0 rfl) ?_
  refine lv_iload C.1 C.2.1 d_L_law_843 (lv_at hl 4 rfl) ?_
  refine lv_iconst (v := nI 1) C.1 C.2.1 d_L_law_845 (by decide) ?_
  refine n_iadd C.1 C.2.1 (a := i) (b := 1) d_L_law_846 ?_
  refine ll_ld C I hX hbl (k := i + 1) (by omega) (by omega) d_L_law_847 ?_
  refine lv_aload_n C.1 C.2.1 d_L_law_848 rfl (lv_at hl 3 rfl) ?_
  refine ll_wrap C G I (c_L_changed l G.1 D cA hS qo f _ bw cw ts tb st ro mr la fu dn wr (xs (i + 1)) hfu ) lw_125 rfl rfl ⟨by decide, by decide⟩ hc rfl hl.1 (rest := []) rfl (Nat.le_of_ble_eq_true rfl) d_L_law_849 (fun r f1 u1 H locs w1 I => ?_)
  refine lv_istore (lv' := [(5, .int r), (0, .ref b), (1, .ref (hS 0)), (2, .ref (hM 0)), (3, .ref qo), (4, .int (nI i))]) C.1 C.2.1 d_L_law_852 hl (by decide) rfl (fun ls hl => ?_)
  refine lv_aload_n C.1 C.2.1 d_L_law_854 rfl (lv_at hl 3 rfl) ?_
  refine lv_aload_n C.1 C.2.1 d_L_law_855 rfl (lv_at hl 1 rfl) ?_
  refine lv_iload C.1 C.2.1 d_L_law_856 (lv_at hl 5 rfl) ?_
  refine lv_iconst (v := nI 1) C.1 C.2.1 d_L_law_858 (by decide) ?_
  refine n_iadd C.1 C.2.1 (a := i) (b := 1) d_L_law_859 ?_
  refine ll_ld C I hX hbl (k := i + 1) (by omega) (by omega) d_L_law_860 ?_
  refine ll_mi C I (c_M_changed l D cA hM _ co dm fm ct vo wo th ow ba mm (xs (i + 1))) lk_L127 rfl rfl ⟨by decide, by decide⟩ ⟨hc.1, hc.2⟩ rfl hl.1 (rest := []) rfl (Nat.le_of_ble_eq_true rfl) d_L_law_861 (fun r2 w' H locs w2 I => ?_)
  obtain ⟨rfl, rfl⟩ := w2
  have hA := ag_w (kc := kcC) (fun k hk => by rcases (show k = 0 ∨ k = 1 ∨ k = 2 ∨ k = 3 by omega) with rfl | rfl | rfl | rfl <;> decide) w1 (op_changed hR (xs (i + 1)))
  generalize hmm : mChanged (xs (i + 1)) (co, dm, fm, ct, vo, wo, th, ow, ba, mm) = mr2 at I hA ⊢
  obtain ⟨a2, co2, dm2, fm2, ct2, vo2, wo2, th2, ow2, ba2, mm2⟩ := mr2
  refine lv_istore (lv' := [(6, .int (nI a2)), (5, .int r), (0, .ref b), (1, .ref (hS 0)), (2, .ref (hM 0)), (3, .ref qo), (4, .int (nI i))]) C.1 C.2.1 d_L_law_864 hl (by decide) rfl (fun ls hl => ?_)
  obtain ⟨hR2, hr2, hE⟩ := hA
  have hr2 : r = nI co2 := hr2
  refine lv_aload_n C.1 C.2.1 d_L_law_866 rfl (lv_at hl 4 rfl) ?_
  refine ll_mi C I (c_M_thrown l D cA hM _ co2 dm2 fm2 ct2 vo2 wo2 th2 ow2 ba2 mm2) lk_L73 rfl rfl ⟨by decide, by decide⟩ ⟨hc.1, hc.2⟩ rfl hl.1 (rest := []) rfl (Nat.le_of_ble_eq_true rfl) d_L_law_867 (fun r3 w' H locs w3 I => ?_)
  obtain ⟨rfl, rfl⟩ := w3
  refine lv_iload C.1 C.2.1 d_L_law_870 (lv_at hl 1 rfl) ?_
  refine lv_icmp_eq (x := nI co2) (y := r) (tgt := 877) C.1 C.2.1 d_L_law_872 (by decide) (fun q => ?_) (fun q => absurd hr2.symm q)
  refine lv_iload C.1 C.2.1 d_L_law_877 (lv_at hl 1 rfl) ?_
  refine lv_if_ne (x := r) (tgt := 894) C.1 C.2.1 d_L_law_879 (by decide) (fun q0 => ?_) (fun q0 => ?_)
  · refine lv_goto (tgt := 897) C.1 C.2.1 d_L_law_894 (by decide) ?_
    exact kk f1 _ _ _ _ ls (rel_mono (Nat.le_succ N) hR2) I (lv_sub hl [2, 3, 4, 5, 6] rfl)
  · have ho : f1 0 = (nI a2).toInt64 := by
      rcases hE with ⟨a, h0, hE, heq⟩ | ⟨h1, h5⟩
      · have heq : a2 = a := heq
        rw [heq]; exact hE
      · have h1 : 0 < co2 := h1
        have h5 : co2 < 5 := h5
        exact absurd (hr2.symm.trans q0) (nI_ne0 h1 (by omega))
    refine lv_aload_n C.1 C.2.1 d_L_law_882 rfl (lv_at hl 5 rfl) ?_
    refine lv_iconst (v := nI 0) C.1 C.2.1 d_L_law_883 (by decide) ?_
    refine ll_out C I d_L_law_884 ?_
    refine lv_iload C.1 C.2.1 d_L_law_885 (lv_at hl 0 rfl) ?_
    refine lv_i2l C.1 C.2.1 d_L_law_887 rfl ?_
    refine ll_cmp C ho d_L_law_888 ?_
    refine lv_if_eq (x := nI 0) (tgt := 894) C.1 C.2.1 d_L_law_889 (by decide) (fun q => ?_) (fun q => absurd rfl q)
    refine lv_goto (tgt := 897) C.1 C.2.1 d_L_law_894 (by decide) ?_
    exact kk f1 _ _ _ _ ls (rel_mono (Nat.le_succ N) hR2) I (lv_sub hl [2, 3, 4, 5, 6] rfl)
