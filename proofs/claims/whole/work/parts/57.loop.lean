set_option maxHeartbeats 4000000 in
set_option maxRecDepth 100000 in
theorem law_loop {p : Program} {l : Launch} {e : Env} {s : State} {m : MethodId} {below : List Frame} {meth : Method} {c : Code} {D : va_G} {cA : Nat → ClassId} {hS hM : Nat → Nat} {qo b L : Nat} {xs : Nat → Int32} (C : gC p s m #[.ref b] meth c b_L_law 7 R_L) (hr : meth.sig.returnType = ret) (G : gL l s) (hX : va_X b L xs s s.heap) (hbl : b < s.heap.size) (hL : L ≤ 2560) :
    ∀ (n j : Nat), L + 1 ≤ 5 * j + n → 5 * j ≤ L + 5 → ∀ (f : Nat → Int64) (u : SV) (w : SM) (H : Heap) (locs : List Loc) (ls : Array Slot), Rel j u w → lI D cA s hS hM qo f u w H locs → lv_has ls 7 [(0, .ref b), (1, .ref (hS 0)), (2, .ref (hM 0)), (3, .ref qo), (4, .int (nI (5 * j)))] → W p l e room_1 s m #[.ref b] below meth c H locs (12 + j) (220 + 6 * j) (lw_Z below #[.ref b] s) (F0 m 23 ls []) := by
  intro n
  induction n with
  | zero =>
    intro j h1 h2 f u w H locs ls hR I hl
    refine lv_iload C.1 C.2.1 d_L_law_23 (lv_at hl 4 rfl) ?_
    refine lv_aload_n C.1 C.2.1 d_L_law_25 rfl (lv_at hl 0 rfl) ?_
    refine va_slen C.1 C.2.1 hX hbl (Nat.not_le.mpr hbl) I.2.2.2 d_L_law_26 ?_
    refine lv_iconst (v := nI 5) C.1 C.2.1 d_L_law_27 (by decide) ?_
    refine lv_isub C.1 C.2.1 d_L_law_28 ?_
    refine lv_icmp_gt (x := nI (5 * j)) (y := nI L - nI 5) (tgt := 903) C.1 C.2.1 d_L_law_29 (by decide) (fun q => ?_) (fun q => ?_)
    · refine lv_iconst (v := 1) C.1 C.2.1 d_L_law_903 (by decide) ?_
      refine va_forget (fun q hq => I.2.2.2.2.2 q hq) ?_
      refine W.widen (k := 1044) (n := 8460) (by omega) (by omega) ?_
      exact lw_ret C.1 C.2.1 hr C.2.2.2.2.2 d_L_law_904
    · exfalso
      apply q
      rw [Int32.lt_iff_toInt_lt, pk_sub_toInt (by omega) (by decide), nI_toInt (by omega)]
      omega
  | succ n ih =>
    intro j h1 h2 f u w H locs ls hR I hl
    refine lv_iload C.1 C.2.1 d_L_law_23 (lv_at hl 4 rfl) ?_
    refine lv_aload_n C.1 C.2.1 d_L_law_25 rfl (lv_at hl 0 rfl) ?_
    refine va_slen C.1 C.2.1 hX hbl (Nat.not_le.mpr hbl) I.2.2.2 d_L_law_26 ?_
    refine lv_iconst (v := nI 5) C.1 C.2.1 d_L_law_27 (by decide) ?_
    refine lv_isub C.1 C.2.1 d_L_law_28 ?_
    refine lv_icmp_gt (x := nI (5 * j)) (y := nI L - nI 5) (tgt := 903) C.1 C.2.1 d_L_law_29 (by decide) (fun q => ?_) (fun q => ?_)
    · refine lv_iconst (v := 1) C.1 C.2.1 d_L_law_903 (by decide) ?_
      refine va_forget (fun q hq => I.2.2.2.2.2 q hq) ?_
      refine W.widen (k := 1044) (n := 8460) (by omega) (by omega) ?_
      exact lw_ret C.1 C.2.1 hr C.2.2.2.2.2 d_L_law_904
    · have hi : 5 * j + 5 ≤ L := by
        rcases Nat.lt_or_ge L (5 * j + 5) with g | g
        · exfalso
          apply q
          rw [Int32.lt_iff_toInt_lt, pk_sub_toInt (by omega) (by decide), nI_toInt (by omega)]
          omega
        · exact g
      have tail : ∀ (f : Nat → Int64) (u : SV) (w : SM) (H : Heap) (locs : List Loc) (ls : Array Slot), Rel (j + 1) u w → lI D cA s hS hM qo f u w H locs → lv_has ls 7 [(0, .ref b), (1, .ref (hS 0)), (2, .ref (hM 0)), (3, .ref qo), (4, .int (nI (5 * j)))] → W p l e room_1 s m #[.ref b] below meth c H locs (12 + j + 1) (220 + 6 * j + 6) (lw_Z below #[.ref b] s) (F0 m 897 ls []) := by
        intro f u w H locs ls hR I hl
        refine lv_iinc (v := nI (5 * (j + 1))) (lv' := [(4, .int (nI (5 * (j + 1)))), (0, .ref b), (1, .ref (hS 0)), (2, .ref (hM 0)), (3, .ref qo)]) C.1 C.2.1 d_L_law_897 hl (k := 4) rfl (by rw [show 5 * (j + 1) = 5 * j + 5 by omega, ← nI_add]; rfl) (by decide) rfl (fun ls hl => ?_)
        refine lv_goto (tgt := 23) C.1 C.2.1 d_L_law_900 (by decide) ?_
        refine W.widen (k := 12 + (j + 1)) (n := 220 + 6 * (j + 1)) (by omega) (by omega) ?_
        exact ih (j + 1) (by omega) (by omega) f u w H locs ls hR I (lv_sub hl [1, 2, 3, 4, 0] rfl)
      obtain ⟨bw, cw, ts, tb, st, ro, mr, la, fu, dn, wr⟩ := u
      obtain ⟨co, dm, fm, ct, vo, wo, th, ow, ba, mm⟩ := w
      refine lv_aload_n C.1 C.2.1 d_L_law_32 rfl (lv_at hl 0 rfl) ?_
      refine lv_iload C.1 C.2.1 d_L_law_33 (lv_at hl 4 rfl) ?_
      refine ll_ld C I hX hbl (k := 5 * j) (by omega) (by omega) d_L_law_35 ?_
      refine lv_bipush (v := nI 15) C.1 C.2.1 d_L_law_36 (by decide) ?_
      refine lv_iand C.1 C.2.1 d_L_law_38 ?_
      obtain ⟨k, hk, ek⟩ := pk_andE (xs (5 * j)) (m := nI 15) 4 (by decide)
      rw [ek]
      rcases (show k = 0 ∨ k = 1 ∨ k = 2 ∨ k = 3 ∨ k = 4 ∨ k = 5 ∨ k = 6 ∨ k = 7 ∨ k = 8 ∨ k = 9 ∨ k = 10 ∨ k = 11 ∨ k = 12 ∨ k = 13 ∨ k = 14 ∨ k = 15 by omega) with rfl | rfl | rfl | rfl | rfl | rfl | rfl | rfl | rfl | rfl | rfl | rfl | rfl | rfl | rfl | rfl
      · refine lv_tableIn (off := 77) (tgt := 116) C.1 C.2.1 d_L_law_39 (by decide) (by decide) rfl (by decide) ?_
        exact arm_format C G hX hbl hL hi (by omega) ⟨by omega, by omega⟩ hR I hl tail
      · refine lv_tableIn (off := 88) (tgt := 127) C.1 C.2.1 d_L_law_39 (by decide) (by decide) rfl (by decide) ?_
        exact arm_write C G hX hbl hL hi (by omega) ⟨by omega, by omega⟩ hR I hl tail
      · refine lv_tableIn (off := 168) (tgt := 207) C.1 C.2.1 d_L_law_39 (by decide) (by decide) rfl (by decide) ?_
        exact arm_read C G hX hbl hL hi (by omega) ⟨by omega, by omega⟩ hR I hl tail
      · refine lv_tableIn (off := 236) (tgt := 275) C.1 C.2.1 d_L_law_39 (by decide) (by decide) rfl (by decide) ?_
        exact arm_snapshot C G hX hbl hL hi (by omega) ⟨by omega, by omega⟩ hR I hl tail
      · refine lv_tableIn (off := 280) (tgt := 319) C.1 C.2.1 d_L_law_39 (by decide) (by decide) rfl (by decide) ?_
        exact arm_drop C G hX hbl hL hi (by omega) ⟨by omega, by omega⟩ hR I hl tail
      · refine lv_tableIn (off := 316) (tgt := 355) C.1 C.2.1 d_L_law_39 (by decide) (by decide) rfl (by decide) ?_
        exact arm_readS C G hX hbl hL hi (by omega) ⟨by omega, by omega⟩ hR I hl tail
      · refine lv_tableIn (off := 396) (tgt := 435) C.1 C.2.1 d_L_law_39 (by decide) (by decide) rfl (by decide) ?_
        exact arm_writeS C G hX hbl hL hi (by omega) ⟨by omega, by omega⟩ hR I hl tail
      · refine lv_tableIn (off := 495) (tgt := 534) C.1 C.2.1 d_L_law_39 (by decide) (by decide) rfl (by decide) ?_
        exact arm_roll C G hX hbl hL hi (by omega) ⟨by omega, by omega⟩ hR I hl tail
      · refine lv_tableIn (off := 551) (tgt := 590) C.1 C.2.1 d_L_law_39 (by decide) (by decide) rfl (by decide) ?_
        exact arm_fuse C G hX hbl hL hi (by omega) ⟨by omega, by omega⟩ hR I hl tail
      · refine lv_tableIn (off := 576) (tgt := 615) C.1 C.2.1 d_L_law_39 (by decide) (by decide) rfl (by decide) ?_
        exact arm_recover C G hX hbl hL hi (by omega) ⟨by omega, by omega⟩ hR I hl tail
      · refine lv_tableIn (off := 620) (tgt := 659) C.1 C.2.1 d_L_law_39 (by decide) (by decide) rfl (by decide) ?_
        exact arm_isDown C G hX hbl hL hi (by omega) ⟨by omega, by omega⟩ hR I hl tail
      · refine lv_tableIn (off := 633) (tgt := 672) C.1 C.2.1 d_L_law_39 (by decide) (by decide) rfl (by decide) ?_
        exact arm_writes C G hX hbl hL hi (by omega) ⟨by omega, by omega⟩ hR I hl tail
      · refine lv_tableIn (off := 646) (tgt := 685) C.1 C.2.1 d_L_law_39 (by decide) (by decide) rfl (by decide) ?_
        exact arm_used C G hX hbl hL hi (by omega) ⟨by omega, by omega⟩ hR I hl tail
      · refine lv_tableIn (off := 690) (tgt := 729) C.1 C.2.1 d_L_law_39 (by decide) (by decide) rfl (by decide) ?_
        exact arm_copyOf C G hX hbl hL hi (by omega) ⟨by omega, by omega⟩ hR I hl tail
      · refine lv_tableIn (off := 758) (tgt := 797) C.1 C.2.1 d_L_law_39 (by decide) (by decide) rfl (by decide) ?_
        exact arm_places C G hX hbl hL hi (by omega) ⟨by omega, by omega⟩ hR I hl tail
      · refine lv_tableIn (off := 802) (tgt := 841) C.1 C.2.1 d_L_law_39 (by decide) (by decide) rfl (by decide) ?_
        exact arm_changed C G hX hbl hL hi (by omega) ⟨by omega, by omega⟩ hR I hl tail
theorem tx_of {s : State} {a : Array Value} {k : Nat} {tx : String} (h1 : (Cond.stringRef R_S k tx).before a s = true) (h2 : (Cond.exactly (.string R_S k) "java/lang/String").before a s = true) : ∃ q, vk_R R_S k tx q s := by
  obtain ⟨q, c9, cell, k9, hq, -⟩ := Cond.exactly_spec h2
  exact ⟨q, vk_R.of h1 hq⟩
set_option maxHeartbeats 4000000 in
set_option maxRecDepth 100000 in
theorem gL_of {l : Launch} {s : State} {b : Nat} (hlt : l.stackTraces = false) (hts : ∀ w ∈ lw_tbl, w.before #[Value.ref b] s = true) (hgv : (Jvm.Cond.and given_1 narrow_1).before #[Value.ref b] s = true) : gL l s := by
  have hs := flat_of_before _ hgv
  have hA : ∀ a : Nat, a < s.heap.size → ¬ lA s a := fun a h => Nat.not_le.mpr h
  have yy : ∀ n d, (Cond.laysStatic Bundle.tN n d).before #[Value.ref b] s = true → (Cond.initialized Bundle.tN).before #[Value.ref b] s = true → (Cond.isRef (.static Bundle.tN n d)).before #[Value.ref b] s = true → wx_Y n d (lA s) s s.heap := by
    intro n d h1 h2 h3
    refine ⟨?_, wx_L.of h1 hA⟩
    rcases va_Zqof h1 h2 h3 hA with h | ⟨t, h⟩
    · exact ⟨.null, rfl, h⟩
    · exact ⟨.ref t, rfl, h⟩
  refine ⟨hlt, ⟨yy _ _ (hts _ (by decide +kernel)) (hts _ (by decide +kernel)) (hs _ (by decide +kernel)), yy _ _ (hts _ (by decide +kernel)) (hts _ (by decide +kernel)) (hs _ (by decide +kernel))⟩, ⟨?_, ?_⟩, ?_⟩
  · intro t ht
    simp only [svTxl, List.mem_cons, List.not_mem_nil, or_false] at ht
    rcases ht with rfl | rfl | rfl | rfl | rfl | rfl | rfl | rfl <;> exact tx_of (hts _ (by decide +kernel)) (hs _ (by decide +kernel))
  · intro w hw
    have hm : w ∈ lw_tbl := by
      have h := List.all_eq_true.mp (show wx_B.all (fun w => decide (w ∈ lw_tbl)) = true by decide +kernel) w hw
      exact of_decide_eq_true h
    exact wx_B_at hw (Vm.Alike.refl s.vm) (hts w hm)
  · intro a b2 h1 h2 h3
    have key : ∀ a, a < 4 → ∀ b2, b2 < 4 → a ≠ b2 → Cond.not (.castable (wx_N a) (wx_N b2)) ∈ flatC (Jvm.Cond.and given_1 narrow_1) := by decide +kernel
    exact va_Nc.of (hs _ (key a h1 b2 h2 h3))
theorem ix_S : Cond.instantiable R_S 11 ∈ wG := wg_i (by decide +kernel)
theorem ix_M : Cond.instantiable R_M 10 ∈ wG := wg_i (by decide +kernel)
theorem in_S : Cond.initialized R_S ∈ wG := wg_i (by decide +kernel)
theorem in_M : Cond.initialized R_M ∈ wG := wg_i (by decide +kernel)
theorem cn_S : Cond.classLink R_L 8 R_S ∈ wG := wg_i (by decide +kernel)
theorem cn_M : Cond.classLink R_L 60 R_M ∈ wG := wg_i (by decide +kernel)
theorem ml_S : Cond.methodLink R_L 59 y_S_init ∈ wG := wg_i (by decide +kernel)
theorem ml_M : Cond.methodLink R_L 62 y_M_init ∈ wG := wg_i (by decide +kernel)
theorem im_S : Cond.instanceMethod y_S_init ∈ wG := wg_i (by decide +kernel)
theorem im_M : Cond.instanceMethod y_M_init ∈ wG := wg_i (by decide +kernel)
theorem cd_S : Cond.code y_S_init b_S_init 1 none ∈ wG := wg_i (by decide +kernel)
theorem cd_M : Cond.code y_M_init b_M_init 1 none ∈ wG := wg_i (by decide +kernel)
theorem gi_S : GoodIn wG (.code y_S_init b_S_init 1 none :: wG) := wg_sub (fun w h => h) (fun w hw => by
  rcases List.mem_cons.mp hw with rfl | h
  · exact cd_S
  · exact h)
theorem gi_M : GoodIn wG (.code y_M_init b_M_init 1 none :: wG) := wg_sub (fun w h => h) (fun w hw => by
  rcases List.mem_cons.mp hw with rfl | h
  · exact cd_M
  · exact h)
set_option maxHeartbeats 4000000 in
set_option maxRecDepth 100000 in
/-- THE LAW, from its entry -/
theorem whole_start {p : Program} {e : Env} {s : State} {m : MethodId} {below : List Frame} {meth : Method} {c : Code} (l : Launch) (hlt : l.stackTraces = false) {b L : Nat} {xs : Nat → Int32} (hL : L ≤ 2560) (C0 : lw_At p s m meth c b L xs) : W p l e room_1 s m #[Value.ref b] below meth c s.heap [] 0 0 (lw_Z below #[Value.ref b] s) (entryFrame m ([Value.ref b] : List Value).toArray 7) := by
  obtain ⟨hx, hb, hr, hml, hown, hts, hX, hbl, hlocks, hgv⟩ := id C0
  have G : gL l s := gL_of hlt hts hgv
  have C : gC p s m #[.ref b] meth c b_L_law 7 R_L := ⟨hx, hb, hml, hown, fun w hw => hts w (List.mem_filter.mp hw).1, hlocks⟩
  have hA : ∀ q : Nat, s.heap.size ≤ q → lA s q := fun _ h => h
  obtain ⟨c0, i0, hK0⟩ := u_known (C := R_S) (T := F_S) (N := 11) (n := 11) C.2.2.2.2.1 lay_S (C.2.2.2.2.1 _ ix_S)
  obtain ⟨c1, i1, hK1⟩ := u_known (C := R_M) (T := F_M) (N := 10) (n := 10) C.2.2.2.2.1 lay_M (C.2.2.2.2.1 _ ix_M)
  obtain ⟨a0, r0, n0⟩ := kx_arr (C.2.2.2.2.1 _ ac_i)
  obtain ⟨a1, r1, n1⟩ := kx_arr (C.2.2.2.2.1 _ ac_z)
  obtain ⟨a2, r2, n2⟩ := kx_arr (C.2.2.2.2.1 _ ac_l)
  obtain ⟨D, cA, hK⟩ : ∃ (D : va_G) (cA : Nat → ClassId), va_K D vcl (ty3 cA) s := by
    refine ⟨(fun k => if k = 0 then c0 else c1, fun k => if k = 0 then i0 else i1), fun k => if k = 0 then a0 else if k = 1 then a1 else a2, ?_, ?_⟩
    · intro k q hq
      match k, hq with
      | 0, hq => cases hq; exact hK0
      | 1, hq => cases hq; exact hK1
      | k + 2, hq => simp [vcl] at hq
    · intro k q hq
      match k, hq with
      | 0, hq => cases hq; exact ⟨r0, n0⟩
      | 1, hq => cases hq; exact ⟨r1, n1⟩
      | 2, hq => cases hq; exact ⟨r2, n2⟩
      | k + 3, hq => simp [ty3] at hq
  have hS : va_S (lA s) s.heap s.heap [] := va_S.rf
  have hP : va_P D vcl [] s.heap := fun k q h => by simp at h
  have hD : va_D (lA s) [] := ⟨fun i j p q h => by simp at h, fun k q h => by simp at h⟩
  have hl := lv_entry ([.ref b]) (n := 7) (Nat.le_of_ble_eq_true rfl)
  rw [lg_entry_eq]
  generalize (lg_sl ([.ref b]) ++ List.replicate (7 - (lg_sl ([.ref b])).length) Slot.unset).toArray = ls at hl ⊢
  have hl : lv_has ls 7 [(0, .ref b)] := hl
  refine va_new (ci := 0) (fs := zS) (C := R_S) (T := F_S) (N := 11) C.1 C.2.1 C.2.2.2.2.1 lay_S t_S t_S_ok C.2.2.2.1 (C.2.2.2.2.1 _ cn_S) (C.2.2.2.2.1 _ ix_S) (C.2.2.2.2.1 _ in_S) hK hP hD hS hA rfl (fun j hj => by rcases (show j = 0 ∨ j = 1 ∨ j = 2 ∨ j = 3 ∨ j = 4 ∨ j = 5 ∨ j = 6 ∨ j = 7 ∨ j = 8 ∨ j = 9 ∨ j = 10 by omega) with rfl | rfl | rfl | rfl | rfl | rfl | rfl | rfl | rfl | rfl | rfl <;> rfl) (Nat.le_of_ble_eq_true rfl) (Nat.le_of_ble_eq_true rfl) d_L_law_0 (fun q0 H hP hD hS => ?_)
  have hP : va_P D vcl [(q0, .inr (0, zS))] H := hP
  have hD : va_D (lA s) [(q0, .inr (0, zS))] := hD
  refine W.widen (k := 1) (n := 11) (by omega) (by omega) ?_
  refine lv_dup C.1 C.2.1 d_L_law_3 rfl ?_
  have hFc := va_free (wc := [(q0, .inr (0, zS))]) hD hS hA [0] rfl
  refine va_callv (va_runI (As := []) (rest := [.ref q0]) ⟨C.1, C.2.1, C.2.2.1, C.2.2.2.1, C.2.2.2.2.1⟩ (c_S_init l D cA q0 H.size) (cwI 0 C.2.2.2.2.1 gi_S rfl rfl rfl (C.2.2.2.2.1 _ in_S) (C.2.2.2.2.1 _ ml_S) (C.2.2.2.2.1 _ im_S) rfl (by decide +kernel) ⟨Nat.le_of_ble_eq_true rfl, Nat.le_of_ble_eq_true rfl⟩) ⟨fun a U g mk q => by obtain ⟨q0, q1, qP, qK, qD⟩ := q; exact ⟨q0, q1, qP, va_K.moved (u := U) (U := U.calling g mk a) (Vm.Alike.refl U.vm) qK, qD⟩, fun U hU hW => ⟨rfl, by rw [hU], by rw [hU]; exact hP, va_K.moved hW.alike hK, hD.weaken (fun _ _ _ _ => trivial)⟩⟩ rfl rfl hl.1 rfl (lv_room (Nat.le_of_ble_eq_true rfl)) d_L_law_4 ⟨Nat.le_of_ble_eq_true rfl, Nat.le_of_ble_eq_true rfl⟩) hS (fun q _ h => hFc q h) hFc (fun v t H1 locs ht hvm hw hB hz1 hk1 hS => ?_)
  obtain ⟨hS0, u0⟩ := v
  obtain ⟨hP1, hK1', hD1⟩ := hB
  obtain ⟨e0, hu0⟩ := hw
  have e0 : hS0 0 = q0 := e0
  have hJ := va_join (wr := []) (w1 := svW cA hS0 u0) hP hD [0] [] rfl rfl (by decide) (by decide) hk1 hFc (by rw [← ht]; exact hP1) hD1
  have hP : va_P D vcl (svW cA hS0 u0) H1 := hJ.1
  have hD : va_D (lA s) (svW cA hS0 u0) := hJ.2
  generalize H1 = H at hP hS ⊢
  refine W.widen (k := 6) (n := 92) (by omega) (by omega) ?_
  refine lv_astore_n (lv' := [(1, .ref q0), (0, .ref b)]) C.1 C.2.1 d_L_law_7 rfl hl (by decide) rfl (fun ls hl => ?_)
  refine va_new (ci := 1) (fs := zM) (C := R_M) (T := F_M) (N := 10) C.1 C.2.1 C.2.2.2.2.1 lay_M t_M t_M_ok C.2.2.2.1 (C.2.2.2.2.1 _ cn_M) (C.2.2.2.2.1 _ ix_M) (C.2.2.2.2.1 _ in_M) hK hP hD hS hA rfl (fun j hj => by rcases (show j = 0 ∨ j = 1 ∨ j = 2 ∨ j = 3 ∨ j = 4 ∨ j = 5 ∨ j = 6 ∨ j = 7 ∨ j = 8 ∨ j = 9 by omega) with rfl | rfl | rfl | rfl | rfl | rfl | rfl | rfl | rfl | rfl <;> rfl) (Nat.le_of_ble_eq_true rfl) (Nat.le_of_ble_eq_true rfl) d_L_law_8 (fun q1 H hP hD hS => ?_)
  refine W.widen (k := 7) (n := 102) (by omega) (by omega) ?_
  refine lv_dup C.1 C.2.1 d_L_law_11 rfl ?_
  obtain ⟨bw, cw, ts, tb, st, ro, mr, la, fu, dn, wr⟩ := u0
  have hPm := hP.sub (ws' := [(q1, .inr (1, zM))]) [6] rfl
  have hDm := hD.sub (ws' := [(q1, .inr (1, zM))]) [6] (by decide) rfl
  have hFm := va_free (wc := [(q1, .inr (1, zM))]) hD hS hA [6] rfl
  refine va_callv (va_runI (As := []) (rest := [.ref q1]) ⟨C.1, C.2.1, C.2.2.1, C.2.2.2.1, C.2.2.2.2.1⟩ (c_M_init l D cA q1 H.size) (cwI 0 C.2.2.2.2.1 gi_M rfl rfl rfl (C.2.2.2.2.1 _ in_M) (C.2.2.2.2.1 _ ml_M) (C.2.2.2.2.1 _ im_M) rfl (by decide +kernel) ⟨Nat.le_of_ble_eq_true rfl, Nat.le_of_ble_eq_true rfl⟩) ⟨fun a U g mk q => by obtain ⟨q0, q1, qP, qK, qD⟩ := q; exact ⟨q0, q1, qP, va_K.moved (u := U) (U := U.calling g mk a) (Vm.Alike.refl U.vm) qK, qD⟩, fun U hU hW => ⟨rfl, by rw [hU], by rw [hU]; exact hPm, va_K.moved hW.alike hK, hDm.weaken (fun _ _ _ _ => trivial)⟩⟩ rfl rfl hl.1 rfl (lv_room (Nat.le_of_ble_eq_true rfl)) d_L_law_12 ⟨Nat.le_of_ble_eq_true rfl, Nat.le_of_ble_eq_true rfl⟩) hS (fun q _ h => hFm q h) hFm (fun v t H1 locs ht hvm hw hB hz1 hk1 hS => ?_)
  obtain ⟨hM0, w0⟩ := v
  obtain ⟨hP1, hK1', hD1⟩ := hB
  obtain ⟨e1, hw0⟩ := hw
  have e1 : hM0 0 = q1 := e1
  have hw0 : w0 = (0, false, none, 0, (fun _ => nI 0), (fun _ => nI 0), (fun _ => false), (fun _ => 0), 0, 0) := hw0
  subst hw0
  have hJ := va_join (wr := svW cA hS0 (bw, cw, ts, tb, st, ro, mr, la, fu, dn, wr)) (w1 := smW cA hM0 (0, false, none, 0, (fun _ => nI 0), (fun _ => nI 0), (fun _ => false), (fun _ => 0), 0, 0)) hP hD [6] [0, 1, 2, 3, 4, 5] rfl rfl (by decide) (by decide) hk1 hFm (by rw [← ht]; exact hP1) hD1
  have hP := hJ.1
  have hD := hJ.2
  generalize H1 = H at hP hS ⊢
  refine W.widen (k := 11) (n := 219) (by omega) (by omega) ?_
  refine lv_astore_n (lv' := [(2, .ref q1), (1, .ref q0), (0, .ref b)]) C.1 C.2.1 d_L_law_15 rfl hl (by decide) rfl (fun ls hl => ?_)
  refine lv_iconst (v := nI 1) C.1 C.2.1 d_L_law_16 (by decide) ?_
  refine kx_newl C.1 C.2.1 (C.2.2.2.2.1 _ ac_l) hK hP hD hS hA 1 (by decide) (Nat.le_of_ble_eq_true rfl) (Nat.le_of_ble_eq_true rfl) d_L_law_17 (fun qo H hP hD hS => ?_)
  refine W.widen (k := 12) (n := 220) (by omega) (by omega) ?_
  refine lv_astore_n (lv' := [(3, .ref qo), (2, .ref q1), (1, .ref q0), (0, .ref b)]) C.1 C.2.1 d_L_law_19 rfl hl (by decide) rfl (fun ls hl => ?_)
  refine lv_iconst (v := nI 0) C.1 C.2.1 d_L_law_20 (by decide) ?_
  refine lv_istore (lv' := [(4, .int (nI 0)), (3, .ref qo), (2, .ref q1), (1, .ref q0), (0, .ref b)]) C.1 C.2.1 d_L_law_21 hl (by decide) rfl (fun ls hl => ?_)
  have hl : lv_has ls 7 [(4, .int (nI 0)), (3, .ref qo), (2, .ref (hM0 0)), (1, .ref (hS0 0)), (0, .ref b)] := by rw [show hS0 0 = q0 from e0, show hM0 0 = q1 from e1]; exact hl
  have I : lI D cA s hS0 hM0 qo (fun _ => 0) (bw, cw, ts, tb, st, ro, mr, la, fu, dn, wr) (0, false, none, 0, (fun _ => nI 0), (fun _ => nI 0), (fun _ => false), (fun _ => 0), 0, 0) H locs :=
    ⟨hK, hP.sub (ws' := lW cA hS0 hM0 qo (fun _ => 0) (bw, cw, ts, tb, st, ro, mr, la, fu, dn, wr) (0, false, none, 0, (fun _ => nI 0), (fun _ => nI 0), (fun _ => false), (fun _ => 0), 0, 0)) [6, 7, 8, 9, 10, 11, 0, 1, 2, 3, 4, 5] rfl, hD.sub (ws' := lW cA hS0 hM0 qo (fun _ => 0) (bw, cw, ts, tb, st, ro, mr, la, fu, dn, wr) (0, false, none, 0, (fun _ => nI 0), (fun _ => nI 0), (fun _ => false), (fun _ => 0), 0, 0)) [6, 7, 8, 9, 10, 11, 0, 1, 2, 3, 4, 5] (by decide) rfl, hS⟩
  exact law_loop C hr G hX hbl hL (L + 1) 0 (by omega) (by omega) _ _ _ _ _ ls (rel_init hu0 (fun _ _ => rfl) (fun _ _ => rfl)) I (lv_sub hl [4, 3, 2, 1, 0] rfl)
