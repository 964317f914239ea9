set_option maxHeartbeats 4000000 in
/-- SnapshotVolumeModel.within, from 0 on -/
theorem c_M_within (l : Launch) (sz : Nat) (v : Int32) (n : Nat) (hn : n + 1 < 2 ^ 31) : stMi l sz y_M_within (.code y_M_within b_M_within 3 (some .boolean)) (rmL 0) [.int v, .int (nI 0), .int (nI n)] (fun r => r = bI (ixI v (n + 1)).isSome) := by
  refine st_mi (own := R_M) (by decide) rfl (Nat.le_of_ble_eq_true rfl) ?_
  intro p e s m args below meth c C hr hsz ls hl
  have hl : lv_has ls 3 [(0, .int v), (1, .int (nI 0)), (2, .int (nI n))] := hl
  refine lv_iload_n C.1 C.2.1 d_M_within_0 rfl (lv_at hl 0 rfl) ?_
  refine lv_iload_n C.1 C.2.1 d_M_within_1 rfl (lv_at hl 1 rfl) ?_
  refine lv_icmp_lt (x := v) (y := nI 0) (tgt := 14) C.1 C.2.1 d_M_within_2 (by decide) (fun q2 => ?_) (fun q2 => ?_)
  · refine lv_iconst (v := nI 0) C.1 C.2.1 d_M_within_14 (by decide) ?_
    exact st_rz (b := false) C hr (by rw [ixI_lo q2]; rfl) d_M_within_15
  · refine lv_iload_n C.1 C.2.1 d_M_within_5 rfl (lv_at hl 0 rfl) ?_
    refine lv_iload_n C.1 C.2.1 d_M_within_6 rfl (lv_at hl 2 rfl) ?_
    refine lv_icmp_gt (x := v) (y := nI n) (tgt := 14) C.1 C.2.1 d_M_within_7 (by decide) (fun q7 => ?_) (fun q7 => ?_)
    · refine lv_iconst (v := nI 0) C.1 C.2.1 d_M_within_14 (by decide) ?_
      exact st_rz (b := false) C hr (by rw [ixI_up hn q7]) d_M_within_15
    · refine lv_iconst (v := nI 1) C.1 C.2.1 d_M_within_10 (by decide) ?_
      refine lv_goto (tgt := 15) C.1 C.2.1 d_M_within_11 (by decide) ?_
      exact st_rz (b := true) C hr (by rw [ixI_in hn q2 q7]) d_M_within_15
set_option maxHeartbeats 4000000 in
/-- SnapshotVolumeModel.isWord -/
theorem c_M_isWord (l : Launch) (sz : Nat) (x y : Int32) : stMi l sz y_M_isWord (.code y_M_isWord b_M_isWord 2 (some .boolean)) (rmL 1) [.int x, .int y] (fun r => r = bI ((ixI x 6).isSome && (ixI y 4).isSome)) := by
  refine st_mi (own := R_M) (by decide) rfl (Nat.le_of_ble_eq_true rfl) ?_
  intro p e s m args below meth c C hr hsz ls hl
  have hl : lv_has ls 2 [(0, .int x), (1, .int y)] := hl
  refine lv_iload_n C.1 C.2.1 d_M_isWord_0 rfl (lv_at hl 0 rfl) ?_
  refine lv_iconst (v := nI 0) C.1 C.2.1 d_M_isWord_1 (by decide) ?_
  refine lv_iconst (v := nI 5) C.1 C.2.1 d_M_isWord_2 (by decide) ?_
  refine st_cs C va_S.rf hsz (c_M_within l _ x 5 (by decide)) lk_M40 rfl rfl ⟨by decide, by decide⟩ ⟨Nat.zero_le _, Nat.zero_le _⟩ rfl hl.1 (rest := []) rfl (Nat.le_of_ble_eq_true rfl) d_M_isWord_3 (fun r H locs w3 hS => ?_)
  subst w3
  refine n_ifeq (b := (ixI x 6).isSome) (tgt := 22) C.1 C.2.1 d_M_isWord_6 (by decide) (fun q6 => ?_) (fun q6 => ?_)
  · refine lv_iconst (v := nI 0) C.1 C.2.1 d_M_isWord_22 (by decide) ?_
    exact st_rz' (b := false) C hr hS (by rw [q6]; rfl) d_M_isWord_23
  · refine lv_iload_n C.1 C.2.1 d_M_isWord_9 rfl (lv_at hl 1 rfl) ?_
    refine lv_iconst (v := nI 0) C.1 C.2.1 d_M_isWord_10 (by decide) ?_
    refine lv_iconst (v := nI 3) C.1 C.2.1 d_M_isWord_11 (by decide) ?_
    refine st_cs C hS hsz (c_M_within l _ y 3 (by decide)) lk_M40 rfl rfl ⟨by decide, by decide⟩ ⟨Nat.zero_le _, Nat.zero_le _⟩ rfl hl.1 (rest := []) rfl (Nat.le_of_ble_eq_true rfl) d_M_isWord_12 (fun r H locs w12 hS => ?_)
    subst w12
    refine n_ifeq (b := (ixI y 4).isSome) (tgt := 22) C.1 C.2.1 d_M_isWord_15 (by decide) (fun q15 => ?_) (fun q15 => ?_)
    · refine lv_iconst (v := nI 0) C.1 C.2.1 d_M_isWord_22 (by decide) ?_
      exact st_rz' (b := false) C hr hS (by rw [q6, q15]; rfl) d_M_isWord_23
    · refine lv_iconst (v := nI 1) C.1 C.2.1 d_M_isWord_18 (by decide) ?_
      refine lv_goto (tgt := 23) C.1 C.2.1 d_M_isWord_19 (by decide) ?_
      exact st_rz' (b := true) C hr hS (by rw [q6, q15]; rfl) d_M_isWord_23
