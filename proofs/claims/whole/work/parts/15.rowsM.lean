section Rsm
variable {p : Program} {l : Launch} {e : Env} {R : Room} {s : State} {m : MethodId} {args : Array Value} {below : List Frame} {meth : Method} {c : Code} {H : Heap} {locs : List Loc} {cells slots : Nat} {Q : State → Prop}
variable {cc : ByteArray} {nL pc : Nat} {ls : Array Slot} {rest : List Value} {D : va_G} {cA : Nat → ClassId} {A : Nat → Prop} {h : Nat → Nat}
variable {co : Nat} {dn : Bool} {fu : Option Nat} {ct : Nat} {vo : (Nat → Int32)} {wo : (Nat → Int32)} {th : (Nat → Bool)} {ow : (Nat → Nat)} {ba : Nat} {mr : Nat}
theorem sm_g0 (C : gC p s m args meth c cc nL R_M) (I : smI D cA A s h (co, dn, fu, ct, vo, wo, th, ow, ba, mr) H locs) (hdg : decode cc pc = .ok (.getfield 27, 3)) (kk : W p l e R s m args below meth c H locs cells slots Q (F0 m (pc + 3) ls (.int (nI co) :: rest))) : W p l e R s m args below meth c H locs cells slots Q (F0 m pc ls (.ref (h 0) :: rest)) :=
  va_get (D := D) (ci := 1) (v := .int (nI co)) (C := R_M) (T := F_M) (N := 10) C.1 C.2.1 C.2.2.2.2.1 lay_M C.2.2.2.1 I.1 I.2.1 0 rfl rfl 0 (by decide) (C.2.2.2.2.1 _ fl_M0) (fun _ h9 => h9) rfl hdg kk
theorem sm_p0 (C : gC p s m args meth c cc nL R_M) (I : smI D cA A s h (co, dn, fu, ct, vo, wo, th, ow, ba, mr) H locs) {x : Int32} (co' : Nat) (hv : Value.int x = .int (nI co')) (hdg : decode cc pc = .ok (.putfield 27, 3)) (kk : ∀ (H1 : Heap) (locs1 : List Loc), smI D cA A s h (co', dn, fu, ct, vo, wo, th, ow, ba, mr) H1 locs1 → W p l e R s m args below meth c H1 locs1 cells slots Q (F0 m (pc + 3) ls (rest))) : W p l e R s m args below meth c H locs cells slots Q (F0 m pc ls (.int x :: .ref (h 0) :: rest)) := by
  rw [hv]
  exact va_put (D := D) (ci := 1) (v := .int (nI co')) (ty := .int) (C := R_M) (T := F_M) (N := 10) C.1 C.2.1 C.2.2.2.2.1 lay_M t_M t_M_ok n_M C.2.2.2.1 I.1 I.2.1 I.2.2.1 I.2.2.2.1 0 rfl rfl 0 (by decide) (C.2.2.2.2.1 _ fl_M0) (fun _ h9 => h9) rfl (by decide +kernel) rfl rfl (Nat.le_of_ble_eq_true rfl) hdg (fun H1 locs1 h1 h2 h3 => kk H1 locs1 ⟨I.1, h1, h2, h3, I.2.2.2.2⟩)
theorem sm_g1 (C : gC p s m args meth c cc nL R_M) (I : smI D cA A s h (co, dn, fu, ct, vo, wo, th, ow, ba, mr) H locs) (hdg : decode cc pc = .ok (.getfield 33, 3)) (kk : W p l e R s m args below meth c H locs cells slots Q (F0 m (pc + 3) ls (.int (bI dn) :: rest))) : W p l e R s m args below meth c H locs cells slots Q (F0 m pc ls (.ref (h 0) :: rest)) :=
  va_get (D := D) (ci := 1) (v := .int (bI dn)) (C := R_M) (T := F_M) (N := 10) C.1 C.2.1 C.2.2.2.2.1 lay_M C.2.2.2.1 I.1 I.2.1 0 rfl rfl 1 (by decide) (C.2.2.2.2.1 _ fl_M1) (fun _ h9 => h9) rfl hdg kk
theorem sm_p1 (C : gC p s m args meth c cc nL R_M) (I : smI D cA A s h (co, dn, fu, ct, vo, wo, th, ow, ba, mr) H locs) {x : Int32} (dn' : Bool) (hv : Value.int x = .int (bI dn')) (hdg : decode cc pc = .ok (.putfield 33, 3)) (kk : ∀ (H1 : Heap) (locs1 : List Loc), smI D cA A s h (co, dn', fu, ct, vo, wo, th, ow, ba, mr) H1 locs1 → W p l e R s m args below meth c H1 locs1 cells slots Q (F0 m (pc + 3) ls (rest))) : W p l e R s m args below meth c H locs cells slots Q (F0 m pc ls (.int x :: .ref (h 0) :: rest)) := by
  rw [hv]
  exact va_put (D := D) (ci := 1) (v := .int (bI dn')) (ty := .boolean) (C := R_M) (T := F_M) (N := 10) C.1 C.2.1 C.2.2.2.2.1 lay_M t_M t_M_ok n_M C.2.2.2.1 I.1 I.2.1 I.2.2.1 I.2.2.2.1 0 rfl rfl 1 (by decide) (C.2.2.2.2.1 _ fl_M1) (fun _ h9 => h9) rfl (by decide +kernel) (bI_narrow dn') (bI_fits dn') (Nat.le_of_ble_eq_true rfl) hdg (fun H1 locs1 h1 h2 h3 => kk H1 locs1 ⟨I.1, h1, h2, h3, I.2.2.2.2⟩)
theorem sm_g2 (C : gC p s m args meth c cc nL R_M) (I : smI D cA A s h (co, dn, fu, ct, vo, wo, th, ow, ba, mr) H locs) (hdg : decode cc pc = .ok (.getfield 7, 3)) (kk : W p l e R s m args below meth c H locs cells slots Q (F0 m (pc + 3) ls (.int (oI fu) :: rest))) : W p l e R s m args below meth c H locs cells slots Q (F0 m pc ls (.ref (h 0) :: rest)) :=
  va_get (D := D) (ci := 1) (v := .int (oI fu)) (C := R_M) (T := F_M) (N := 10) C.1 C.2.1 C.2.2.2.2.1 lay_M C.2.2.2.1 I.1 I.2.1 0 rfl rfl 2 (by decide) (C.2.2.2.2.1 _ fl_M2) (fun _ h9 => h9) rfl hdg kk
theorem sm_p2 (C : gC p s m args meth c cc nL R_M) (I : smI D cA A s h (co, dn, fu, ct, vo, wo, th, ow, ba, mr) H locs) {x : Int32} (fu' : Option Nat) (hv : Value.int x = .int (oI fu')) (hdg : decode cc pc = .ok (.putfield 7, 3)) (kk : ∀ (H1 : Heap) (locs1 : List Loc), smI D cA A s h (co, dn, fu', ct, vo, wo, th, ow, ba, mr) H1 locs1 → W p l e R s m args below meth c H1 locs1 cells slots Q (F0 m (pc + 3) ls (rest))) : W p l e R s m args below meth c H locs cells slots Q (F0 m pc ls (.int x :: .ref (h 0) :: rest)) := by
  rw [hv]
  exact va_put (D := D) (ci := 1) (v := .int (oI fu')) (ty := .int) (C := R_M) (T := F_M) (N := 10) C.1 C.2.1 C.2.2.2.2.1 lay_M t_M t_M_ok n_M C.2.2.2.1 I.1 I.2.1 I.2.2.1 I.2.2.2.1 0 rfl rfl 2 (by decide) (C.2.2.2.2.1 _ fl_M2) (fun _ h9 => h9) rfl (by decide +kernel) rfl rfl (Nat.le_of_ble_eq_true rfl) hdg (fun H1 locs1 h1 h2 h3 => kk H1 locs1 ⟨I.1, h1, h2, h3, I.2.2.2.2⟩)
theorem sm_g3 (C : gC p s m args meth c cc nL R_M) (I : smI D cA A s h (co, dn, fu, ct, vo, wo, th, ow, ba, mr) H locs) (hdg : decode cc pc = .ok (.getfield 37, 3)) (kk : W p l e R s m args below meth c H locs cells slots Q (F0 m (pc + 3) ls (.int (nI ct) :: rest))) : W p l e R s m args below meth c H locs cells slots Q (F0 m pc ls (.ref (h 0) :: rest)) :=
  va_get (D := D) (ci := 1) (v := .int (nI ct)) (C := R_M) (T := F_M) (N := 10) C.1 C.2.1 C.2.2.2.2.1 lay_M C.2.2.2.1 I.1 I.2.1 0 rfl rfl 3 (by decide) (C.2.2.2.2.1 _ fl_M3) (fun _ h9 => h9) rfl hdg kk
theorem sm_p3 (C : gC p s m args meth c cc nL R_M) (I : smI D cA A s h (co, dn, fu, ct, vo, wo, th, ow, ba, mr) H locs) {x : Int32} (ct' : Nat) (hv : Value.int x = .int (nI ct')) (hdg : decode cc pc = .ok (.putfield 37, 3)) (kk : ∀ (H1 : Heap) (locs1 : List Loc), smI D cA A s h (co, dn, fu, ct', vo, wo, th, ow, ba, mr) H1 locs1 → W p l e R s m args below meth c H1 locs1 cells slots Q (F0 m (pc + 3) ls (rest))) : W p l e R s m args below meth c H locs cells slots Q (F0 m pc ls (.int x :: .ref (h 0) :: rest)) := by
  rw [hv]
  exact va_put (D := D) (ci := 1) (v := .int (nI ct')) (ty := .int) (C := R_M) (T := F_M) (N := 10) C.1 C.2.1 C.2.2.2.2.1 lay_M t_M t_M_ok n_M C.2.2.2.1 I.1 I.2.1 I.2.2.1 I.2.2.2.1 0 rfl rfl 3 (by decide) (C.2.2.2.2.1 _ fl_M3) (fun _ h9 => h9) rfl (by decide +kernel) rfl rfl (Nat.le_of_ble_eq_true rfl) hdg (fun H1 locs1 h1 h2 h3 => kk H1 locs1 ⟨I.1, h1, h2, h3, I.2.2.2.2⟩)
theorem sm_g4 (C : gC p s m args meth c cc nL R_M) (I : smI D cA A s h (co, dn, fu, ct, vo, wo, th, ow, ba, mr) H locs) (hdg : decode cc pc = .ok (.getfield 13, 3)) (kk : W p l e R s m args below meth c H locs cells slots Q (F0 m (pc + 3) ls (.ref (h 1) :: rest))) : W p l e R s m args below meth c H locs cells slots Q (F0 m pc ls (.ref (h 0) :: rest)) :=
  va_get (D := D) (ci := 1) (v := .ref (h 1)) (C := R_M) (T := F_M) (N := 10) C.1 C.2.1 C.2.2.2.2.1 lay_M C.2.2.2.1 I.1 I.2.1 0 rfl rfl 4 (by decide) (C.2.2.2.2.1 _ fl_M4) (fun _ h9 => h9) rfl hdg kk
theorem sm_g5 (C : gC p s m args meth c cc nL R_M) (I : smI D cA A s h (co, dn, fu, ct, vo, wo, th, ow, ba, mr) H locs) (hdg : decode cc pc = .ok (.getfield 17, 3)) (kk : W p l e R s m args below meth c H locs cells slots Q (F0 m (pc + 3) ls (.ref (h 2) :: rest))) : W p l e R s m args below meth c H locs cells slots Q (F0 m pc ls (.ref (h 0) :: rest)) :=
  va_get (D := D) (ci := 1) (v := .ref (h 2)) (C := R_M) (T := F_M) (N := 10) C.1 C.2.1 C.2.2.2.2.1 lay_M C.2.2.2.1 I.1 I.2.1 0 rfl rfl 5 (by decide) (C.2.2.2.2.1 _ fl_M5) (fun _ h9 => h9) rfl hdg kk
theorem sm_g6 (C : gC p s m args meth c cc nL R_M) (I : smI D cA A s h (co, dn, fu, ct, vo, wo, th, ow, ba, mr) H locs) (hdg : decode cc pc = .ok (.getfield 20, 3)) (kk : W p l e R s m args below meth c H locs cells slots Q (F0 m (pc + 3) ls (.ref (h 3) :: rest))) : W p l e R s m args below meth c H locs cells slots Q (F0 m pc ls (.ref (h 0) :: rest)) :=
  va_get (D := D) (ci := 1) (v := .ref (h 3)) (C := R_M) (T := F_M) (N := 10) C.1 C.2.1 C.2.2.2.2.1 lay_M C.2.2.2.1 I.1 I.2.1 0 rfl rfl 6 (by decide) (C.2.2.2.2.1 _ fl_M6) (fun _ h9 => h9) rfl hdg kk
theorem sm_g7 (C : gC p s m args meth c cc nL R_M) (I : smI D cA A s h (co, dn, fu, ct, vo, wo, th, ow, ba, mr) H locs) (hdg : decode cc pc = .ok (.getfield 24, 3)) (kk : W p l e R s m args below meth c H locs cells slots Q (F0 m (pc + 3) ls (.ref (h 4) :: rest))) : W p l e R s m args below meth c H locs cells slots Q (F0 m pc ls (.ref (h 0) :: rest)) :=
  va_get (D := D) (ci := 1) (v := .ref (h 4)) (C := R_M) (T := F_M) (N := 10) C.1 C.2.1 C.2.2.2.2.1 lay_M C.2.2.2.1 I.1 I.2.1 0 rfl rfl 7 (by decide) (C.2.2.2.2.1 _ fl_M7) (fun _ h9 => h9) rfl hdg kk
theorem sm_g8 (C : gC p s m args meth c cc nL R_M) (I : smI D cA A s h (co, dn, fu, ct, vo, wo, th, ow, ba, mr) H locs) (hdg : decode cc pc = .ok (.getfield 30, 3)) (kk : W p l e R s m args below meth c H locs cells slots Q (F0 m (pc + 3) ls (.int (nI ba) :: rest))) : W p l e R s m args below meth c H locs cells slots Q (F0 m pc ls (.ref (h 0) :: rest)) :=
  va_get (D := D) (ci := 1) (v := .int (nI ba)) (C := R_M) (T := F_M) (N := 10) C.1 C.2.1 C.2.2.2.2.1 lay_M C.2.2.2.1 I.1 I.2.1 0 rfl rfl 8 (by decide) (C.2.2.2.2.1 _ fl_M8) (fun _ h9 => h9) rfl hdg kk
theorem sm_p8 (C : gC p s m args meth c cc nL R_M) (I : smI D cA A s h (co, dn, fu, ct, vo, wo, th, ow, ba, mr) H locs) {x : Int32} (ba' : Nat) (hv : Value.int x = .int (nI ba')) (hdg : decode cc pc = .ok (.putfield 30, 3)) (kk : ∀ (H1 : Heap) (locs1 : List Loc), smI D cA A s h (co, dn, fu, ct, vo, wo, th, ow, ba', mr) H1 locs1 → W p l e R s m args below meth c H1 locs1 cells slots Q (F0 m (pc + 3) ls (rest))) : W p l e R s m args below meth c H locs cells slots Q (F0 m pc ls (.int x :: .ref (h 0) :: rest)) := by
  rw [hv]
  exact va_put (D := D) (ci := 1) (v := .int (nI ba')) (ty := .int) (C := R_M) (T := F_M) (N := 10) C.1 C.2.1 C.2.2.2.2.1 lay_M t_M t_M_ok n_M C.2.2.2.1 I.1 I.2.1 I.2.2.1 I.2.2.2.1 0 rfl rfl 8 (by decide) (C.2.2.2.2.1 _ fl_M8) (fun _ h9 => h9) rfl (by decide +kernel) rfl rfl (Nat.le_of_ble_eq_true rfl) hdg (fun H1 locs1 h1 h2 h3 => kk H1 locs1 ⟨I.1, h1, h2, h3, I.2.2.2.2⟩)
theorem sm_g9 (C : gC p s m args meth c cc nL R_M) (I : smI D cA A s h (co, dn, fu, ct, vo, wo, th, ow, ba, mr) H locs) (hdg : decode cc pc = .ok (.getfield 86, 3)) (kk : W p l e R s m args below meth c H locs cells slots Q (F0 m (pc + 3) ls (.int (nI mr) :: rest))) : W p l e R s m args below meth c H locs cells slots Q (F0 m pc ls (.ref (h 0) :: rest)) :=
  va_get (D := D) (ci := 1) (v := .int (nI mr)) (C := R_M) (T := F_M) (N := 10) C.1 C.2.1 C.2.2.2.2.1 lay_M C.2.2.2.1 I.1 I.2.1 0 rfl rfl 9 (by decide) (C.2.2.2.2.1 _ fl_M9) (fun _ h9 => h9) rfl hdg kk
theorem sm_p9 (C : gC p s m args meth c cc nL R_M) (I : smI D cA A s h (co, dn, fu, ct, vo, wo, th, ow, ba, mr) H locs) {x : Int32} (mr' : Nat) (hv : Value.int x = .int (nI mr')) (hdg : decode cc pc = .ok (.putfield 86, 3)) (kk : ∀ (H1 : Heap) (locs1 : List Loc), smI D cA A s h (co, dn, fu, ct, vo, wo, th, ow, ba, mr') H1 locs1 → W p l e R s m args below meth c H1 locs1 cells slots Q (F0 m (pc + 3) ls (rest))) : W p l e R s m args below meth c H locs cells slots Q (F0 m pc ls (.int x :: .ref (h 0) :: rest)) := by
  rw [hv]
  exact va_put (D := D) (ci := 1) (v := .int (nI mr')) (ty := .int) (C := R_M) (T := F_M) (N := 10) C.1 C.2.1 C.2.2.2.2.1 lay_M t_M t_M_ok n_M C.2.2.2.1 I.1 I.2.1 I.2.2.1 I.2.2.2.1 0 rfl rfl 9 (by decide) (C.2.2.2.2.1 _ fl_M9) (fun _ h9 => h9) rfl (by decide +kernel) rfl rfl (Nat.le_of_ble_eq_true rfl) hdg (fun H1 locs1 h1 h2 h3 => kk H1 locs1 ⟨I.1, h1, h2, h3, I.2.2.2.2⟩)
theorem sm_l1 (C : gC p s m args meth c cc nL R_M) (I : smI D cA A s h (co, dn, fu, ct, vo, wo, th, ow, ba, mr) H locs) {k : Nat} (hk : k < 24) (hdg : decode cc pc = .ok (.iaload, 1)) (kk : W p l e R s m args below meth c H locs cells slots Q (F0 m (pc + 1) ls (.int (vo k) :: rest))) : W p l e R s m args below meth c H locs cells slots Q (F0 m pc ls (.int (nI k) :: .ref (h 1) :: rest)) := by
  refine va_iald (D := D) C.1 C.2.1 I.1 I.2.1 1 0 (cA := cA 0) (n := 24) (f := vo) rfl rfl (vp_in_nI hk (by decide)) hdg ?_
  rw [nI_clamp (Nat.lt_of_lt_of_le hk (by decide))]
  exact kk
theorem sm_s1 (C : gC p s m args meth c cc nL R_M) (I : smI D cA A s h (co, dn, fu, ct, vo, wo, th, ow, ba, mr) H locs) {k : Nat} {x : Int32} (hk : k < 24) (hdg : decode cc pc = .ok (.iastore, 1)) (kk : ∀ (H1 : Heap) (locs1 : List Loc), smI D cA A s h (co, dn, fu, ct, (upd vo k x), wo, th, ow, ba, mr) H1 locs1 → W p l e R s m args below meth c H1 locs1 cells slots Q (F0 m (pc + 1) ls (rest))) : W p l e R s m args below meth c H locs cells slots Q (F0 m pc ls (.int x :: .int (nI k) :: .ref (h 1) :: rest)) := by
  refine va_iast (D := D) C.1 C.2.1 I.1 I.2.1 I.2.2.1 I.2.2.2.1 1 0 (cA := cA 0) (n := 24) (f := vo) rfl rfl (vp_in_nI hk (by decide)) hdg (fun H1 locs1 h1 h2 h3 => ?_)
  rw [nI_clamp (Nat.lt_of_lt_of_le hk (by decide))] at h1 h2
  exact kk H1 locs1 ⟨I.1, h1, h2, h3, I.2.2.2.2⟩
theorem sm_l2 (C : gC p s m args meth c cc nL R_M) (I : smI D cA A s h (co, dn, fu, ct, vo, wo, th, ow, ba, mr) H locs) {k : Nat} (hk : k < 72) (hdg : decode cc pc = .ok (.iaload, 1)) (kk : W p l e R s m args below meth c H locs cells slots Q (F0 m (pc + 1) ls (.int (wo k) :: rest))) : W p l e R s m args below meth c H locs cells slots Q (F0 m pc ls (.int (nI k) :: .ref (h 2) :: rest)) := by
  refine va_iald (D := D) C.1 C.2.1 I.1 I.2.1 2 0 (cA := cA 0) (n := 72) (f := wo) rfl rfl (vp_in_nI hk (by decide)) hdg ?_
  rw [nI_clamp (Nat.lt_of_lt_of_le hk (by decide))]
  exact kk
theorem sm_s2 (C : gC p s m args meth c cc nL R_M) (I : smI D cA A s h (co, dn, fu, ct, vo, wo, th, ow, ba, mr) H locs) {k : Nat} {x : Int32} (hk : k < 72) (hdg : decode cc pc = .ok (.iastore, 1)) (kk : ∀ (H1 : Heap) (locs1 : List Loc), smI D cA A s h (co, dn, fu, ct, vo, (upd wo k x), th, ow, ba, mr) H1 locs1 → W p l e R s m args below meth c H1 locs1 cells slots Q (F0 m (pc + 1) ls (rest))) : W p l e R s m args below meth c H locs cells slots Q (F0 m pc ls (.int x :: .int (nI k) :: .ref (h 2) :: rest)) := by
  refine va_iast (D := D) C.1 C.2.1 I.1 I.2.1 I.2.2.1 I.2.2.2.1 2 0 (cA := cA 0) (n := 72) (f := wo) rfl rfl (vp_in_nI hk (by decide)) hdg (fun H1 locs1 h1 h2 h3 => ?_)
  rw [nI_clamp (Nat.lt_of_lt_of_le hk (by decide))] at h1 h2
  exact kk H1 locs1 ⟨I.1, h1, h2, h3, I.2.2.2.2⟩
theorem sm_l3 (C : gC p s m args meth c cc nL R_M) (I : smI D cA A s h (co, dn, fu, ct, vo, wo, th, ow, ba, mr) H locs) {k : Nat} (hk : k < 3) (hdg : decode cc pc = .ok (.baload, 1)) (kk : W p l e R s m args below meth c H locs cells slots Q (F0 m (pc + 1) ls (.int (bI (th k)) :: rest))) : W p l e R s m args below meth c H locs cells slots Q (F0 m pc ls (.int (nI k) :: .ref (h 3) :: rest)) := by
  refine va_zald (D := D) C.1 C.2.1 I.1 I.2.1 3 1 (cA := cA 1) (n := 3) (f := (fun k => bI (th k))) rfl rfl (vp_in_nI hk (by decide)) hdg ?_
  rw [nI_clamp (Nat.lt_of_lt_of_le hk (by decide))]
  exact kk
theorem sm_s3 (C : gC p s m args meth c cc nL R_M) (I : smI D cA A s h (co, dn, fu, ct, vo, wo, th, ow, ba, mr) H locs) {k : Nat} {x : Bool} (hk : k < 3) (hdg : decode cc pc = .ok (.bastore, 1)) (kk : ∀ (H1 : Heap) (locs1 : List Loc), smI D cA A s h (co, dn, fu, ct, vo, wo, (va_up th k x), ow, ba, mr) H1 locs1 → W p l e R s m args below meth c H1 locs1 cells slots Q (F0 m (pc + 1) ls (rest))) : W p l e R s m args below meth c H locs cells slots Q (F0 m pc ls (.int (bI x) :: .int (nI k) :: .ref (h 3) :: rest)) := by
  refine va_zast (D := D) C.1 C.2.1 I.1 I.2.1 I.2.2.1 I.2.2.2.1 3 1 (cA := cA 1) (n := 3) (f := (fun k => bI (th k))) rfl rfl (vp_in_nI hk (by decide)) hdg (fun H1 locs1 h1 h2 h3 => ?_)
  rw [nI_clamp (Nat.lt_of_lt_of_le hk (by decide))] at h1 h2
  rw [bI_nar, upd_b] at h1 h2
  exact kk H1 locs1 ⟨I.1, h1, h2, h3, I.2.2.2.2⟩
theorem sm_l4 (C : gC p s m args meth c cc nL R_M) (I : smI D cA A s h (co, dn, fu, ct, vo, wo, th, ow, ba, mr) H locs) {k : Nat} (hk : k < 18) (hdg : decode cc pc = .ok (.iaload, 1)) (kk : W p l e R s m args below meth c H locs cells slots Q (F0 m (pc + 1) ls (.int (nI (ow k)) :: rest))) : W p l e R s m args below meth c H locs cells slots Q (F0 m pc ls (.int (nI k) :: .ref (h 4) :: rest)) := by
  refine va_iald (D := D) C.1 C.2.1 I.1 I.2.1 4 0 (cA := cA 0) (n := 18) (f := (fun k => nI (ow k))) rfl rfl (vp_in_nI hk (by decide)) hdg ?_
  rw [nI_clamp (Nat.lt_of_lt_of_le hk (by decide))]
  exact kk
theorem sm_s4 (C : gC p s m args meth c cc nL R_M) (I : smI D cA A s h (co, dn, fu, ct, vo, wo, th, ow, ba, mr) H locs) {k : Nat} {x : Nat} (hk : k < 18) (hdg : decode cc pc = .ok (.iastore, 1)) (kk : ∀ (H1 : Heap) (locs1 : List Loc), smI D cA A s h (co, dn, fu, ct, vo, wo, th, (va_up ow k x), ba, mr) H1 locs1 → W p l e R s m args below meth c H1 locs1 cells slots Q (F0 m (pc + 1) ls (rest))) : W p l e R s m args below meth c H locs cells slots Q (F0 m pc ls (.int (nI x) :: .int (nI k) :: .ref (h 4) :: rest)) := by
  refine va_iast (D := D) C.1 C.2.1 I.1 I.2.1 I.2.2.1 I.2.2.2.1 4 0 (cA := cA 0) (n := 18) (f := (fun k => nI (ow k))) rfl rfl (vp_in_nI hk (by decide)) hdg (fun H1 locs1 h1 h2 h3 => ?_)
  rw [nI_clamp (Nat.lt_of_lt_of_le hk (by decide))] at h1 h2
  rw [upd_n] at h1 h2
  exact kk H1 locs1 ⟨I.1, h1, h2, h3, I.2.2.2.2⟩
end Rsm
section Csm
variable {p : Program} {l : Launch} {e : Env} {R : Room} {s : State} {m : MethodId} {args : Array Value} {below : List Frame} {meth : Method} {c : Code} {H : Heap} {locs : List Loc} {cells slots : Nat} {Q : State → Prop}
variable {cc bytes : ByteArray} {nL maxL n index pc : Nat} {ls : Array Slot} {rest st0 avs : List Value} {D : va_G} {cA : Nat → ClassId} {A : Nat → Prop} {h : Nat → Nat} {u : SM} {y : MethodName} {ret : Option FieldType} {rm : Room} {own : String}
theorem smI.free (I : smI D cA A s h u H locs) : ∀ q, smA cA h u H.size q → A q := by
  intro q hq
  rcases hq with ⟨k, e0, h1⟩ | h1
  · exact I.2.2.1.2 k _ h1
  · exact I.2.2.2.2 q (Nat.le_trans I.2.2.2.1.1 h1)
theorem smI.pre (I : smI D cA A s h u H locs) {U : State} (hU : U.heap = H) (hW : s.WarmedH U.vm) : smPre D cA h u H.size U := ⟨by rw [hU], by rw [hU]; exact I.2.1, va_K.moved hW.alike I.1, I.2.2.1.weaken (fun _ _ _ _ => trivial)⟩
theorem smI.back (I : smI D cA A s h u H locs) {u' : SM} {t : State} {H1 : Heap} {locs1 : List Loc} (ht : t.heap = H1) (hv : s.vm.Alike t.vm) (hB : smAt D cA (smA cA h u H.size) h u' t) (hS : va_S A s.heap H1 locs1) : smI D cA A s h u' H1 locs1 := ⟨I.1, by rw [← ht]; exact hB.1, hB.2.2.weaken (fun _ q _ hq => I.free q.1 hq), hS, I.2.2.2.2⟩
theorem smI.recv (I : smI D cA A s h u H locs) : ∃ cell : Cell, H[h 0]? = some cell ∧ cell.vm.isStatics = false ∧ s.vm.findClass R_M = some cell.cls := by
  obtain ⟨co, dn, fu, ct, vo, wo, th, ow, ba, mr⟩ := u
  exact va_recv (q := (R_M, F_M, 10)) I.1 I.2.1 (ci := 1) (q0 := 0) rfl rfl
theorem sm_ci {post : Int32 → SM → Prop} (C : gC p s m args meth c cc nL own) (I : smI D cA A s h u H locs) (hM : smMi l D cA h u H.size y (.code y bytes maxL ret) rm avs post) (k : lkV own index R_M y bytes maxL ret n) (hrc : rm.cells = 0) (hrs : rm.slots = 0) (hR : rm.frames + 1 ≤ R.frames ∧ 8 + (maxL + 11) + rm.locals ≤ R.locals) (hcl : cells ≤ R.cells ∧ slots ≤ R.slots) (hn : avs.length = n) (hl : ls.size = nL) (hst : st0 = avs.reverse ++ .ref (h 0) :: rest) (hrest : (rest.map fun v => v.category).sum ≤ 8) (hdg : decode cc pc = .ok (.invokevirtual index, 3)) (kk : ∀ (r : Int32) (u' : SM) (H1 : Heap) (locs1 : List Loc), post r u' → smI D cA A s h u' H1 locs1 → W p l e R s m args below meth c H1 locs1 cells slots Q (F0 m (pc + 3) ls (.int r :: rest))) : W p l e R s m args below meth c H locs cells slots Q (F0 m pc ls st0) := by
  have cw := k.cw (R := R) (rm := rm) (args := args) (s := s) C.2.2.2.2.1 hR
  rw [hrc, hrs] at cw
  refine va_calli (va_runV (As := avs) (rest := rest) ⟨C.1, C.2.1, C.2.2.1, C.2.2.2.1, C.2.2.2.2.1⟩ hM cw ⟨fun a U g mk q => ⟨q.1, q.2.blind g mk a⟩, I.recv, fun U hU hW => ⟨rfl, I.pre hU hW⟩⟩ rfl hn hl hst (lv_room hrest) hdg hcl) I.2.2.2.1 (fun q _ hq => I.free q hq) (fun q hq => I.free q hq) (fun r u' t H1 locs1 ht hvm hw hB hz hk hS => ?_)
  exact kk r u' H1 locs1 hw (I.back ht hvm hB hS)
theorem sm_cv {post : SM → Prop} (C : gC p s m args meth c cc nL own) (I : smI D cA A s h u H locs) (hM : smMv l D cA h u H.size y (.code y bytes maxL ret) rm avs post) (k : lkV own index R_M y bytes maxL ret n) (hrc : rm.cells = 0) (hrs : rm.slots = 0) (hR : rm.frames + 1 ≤ R.frames ∧ 8 + (maxL + 11) + rm.locals ≤ R.locals) (hcl : cells ≤ R.cells ∧ slots ≤ R.slots) (hn : avs.length = n) (hl : ls.size = nL) (hst : st0 = avs.reverse ++ .ref (h 0) :: rest) (hrest : (rest.map fun v => v.category).sum ≤ 8) (hdg : decode cc pc = .ok (.invokevirtual index, 3)) (kk : ∀ (u' : SM) (H1 : Heap) (locs1 : List Loc), post u' → smI D cA A s h u' H1 locs1 → W p l e R s m args below meth c H1 locs1 cells slots Q (F0 m (pc + 3) ls (rest))) : W p l e R s m args below meth c H locs cells slots Q (F0 m pc ls st0) := by
  have cw := k.cw (R := R) (rm := rm) (args := args) (s := s) C.2.2.2.2.1 hR
  rw [hrc, hrs] at cw
  refine va_callv (va_runV (As := avs) (rest := rest) ⟨C.1, C.2.1, C.2.2.1, C.2.2.2.1, C.2.2.2.2.1⟩ hM cw ⟨fun a U g mk q => ⟨q.1, q.2.blind g mk a⟩, I.recv, fun U hU hW => ⟨rfl, I.pre hU hW⟩⟩ rfl hn hl hst (lv_room hrest) hdg hcl) I.2.2.2.1 (fun q _ hq => I.free q hq) (fun q hq => I.free q hq) (fun u' t H1 locs1 ht hvm hw hB hz hk hS => ?_)
  exact kk u' H1 locs1 hw (I.back ht hvm hB hS)
end Csm
section Esm
variable {p : Program} {l : Launch} {e : Env} {R : Room} {s : State} {m : MethodId} {args : Array Value} {below : List Frame} {meth : Method} {c : Code} {H : Heap} {locs : List Loc} {cells slots : Nat} {Q : State → Prop}
variable {cc : ByteArray} {nL maxL pc sz : Nat} {ls : Array Slot} {avs : List Value} {D : va_G} {cA : Nat → ClassId} {A : Nat → Prop} {h : Nat → Nat} {u : SM} {y : MethodName} {ret : Option FieldType} {rm : Room} {own : String}
theorem sm_mi {post : Int32 → SM → Prop} (hy : plainName y.cls = true) (hys : y.cls = R_M) (hlen : (lg_sl (.ref (h 0) :: avs)).length ≤ maxL) (body : ∀ (p : Program) (e : Env) (s : State) (m : MethodId) (args : Array Value) (below : List Frame) (meth : Method) (c : Code), gC p s m args meth c cc maxL R_M → meth.sig.returnType = ret → s.heap.size = sz → smI D cA (smA cA h u sz) s h u s.heap [] → ∀ ls : Array Slot, lv_has ls maxL (lv_args 0 (.ref (h 0) :: avs)) → W p l e rm s m args below meth c s.heap [] 0 0 (MQ below (va_Qi post (smAt D cA (smA cA h u sz) h) (smA cA h u sz)) args s 0 0 (smA cA h u sz)) (F0 m 0 ls [])) : smMi l D cA h u sz y (.code y cc maxL ret) rm avs post := by
  refine Met.ofW (cc := cc) (maxL := maxL) (ret := ret) hy rfl ?_
  intro p e s m args below meth c s₁ B hml hv
  obtain ⟨rfl, hsz, hP, hK, hD0⟩ := hv
  subst hsz
  have hts := atoms_spec (ws := .code y cc maxL ret :: wG) B.pre
  have hl := lv_entry (.ref (h 0) :: avs) (n := maxL) hlen
  rw [lg_entry_eq]
  exact body p e s m _ below meth c ⟨B.exec, B.bytes, hml, by rw [← hys]; exact findClass_of_methodNamed B.named, fun w hw => hts w (List.mem_cons_of_mem _ hw), B.notSynchronized⟩ B.returns rfl ⟨hK, hP, hD0.self, va_S.rf, fun q hq => Or.inr hq⟩ _ hl
theorem sm_mv {post : SM → Prop} (hy : plainName y.cls = true) (hys : y.cls = R_M) (hlen : (lg_sl (.ref (h 0) :: avs)).length ≤ maxL) (body : ∀ (p : Program) (e : Env) (s : State) (m : MethodId) (args : Array Value) (below : List Frame) (meth : Method) (c : Code), gC p s m args meth c cc maxL R_M → meth.sig.returnType = ret → s.heap.size = sz → smI D cA (smA cA h u sz) s h u s.heap [] → ∀ ls : Array Slot, lv_has ls maxL (lv_args 0 (.ref (h 0) :: avs)) → W p l e rm s m args below meth c s.heap [] 0 0 (MQ below (va_Qv post (smAt D cA (smA cA h u sz) h) (smA cA h u sz)) args s 0 0 (smA cA h u sz)) (F0 m 0 ls [])) : smMv l D cA h u sz y (.code y cc maxL ret) rm avs post := by
  refine Met.ofW (cc := cc) (maxL := maxL) (ret := ret) hy rfl ?_
  intro p e s m args below meth c s₁ B hml hv
  obtain ⟨rfl, hsz, hP, hK, hD0⟩ := hv
  subst hsz
  have hts := atoms_spec (ws := .code y cc maxL ret :: wG) B.pre
  have hl := lv_entry (.ref (h 0) :: avs) (n := maxL) hlen
  rw [lg_entry_eq]
  exact body p e s m _ below meth c ⟨B.exec, B.bytes, hml, by rw [← hys]; exact findClass_of_methodNamed B.named, fun w hw => hts w (List.mem_cons_of_mem _ hw), B.notSynchronized⟩ B.returns rfl ⟨hK, hP, hD0.self, va_S.rf, fun q hq => Or.inr hq⟩ _ hl
theorem sm_ri {post : Int32 → SM → Prop} {v : Int32} (C : gC p s m args meth c cc nL own) (hr : meth.sig.returnType = some .int) (I : smI D cA A s h u H locs) (hp : post v u) (hdg : decode cc pc = .ok (.ireturn, 1)) : W p l e R s m args below meth c H locs 0 0 (MQ below (va_Qi post (smAt D cA A h) A) args s 0 0 A) (F0 m pc ls [.int v]) :=
  W.iret (v := v) C.1 C.2.1 hr (fun t ht hW => ⟨⟨v, u, rfl, hp, by rw [ht]; exact I.2.1, va_K.moved hW.alike I.1, I.2.2.1⟩, I.2.2.2.1.F ht⟩) (fun q hq => I.2.2.2.1.2.2 q hq) hdg C.2.2.2.2.2
theorem sm_rz {post : Int32 → SM → Prop} {b : Bool} (C : gC p s m args meth c cc nL own) (hr : meth.sig.returnType = some .boolean) (I : smI D cA A s h u H locs) (hp : post (bI b) u) (hdg : decode cc pc = .ok (.ireturn, 1)) : W p l e R s m args below meth c H locs 0 0 (MQ below (va_Qi post (smAt D cA A h) A) args s 0 0 A) (F0 m pc ls [.int (bI b)]) :=
  W.zret (v := bI b) C.1 C.2.1 hr (bI_narrow b) (fun t ht hW => ⟨⟨bI b, u, rfl, hp, by rw [ht]; exact I.2.1, va_K.moved hW.alike I.1, I.2.2.1⟩, I.2.2.2.1.F ht⟩) (fun q hq => I.2.2.2.1.2.2 q hq) hdg C.2.2.2.2.2
theorem sm_rv {post : SM → Prop} (C : gC p s m args meth c cc nL own) (hr : meth.sig.returnType = none) (I : smI D cA A s h u H locs) (hp : post u) (hdg : decode cc pc = .ok (.return_, 1)) : W p l e R s m args below meth c H locs 0 0 (MQ below (va_Qv post (smAt D cA A h) A) args s 0 0 A) (F0 m pc ls []) :=
  W.vret C.1 C.2.1 hr (fun t ht hW => ⟨⟨u, rfl, hp, by rw [ht]; exact I.2.1, va_K.moved hW.alike I.1, I.2.2.1⟩, I.2.2.2.1.F ht⟩) (fun q hq => I.2.2.2.1.2.2 q hq) hdg C.2.2.2.2.2
end Esm

/-! ===== static methods without a world ===== -/
abbrev stMi (l : Launch) (sz : Nat) (y : MethodName) (hd : Cond) (rm : Room) (avs : List Value) (post : Int32 → Prop) : Prop := Met l y (hd :: wG) rm (va_Pc avs (fun U => U.heap.size = sz)) (va_Qi (fun r (_ : Unit) => post r) (fun _ _ => True) (va_A [] sz)) 0 0 (va_A [] sz)
theorem st_A {sz q : Nat} (h : va_A [] sz q) : sz ≤ q := by
  rcases h with ⟨k, e, h1⟩ | h1
  · simp at h1
  · exact h1
section EST
variable {p : Program} {l : Launch} {e : Env} {R : Room} {s : State} {m : MethodId} {args : Array Value} {below : List Frame} {meth : Method} {c : Code} {H : Heap} {locs : List Loc} {cells slots : Nat} {Q : State → Prop}
variable {cc : ByteArray} {nL maxL pc sz : Nat} {ls : Array Slot} {avs : List Value} {y : MethodName} {ret : Option FieldType} {rm : Room} {own : String}
theorem st_mi {post : Int32 → Prop} (hy : plainName y.cls = true) (hys : y.cls = own) (hlen : (lg_sl avs).length ≤ maxL) (body : ∀ (p : Program) (e : Env) (s : State) (m : MethodId) (args : Array Value) (below : List Frame) (meth : Method) (c : Code), gC p s m args meth c cc maxL own → meth.sig.returnType = ret → s.heap.size = sz → ∀ ls : Array Slot, lv_has ls maxL (lv_args 0 avs) → W p l e rm s m args below meth c s.heap [] 0 0 (MQ below (va_Qi (fun r (_ : Unit) => post r) (fun _ _ => True) (va_A [] sz)) args s 0 0 (va_A [] sz)) (F0 m 0 ls [])) : stMi l sz y (.code y cc maxL ret) rm avs post := by
  refine Met.ofW (cc := cc) (maxL := maxL) (ret := ret) hy rfl ?_
  intro p e s m args below meth c s₁ B hml hv
  obtain ⟨rfl, hsz⟩ := hv
  have hts := atoms_spec (ws := .code y cc maxL ret :: wG) B.pre
  have hl := lv_entry avs (n := maxL) hlen
  rw [lg_entry_eq]
  exact body p e s m _ below meth c ⟨B.exec, B.bytes, hml, by rw [← hys]; exact findClass_of_methodNamed B.named, fun w hw => hts w (List.mem_cons_of_mem _ hw), B.notSynchronized⟩ B.returns hsz _ hl
theorem st_rz {post : Int32 → Prop} {b : Bool} (C : gC p s m args meth c cc nL own) (hr : meth.sig.returnType = some .boolean) (hp : post (bI b)) (hdg : decode cc pc = .ok (.ireturn, 1)) : W p l e R s m args below meth c s.heap [] 0 0 (MQ below (va_Qi (fun r (_ : Unit) => post r) (fun _ _ => True) (va_A [] sz)) args s 0 0 (va_A [] sz)) (F0 m pc ls [.int (bI b)]) :=
  W.zret (v := bI b) C.1 C.2.1 hr (bI_narrow b) (fun t ht hW => ⟨⟨bI b, (), rfl, hp, trivial⟩, by rw [ht]; exact Nat.le_refl _, fun q _ _ => by rw [ht]⟩) (fun q hq => by cases hq) hdg C.2.2.2.2.2
end EST
section Ssm
variable {p : Program} {l : Launch} {e : Env} {R : Room} {s : State} {m : MethodId} {args : Array Value} {below : List Frame} {meth : Method} {c : Code} {H : Heap} {locs : List Loc} {cells slots : Nat} {Q : State → Prop}
variable {cc bytes : ByteArray} {nL maxL n index pc : Nat} {ls : Array Slot} {rest st0 avs : List Value} {D : va_G} {cA : Nat → ClassId} {A : Nat → Prop} {h : Nat → Nat} {u : SM} {y : MethodName} {ret : Option FieldType} {rm : Room} {own : String}
theorem sm_cs {post : Int32 → Prop} (C : gC p s m args meth c cc nL own) (I : smI D cA A s h u H locs) (hM : stMi l H.size y (.code y bytes maxL ret) rm avs post) (k : lkS own index y bytes maxL ret n) (hrc : rm.cells = 0) (hrs : rm.slots = 0) (hR : rm.frames + 1 ≤ R.frames ∧ 8 + (maxL + 11) + rm.locals ≤ R.locals) (hcl : cells ≤ R.cells ∧ slots ≤ R.slots) (hn : avs.length = n) (hl : ls.size = nL) (hst : st0 = avs.reverse ++ rest) (hrest : (rest.map fun v => v.category).sum ≤ 8) (hdg : decode cc pc = .ok (.invokestatic index, 3)) (kk : ∀ (r : Int32) (H1 : Heap) (locs1 : List Loc), post r → smI D cA A s h u H1 locs1 → W p l e R s m args below meth c H1 locs1 cells slots Q (F0 m (pc + 3) ls (.int r :: rest))) : W p l e R s m args below meth c H locs cells slots Q (F0 m pc ls st0) := by
  have cw := k.cw (R := R) (rm := rm) (args := args) (s := s) C.2.2.2.2.1 hR
  rw [hrc, hrs] at cw
  refine va_calli (va_runS (As := avs) (rest := rest) ⟨C.1, C.2.1, C.2.2.1, C.2.2.2.1, C.2.2.2.2.1⟩ hM cw ⟨fun a U g mk q => ⟨q.1, q.2⟩, fun U hU hW => ⟨rfl, congrArg Array.size hU⟩⟩ rfl hn hl hst (lv_room hrest) hdg hcl) I.2.2.2.1 (fun q hq hz => absurd (st_A hz) (by omega)) (fun q hq => I.2.2.2.2 q (Nat.le_trans I.2.2.2.1.1 (st_A hq))) (fun r u' t H1 locs1 ht hvm hw hB hz hk hS => ?_)
  exact kk r H1 locs1 hw ⟨I.1, I.2.1.kept (fun k q hq => hk _ ((I.2.1 k q hq).lt) (fun hz => absurd (st_A hz) (by have := (I.2.1 k q hq).lt; omega))), I.2.2.1, hS, I.2.2.2.2⟩
end Ssm
