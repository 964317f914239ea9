section
/-- a private method of a class that the tables say can be made, by its rows of tables_1 -/
def lw_okq (q : MethodName × Nat) : Prop := (q.1.cls ≠ "java/lang/invoke/MethodHandle" ∧ q.1.cls ≠ "java/lang/invoke/VarHandle") ∧ Cond.instantiable q.1.cls q.2 ∈ tables_1 ∧ Cond.privateMethod q.1 ∈ tables_1 ∧ Cond.instanceMethod q.1 ∈ tables_1
theorem lw_p0 : lw_okq (⟨"SnapshotVolume", "clearAll", "()V"⟩, 11) := ⟨⟨by decide +kernel, by decide +kernel⟩, List.mem_of_getElem? (i := 11) (by decide +kernel), List.mem_of_getElem? (i := 19) (by decide +kernel), List.mem_of_getElem? (i := 20) (by decide +kernel)⟩
theorem lw_p1 : lw_okq (⟨"SnapshotVolume", "requireUp", "()V"⟩, 11) := ⟨⟨by decide +kernel, by decide +kernel⟩, List.mem_of_getElem? (i := 11) (by decide +kernel), List.mem_of_getElem? (i := 84) (by decide +kernel), List.mem_of_getElem? (i := 85) (by decide +kernel)⟩
theorem lw_p2 : lw_okq (⟨"java/lang/Throwable", "fillInStackTrace", "(I)Ljava/lang/Throwable;"⟩, 6) := ⟨⟨by decide +kernel, by decide +kernel⟩, List.mem_of_getElem? (i := 127) (by decide +kernel), List.mem_of_getElem? (i := 125) (by decide +kernel), List.mem_of_getElem? (i := 126) (by decide +kernel)⟩
theorem lw_p3 : lw_okq (⟨"SnapshotVolume", "requireWord", "(II)V"⟩, 11) := ⟨⟨by decide +kernel, by decide +kernel⟩, List.mem_of_getElem? (i := 11) (by decide +kernel), List.mem_of_getElem? (i := 157) (by decide +kernel), List.mem_of_getElem? (i := 158) (by decide +kernel)⟩
theorem lw_p4 : lw_okq (⟨"SnapshotVolume", "requireBlock", "(I)V"⟩, 11) := ⟨⟨by decide +kernel, by decide +kernel⟩, List.mem_of_getElem? (i := 11) (by decide +kernel), List.mem_of_getElem? (i := 161) (by decide +kernel), List.mem_of_getElem? (i := 162) (by decide +kernel)⟩
theorem lw_p5 : lw_okq (⟨"SnapshotVolume", "countSharers", "(I)I"⟩, 11) := ⟨⟨by decide +kernel, by decide +kernel⟩, List.mem_of_getElem? (i := 11) (by decide +kernel), List.mem_of_getElem? (i := 182) (by decide +kernel), List.mem_of_getElem? (i := 183) (by decide +kernel)⟩
theorem lw_p6 : lw_okq (⟨"SnapshotVolume", "shares", "(II)Z"⟩, 11) := ⟨⟨by decide +kernel, by decide +kernel⟩, List.mem_of_getElem? (i := 11) (by decide +kernel), List.mem_of_getElem? (i := 186) (by decide +kernel), List.mem_of_getElem? (i := 187) (by decide +kernel)⟩
theorem lw_p7 : lw_okq (⟨"SnapshotVolume", "hasSnapshot", "(I)Z"⟩, 11) := ⟨⟨by decide +kernel, by decide +kernel⟩, List.mem_of_getElem? (i := 11) (by decide +kernel), List.mem_of_getElem? (i := 190) (by decide +kernel), List.mem_of_getElem? (i := 191) (by decide +kernel)⟩
theorem lw_p8 : lw_okq (⟨"SnapshotVolume", "findCopy", "(II)I"⟩, 11) := ⟨⟨by decide +kernel, by decide +kernel⟩, List.mem_of_getElem? (i := 11) (by decide +kernel), List.mem_of_getElem? (i := 194) (by decide +kernel), List.mem_of_getElem? (i := 195) (by decide +kernel)⟩
theorem lw_p9 : lw_okq (⟨"SnapshotVolume", "requireFree", "(I)V"⟩, 11) := ⟨⟨by decide +kernel, by decide +kernel⟩, List.mem_of_getElem? (i := 11) (by decide +kernel), List.mem_of_getElem? (i := 198) (by decide +kernel), List.mem_of_getElem? (i := 199) (by decide +kernel)⟩
theorem lw_p10 : lw_okq (⟨"SnapshotVolume", "countFree", "()I"⟩, 11) := ⟨⟨by decide +kernel, by decide +kernel⟩, List.mem_of_getElem? (i := 11) (by decide +kernel), List.mem_of_getElem? (i := 202) (by decide +kernel), List.mem_of_getElem? (i := 203) (by decide +kernel)⟩
theorem lw_p11 : lw_okq (⟨"SnapshotVolume", "isFree", "(I)Z"⟩, 11) := ⟨⟨by decide +kernel, by decide +kernel⟩, List.mem_of_getElem? (i := 11) (by decide +kernel), List.mem_of_getElem? (i := 206) (by decide +kernel), List.mem_of_getElem? (i := 207) (by decide +kernel)⟩
theorem lw_p12 : lw_okq (⟨"SnapshotVolume", "copyForSharers", "(I)I"⟩, 11) := ⟨⟨by decide +kernel, by decide +kernel⟩, List.mem_of_getElem? (i := 11) (by decide +kernel), List.mem_of_getElem? (i := 226) (by decide +kernel), List.mem_of_getElem? (i := 227) (by decide +kernel)⟩
theorem lw_p13 : lw_okq (⟨"SnapshotVolume", "copyBlock", "(IIII)V"⟩, 11) := ⟨⟨by decide +kernel, by decide +kernel⟩, List.mem_of_getElem? (i := 11) (by decide +kernel), List.mem_of_getElem? (i := 230) (by decide +kernel), List.mem_of_getElem? (i := 231) (by decide +kernel)⟩
theorem lw_p14 : lw_okq (⟨"SnapshotVolume", "lowestFree", "()I"⟩, 11) := ⟨⟨by decide +kernel, by decide +kernel⟩, List.mem_of_getElem? (i := 11) (by decide +kernel), List.mem_of_getElem? (i := 234) (by decide +kernel), List.mem_of_getElem? (i := 235) (by decide +kernel)⟩
theorem lw_p15 : lw_okq (⟨"SnapshotVolume", "putCopyWord", "(III)V"⟩, 11) := ⟨⟨by decide +kernel, by decide +kernel⟩, List.mem_of_getElem? (i := 11) (by decide +kernel), List.mem_of_getElem? (i := 238) (by decide +kernel), List.mem_of_getElem? (i := 239) (by decide +kernel)⟩
def lw_privs_1 : List (MethodName × Nat) := [(⟨"SnapshotVolume", "clearAll", "()V"⟩, 11), (⟨"SnapshotVolume", "requireUp", "()V"⟩, 11), (⟨"java/lang/Throwable", "fillInStackTrace", "(I)Ljava/lang/Throwable;"⟩, 6), (⟨"SnapshotVolume", "requireWord", "(II)V"⟩, 11), (⟨"SnapshotVolume", "requireBlock", "(I)V"⟩, 11), (⟨"SnapshotVolume", "countSharers", "(I)I"⟩, 11), (⟨"SnapshotVolume", "shares", "(II)Z"⟩, 11), (⟨"SnapshotVolume", "hasSnapshot", "(I)Z"⟩, 11), (⟨"SnapshotVolume", "findCopy", "(II)I"⟩, 11), (⟨"SnapshotVolume", "requireFree", "(I)V"⟩, 11), (⟨"SnapshotVolume", "countFree", "()I"⟩, 11), (⟨"SnapshotVolume", "isFree", "(I)Z"⟩, 11), (⟨"SnapshotVolume", "copyForSharers", "(I)I"⟩, 11), (⟨"SnapshotVolume", "copyBlock", "(IIII)V"⟩, 11), (⟨"SnapshotVolume", "lowestFree", "()I"⟩, 11), (⟨"SnapshotVolume", "putCopyWord", "(III)V"⟩, 11)]
theorem lw_r1 : ∀ q ∈ lw_privs_1, lw_okq q := List.forall_mem_cons.mpr ⟨lw_p0, List.forall_mem_cons.mpr ⟨lw_p1, List.forall_mem_cons.mpr ⟨lw_p2, List.forall_mem_cons.mpr ⟨lw_p3, List.forall_mem_cons.mpr ⟨lw_p4, List.forall_mem_cons.mpr ⟨lw_p5, List.forall_mem_cons.mpr ⟨lw_p6, List.forall_mem_cons.mpr ⟨lw_p7, List.forall_mem_cons.mpr ⟨lw_p8, List.forall_mem_cons.mpr ⟨lw_p9, List.forall_mem_cons.mpr ⟨lw_p10, List.forall_mem_cons.mpr ⟨lw_p11, List.forall_mem_cons.mpr ⟨lw_p12, List.forall_mem_cons.mpr ⟨lw_p13, List.forall_mem_cons.mpr ⟨lw_p14, List.forall_mem_cons.mpr ⟨lw_p15, fun _ h => absurd h List.not_mem_nil⟩⟩⟩⟩⟩⟩⟩⟩⟩⟩⟩⟩⟩⟩⟩⟩
theorem lw_p16 : lw_okq (⟨"SnapshotVolume", "countWrite", "()V"⟩, 11) := ⟨⟨by decide +kernel, by decide +kernel⟩, List.mem_of_getElem? (i := 11) (by decide +kernel), List.mem_of_getElem? (i := 242) (by decide +kernel), List.mem_of_getElem? (i := 243) (by decide +kernel)⟩
theorem lw_p17 : lw_okq (⟨"SnapshotVolume", "putTag", "(III)V"⟩, 11) := ⟨⟨by decide +kernel, by decide +kernel⟩, List.mem_of_getElem? (i := 11) (by decide +kernel), List.mem_of_getElem? (i := 247) (by decide +kernel), List.mem_of_getElem? (i := 248) (by decide +kernel)⟩
theorem lw_p18 : lw_okq (⟨"SnapshotVolume", "putBlockWord", "(III)V"⟩, 11) := ⟨⟨by decide +kernel, by decide +kernel⟩, List.mem_of_getElem? (i := 11) (by decide +kernel), List.mem_of_getElem? (i := 251) (by decide +kernel), List.mem_of_getElem? (i := 252) (by decide +kernel)⟩
theorem lw_p19 : lw_okq (⟨"SnapshotVolume", "lowestEmptyPlace", "()I"⟩, 11) := ⟨⟨by decide +kernel, by decide +kernel⟩, List.mem_of_getElem? (i := 11) (by decide +kernel), List.mem_of_getElem? (i := 269) (by decide +kernel), List.mem_of_getElem? (i := 270) (by decide +kernel)⟩
theorem lw_p20 : lw_okq (⟨"SnapshotVolume", "putStamp", "(II)V"⟩, 11) := ⟨⟨by decide +kernel, by decide +kernel⟩, List.mem_of_getElem? (i := 11) (by decide +kernel), List.mem_of_getElem? (i := 274) (by decide +kernel), List.mem_of_getElem? (i := 275) (by decide +kernel)⟩
theorem lw_p21 : lw_okq (⟨"SnapshotVolume", "requireSnapshot", "(I)V"⟩, 11) := ⟨⟨by decide +kernel, by decide +kernel⟩, List.mem_of_getElem? (i := 11) (by decide +kernel), List.mem_of_getElem? (i := 286) (by decide +kernel), List.mem_of_getElem? (i := 287) (by decide +kernel)⟩
theorem lw_p22 : lw_okq (⟨"SnapshotVolume", "snapshotWord", "(III)I"⟩, 11) := ⟨⟨by decide +kernel, by decide +kernel⟩, List.mem_of_getElem? (i := 11) (by decide +kernel), List.mem_of_getElem? (i := 313) (by decide +kernel), List.mem_of_getElem? (i := 314) (by decide +kernel)⟩
theorem lw_p23 : lw_okq (⟨"SnapshotVolume", "countCopiesToMerge", "(I)I"⟩, 11) := ⟨⟨by decide +kernel, by decide +kernel⟩, List.mem_of_getElem? (i := 11) (by decide +kernel), List.mem_of_getElem? (i := 331) (by decide +kernel), List.mem_of_getElem? (i := 332) (by decide +kernel)⟩
theorem lw_p24 : lw_okq (⟨"SnapshotVolume", "putMark", "(I)V"⟩, 11) := ⟨⟨by decide +kernel, by decide +kernel⟩, List.mem_of_getElem? (i := 11) (by decide +kernel), List.mem_of_getElem? (i := 335) (by decide +kernel), List.mem_of_getElem? (i := 336) (by decide +kernel)⟩
theorem lw_p25 : lw_okq (⟨"SnapshotVolume", "putRoll", "(I)V"⟩, 11) := ⟨⟨by decide +kernel, by decide +kernel⟩, List.mem_of_getElem? (i := 11) (by decide +kernel), List.mem_of_getElem? (i := 339) (by decide +kernel), List.mem_of_getElem? (i := 340) (by decide +kernel)⟩
theorem lw_p26 : lw_okq (⟨"SnapshotVolume", "mergeFromMark", "(I)I"⟩, 11) := ⟨⟨by decide +kernel, by decide +kernel⟩, List.mem_of_getElem? (i := 11) (by decide +kernel), List.mem_of_getElem? (i := 343) (by decide +kernel), List.mem_of_getElem? (i := 344) (by decide +kernel)⟩
theorem lw_p27 : lw_okq (⟨"SnapshotVolume", "putBlockBack", "(II)V"⟩, 11) := ⟨⟨by decide +kernel, by decide +kernel⟩, List.mem_of_getElem? (i := 11) (by decide +kernel), List.mem_of_getElem? (i := 347) (by decide +kernel), List.mem_of_getElem? (i := 348) (by decide +kernel)⟩
theorem lw_p28 : lw_okq (⟨"SnapshotVolume", "differs", "(II)Z"⟩, 11) := ⟨⟨by decide +kernel, by decide +kernel⟩, List.mem_of_getElem? (i := 11) (by decide +kernel), List.mem_of_getElem? (i := 387) (by decide +kernel), List.mem_of_getElem? (i := 388) (by decide +kernel)⟩
theorem lw_p29 : lw_okq (⟨"SnapshotVolumeModel", "sharers", "(II)I"⟩, 10) := ⟨⟨by decide +kernel, by decide +kernel⟩, List.mem_of_getElem? (i := 391) (by decide +kernel), List.mem_of_getElem? (i := 447) (by decide +kernel), List.mem_of_getElem? (i := 448) (by decide +kernel)⟩
theorem lw_p30 : lw_okq (⟨"SnapshotVolumeModel", "usedCopies", "()I"⟩, 10) := ⟨⟨by decide +kernel, by decide +kernel⟩, List.mem_of_getElem? (i := 391) (by decide +kernel), List.mem_of_getElem? (i := 451) (by decide +kernel), List.mem_of_getElem? (i := 452) (by decide +kernel)⟩
theorem lw_p31 : lw_okq (⟨"SnapshotVolumeModel", "lasts", "(I)Z"⟩, 10) := ⟨⟨by decide +kernel, by decide +kernel⟩, List.mem_of_getElem? (i := 391) (by decide +kernel), List.mem_of_getElem? (i := 455) (by decide +kernel), List.mem_of_getElem? (i := 456) (by decide +kernel)⟩
def lw_privs_2 : List (MethodName × Nat) := [(⟨"SnapshotVolume", "countWrite", "()V"⟩, 11), (⟨"SnapshotVolume", "putTag", "(III)V"⟩, 11), (⟨"SnapshotVolume", "putBlockWord", "(III)V"⟩, 11), (⟨"SnapshotVolume", "lowestEmptyPlace", "()I"⟩, 11), (⟨"SnapshotVolume", "putStamp", "(II)V"⟩, 11), (⟨"SnapshotVolume", "requireSnapshot", "(I)V"⟩, 11), (⟨"SnapshotVolume", "snapshotWord", "(III)I"⟩, 11), (⟨"SnapshotVolume", "countCopiesToMerge", "(I)I"⟩, 11), (⟨"SnapshotVolume", "putMark", "(I)V"⟩, 11), (⟨"SnapshotVolume", "putRoll", "(I)V"⟩, 11), (⟨"SnapshotVolume", "mergeFromMark", "(I)I"⟩, 11), (⟨"SnapshotVolume", "putBlockBack", "(II)V"⟩, 11), (⟨"SnapshotVolume", "differs", "(II)Z"⟩, 11), (⟨"SnapshotVolumeModel", "sharers", "(II)I"⟩, 10), (⟨"SnapshotVolumeModel", "usedCopies", "()I"⟩, 10), (⟨"SnapshotVolumeModel", "lasts", "(I)Z"⟩, 10)]
theorem lw_r2 : ∀ q ∈ lw_privs_2, lw_okq q := List.forall_mem_cons.mpr ⟨lw_p16, List.forall_mem_cons.mpr ⟨lw_p17, List.forall_mem_cons.mpr ⟨lw_p18, List.forall_mem_cons.mpr ⟨lw_p19, List.forall_mem_cons.mpr ⟨lw_p20, List.forall_mem_cons.mpr ⟨lw_p21, List.forall_mem_cons.mpr ⟨lw_p22, List.forall_mem_cons.mpr ⟨lw_p23, List.forall_mem_cons.mpr ⟨lw_p24, List.forall_mem_cons.mpr ⟨lw_p25, List.forall_mem_cons.mpr ⟨lw_p26, List.forall_mem_cons.mpr ⟨lw_p27, List.forall_mem_cons.mpr ⟨lw_p28, List.forall_mem_cons.mpr ⟨lw_p29, List.forall_mem_cons.mpr ⟨lw_p30, List.forall_mem_cons.mpr ⟨lw_p31, fun _ h => absurd h List.not_mem_nil⟩⟩⟩⟩⟩⟩⟩⟩⟩⟩⟩⟩⟩⟩⟩⟩
theorem lw_p32 : lw_okq (⟨"SnapshotVolumeModel", "part", "(III)V"⟩, 10) := ⟨⟨by decide +kernel, by decide +kernel⟩, List.mem_of_getElem? (i := 391) (by decide +kernel), List.mem_of_getElem? (i := 459) (by decide +kernel), List.mem_of_getElem? (i := 460) (by decide +kernel)⟩
theorem lw_p33 : lw_okq (⟨"SnapshotVolumeModel", "lowest", "()I"⟩, 10) := ⟨⟨by decide +kernel, by decide +kernel⟩, List.mem_of_getElem? (i := 391) (by decide +kernel), List.mem_of_getElem? (i := 463) (by decide +kernel), List.mem_of_getElem? (i := 464) (by decide +kernel)⟩
theorem lw_p34 : lw_okq (⟨"SnapshotVolumeModel", "cut", "()I"⟩, 10) := ⟨⟨by decide +kernel, by decide +kernel⟩, List.mem_of_getElem? (i := 391) (by decide +kernel), List.mem_of_getElem? (i := 467) (by decide +kernel), List.mem_of_getElem? (i := 468) (by decide +kernel)⟩
theorem lw_p35 : lw_okq (⟨"SnapshotVolumeModel", "isSnapshot", "(I)Z"⟩, 10) := ⟨⟨by decide +kernel, by decide +kernel⟩, List.mem_of_getElem? (i := 391) (by decide +kernel), List.mem_of_getElem? (i := 483) (by decide +kernel), List.mem_of_getElem? (i := 484) (by decide +kernel)⟩
theorem lw_p36 : lw_okq (⟨"SnapshotVolumeModel", "has", "(II)Z"⟩, 10) := ⟨⟨by decide +kernel, by decide +kernel⟩, List.mem_of_getElem? (i := 391) (by decide +kernel), List.mem_of_getElem? (i := 499) (by decide +kernel), List.mem_of_getElem? (i := 500) (by decide +kernel)⟩
theorem lw_p37 : lw_okq (⟨"SnapshotVolumeModel", "writesFrom", "(II)I"⟩, 10) := ⟨⟨by decide +kernel, by decide +kernel⟩, List.mem_of_getElem? (i := 391) (by decide +kernel), List.mem_of_getElem? (i := 503) (by decide +kernel), List.mem_of_getElem? (i := 504) (by decide +kernel)⟩
theorem lw_p38 : lw_okq (⟨"SnapshotVolumeModel", "restoreFrom", "(II)I"⟩, 10) := ⟨⟨by decide +kernel, by decide +kernel⟩, List.mem_of_getElem? (i := 391) (by decide +kernel), List.mem_of_getElem? (i := 507) (by decide +kernel), List.mem_of_getElem? (i := 508) (by decide +kernel)⟩
theorem lw_p39 : lw_okq (⟨"SnapshotVolumeModel", "restore", "(II)V"⟩, 10) := ⟨⟨by decide +kernel, by decide +kernel⟩, List.mem_of_getElem? (i := 391) (by decide +kernel), List.mem_of_getElem? (i := 511) (by decide +kernel), List.mem_of_getElem? (i := 512) (by decide +kernel)⟩
def lw_privs_3 : List (MethodName × Nat) := [(⟨"SnapshotVolumeModel", "part", "(III)V"⟩, 10), (⟨"SnapshotVolumeModel", "lowest", "()I"⟩, 10), (⟨"SnapshotVolumeModel", "cut", "()I"⟩, 10), (⟨"SnapshotVolumeModel", "isSnapshot", "(I)Z"⟩, 10), (⟨"SnapshotVolumeModel", "has", "(II)Z"⟩, 10), (⟨"SnapshotVolumeModel", "writesFrom", "(II)I"⟩, 10), (⟨"SnapshotVolumeModel", "restoreFrom", "(II)I"⟩, 10), (⟨"SnapshotVolumeModel", "restore", "(II)V"⟩, 10)]
theorem lw_r3 : ∀ q ∈ lw_privs_3, lw_okq q := List.forall_mem_cons.mpr ⟨lw_p32, List.forall_mem_cons.mpr ⟨lw_p33, List.forall_mem_cons.mpr ⟨lw_p34, List.forall_mem_cons.mpr ⟨lw_p35, List.forall_mem_cons.mpr ⟨lw_p36, List.forall_mem_cons.mpr ⟨lw_p37, List.forall_mem_cons.mpr ⟨lw_p38, List.forall_mem_cons.mpr ⟨lw_p39, fun _ h => absurd h List.not_mem_nil⟩⟩⟩⟩⟩⟩⟩⟩
def lw_privs : List (MethodName × Nat) := lw_privs_1 ++ (lw_privs_2 ++ (lw_privs_3))
def lw_tbl : List Cond := k2_sels lw_privs ++ tables_1
theorem lw_privs_ok : ∀ q ∈ lw_privs, lw_okq q := by
  show ∀ q ∈ lw_privs_1 ++ (lw_privs_2 ++ (lw_privs_3)), lw_okq q
  exact List.forall_mem_append.mpr ⟨lw_r1, List.forall_mem_append.mpr ⟨lw_r2, lw_r3⟩⟩
end
section
def R_S : String := "SnapshotVolume"
def R_M : String := "SnapshotVolumeModel"
def R_L : String := "SnapshotVolumeLaw"
def F_S : u_T := fun k => match k with
  | 0 => ("SnapshotVolume", "blockWords", "[I", true)
  | 1 => ("SnapshotVolume", "copyWords", "[I", true)
  | 2 => ("SnapshotVolume", "tagStamps", "[I", true)
  | 3 => ("SnapshotVolume", "tagBlocks", "[I", true)
  | 4 => ("SnapshotVolume", "stamps", "[I", true)
  | 5 => ("SnapshotVolume", "roll", "I", false)
  | 6 => ("SnapshotVolume", "mark", "I", false)
  | 7 => ("SnapshotVolume", "lastStamp", "I", false)
  | 8 => ("SnapshotVolume", "fuseLeft", "I", false)
  | 9 => ("SnapshotVolume", "down", "Z", false)
  | _ => ("SnapshotVolume", "writesDone", "I", false)
def t_S : Nat → FieldType := fun k => match k with
  | 0 => .array .int
  | 1 => .array .int
  | 2 => .array .int
  | 3 => .array .int
  | 4 => .array .int
  | 5 => .int
  | 6 => .int
  | 7 => .int
  | 8 => .int
  | 9 => .boolean
  | _ => .int
theorem n_S : ∀ a, a < 11 → ∀ b, b < 11 → a ≠ b → (F_S a).2.1 ≠ (F_S b).2.1 := by decide +kernel
theorem t_S_ok : ∀ k, k < 11 → parseFieldDescriptor (F_S k).2.2.1 = some (t_S k) := by decide +kernel
def F_M : u_T := fun k => match k with
  | 0 => ("SnapshotVolumeModel", "code", "I", false)
  | 1 => ("SnapshotVolumeModel", "down", "Z", false)
  | 2 => ("SnapshotVolumeModel", "fuse", "I", false)
  | 3 => ("SnapshotVolumeModel", "count", "I", false)
  | 4 => ("SnapshotVolumeModel", "volume", "[I", false)
  | 5 => ("SnapshotVolumeModel", "words", "[I", false)
  | 6 => ("SnapshotVolumeModel", "there", "[Z", false)
  | 7 => ("SnapshotVolumeModel", "own", "[I", false)
  | 8 => ("SnapshotVolumeModel", "back", "I", false)
  | _ => ("SnapshotVolumeModel", "mark", "I", false)
def t_M : Nat → FieldType := fun k => match k with
  | 0 => .int
  | 1 => .boolean
  | 2 => .int
  | 3 => .int
  | 4 => .array .int
  | 5 => .array .int
  | 6 => .array .boolean
  | 7 => .array .int
  | 8 => .int
  | _ => .int
theorem n_M : ∀ a, a < 10 → ∀ b, b < 10 → a ≠ b → (F_M a).2.1 ≠ (F_M b).2.1 := by decide +kernel
theorem t_M_ok : ∀ k, k < 10 → parseFieldDescriptor (F_M k).2.2.1 = some (t_M k) := by decide +kernel
abbrev b_S_init : ByteArray := prog_1_method_1_code
def y_S_init : MethodName := ⟨R_S, "<init>", "()V"⟩
abbrev b_S_format : ByteArray := prog_1_method_2_code
def y_S_format : MethodName := ⟨R_S, "format", "()V"⟩
abbrev b_S_write : ByteArray := prog_1_method_3_code
def y_S_write : MethodName := ⟨R_S, "write", "(III)I"⟩
abbrev b_S_read : ByteArray := prog_1_method_4_code
def y_S_read : MethodName := ⟨R_S, "read", "(II)I"⟩
abbrev b_S_snapshot : ByteArray := prog_1_method_5_code
def y_S_snapshot : MethodName := ⟨R_S, "snapshot", "()I"⟩
abbrev b_S_drop : ByteArray := prog_1_method_6_code
def y_S_drop : MethodName := ⟨R_S, "drop", "(I)V"⟩
abbrev b_S_readSnapshot : ByteArray := prog_1_method_7_code
def y_S_readSnapshot : MethodName := ⟨R_S, "readSnapshot", "(III)I"⟩
abbrev b_S_writeSnapshot : ByteArray := prog_1_method_8_code
def y_S_writeSnapshot : MethodName := ⟨R_S, "writeSnapshot", "(IIII)Z"⟩
abbrev b_S_rollback : ByteArray := prog_1_method_9_code
def y_S_rollback : MethodName := ⟨R_S, "rollback", "(I)I"⟩
abbrev b_S_fuse : ByteArray := prog_1_method_10_code
def y_S_fuse : MethodName := ⟨R_S, "fuse", "(I)Z"⟩
abbrev b_S_recover : ByteArray := prog_1_method_11_code
def y_S_recover : MethodName := ⟨R_S, "recover", "()I"⟩
abbrev b_S_isDown : ByteArray := prog_1_method_12_code
def y_S_isDown : MethodName := ⟨R_S, "isDown", "()Z"⟩
abbrev b_S_writes : ByteArray := prog_1_method_13_code
def y_S_writes : MethodName := ⟨R_S, "writes", "()I"⟩
abbrev b_S_used : ByteArray := prog_1_method_14_code
def y_S_used : MethodName := ⟨R_S, "used", "()I"⟩
abbrev b_S_copyOf : ByteArray := prog_1_method_15_code
def y_S_copyOf : MethodName := ⟨R_S, "copyOf", "(II)I"⟩
abbrev b_S_places : ByteArray := prog_1_method_16_code
def y_S_places : MethodName := ⟨R_S, "places", "()I"⟩
abbrev b_S_changed : ByteArray := prog_1_method_17_code
def y_S_changed : MethodName := ⟨R_S, "changed", "(I)I"⟩
abbrev b_S_clearAll : ByteArray := prog_1_method_18_code
def y_S_clearAll : MethodName := ⟨R_S, "clearAll", "()V"⟩
abbrev b_S_requireUp : ByteArray := prog_1_method_19_code
def y_S_requireUp : MethodName := ⟨R_S, "requireUp", "()V"⟩
abbrev b_S_requireSnapshot : ByteArray := prog_1_method_20_code
def y_S_requireSnapshot : MethodName := ⟨R_S, "requireSnapshot", "(I)V"⟩
abbrev b_S_requireBlock : ByteArray := prog_1_method_21_code
def y_S_requireBlock : MethodName := ⟨R_S, "requireBlock", "(I)V"⟩
abbrev b_S_requireWord : ByteArray := prog_1_method_22_code
def y_S_requireWord : MethodName := ⟨R_S, "requireWord", "(II)V"⟩
abbrev b_S_requireFree : ByteArray := prog_1_method_23_code
def y_S_requireFree : MethodName := ⟨R_S, "requireFree", "(I)V"⟩
abbrev b_S_hasSnapshot : ByteArray := prog_1_method_24_code
def y_S_hasSnapshot : MethodName := ⟨R_S, "hasSnapshot", "(I)Z"⟩
abbrev b_S_lowestEmptyPlace : ByteArray := prog_1_method_25_code
def y_S_lowestEmptyPlace : MethodName := ⟨R_S, "lowestEmptyPlace", "()I"⟩
abbrev b_S_isFree : ByteArray := prog_1_method_26_code
def y_S_isFree : MethodName := ⟨R_S, "isFree", "(I)Z"⟩
abbrev b_S_countFree : ByteArray := prog_1_method_27_code
def y_S_countFree : MethodName := ⟨R_S, "countFree", "()I"⟩
abbrev b_S_lowestFree : ByteArray := prog_1_method_28_code
def y_S_lowestFree : MethodName := ⟨R_S, "lowestFree", "()I"⟩
abbrev b_S_findCopy : ByteArray := prog_1_method_29_code
def y_S_findCopy : MethodName := ⟨R_S, "findCopy", "(II)I"⟩
abbrev b_S_snapshotWord : ByteArray := prog_1_method_30_code
def y_S_snapshotWord : MethodName := ⟨R_S, "snapshotWord", "(III)I"⟩
abbrev b_S_differs : ByteArray := prog_1_method_31_code
def y_S_differs : MethodName := ⟨R_S, "differs", "(II)Z"⟩
abbrev b_S_shares : ByteArray := prog_1_method_32_code
def y_S_shares : MethodName := ⟨R_S, "shares", "(II)Z"⟩
abbrev b_S_countSharers : ByteArray := prog_1_method_33_code
def y_S_countSharers : MethodName := ⟨R_S, "countSharers", "(I)I"⟩
abbrev b_S_countCopiesToMerge : ByteArray := prog_1_method_34_code
def y_S_countCopiesToMerge : MethodName := ⟨R_S, "countCopiesToMerge", "(I)I"⟩
abbrev b_S_copyForSharers : ByteArray := prog_1_method_35_code
def y_S_copyForSharers : MethodName := ⟨R_S, "copyForSharers", "(I)I"⟩
abbrev b_S_copyBlock : ByteArray := prog_1_method_36_code
def y_S_copyBlock : MethodName := ⟨R_S, "copyBlock", "(IIII)V"⟩
abbrev b_S_mergeFromMark : ByteArray := prog_1_method_37_code
def y_S_mergeFromMark : MethodName := ⟨R_S, "mergeFromMark", "(I)I"⟩
abbrev b_S_putBlockBack : ByteArray := prog_1_method_38_code
def y_S_putBlockBack : MethodName := ⟨R_S, "putBlockBack", "(II)V"⟩
abbrev b_S_putBlockWord : ByteArray := prog_1_method_39_code
def y_S_putBlockWord : MethodName := ⟨R_S, "putBlockWord", "(III)V"⟩
abbrev b_S_putCopyWord : ByteArray := prog_1_method_40_code
def y_S_putCopyWord : MethodName := ⟨R_S, "putCopyWord", "(III)V"⟩
abbrev b_S_putTag : ByteArray := prog_1_method_41_code
def y_S_putTag : MethodName := ⟨R_S, "putTag", "(III)V"⟩
abbrev b_S_putStamp : ByteArray := prog_1_method_42_code
def y_S_putStamp : MethodName := ⟨R_S, "putStamp", "(II)V"⟩
abbrev b_S_putRoll : ByteArray := prog_1_method_43_code
def y_S_putRoll : MethodName := ⟨R_S, "putRoll", "(I)V"⟩
abbrev b_S_putMark : ByteArray := prog_1_method_44_code
def y_S_putMark : MethodName := ⟨R_S, "putMark", "(I)V"⟩
abbrev b_S_countWrite : ByteArray := prog_1_method_45_code
def y_S_countWrite : MethodName := ⟨R_S, "countWrite", "()V"⟩
abbrev b_M_init : ByteArray := prog_3_method_1_code
def y_M_init : MethodName := ⟨R_M, "<init>", "()V"⟩
abbrev b_M_thrown : ByteArray := prog_3_method_2_code
def y_M_thrown : MethodName := ⟨R_M, "thrown", "()I"⟩
abbrev b_M_format : ByteArray := prog_3_method_3_code
def y_M_format : MethodName := ⟨R_M, "format", "()V"⟩
abbrev b_M_within : ByteArray := prog_3_method_4_code
def y_M_within : MethodName := ⟨R_M, "within", "(III)Z"⟩
abbrev b_M_isSnapshot : ByteArray := prog_3_method_5_code
def y_M_isSnapshot : MethodName := ⟨R_M, "isSnapshot", "(I)Z"⟩
abbrev b_M_isWord : ByteArray := prog_3_method_6_code
def y_M_isWord : MethodName := ⟨R_M, "isWord", "(II)Z"⟩
abbrev b_M_usedCopies : ByteArray := prog_3_method_7_code
def y_M_usedCopies : MethodName := ⟨R_M, "usedCopies", "()I"⟩
abbrev b_M_lowest : ByteArray := prog_3_method_8_code
def y_M_lowest : MethodName := ⟨R_M, "lowest", "()I"⟩
abbrev b_M_sharers : ByteArray := prog_3_method_9_code
def y_M_sharers : MethodName := ⟨R_M, "sharers", "(II)I"⟩
abbrev b_M_part : ByteArray := prog_3_method_10_code
def y_M_part : MethodName := ⟨R_M, "part", "(III)V"⟩
abbrev b_M_lasts : ByteArray := prog_3_method_11_code
def y_M_lasts : MethodName := ⟨R_M, "lasts", "(I)Z"⟩
abbrev b_M_cut : ByteArray := prog_3_method_12_code
def y_M_cut : MethodName := ⟨R_M, "cut", "()I"⟩
abbrev b_M_write : ByteArray := prog_3_method_13_code
def y_M_write : MethodName := ⟨R_M, "write", "(III)I"⟩
abbrev b_M_read : ByteArray := prog_3_method_14_code
def y_M_read : MethodName := ⟨R_M, "read", "(II)I"⟩
abbrev b_M_snapshot : ByteArray := prog_3_method_15_code
def y_M_snapshot : MethodName := ⟨R_M, "snapshot", "()I"⟩
abbrev b_M_drop : ByteArray := prog_3_method_16_code
def y_M_drop : MethodName := ⟨R_M, "drop", "(I)V"⟩
abbrev b_M_readSnapshot : ByteArray := prog_3_method_17_code
def y_M_readSnapshot : MethodName := ⟨R_M, "readSnapshot", "(III)I"⟩
abbrev b_M_writeSnapshot : ByteArray := prog_3_method_18_code
def y_M_writeSnapshot : MethodName := ⟨R_M, "writeSnapshot", "(IIII)Z"⟩
abbrev b_M_has : ByteArray := prog_3_method_19_code
def y_M_has : MethodName := ⟨R_M, "has", "(II)Z"⟩
abbrev b_M_writesFrom : ByteArray := prog_3_method_20_code
def y_M_writesFrom : MethodName := ⟨R_M, "writesFrom", "(II)I"⟩
abbrev b_M_restore : ByteArray := prog_3_method_21_code
def y_M_restore : MethodName := ⟨R_M, "restore", "(II)V"⟩
abbrev b_M_restoreFrom : ByteArray := prog_3_method_22_code
def y_M_restoreFrom : MethodName := ⟨R_M, "restoreFrom", "(II)I"⟩
abbrev b_M_rollback : ByteArray := prog_3_method_23_code
def y_M_rollback : MethodName := ⟨R_M, "rollback", "(I)I"⟩
abbrev b_M_recover : ByteArray := prog_3_method_24_code
def y_M_recover : MethodName := ⟨R_M, "recover", "()I"⟩
abbrev b_M_fuse : ByteArray := prog_3_method_25_code
def y_M_fuse : MethodName := ⟨R_M, "fuse", "(I)Z"⟩
abbrev b_M_isDown : ByteArray := prog_3_method_26_code
def y_M_isDown : MethodName := ⟨R_M, "isDown", "()Z"⟩
abbrev b_M_writes : ByteArray := prog_3_method_27_code
def y_M_writes : MethodName := ⟨R_M, "writes", "()I"⟩
abbrev b_M_used : ByteArray := prog_3_method_28_code
def y_M_used : MethodName := ⟨R_M, "used", "()I"⟩
abbrev b_M_copyOf : ByteArray := prog_3_method_29_code
def y_M_copyOf : MethodName := ⟨R_M, "copyOf", "(II)I"⟩
abbrev b_M_places : ByteArray := prog_3_method_30_code
def y_M_places : MethodName := ⟨R_M, "places", "()I"⟩
abbrev b_M_changed : ByteArray := prog_3_method_31_code
def y_M_changed : MethodName := ⟨R_M, "changed", "(I)I"⟩
abbrev b_L_write : ByteArray := method_3_code
def y_L_write : MethodName := ⟨R_L, "write", "(LSnapshotVolume;III[J)I"⟩
abbrev b_L_read : ByteArray := method_4_code
def y_L_read : MethodName := ⟨R_L, "read", "(LSnapshotVolume;II[J)I"⟩
abbrev b_L_snapshot : ByteArray := method_5_code
def y_L_snapshot : MethodName := ⟨R_L, "snapshot", "(LSnapshotVolume;[J)I"⟩
abbrev b_L_drop : ByteArray := method_6_code
def y_L_drop : MethodName := ⟨R_L, "drop", "(LSnapshotVolume;I)I"⟩
abbrev b_L_readSnapshot : ByteArray := method_7_code
def y_L_readSnapshot : MethodName := ⟨R_L, "readSnapshot", "(LSnapshotVolume;III[J)I"⟩
abbrev b_L_writeSnapshot : ByteArray := method_8_code
def y_L_writeSnapshot : MethodName := ⟨R_L, "writeSnapshot", "(LSnapshotVolume;IIII[J)I"⟩
abbrev b_L_rollback : ByteArray := method_9_code
def y_L_rollback : MethodName := ⟨R_L, "rollback", "(LSnapshotVolume;I[J)I"⟩
abbrev b_L_recover : ByteArray := method_10_code
def y_L_recover : MethodName := ⟨R_L, "recover", "(LSnapshotVolume;[J)I"⟩
abbrev b_L_used : ByteArray := method_11_code
def y_L_used : MethodName := ⟨R_L, "used", "(LSnapshotVolume;[J)I"⟩
abbrev b_L_copyOf : ByteArray := method_12_code
def y_L_copyOf : MethodName := ⟨R_L, "copyOf", "(LSnapshotVolume;II[J)I"⟩
abbrev b_L_places : ByteArray := method_13_code
def y_L_places : MethodName := ⟨R_L, "places", "(LSnapshotVolume;[J)I"⟩
abbrev b_L_changed : ByteArray := method_14_code
def y_L_changed : MethodName := ⟨R_L, "changed", "(LSnapshotVolume;I[J)I"⟩
abbrev b_L_law : ByteArray := code
def y_L_law : MethodName := ⟨R_L, "law", "([I)Z"⟩
end
section
theorem d_S_init_0 : decode b_S_init 0 = .ok (.aload_n 0, 1) := by decide +kernel
theorem d_S_init_1 : decode b_S_init 1 = .ok (.invokespecial 1, 3) := by decide +kernel
theorem d_S_init_4 : decode b_S_init 4 = .ok (.aload_n 0, 1) := by decide +kernel
theorem d_S_init_5 : decode b_S_init 5 = .ok (.bipush 24, 2) := by decide +kernel
theorem d_S_init_7 : decode b_S_init 7 = .ok (.newarray .int, 2) := by decide +kernel
theorem d_S_init_9 : decode b_S_init 9 = .ok (.putfield 9, 3) := by decide +kernel
theorem d_S_init_12 : decode b_S_init 12 = .ok (.aload_n 0, 1) := by decide +kernel
theorem d_S_init_13 : decode b_S_init 13 = .ok (.bipush 36, 2) := by decide +kernel
theorem d_S_init_15 : decode b_S_init 15 = .ok (.newarray .int, 2) := by decide +kernel
theorem d_S_init_17 : decode b_S_init 17 = .ok (.putfield 13, 3) := by decide +kernel
theorem d_S_init_20 : decode b_S_init 20 = .ok (.aload_n 0, 1) := by decide +kernel
theorem d_S_init_21 : decode b_S_init 21 = .ok (.bipush 9, 2) := by decide +kernel
theorem d_S_init_23 : decode b_S_init 23 = .ok (.newarray .int, 2) := by decide +kernel
theorem d_S_init_25 : decode b_S_init 25 = .ok (.putfield 16, 3) := by decide +kernel
theorem d_S_init_28 : decode b_S_init 28 = .ok (.aload_n 0, 1) := by decide +kernel
theorem d_S_init_29 : decode b_S_init 29 = .ok (.bipush 9, 2) := by decide +kernel
theorem d_S_init_31 : decode b_S_init 31 = .ok (.newarray .int, 2) := by decide +kernel
theorem d_S_init_33 : decode b_S_init 33 = .ok (.putfield 19, 3) := by decide +kernel
theorem d_S_init_36 : decode b_S_init 36 = .ok (.aload_n 0, 1) := by decide +kernel
theorem d_S_init_37 : decode b_S_init 37 = .ok (.iconst 3, 1) := by decide +kernel
theorem d_S_init_38 : decode b_S_init 38 = .ok (.newarray .int, 2) := by decide +kernel
theorem d_S_init_40 : decode b_S_init 40 = .ok (.putfield 22, 3) := by decide +kernel
theorem d_S_init_43 : decode b_S_init 43 = .ok (.aload_n 0, 1) := by decide +kernel
theorem d_S_init_44 : decode b_S_init 44 = .ok (.invokevirtual 25, 3) := by decide +kernel
theorem d_S_init_47 : decode b_S_init 47 = .ok (.return_, 1) := by decide +kernel
theorem d_S_format_0 : decode b_S_format 0 = .ok (.aload_n 0, 1) := by decide +kernel
theorem d_S_format_1 : decode b_S_format 1 = .ok (.invokevirtual 25, 3) := by decide +kernel
theorem d_S_format_4 : decode b_S_format 4 = .ok (.return_, 1) := by decide +kernel
theorem d_S_write_0 : decode b_S_write 0 = .ok (.aload_n 0, 1) := by decide +kernel
theorem d_S_write_1 : decode b_S_write 1 = .ok (.invokevirtual 28, 3) := by decide +kernel
theorem d_S_write_4 : decode b_S_write 4 = .ok (.aload_n 0, 1) := by decide +kernel
theorem d_S_write_5 : decode b_S_write 5 = .ok (.iload_n 1, 1) := by decide +kernel
theorem d_S_write_6 : decode b_S_write 6 = .ok (.iload_n 2, 1) := by decide +kernel
theorem d_S_write_7 : decode b_S_write 7 = .ok (.invokevirtual 31, 3) := by decide +kernel
theorem d_S_write_10 : decode b_S_write 10 = .ok (.aload_n 0, 1) := by decide +kernel
theorem d_S_write_11 : decode b_S_write 11 = .ok (.aload_n 0, 1) := by decide +kernel
theorem d_S_write_12 : decode b_S_write 12 = .ok (.iload_n 1, 1) := by decide +kernel
theorem d_S_write_13 : decode b_S_write 13 = .ok (.invokevirtual 35, 3) := by decide +kernel
theorem d_S_write_16 : decode b_S_write 16 = .ok (.invokevirtual 39, 3) := by decide +kernel
theorem d_S_write_19 : decode b_S_write 19 = .ok (.aload_n 0, 1) := by decide +kernel
theorem d_S_write_20 : decode b_S_write 20 = .ok (.iload_n 1, 1) := by decide +kernel
theorem d_S_write_21 : decode b_S_write 21 = .ok (.invokevirtual 43, 3) := by decide +kernel
theorem d_S_write_24 : decode b_S_write 24 = .ok (.istore 4, 2) := by decide +kernel
theorem d_S_write_26 : decode b_S_write 26 = .ok (.aload_n 0, 1) := by decide +kernel
theorem d_S_write_27 : decode b_S_write 27 = .ok (.iload_n 1, 1) := by decide +kernel
theorem d_S_write_28 : decode b_S_write 28 = .ok (.iload_n 2, 1) := by decide +kernel
theorem d_S_write_29 : decode b_S_write 29 = .ok (.iload_n 3, 1) := by decide +kernel
theorem d_S_write_30 : decode b_S_write 30 = .ok (.invokevirtual 46, 3) := by decide +kernel
theorem d_S_write_33 : decode b_S_write 33 = .ok (.iload 4, 2) := by decide +kernel
theorem d_S_write_35 : decode b_S_write 35 = .ok (.ireturn, 1) := by decide +kernel
theorem d_S_read_0 : decode b_S_read 0 = .ok (.aload_n 0, 1) := by decide +kernel
theorem d_S_read_1 : decode b_S_read 1 = .ok (.invokevirtual 28, 3) := by decide +kernel
theorem d_S_read_4 : decode b_S_read 4 = .ok (.aload_n 0, 1) := by decide +kernel
theorem d_S_read_5 : decode b_S_read 5 = .ok (.iload_n 1, 1) := by decide +kernel
theorem d_S_read_6 : decode b_S_read 6 = .ok (.iload_n 2, 1) := by decide +kernel
theorem d_S_read_7 : decode b_S_read 7 = .ok (.invokevirtual 31, 3) := by decide +kernel
theorem d_S_read_10 : decode b_S_read 10 = .ok (.aload_n 0, 1) := by decide +kernel
theorem d_S_read_11 : decode b_S_read 11 = .ok (.getfield 9, 3) := by decide +kernel
theorem d_S_read_14 : decode b_S_read 14 = .ok (.iload_n 1, 1) := by decide +kernel
theorem d_S_read_15 : decode b_S_read 15 = .ok (.iconst 4, 1) := by decide +kernel
theorem d_S_read_16 : decode b_S_read 16 = .ok (.imul, 1) := by decide +kernel
theorem d_S_read_17 : decode b_S_read 17 = .ok (.iload_n 2, 1) := by decide +kernel
theorem d_S_read_18 : decode b_S_read 18 = .ok (.iadd, 1) := by decide +kernel
theorem d_S_read_19 : decode b_S_read 19 = .ok (.iaload, 1) := by decide +kernel
theorem d_S_read_20 : decode b_S_read 20 = .ok (.ireturn, 1) := by decide +kernel
theorem d_S_snapshot_0 : decode b_S_snapshot 0 = .ok (.aload_n 0, 1) := by decide +kernel
theorem d_S_snapshot_1 : decode b_S_snapshot 1 = .ok (.invokevirtual 28, 3) := by decide +kernel
theorem d_S_snapshot_4 : decode b_S_snapshot 4 = .ok (.aload_n 0, 1) := by decide +kernel
theorem d_S_snapshot_5 : decode b_S_snapshot 5 = .ok (.invokevirtual 50, 3) := by decide +kernel
theorem d_S_snapshot_8 : decode b_S_snapshot 8 = .ok (.istore_n 1, 1) := by decide +kernel
theorem d_S_snapshot_9 : decode b_S_snapshot 9 = .ok (.iload_n 1, 1) := by decide +kernel
theorem d_S_snapshot_10 : decode b_S_snapshot 10 = .ok (.iconst (-1), 1) := by decide +kernel
theorem d_S_snapshot_11 : decode b_S_snapshot 11 = .ok (.if_icmp .ne 13, 3) := by decide +kernel
theorem d_S_snapshot_14 : decode b_S_snapshot 14 = .ok (.new 54, 3) := by decide +kernel
theorem d_S_snapshot_17 : decode b_S_snapshot 17 = .ok (.dup, 1) := by decide +kernel
theorem d_S_snapshot_18 : decode b_S_snapshot 18 = .ok (.ldc 56, 2) := by decide +kernel
theorem d_S_snapshot_20 : decode b_S_snapshot 20 = .ok (.invokespecial 58, 3) := by decide +kernel
theorem d_S_snapshot_23 : decode b_S_snapshot 23 = .ok (.athrow, 1) := by decide +kernel
theorem d_S_snapshot_24 : decode b_S_snapshot 24 = .ok (.aload_n 0, 1) := by decide +kernel
theorem d_S_snapshot_25 : decode b_S_snapshot 25 = .ok (.iload_n 1, 1) := by decide +kernel
theorem d_S_snapshot_26 : decode b_S_snapshot 26 = .ok (.aload_n 0, 1) := by decide +kernel
theorem d_S_snapshot_27 : decode b_S_snapshot 27 = .ok (.getfield 61, 3) := by decide +kernel
theorem d_S_snapshot_30 : decode b_S_snapshot 30 = .ok (.iconst 1, 1) := by decide +kernel
theorem d_S_snapshot_31 : decode b_S_snapshot 31 = .ok (.iadd, 1) := by decide +kernel
theorem d_S_snapshot_32 : decode b_S_snapshot 32 = .ok (.invokevirtual 65, 3) := by decide +kernel
theorem d_S_snapshot_35 : decode b_S_snapshot 35 = .ok (.aload_n 0, 1) := by decide +kernel
theorem d_S_snapshot_36 : decode b_S_snapshot 36 = .ok (.dup, 1) := by decide +kernel
theorem d_S_snapshot_37 : decode b_S_snapshot 37 = .ok (.getfield 61, 3) := by decide +kernel
theorem d_S_snapshot_40 : decode b_S_snapshot 40 = .ok (.iconst 1, 1) := by decide +kernel
theorem d_S_snapshot_41 : decode b_S_snapshot 41 = .ok (.iadd, 1) := by decide +kernel
theorem d_S_snapshot_42 : decode b_S_snapshot 42 = .ok (.putfield 61, 3) := by decide +kernel
theorem d_S_snapshot_45 : decode b_S_snapshot 45 = .ok (.iload_n 1, 1) := by decide +kernel
theorem d_S_snapshot_46 : decode b_S_snapshot 46 = .ok (.ireturn, 1) := by decide +kernel
theorem d_S_drop_0 : decode b_S_drop 0 = .ok (.aload_n 0, 1) := by decide +kernel
theorem d_S_drop_1 : decode b_S_drop 1 = .ok (.invokevirtual 28, 3) := by decide +kernel
theorem d_S_drop_4 : decode b_S_drop 4 = .ok (.aload_n 0, 1) := by decide +kernel
theorem d_S_drop_5 : decode b_S_drop 5 = .ok (.iload_n 1, 1) := by decide +kernel
theorem d_S_drop_6 : decode b_S_drop 6 = .ok (.invokevirtual 68, 3) := by decide +kernel
theorem d_S_drop_9 : decode b_S_drop 9 = .ok (.aload_n 0, 1) := by decide +kernel
theorem d_S_drop_10 : decode b_S_drop 10 = .ok (.iload_n 1, 1) := by decide +kernel
theorem d_S_drop_11 : decode b_S_drop 11 = .ok (.iconst 0, 1) := by decide +kernel
theorem d_S_drop_12 : decode b_S_drop 12 = .ok (.invokevirtual 65, 3) := by decide +kernel
theorem d_S_drop_15 : decode b_S_drop 15 = .ok (.return_, 1) := by decide +kernel
theorem d_S_readSnapshot_0 : decode b_S_readSnapshot 0 = .ok (.aload_n 0, 1) := by decide +kernel
theorem d_S_readSnapshot_1 : decode b_S_readSnapshot 1 = .ok (.invokevirtual 28, 3) := by decide +kernel
theorem d_S_readSnapshot_4 : decode b_S_readSnapshot 4 = .ok (.aload_n 0, 1) := by decide +kernel
theorem d_S_readSnapshot_5 : decode b_S_readSnapshot 5 = .ok (.iload_n 1, 1) := by decide +kernel
theorem d_S_readSnapshot_6 : decode b_S_readSnapshot 6 = .ok (.invokevirtual 68, 3) := by decide +kernel
theorem d_S_readSnapshot_9 : decode b_S_readSnapshot 9 = .ok (.aload_n 0, 1) := by decide +kernel
theorem d_S_readSnapshot_10 : decode b_S_readSnapshot 10 = .ok (.iload_n 2, 1) := by decide +kernel
theorem d_S_readSnapshot_11 : decode b_S_readSnapshot 11 = .ok (.iload_n 3, 1) := by decide +kernel
theorem d_S_readSnapshot_12 : decode b_S_readSnapshot 12 = .ok (.invokevirtual 31, 3) := by decide +kernel
theorem d_S_readSnapshot_15 : decode b_S_readSnapshot 15 = .ok (.aload_n 0, 1) := by decide +kernel
theorem d_S_readSnapshot_16 : decode b_S_readSnapshot 16 = .ok (.iload_n 1, 1) := by decide +kernel
theorem d_S_readSnapshot_17 : decode b_S_readSnapshot 17 = .ok (.iload_n 2, 1) := by decide +kernel
theorem d_S_readSnapshot_18 : decode b_S_readSnapshot 18 = .ok (.iload_n 3, 1) := by decide +kernel
theorem d_S_readSnapshot_19 : decode b_S_readSnapshot 19 = .ok (.invokevirtual 71, 3) := by decide +kernel
theorem d_S_readSnapshot_22 : decode b_S_readSnapshot 22 = .ok (.ireturn, 1) := by decide +kernel
theorem d_S_writeSnapshot_0 : decode b_S_writeSnapshot 0 = .ok (.aload_n 0, 1) := by decide +kernel
theorem d_S_writeSnapshot_1 : decode b_S_writeSnapshot 1 = .ok (.invokevirtual 28, 3) := by decide +kernel
theorem d_S_writeSnapshot_4 : decode b_S_writeSnapshot 4 = .ok (.aload_n 0, 1) := by decide +kernel
theorem d_S_writeSnapshot_5 : decode b_S_writeSnapshot 5 = .ok (.iload_n 1, 1) := by decide +kernel
theorem d_S_writeSnapshot_6 : decode b_S_writeSnapshot 6 = .ok (.invokevirtual 68, 3) := by decide +kernel
theorem d_S_writeSnapshot_9 : decode b_S_writeSnapshot 9 = .ok (.aload_n 0, 1) := by decide +kernel
theorem d_S_writeSnapshot_10 : decode b_S_writeSnapshot 10 = .ok (.iload_n 2, 1) := by decide +kernel
theorem d_S_writeSnapshot_11 : decode b_S_writeSnapshot 11 = .ok (.iload_n 3, 1) := by decide +kernel
theorem d_S_writeSnapshot_12 : decode b_S_writeSnapshot 12 = .ok (.invokevirtual 31, 3) := by decide +kernel
theorem d_S_writeSnapshot_15 : decode b_S_writeSnapshot 15 = .ok (.aload_n 0, 1) := by decide +kernel
theorem d_S_writeSnapshot_16 : decode b_S_writeSnapshot 16 = .ok (.iload_n 1, 1) := by decide +kernel
theorem d_S_writeSnapshot_17 : decode b_S_writeSnapshot 17 = .ok (.iload_n 2, 1) := by decide +kernel
theorem d_S_writeSnapshot_18 : decode b_S_writeSnapshot 18 = .ok (.invokevirtual 75, 3) := by decide +kernel
theorem d_S_writeSnapshot_21 : decode b_S_writeSnapshot 21 = .ok (.istore 5, 2) := by decide +kernel
theorem d_S_writeSnapshot_23 : decode b_S_writeSnapshot 23 = .ok (.iload 5, 2) := by decide +kernel
theorem d_S_writeSnapshot_25 : decode b_S_writeSnapshot 25 = .ok (.iconst (-1), 1) := by decide +kernel
theorem d_S_writeSnapshot_26 : decode b_S_writeSnapshot 26 = .ok (.if_icmp .eq 14, 3) := by decide +kernel
theorem d_S_writeSnapshot_29 : decode b_S_writeSnapshot 29 = .ok (.aload_n 0, 1) := by decide +kernel
theorem d_S_writeSnapshot_30 : decode b_S_writeSnapshot 30 = .ok (.iload 5, 2) := by decide +kernel
theorem d_S_writeSnapshot_32 : decode b_S_writeSnapshot 32 = .ok (.iload_n 3, 1) := by decide +kernel
theorem d_S_writeSnapshot_33 : decode b_S_writeSnapshot 33 = .ok (.iload 4, 2) := by decide +kernel
theorem d_S_writeSnapshot_35 : decode b_S_writeSnapshot 35 = .ok (.invokevirtual 79, 3) := by decide +kernel
theorem d_S_writeSnapshot_38 : decode b_S_writeSnapshot 38 = .ok (.iconst 0, 1) := by decide +kernel
theorem d_S_writeSnapshot_39 : decode b_S_writeSnapshot 39 = .ok (.ireturn, 1) := by decide +kernel
theorem d_S_writeSnapshot_40 : decode b_S_writeSnapshot 40 = .ok (.aload_n 0, 1) := by decide +kernel
theorem d_S_writeSnapshot_41 : decode b_S_writeSnapshot 41 = .ok (.iconst 1, 1) := by decide +kernel
theorem d_S_writeSnapshot_42 : decode b_S_writeSnapshot 42 = .ok (.invokevirtual 39, 3) := by decide +kernel
theorem d_S_writeSnapshot_45 : decode b_S_writeSnapshot 45 = .ok (.aload_n 0, 1) := by decide +kernel
theorem d_S_writeSnapshot_46 : decode b_S_writeSnapshot 46 = .ok (.iload_n 1, 1) := by decide +kernel
theorem d_S_writeSnapshot_47 : decode b_S_writeSnapshot 47 = .ok (.iload_n 2, 1) := by decide +kernel
theorem d_S_writeSnapshot_48 : decode b_S_writeSnapshot 48 = .ok (.iload_n 3, 1) := by decide +kernel
theorem d_S_writeSnapshot_49 : decode b_S_writeSnapshot 49 = .ok (.iload 4, 2) := by decide +kernel
theorem d_S_writeSnapshot_51 : decode b_S_writeSnapshot 51 = .ok (.invokevirtual 82, 3) := by decide +kernel
theorem d_S_writeSnapshot_54 : decode b_S_writeSnapshot 54 = .ok (.iconst 1, 1) := by decide +kernel
theorem d_S_writeSnapshot_55 : decode b_S_writeSnapshot 55 = .ok (.ireturn, 1) := by decide +kernel
theorem d_S_rollback_0 : decode b_S_rollback 0 = .ok (.aload_n 0, 1) := by decide +kernel
theorem d_S_rollback_1 : decode b_S_rollback 1 = .ok (.invokevirtual 28, 3) := by decide +kernel
theorem d_S_rollback_4 : decode b_S_rollback 4 = .ok (.aload_n 0, 1) := by decide +kernel
theorem d_S_rollback_5 : decode b_S_rollback 5 = .ok (.iload_n 1, 1) := by decide +kernel
theorem d_S_rollback_6 : decode b_S_rollback 6 = .ok (.invokevirtual 68, 3) := by decide +kernel
theorem d_S_rollback_9 : decode b_S_rollback 9 = .ok (.aload_n 0, 1) := by decide +kernel
theorem d_S_rollback_10 : decode b_S_rollback 10 = .ok (.aload_n 0, 1) := by decide +kernel
theorem d_S_rollback_11 : decode b_S_rollback 11 = .ok (.iload_n 1, 1) := by decide +kernel
theorem d_S_rollback_12 : decode b_S_rollback 12 = .ok (.invokevirtual 86, 3) := by decide +kernel
theorem d_S_rollback_15 : decode b_S_rollback 15 = .ok (.invokevirtual 39, 3) := by decide +kernel
theorem d_S_rollback_18 : decode b_S_rollback 18 = .ok (.aload_n 0, 1) := by decide +kernel
theorem d_S_rollback_19 : decode b_S_rollback 19 = .ok (.iconst 0, 1) := by decide +kernel
theorem d_S_rollback_20 : decode b_S_rollback 20 = .ok (.invokevirtual 89, 3) := by decide +kernel
theorem d_S_rollback_23 : decode b_S_rollback 23 = .ok (.aload_n 0, 1) := by decide +kernel
theorem d_S_rollback_24 : decode b_S_rollback 24 = .ok (.iconst 1, 1) := by decide +kernel
theorem d_S_rollback_25 : decode b_S_rollback 25 = .ok (.iload_n 1, 1) := by decide +kernel
theorem d_S_rollback_26 : decode b_S_rollback 26 = .ok (.iadd, 1) := by decide +kernel
theorem d_S_rollback_27 : decode b_S_rollback 27 = .ok (.invokevirtual 92, 3) := by decide +kernel
theorem d_S_rollback_30 : decode b_S_rollback 30 = .ok (.aload_n 0, 1) := by decide +kernel
theorem d_S_rollback_31 : decode b_S_rollback 31 = .ok (.iload_n 1, 1) := by decide +kernel
theorem d_S_rollback_32 : decode b_S_rollback 32 = .ok (.invokevirtual 95, 3) := by decide +kernel
theorem d_S_rollback_35 : decode b_S_rollback 35 = .ok (.ireturn, 1) := by decide +kernel
theorem d_S_fuse_0 : decode b_S_fuse 0 = .ok (.aload_n 0, 1) := by decide +kernel
theorem d_S_fuse_1 : decode b_S_fuse 1 = .ok (.getfield 98, 3) := by decide +kernel
theorem d_S_fuse_4 : decode b_S_fuse 4 = .ok (.ifCond .ne 8, 3) := by decide +kernel
theorem d_S_fuse_7 : decode b_S_fuse 7 = .ok (.iload_n 1, 1) := by decide +kernel
theorem d_S_fuse_8 : decode b_S_fuse 8 = .ok (.iconst (-1), 1) := by decide +kernel
theorem d_S_fuse_9 : decode b_S_fuse 9 = .ok (.if_icmp .ge 5, 3) := by decide +kernel
theorem d_S_fuse_12 : decode b_S_fuse 12 = .ok (.iconst 0, 1) := by decide +kernel
theorem d_S_fuse_13 : decode b_S_fuse 13 = .ok (.ireturn, 1) := by decide +kernel
theorem d_S_fuse_14 : decode b_S_fuse 14 = .ok (.aload_n 0, 1) := by decide +kernel
theorem d_S_fuse_15 : decode b_S_fuse 15 = .ok (.iload_n 1, 1) := by decide +kernel
theorem d_S_fuse_16 : decode b_S_fuse 16 = .ok (.putfield 102, 3) := by decide +kernel
theorem d_S_fuse_19 : decode b_S_fuse 19 = .ok (.iconst 1, 1) := by decide +kernel
theorem d_S_fuse_20 : decode b_S_fuse 20 = .ok (.ireturn, 1) := by decide +kernel
theorem d_S_recover_0 : decode b_S_recover 0 = .ok (.aload_n 0, 1) := by decide +kernel
theorem d_S_recover_1 : decode b_S_recover 1 = .ok (.getfield 98, 3) := by decide +kernel
theorem d_S_recover_4 : decode b_S_recover 4 = .ok (.ifCond .ne 13, 3) := by decide +kernel
theorem d_S_recover_7 : decode b_S_recover 7 = .ok (.new 54, 3) := by decide +kernel
theorem d_S_recover_10 : decode b_S_recover 10 = .ok (.dup, 1) := by decide +kernel
theorem d_S_recover_11 : decode b_S_recover 11 = .ok (.ldc 105, 2) := by decide +kernel
theorem d_S_recover_13 : decode b_S_recover 13 = .ok (.invokespecial 58, 3) := by decide +kernel
theorem d_S_recover_16 : decode b_S_recover 16 = .ok (.athrow, 1) := by decide +kernel
theorem d_S_recover_17 : decode b_S_recover 17 = .ok (.aload_n 0, 1) := by decide +kernel
theorem d_S_recover_18 : decode b_S_recover 18 = .ok (.iconst 0, 1) := by decide +kernel
theorem d_S_recover_19 : decode b_S_recover 19 = .ok (.putfield 98, 3) := by decide +kernel
theorem d_S_recover_22 : decode b_S_recover 22 = .ok (.aload_n 0, 1) := by decide +kernel
theorem d_S_recover_23 : decode b_S_recover 23 = .ok (.getfield 107, 3) := by decide +kernel
theorem d_S_recover_26 : decode b_S_recover 26 = .ok (.ifCond .ne 7, 3) := by decide +kernel
theorem d_S_recover_29 : decode b_S_recover 29 = .ok (.iconst 0, 1) := by decide +kernel
theorem d_S_recover_30 : decode b_S_recover 30 = .ok (.goto 13, 3) := by decide +kernel
theorem d_S_recover_33 : decode b_S_recover 33 = .ok (.aload_n 0, 1) := by decide +kernel
theorem d_S_recover_34 : decode b_S_recover 34 = .ok (.aload_n 0, 1) := by decide +kernel
theorem d_S_recover_35 : decode b_S_recover 35 = .ok (.getfield 107, 3) := by decide +kernel
theorem d_S_recover_38 : decode b_S_recover 38 = .ok (.iconst 1, 1) := by decide +kernel
theorem d_S_recover_39 : decode b_S_recover 39 = .ok (.isub, 1) := by decide +kernel
theorem d_S_recover_40 : decode b_S_recover 40 = .ok (.invokevirtual 95, 3) := by decide +kernel
theorem d_S_recover_43 : decode b_S_recover 43 = .ok (.ireturn, 1) := by decide +kernel
theorem d_S_isDown_0 : decode b_S_isDown 0 = .ok (.aload_n 0, 1) := by decide +kernel
theorem d_S_isDown_1 : decode b_S_isDown 1 = .ok (.getfield 98, 3) := by decide +kernel
theorem d_S_isDown_4 : decode b_S_isDown 4 = .ok (.ireturn, 1) := by decide +kernel
theorem d_S_writes_0 : decode b_S_writes 0 = .ok (.aload_n 0, 1) := by decide +kernel
theorem d_S_writes_1 : decode b_S_writes 1 = .ok (.getfield 110, 3) := by decide +kernel
theorem d_S_writes_4 : decode b_S_writes 4 = .ok (.ireturn, 1) := by decide +kernel
theorem d_S_used_0 : decode b_S_used 0 = .ok (.aload_n 0, 1) := by decide +kernel
theorem d_S_used_1 : decode b_S_used 1 = .ok (.invokevirtual 28, 3) := by decide +kernel
theorem d_S_used_4 : decode b_S_used 4 = .ok (.bipush 9, 2) := by decide +kernel
theorem d_S_used_6 : decode b_S_used 6 = .ok (.aload_n 0, 1) := by decide +kernel
theorem d_S_used_7 : decode b_S_used 7 = .ok (.invokevirtual 113, 3) := by decide +kernel
theorem d_S_used_10 : decode b_S_used 10 = .ok (.isub, 1) := by decide +kernel
theorem d_S_used_11 : decode b_S_used 11 = .ok (.ireturn, 1) := by decide +kernel
theorem d_S_copyOf_0 : decode b_S_copyOf 0 = .ok (.aload_n 0, 1) := by decide +kernel
theorem d_S_copyOf_1 : decode b_S_copyOf 1 = .ok (.invokevirtual 28, 3) := by decide +kernel
theorem d_S_copyOf_4 : decode b_S_copyOf 4 = .ok (.aload_n 0, 1) := by decide +kernel
theorem d_S_copyOf_5 : decode b_S_copyOf 5 = .ok (.iload_n 1, 1) := by decide +kernel
theorem d_S_copyOf_6 : decode b_S_copyOf 6 = .ok (.invokevirtual 68, 3) := by decide +kernel
theorem d_S_copyOf_9 : decode b_S_copyOf 9 = .ok (.aload_n 0, 1) := by decide +kernel
theorem d_S_copyOf_10 : decode b_S_copyOf 10 = .ok (.iload_n 2, 1) := by decide +kernel
theorem d_S_copyOf_11 : decode b_S_copyOf 11 = .ok (.invokevirtual 116, 3) := by decide +kernel
theorem d_S_copyOf_14 : decode b_S_copyOf 14 = .ok (.aload_n 0, 1) := by decide +kernel
theorem d_S_copyOf_15 : decode b_S_copyOf 15 = .ok (.iload_n 1, 1) := by decide +kernel
theorem d_S_copyOf_16 : decode b_S_copyOf 16 = .ok (.iload_n 2, 1) := by decide +kernel
theorem d_S_copyOf_17 : decode b_S_copyOf 17 = .ok (.invokevirtual 75, 3) := by decide +kernel
theorem d_S_copyOf_20 : decode b_S_copyOf 20 = .ok (.ireturn, 1) := by decide +kernel
theorem d_S_places_0 : decode b_S_places 0 = .ok (.aload_n 0, 1) := by decide +kernel
theorem d_S_places_1 : decode b_S_places 1 = .ok (.invokevirtual 28, 3) := by decide +kernel
theorem d_S_places_4 : decode b_S_places 4 = .ok (.iconst 0, 1) := by decide +kernel
theorem d_S_places_5 : decode b_S_places 5 = .ok (.istore_n 1, 1) := by decide +kernel
theorem d_S_places_6 : decode b_S_places 6 = .ok (.iconst 0, 1) := by decide +kernel
theorem d_S_places_7 : decode b_S_places 7 = .ok (.istore_n 2, 1) := by decide +kernel
theorem d_S_places_8 : decode b_S_places 8 = .ok (.iload_n 2, 1) := by decide +kernel
theorem d_S_places_9 : decode b_S_places 9 = .ok (.iconst 3, 1) := by decide +kernel
theorem d_S_places_10 : decode b_S_places 10 = .ok (.if_icmp .ge 23, 3) := by decide +kernel
theorem d_S_places_13 : decode b_S_places 13 = .ok (.aload_n 0, 1) := by decide +kernel
theorem d_S_places_14 : decode b_S_places 14 = .ok (.iload_n 2, 1) := by decide +kernel
theorem d_S_places_15 : decode b_S_places 15 = .ok (.invokevirtual 119, 3) := by decide +kernel
theorem d_S_places_18 : decode b_S_places 18 = .ok (.ifCond .eq 9, 3) := by decide +kernel
theorem d_S_places_21 : decode b_S_places 21 = .ok (.iload_n 1, 1) := by decide +kernel
theorem d_S_places_22 : decode b_S_places 22 = .ok (.iconst 1, 1) := by decide +kernel
theorem d_S_places_23 : decode b_S_places 23 = .ok (.iload_n 2, 1) := by decide +kernel
theorem d_S_places_24 : decode b_S_places 24 = .ok (.ishl, 1) := by decide +kernel
theorem d_S_places_25 : decode b_S_places 25 = .ok (.iadd, 1) := by decide +kernel
theorem d_S_places_26 : decode b_S_places 26 = .ok (.istore_n 1, 1) := by decide +kernel
theorem d_S_places_27 : decode b_S_places 27 = .ok (.iinc 2 1, 3) := by decide +kernel
theorem d_S_places_30 : decode b_S_places 30 = .ok (.goto (-22), 3) := by decide +kernel
theorem d_S_places_33 : decode b_S_places 33 = .ok (.iload_n 1, 1) := by decide +kernel
theorem d_S_places_34 : decode b_S_places 34 = .ok (.ireturn, 1) := by decide +kernel
theorem d_S_changed_0 : decode b_S_changed 0 = .ok (.aload_n 0, 1) := by decide +kernel
theorem d_S_changed_1 : decode b_S_changed 1 = .ok (.invokevirtual 28, 3) := by decide +kernel
theorem d_S_changed_4 : decode b_S_changed 4 = .ok (.aload_n 0, 1) := by decide +kernel
theorem d_S_changed_5 : decode b_S_changed 5 = .ok (.iload_n 1, 1) := by decide +kernel
theorem d_S_changed_6 : decode b_S_changed 6 = .ok (.invokevirtual 68, 3) := by decide +kernel
theorem d_S_changed_9 : decode b_S_changed 9 = .ok (.iconst 0, 1) := by decide +kernel
theorem d_S_changed_10 : decode b_S_changed 10 = .ok (.istore_n 2, 1) := by decide +kernel
theorem d_S_changed_11 : decode b_S_changed 11 = .ok (.iconst 0, 1) := by decide +kernel
theorem d_S_changed_12 : decode b_S_changed 12 = .ok (.istore_n 3, 1) := by decide +kernel
theorem d_S_changed_13 : decode b_S_changed 13 = .ok (.iload_n 3, 1) := by decide +kernel
theorem d_S_changed_14 : decode b_S_changed 14 = .ok (.bipush 6, 2) := by decide +kernel
theorem d_S_changed_16 : decode b_S_changed 16 = .ok (.if_icmp .ge 21, 3) := by decide +kernel
theorem d_S_changed_19 : decode b_S_changed 19 = .ok (.aload_n 0, 1) := by decide +kernel
theorem d_S_changed_20 : decode b_S_changed 20 = .ok (.iload_n 1, 1) := by decide +kernel
theorem d_S_changed_21 : decode b_S_changed 21 = .ok (.iload_n 3, 1) := by decide +kernel
theorem d_S_changed_22 : decode b_S_changed 22 = .ok (.invokevirtual 123, 3) := by decide +kernel
theorem d_S_changed_25 : decode b_S_changed 25 = .ok (.ifCond .eq 6, 3) := by decide +kernel
theorem d_S_changed_28 : decode b_S_changed 28 = .ok (.iinc 2 1, 3) := by decide +kernel
theorem d_S_changed_31 : decode b_S_changed 31 = .ok (.iinc 3 1, 3) := by decide +kernel
theorem d_S_changed_34 : decode b_S_changed 34 = .ok (.goto (-21), 3) := by decide +kernel
theorem d_S_changed_37 : decode b_S_changed 37 = .ok (.iload_n 2, 1) := by decide +kernel
theorem d_S_changed_38 : decode b_S_changed 38 = .ok (.ireturn, 1) := by decide +kernel
theorem d_S_clearAll_0 : decode b_S_clearAll 0 = .ok (.iconst 0, 1) := by decide +kernel
theorem d_S_clearAll_1 : decode b_S_clearAll 1 = .ok (.istore_n 1, 1) := by decide +kernel
theorem d_S_clearAll_2 : decode b_S_clearAll 2 = .ok (.iload_n 1, 1) := by decide +kernel
theorem d_S_clearAll_3 : decode b_S_clearAll 3 = .ok (.bipush 24, 2) := by decide +kernel
theorem d_S_clearAll_5 : decode b_S_clearAll 5 = .ok (.if_icmp .ge 16, 3) := by decide +kernel
theorem d_S_clearAll_8 : decode b_S_clearAll 8 = .ok (.aload_n 0, 1) := by decide +kernel
theorem d_S_clearAll_9 : decode b_S_clearAll 9 = .ok (.getfield 9, 3) := by decide +kernel
theorem d_S_clearAll_12 : decode b_S_clearAll 12 = .ok (.iload_n 1, 1) := by decide +kernel
theorem d_S_clearAll_13 : decode b_S_clearAll 13 = .ok (.iconst 0, 1) := by decide +kernel
theorem d_S_clearAll_14 : decode b_S_clearAll 14 = .ok (.iastore, 1) := by decide +kernel
theorem d_S_clearAll_15 : decode b_S_clearAll 15 = .ok (.iinc 1 1, 3) := by decide +kernel
theorem d_S_clearAll_18 : decode b_S_clearAll 18 = .ok (.goto (-16), 3) := by decide +kernel
theorem d_S_clearAll_21 : decode b_S_clearAll 21 = .ok (.iconst 0, 1) := by decide +kernel
theorem d_S_clearAll_22 : decode b_S_clearAll 22 = .ok (.istore_n 1, 1) := by decide +kernel
theorem d_S_clearAll_23 : decode b_S_clearAll 23 = .ok (.iload_n 1, 1) := by decide +kernel
theorem d_S_clearAll_24 : decode b_S_clearAll 24 = .ok (.bipush 36, 2) := by decide +kernel
theorem d_S_clearAll_26 : decode b_S_clearAll 26 = .ok (.if_icmp .ge 16, 3) := by decide +kernel
theorem d_S_clearAll_29 : decode b_S_clearAll 29 = .ok (.aload_n 0, 1) := by decide +kernel
theorem d_S_clearAll_30 : decode b_S_clearAll 30 = .ok (.getfield 13, 3) := by decide +kernel
theorem d_S_clearAll_33 : decode b_S_clearAll 33 = .ok (.iload_n 1, 1) := by decide +kernel
theorem d_S_clearAll_34 : decode b_S_clearAll 34 = .ok (.iconst 0, 1) := by decide +kernel
theorem d_S_clearAll_35 : decode b_S_clearAll 35 = .ok (.iastore, 1) := by decide +kernel
theorem d_S_clearAll_36 : decode b_S_clearAll 36 = .ok (.iinc 1 1, 3) := by decide +kernel
theorem d_S_clearAll_39 : decode b_S_clearAll 39 = .ok (.goto (-16), 3) := by decide +kernel
theorem d_S_clearAll_42 : decode b_S_clearAll 42 = .ok (.iconst 0, 1) := by decide +kernel
theorem d_S_clearAll_43 : decode b_S_clearAll 43 = .ok (.istore_n 1, 1) := by decide +kernel
theorem d_S_clearAll_44 : decode b_S_clearAll 44 = .ok (.iload_n 1, 1) := by decide +kernel
theorem d_S_clearAll_45 : decode b_S_clearAll 45 = .ok (.bipush 9, 2) := by decide +kernel
theorem d_S_clearAll_47 : decode b_S_clearAll 47 = .ok (.if_icmp .ge 23, 3) := by decide +kernel
theorem d_S_clearAll_50 : decode b_S_clearAll 50 = .ok (.aload_n 0, 1) := by decide +kernel
theorem d_S_clearAll_51 : decode b_S_clearAll 51 = .ok (.getfield 16, 3) := by decide +kernel
theorem d_S_clearAll_54 : decode b_S_clearAll 54 = .ok (.iload_n 1, 1) := by decide +kernel
theorem d_S_clearAll_55 : decode b_S_clearAll 55 = .ok (.iconst (-1), 1) := by decide +kernel
theorem d_S_clearAll_56 : decode b_S_clearAll 56 = .ok (.iastore, 1) := by decide +kernel
theorem d_S_clearAll_57 : decode b_S_clearAll 57 = .ok (.aload_n 0, 1) := by decide +kernel
theorem d_S_clearAll_58 : decode b_S_clearAll 58 = .ok (.getfield 19, 3) := by decide +kernel
theorem d_S_clearAll_61 : decode b_S_clearAll 61 = .ok (.iload_n 1, 1) := by decide +kernel
theorem d_S_clearAll_62 : decode b_S_clearAll 62 = .ok (.iconst 0, 1) := by decide +kernel
theorem d_S_clearAll_63 : decode b_S_clearAll 63 = .ok (.iastore, 1) := by decide +kernel
theorem d_S_clearAll_64 : decode b_S_clearAll 64 = .ok (.iinc 1 1, 3) := by decide +kernel
theorem d_S_clearAll_67 : decode b_S_clearAll 67 = .ok (.goto (-23), 3) := by decide +kernel
theorem d_S_clearAll_70 : decode b_S_clearAll 70 = .ok (.iconst 0, 1) := by decide +kernel
theorem d_S_clearAll_71 : decode b_S_clearAll 71 = .ok (.istore_n 1, 1) := by decide +kernel
theorem d_S_clearAll_72 : decode b_S_clearAll 72 = .ok (.iload_n 1, 1) := by decide +kernel
theorem d_S_clearAll_73 : decode b_S_clearAll 73 = .ok (.iconst 3, 1) := by decide +kernel
theorem d_S_clearAll_74 : decode b_S_clearAll 74 = .ok (.if_icmp .ge 16, 3) := by decide +kernel
theorem d_S_clearAll_77 : decode b_S_clearAll 77 = .ok (.aload_n 0, 1) := by decide +kernel
theorem d_S_clearAll_78 : decode b_S_clearAll 78 = .ok (.getfield 22, 3) := by decide +kernel
theorem d_S_clearAll_81 : decode b_S_clearAll 81 = .ok (.iload_n 1, 1) := by decide +kernel
theorem d_S_clearAll_82 : decode b_S_clearAll 82 = .ok (.iconst 0, 1) := by decide +kernel
theorem d_S_clearAll_83 : decode b_S_clearAll 83 = .ok (.iastore, 1) := by decide +kernel
theorem d_S_clearAll_84 : decode b_S_clearAll 84 = .ok (.iinc 1 1, 3) := by decide +kernel
theorem d_S_clearAll_87 : decode b_S_clearAll 87 = .ok (.goto (-15), 3) := by decide +kernel
theorem d_S_clearAll_90 : decode b_S_clearAll 90 = .ok (.aload_n 0, 1) := by decide +kernel
theorem d_S_clearAll_91 : decode b_S_clearAll 91 = .ok (.iconst 0, 1) := by decide +kernel
theorem d_S_clearAll_92 : decode b_S_clearAll 92 = .ok (.putfield 107, 3) := by decide +kernel
theorem d_S_clearAll_95 : decode b_S_clearAll 95 = .ok (.aload_n 0, 1) := by decide +kernel
theorem d_S_clearAll_96 : decode b_S_clearAll 96 = .ok (.iconst 0, 1) := by decide +kernel
theorem d_S_clearAll_97 : decode b_S_clearAll 97 = .ok (.putfield 127, 3) := by decide +kernel
theorem d_S_clearAll_100 : decode b_S_clearAll 100 = .ok (.aload_n 0, 1) := by decide +kernel
theorem d_S_clearAll_101 : decode b_S_clearAll 101 = .ok (.iconst 0, 1) := by decide +kernel
theorem d_S_clearAll_102 : decode b_S_clearAll 102 = .ok (.putfield 61, 3) := by decide +kernel
theorem d_S_clearAll_105 : decode b_S_clearAll 105 = .ok (.aload_n 0, 1) := by decide +kernel
theorem d_S_clearAll_106 : decode b_S_clearAll 106 = .ok (.iconst (-1), 1) := by decide +kernel
theorem d_S_clearAll_107 : decode b_S_clearAll 107 = .ok (.putfield 102, 3) := by decide +kernel
theorem d_S_clearAll_110 : decode b_S_clearAll 110 = .ok (.aload_n 0, 1) := by decide +kernel
theorem d_S_clearAll_111 : decode b_S_clearAll 111 = .ok (.iconst 0, 1) := by decide +kernel
theorem d_S_clearAll_112 : decode b_S_clearAll 112 = .ok (.putfield 98, 3) := by decide +kernel
theorem d_S_clearAll_115 : decode b_S_clearAll 115 = .ok (.aload_n 0, 1) := by decide +kernel
theorem d_S_clearAll_116 : decode b_S_clearAll 116 = .ok (.iconst 0, 1) := by decide +kernel
theorem d_S_clearAll_117 : decode b_S_clearAll 117 = .ok (.putfield 110, 3) := by decide +kernel
theorem d_S_clearAll_120 : decode b_S_clearAll 120 = .ok (.return_, 1) := by decide +kernel
theorem d_S_requireUp_0 : decode b_S_requireUp 0 = .ok (.aload_n 0, 1) := by decide +kernel
theorem d_S_requireUp_1 : decode b_S_requireUp 1 = .ok (.getfield 98, 3) := by decide +kernel
theorem d_S_requireUp_4 : decode b_S_requireUp 4 = .ok (.ifCond .eq 13, 3) := by decide +kernel
theorem d_S_requireUp_7 : decode b_S_requireUp 7 = .ok (.new 130, 3) := by decide +kernel
theorem d_S_requireUp_10 : decode b_S_requireUp 10 = .ok (.dup, 1) := by decide +kernel
theorem d_S_requireUp_11 : decode b_S_requireUp 11 = .ok (.ldc 132, 2) := by decide +kernel
theorem d_S_requireUp_13 : decode b_S_requireUp 13 = .ok (.invokespecial 134, 3) := by decide +kernel
theorem d_S_requireUp_16 : decode b_S_requireUp 16 = .ok (.athrow, 1) := by decide +kernel
theorem d_S_requireUp_17 : decode b_S_requireUp 17 = .ok (.return_, 1) := by decide +kernel
theorem d_S_requireSnapshot_0 : decode b_S_requireSnapshot 0 = .ok (.aload_n 0, 1) := by decide +kernel
theorem d_S_requireSnapshot_1 : decode b_S_requireSnapshot 1 = .ok (.iload_n 1, 1) := by decide +kernel
theorem d_S_requireSnapshot_2 : decode b_S_requireSnapshot 2 = .ok (.invokevirtual 119, 3) := by decide +kernel
theorem d_S_requireSnapshot_5 : decode b_S_requireSnapshot 5 = .ok (.ifCond .ne 13, 3) := by decide +kernel
theorem d_S_requireSnapshot_8 : decode b_S_requireSnapshot 8 = .ok (.new 135, 3) := by decide +kernel
theorem d_S_requireSnapshot_11 : decode b_S_requireSnapshot 11 = .ok (.dup, 1) := by decide +kernel
theorem d_S_requireSnapshot_12 : decode b_S_requireSnapshot 12 = .ok (.ldc 137, 2) := by decide +kernel
theorem d_S_requireSnapshot_14 : decode b_S_requireSnapshot 14 = .ok (.invokespecial 139, 3) := by decide +kernel
theorem d_S_requireSnapshot_17 : decode b_S_requireSnapshot 17 = .ok (.athrow, 1) := by decide +kernel
theorem d_S_requireSnapshot_18 : decode b_S_requireSnapshot 18 = .ok (.return_, 1) := by decide +kernel
theorem d_S_requireBlock_0 : decode b_S_requireBlock 0 = .ok (.iload_n 1, 1) := by decide +kernel
theorem d_S_requireBlock_1 : decode b_S_requireBlock 1 = .ok (.ifCond .lt 9, 3) := by decide +kernel
theorem d_S_requireBlock_4 : decode b_S_requireBlock 4 = .ok (.iload_n 1, 1) := by decide +kernel
theorem d_S_requireBlock_5 : decode b_S_requireBlock 5 = .ok (.bipush 6, 2) := by decide +kernel
theorem d_S_requireBlock_7 : decode b_S_requireBlock 7 = .ok (.if_icmp .lt 13, 3) := by decide +kernel
theorem d_S_requireBlock_10 : decode b_S_requireBlock 10 = .ok (.new 140, 3) := by decide +kernel
theorem d_S_requireBlock_13 : decode b_S_requireBlock 13 = .ok (.dup, 1) := by decide +kernel
theorem d_S_requireBlock_14 : decode b_S_requireBlock 14 = .ok (.ldc 142, 2) := by decide +kernel
theorem d_S_requireBlock_16 : decode b_S_requireBlock 16 = .ok (.invokespecial 144, 3) := by decide +kernel
theorem d_S_requireBlock_19 : decode b_S_requireBlock 19 = .ok (.athrow, 1) := by decide +kernel
theorem d_S_requireBlock_20 : decode b_S_requireBlock 20 = .ok (.return_, 1) := by decide +kernel
theorem d_S_requireWord_0 : decode b_S_requireWord 0 = .ok (.aload_n 0, 1) := by decide +kernel
theorem d_S_requireWord_1 : decode b_S_requireWord 1 = .ok (.iload_n 1, 1) := by decide +kernel
theorem d_S_requireWord_2 : decode b_S_requireWord 2 = .ok (.invokevirtual 116, 3) := by decide +kernel
theorem d_S_requireWord_5 : decode b_S_requireWord 5 = .ok (.iload_n 2, 1) := by decide +kernel
theorem d_S_requireWord_6 : decode b_S_requireWord 6 = .ok (.ifCond .lt 8, 3) := by decide +kernel
theorem d_S_requireWord_9 : decode b_S_requireWord 9 = .ok (.iload_n 2, 1) := by decide +kernel
theorem d_S_requireWord_10 : decode b_S_requireWord 10 = .ok (.iconst 4, 1) := by decide +kernel
theorem d_S_requireWord_11 : decode b_S_requireWord 11 = .ok (.if_icmp .lt 13, 3) := by decide +kernel
theorem d_S_requireWord_14 : decode b_S_requireWord 14 = .ok (.new 140, 3) := by decide +kernel
theorem d_S_requireWord_17 : decode b_S_requireWord 17 = .ok (.dup, 1) := by decide +kernel
theorem d_S_requireWord_18 : decode b_S_requireWord 18 = .ok (.ldc 145, 2) := by decide +kernel
theorem d_S_requireWord_20 : decode b_S_requireWord 20 = .ok (.invokespecial 144, 3) := by decide +kernel
theorem d_S_requireWord_23 : decode b_S_requireWord 23 = .ok (.athrow, 1) := by decide +kernel
theorem d_S_requireWord_24 : decode b_S_requireWord 24 = .ok (.return_, 1) := by decide +kernel
theorem d_S_requireFree_0 : decode b_S_requireFree 0 = .ok (.aload_n 0, 1) := by decide +kernel
theorem d_S_requireFree_1 : decode b_S_requireFree 1 = .ok (.invokevirtual 113, 3) := by decide +kernel
theorem d_S_requireFree_4 : decode b_S_requireFree 4 = .ok (.iload_n 1, 1) := by decide +kernel
theorem d_S_requireFree_5 : decode b_S_requireFree 5 = .ok (.if_icmp .ge 13, 3) := by decide +kernel
theorem d_S_requireFree_8 : decode b_S_requireFree 8 = .ok (.new 54, 3) := by decide +kernel
theorem d_S_requireFree_11 : decode b_S_requireFree 11 = .ok (.dup, 1) := by decide +kernel
theorem d_S_requireFree_12 : decode b_S_requireFree 12 = .ok (.ldc 147, 2) := by decide +kernel
theorem d_S_requireFree_14 : decode b_S_requireFree 14 = .ok (.invokespecial 58, 3) := by decide +kernel
theorem d_S_requireFree_17 : decode b_S_requireFree 17 = .ok (.athrow, 1) := by decide +kernel
theorem d_S_requireFree_18 : decode b_S_requireFree 18 = .ok (.return_, 1) := by decide +kernel
theorem d_S_hasSnapshot_0 : decode b_S_hasSnapshot 0 = .ok (.iload_n 1, 1) := by decide +kernel
theorem d_S_hasSnapshot_1 : decode b_S_hasSnapshot 1 = .ok (.ifCond .lt 21, 3) := by decide +kernel
theorem d_S_hasSnapshot_4 : decode b_S_hasSnapshot 4 = .ok (.iload_n 1, 1) := by decide +kernel
theorem d_S_hasSnapshot_5 : decode b_S_hasSnapshot 5 = .ok (.iconst 3, 1) := by decide +kernel
theorem d_S_hasSnapshot_6 : decode b_S_hasSnapshot 6 = .ok (.if_icmp .ge 16, 3) := by decide +kernel
theorem d_S_hasSnapshot_9 : decode b_S_hasSnapshot 9 = .ok (.aload_n 0, 1) := by decide +kernel
theorem d_S_hasSnapshot_10 : decode b_S_hasSnapshot 10 = .ok (.getfield 22, 3) := by decide +kernel
theorem d_S_hasSnapshot_13 : decode b_S_hasSnapshot 13 = .ok (.iload_n 1, 1) := by decide +kernel
theorem d_S_hasSnapshot_14 : decode b_S_hasSnapshot 14 = .ok (.iaload, 1) := by decide +kernel
theorem d_S_hasSnapshot_15 : decode b_S_hasSnapshot 15 = .ok (.ifCond .eq 7, 3) := by decide +kernel
theorem d_S_hasSnapshot_18 : decode b_S_hasSnapshot 18 = .ok (.iconst 1, 1) := by decide +kernel
theorem d_S_hasSnapshot_19 : decode b_S_hasSnapshot 19 = .ok (.goto 4, 3) := by decide +kernel
theorem d_S_hasSnapshot_22 : decode b_S_hasSnapshot 22 = .ok (.iconst 0, 1) := by decide +kernel
theorem d_S_hasSnapshot_23 : decode b_S_hasSnapshot 23 = .ok (.ireturn, 1) := by decide +kernel
theorem d_S_lowestEmptyPlace_0 : decode b_S_lowestEmptyPlace 0 = .ok (.iconst 0, 1) := by decide +kernel
theorem d_S_lowestEmptyPlace_1 : decode b_S_lowestEmptyPlace 1 = .ok (.istore_n 1, 1) := by decide +kernel
theorem d_S_lowestEmptyPlace_2 : decode b_S_lowestEmptyPlace 2 = .ok (.iload_n 1, 1) := by decide +kernel
theorem d_S_lowestEmptyPlace_3 : decode b_S_lowestEmptyPlace 3 = .ok (.iconst 3, 1) := by decide +kernel
theorem d_S_lowestEmptyPlace_4 : decode b_S_lowestEmptyPlace 4 = .ok (.if_icmp .ge 19, 3) := by decide +kernel
theorem d_S_lowestEmptyPlace_7 : decode b_S_lowestEmptyPlace 7 = .ok (.aload_n 0, 1) := by decide +kernel
theorem d_S_lowestEmptyPlace_8 : decode b_S_lowestEmptyPlace 8 = .ok (.iload_n 1, 1) := by decide +kernel
theorem d_S_lowestEmptyPlace_9 : decode b_S_lowestEmptyPlace 9 = .ok (.invokevirtual 119, 3) := by decide +kernel
theorem d_S_lowestEmptyPlace_12 : decode b_S_lowestEmptyPlace 12 = .ok (.ifCond .ne 5, 3) := by decide +kernel
theorem d_S_lowestEmptyPlace_15 : decode b_S_lowestEmptyPlace 15 = .ok (.iload_n 1, 1) := by decide +kernel
theorem d_S_lowestEmptyPlace_16 : decode b_S_lowestEmptyPlace 16 = .ok (.ireturn, 1) := by decide +kernel
theorem d_S_lowestEmptyPlace_17 : decode b_S_lowestEmptyPlace 17 = .ok (.iinc 1 1, 3) := by decide +kernel
theorem d_S_lowestEmptyPlace_20 : decode b_S_lowestEmptyPlace 20 = .ok (.goto (-18), 3) := by decide +kernel
theorem d_S_lowestEmptyPlace_23 : decode b_S_lowestEmptyPlace 23 = .ok (.iconst (-1), 1) := by decide +kernel
theorem d_S_lowestEmptyPlace_24 : decode b_S_lowestEmptyPlace 24 = .ok (.ireturn, 1) := by decide +kernel
theorem d_S_isFree_0 : decode b_S_isFree 0 = .ok (.iconst 0, 1) := by decide +kernel
theorem d_S_isFree_1 : decode b_S_isFree 1 = .ok (.istore_n 2, 1) := by decide +kernel
theorem d_S_isFree_2 : decode b_S_isFree 2 = .ok (.iload_n 2, 1) := by decide +kernel
theorem d_S_isFree_3 : decode b_S_isFree 3 = .ok (.iconst 3, 1) := by decide +kernel
theorem d_S_isFree_4 : decode b_S_isFree 4 = .ok (.if_icmp .ge 26, 3) := by decide +kernel
theorem d_S_isFree_7 : decode b_S_isFree 7 = .ok (.aload_n 0, 1) := by decide +kernel
theorem d_S_isFree_8 : decode b_S_isFree 8 = .ok (.getfield 16, 3) := by decide +kernel
theorem d_S_isFree_11 : decode b_S_isFree 11 = .ok (.iload_n 1, 1) := by decide +kernel
theorem d_S_isFree_12 : decode b_S_isFree 12 = .ok (.iaload, 1) := by decide +kernel
theorem d_S_isFree_13 : decode b_S_isFree 13 = .ok (.aload_n 0, 1) := by decide +kernel
theorem d_S_isFree_14 : decode b_S_isFree 14 = .ok (.getfield 22, 3) := by decide +kernel
theorem d_S_isFree_17 : decode b_S_isFree 17 = .ok (.iload_n 2, 1) := by decide +kernel
theorem d_S_isFree_18 : decode b_S_isFree 18 = .ok (.iaload, 1) := by decide +kernel
end
section
theorem d_S_isFree_19 : decode b_S_isFree 19 = .ok (.if_icmp .ne 5, 3) := by decide +kernel
theorem d_S_isFree_22 : decode b_S_isFree 22 = .ok (.iconst 0, 1) := by decide +kernel
theorem d_S_isFree_23 : decode b_S_isFree 23 = .ok (.ireturn, 1) := by decide +kernel
theorem d_S_isFree_24 : decode b_S_isFree 24 = .ok (.iinc 2 1, 3) := by decide +kernel
theorem d_S_isFree_27 : decode b_S_isFree 27 = .ok (.goto (-25), 3) := by decide +kernel
theorem d_S_isFree_30 : decode b_S_isFree 30 = .ok (.iconst 1, 1) := by decide +kernel
theorem d_S_isFree_31 : decode b_S_isFree 31 = .ok (.ireturn, 1) := by decide +kernel
theorem d_S_countFree_0 : decode b_S_countFree 0 = .ok (.iconst 0, 1) := by decide +kernel
theorem d_S_countFree_1 : decode b_S_countFree 1 = .ok (.istore_n 1, 1) := by decide +kernel
theorem d_S_countFree_2 : decode b_S_countFree 2 = .ok (.iconst 0, 1) := by decide +kernel
theorem d_S_countFree_3 : decode b_S_countFree 3 = .ok (.istore_n 2, 1) := by decide +kernel
theorem d_S_countFree_4 : decode b_S_countFree 4 = .ok (.iload_n 2, 1) := by decide +kernel
theorem d_S_countFree_5 : decode b_S_countFree 5 = .ok (.bipush 9, 2) := by decide +kernel
theorem d_S_countFree_7 : decode b_S_countFree 7 = .ok (.if_icmp .ge 20, 3) := by decide +kernel
theorem d_S_countFree_10 : decode b_S_countFree 10 = .ok (.aload_n 0, 1) := by decide +kernel
theorem d_S_countFree_11 : decode b_S_countFree 11 = .ok (.iload_n 2, 1) := by decide +kernel
theorem d_S_countFree_12 : decode b_S_countFree 12 = .ok (.invokevirtual 149, 3) := by decide +kernel
theorem d_S_countFree_15 : decode b_S_countFree 15 = .ok (.ifCond .eq 6, 3) := by decide +kernel
theorem d_S_countFree_18 : decode b_S_countFree 18 = .ok (.iinc 1 1, 3) := by decide +kernel
theorem d_S_countFree_21 : decode b_S_countFree 21 = .ok (.iinc 2 1, 3) := by decide +kernel
theorem d_S_countFree_24 : decode b_S_countFree 24 = .ok (.goto (-20), 3) := by decide +kernel
theorem d_S_countFree_27 : decode b_S_countFree 27 = .ok (.iload_n 1, 1) := by decide +kernel
theorem d_S_countFree_28 : decode b_S_countFree 28 = .ok (.ireturn, 1) := by decide +kernel
theorem d_S_lowestFree_0 : decode b_S_lowestFree 0 = .ok (.iconst 0, 1) := by decide +kernel
theorem d_S_lowestFree_1 : decode b_S_lowestFree 1 = .ok (.istore_n 1, 1) := by decide +kernel
theorem d_S_lowestFree_2 : decode b_S_lowestFree 2 = .ok (.iload_n 1, 1) := by decide +kernel
theorem d_S_lowestFree_3 : decode b_S_lowestFree 3 = .ok (.bipush 9, 2) := by decide +kernel
theorem d_S_lowestFree_5 : decode b_S_lowestFree 5 = .ok (.if_icmp .ge 19, 3) := by decide +kernel
theorem d_S_lowestFree_8 : decode b_S_lowestFree 8 = .ok (.aload_n 0, 1) := by decide +kernel
theorem d_S_lowestFree_9 : decode b_S_lowestFree 9 = .ok (.iload_n 1, 1) := by decide +kernel
theorem d_S_lowestFree_10 : decode b_S_lowestFree 10 = .ok (.invokevirtual 149, 3) := by decide +kernel
theorem d_S_lowestFree_13 : decode b_S_lowestFree 13 = .ok (.ifCond .eq 5, 3) := by decide +kernel
theorem d_S_lowestFree_16 : decode b_S_lowestFree 16 = .ok (.iload_n 1, 1) := by decide +kernel
theorem d_S_lowestFree_17 : decode b_S_lowestFree 17 = .ok (.ireturn, 1) := by decide +kernel
theorem d_S_lowestFree_18 : decode b_S_lowestFree 18 = .ok (.iinc 1 1, 3) := by decide +kernel
theorem d_S_lowestFree_21 : decode b_S_lowestFree 21 = .ok (.goto (-19), 3) := by decide +kernel
theorem d_S_lowestFree_24 : decode b_S_lowestFree 24 = .ok (.iconst (-1), 1) := by decide +kernel
theorem d_S_lowestFree_25 : decode b_S_lowestFree 25 = .ok (.ireturn, 1) := by decide +kernel
theorem d_S_findCopy_0 : decode b_S_findCopy 0 = .ok (.aload_n 0, 1) := by decide +kernel
theorem d_S_findCopy_1 : decode b_S_findCopy 1 = .ok (.iload_n 1, 1) := by decide +kernel
theorem d_S_findCopy_2 : decode b_S_findCopy 2 = .ok (.invokevirtual 119, 3) := by decide +kernel
theorem d_S_findCopy_5 : decode b_S_findCopy 5 = .ok (.ifCond .ne 5, 3) := by decide +kernel
theorem d_S_findCopy_8 : decode b_S_findCopy 8 = .ok (.iconst (-1), 1) := by decide +kernel
theorem d_S_findCopy_9 : decode b_S_findCopy 9 = .ok (.ireturn, 1) := by decide +kernel
theorem d_S_findCopy_10 : decode b_S_findCopy 10 = .ok (.iconst 0, 1) := by decide +kernel
theorem d_S_findCopy_11 : decode b_S_findCopy 11 = .ok (.istore_n 3, 1) := by decide +kernel
theorem d_S_findCopy_12 : decode b_S_findCopy 12 = .ok (.iload_n 3, 1) := by decide +kernel
theorem d_S_findCopy_13 : decode b_S_findCopy 13 = .ok (.bipush 9, 2) := by decide +kernel
theorem d_S_findCopy_15 : decode b_S_findCopy 15 = .ok (.if_icmp .ge 36, 3) := by decide +kernel
theorem d_S_findCopy_18 : decode b_S_findCopy 18 = .ok (.aload_n 0, 1) := by decide +kernel
theorem d_S_findCopy_19 : decode b_S_findCopy 19 = .ok (.getfield 16, 3) := by decide +kernel
theorem d_S_findCopy_22 : decode b_S_findCopy 22 = .ok (.iload_n 3, 1) := by decide +kernel
theorem d_S_findCopy_23 : decode b_S_findCopy 23 = .ok (.iaload, 1) := by decide +kernel
theorem d_S_findCopy_24 : decode b_S_findCopy 24 = .ok (.aload_n 0, 1) := by decide +kernel
theorem d_S_findCopy_25 : decode b_S_findCopy 25 = .ok (.getfield 22, 3) := by decide +kernel
theorem d_S_findCopy_28 : decode b_S_findCopy 28 = .ok (.iload_n 1, 1) := by decide +kernel
theorem d_S_findCopy_29 : decode b_S_findCopy 29 = .ok (.iaload, 1) := by decide +kernel
theorem d_S_findCopy_30 : decode b_S_findCopy 30 = .ok (.if_icmp .ne 15, 3) := by decide +kernel
theorem d_S_findCopy_33 : decode b_S_findCopy 33 = .ok (.aload_n 0, 1) := by decide +kernel
theorem d_S_findCopy_34 : decode b_S_findCopy 34 = .ok (.getfield 19, 3) := by decide +kernel
theorem d_S_findCopy_37 : decode b_S_findCopy 37 = .ok (.iload_n 3, 1) := by decide +kernel
theorem d_S_findCopy_38 : decode b_S_findCopy 38 = .ok (.iaload, 1) := by decide +kernel
theorem d_S_findCopy_39 : decode b_S_findCopy 39 = .ok (.iload_n 2, 1) := by decide +kernel
theorem d_S_findCopy_40 : decode b_S_findCopy 40 = .ok (.if_icmp .ne 5, 3) := by decide +kernel
theorem d_S_findCopy_43 : decode b_S_findCopy 43 = .ok (.iload_n 3, 1) := by decide +kernel
theorem d_S_findCopy_44 : decode b_S_findCopy 44 = .ok (.ireturn, 1) := by decide +kernel
theorem d_S_findCopy_45 : decode b_S_findCopy 45 = .ok (.iinc 3 1, 3) := by decide +kernel
theorem d_S_findCopy_48 : decode b_S_findCopy 48 = .ok (.goto (-36), 3) := by decide +kernel
theorem d_S_findCopy_51 : decode b_S_findCopy 51 = .ok (.iconst (-1), 1) := by decide +kernel
theorem d_S_findCopy_52 : decode b_S_findCopy 52 = .ok (.ireturn, 1) := by decide +kernel
theorem d_S_snapshotWord_0 : decode b_S_snapshotWord 0 = .ok (.aload_n 0, 1) := by decide +kernel
theorem d_S_snapshotWord_1 : decode b_S_snapshotWord 1 = .ok (.iload_n 1, 1) := by decide +kernel
theorem d_S_snapshotWord_2 : decode b_S_snapshotWord 2 = .ok (.iload_n 2, 1) := by decide +kernel
theorem d_S_snapshotWord_3 : decode b_S_snapshotWord 3 = .ok (.invokevirtual 75, 3) := by decide +kernel
theorem d_S_snapshotWord_6 : decode b_S_snapshotWord 6 = .ok (.istore 4, 2) := by decide +kernel
theorem d_S_snapshotWord_8 : decode b_S_snapshotWord 8 = .ok (.iload 4, 2) := by decide +kernel
theorem d_S_snapshotWord_10 : decode b_S_snapshotWord 10 = .ok (.iconst (-1), 1) := by decide +kernel
theorem d_S_snapshotWord_11 : decode b_S_snapshotWord 11 = .ok (.if_icmp .ne 16, 3) := by decide +kernel
theorem d_S_snapshotWord_14 : decode b_S_snapshotWord 14 = .ok (.aload_n 0, 1) := by decide +kernel
theorem d_S_snapshotWord_15 : decode b_S_snapshotWord 15 = .ok (.getfield 9, 3) := by decide +kernel
theorem d_S_snapshotWord_18 : decode b_S_snapshotWord 18 = .ok (.iload_n 2, 1) := by decide +kernel
theorem d_S_snapshotWord_19 : decode b_S_snapshotWord 19 = .ok (.iconst 4, 1) := by decide +kernel
theorem d_S_snapshotWord_20 : decode b_S_snapshotWord 20 = .ok (.imul, 1) := by decide +kernel
theorem d_S_snapshotWord_21 : decode b_S_snapshotWord 21 = .ok (.iload_n 3, 1) := by decide +kernel
theorem d_S_snapshotWord_22 : decode b_S_snapshotWord 22 = .ok (.iadd, 1) := by decide +kernel
theorem d_S_snapshotWord_23 : decode b_S_snapshotWord 23 = .ok (.iaload, 1) := by decide +kernel
theorem d_S_snapshotWord_24 : decode b_S_snapshotWord 24 = .ok (.goto 14, 3) := by decide +kernel
theorem d_S_snapshotWord_27 : decode b_S_snapshotWord 27 = .ok (.aload_n 0, 1) := by decide +kernel
theorem d_S_snapshotWord_28 : decode b_S_snapshotWord 28 = .ok (.getfield 13, 3) := by decide +kernel
theorem d_S_snapshotWord_31 : decode b_S_snapshotWord 31 = .ok (.iload 4, 2) := by decide +kernel
theorem d_S_snapshotWord_33 : decode b_S_snapshotWord 33 = .ok (.iconst 4, 1) := by decide +kernel
theorem d_S_snapshotWord_34 : decode b_S_snapshotWord 34 = .ok (.imul, 1) := by decide +kernel
theorem d_S_snapshotWord_35 : decode b_S_snapshotWord 35 = .ok (.iload_n 3, 1) := by decide +kernel
theorem d_S_snapshotWord_36 : decode b_S_snapshotWord 36 = .ok (.iadd, 1) := by decide +kernel
theorem d_S_snapshotWord_37 : decode b_S_snapshotWord 37 = .ok (.iaload, 1) := by decide +kernel
theorem d_S_snapshotWord_38 : decode b_S_snapshotWord 38 = .ok (.ireturn, 1) := by decide +kernel
theorem d_S_differs_0 : decode b_S_differs 0 = .ok (.iconst 0, 1) := by decide +kernel
theorem d_S_differs_1 : decode b_S_differs 1 = .ok (.istore_n 3, 1) := by decide +kernel
theorem d_S_differs_2 : decode b_S_differs 2 = .ok (.iload_n 3, 1) := by decide +kernel
theorem d_S_differs_3 : decode b_S_differs 3 = .ok (.iconst 4, 1) := by decide +kernel
theorem d_S_differs_4 : decode b_S_differs 4 = .ok (.if_icmp .ge 31, 3) := by decide +kernel
theorem d_S_differs_7 : decode b_S_differs 7 = .ok (.aload_n 0, 1) := by decide +kernel
theorem d_S_differs_8 : decode b_S_differs 8 = .ok (.iload_n 1, 1) := by decide +kernel
theorem d_S_differs_9 : decode b_S_differs 9 = .ok (.iload_n 2, 1) := by decide +kernel
theorem d_S_differs_10 : decode b_S_differs 10 = .ok (.iload_n 3, 1) := by decide +kernel
theorem d_S_differs_11 : decode b_S_differs 11 = .ok (.invokevirtual 71, 3) := by decide +kernel
theorem d_S_differs_14 : decode b_S_differs 14 = .ok (.aload_n 0, 1) := by decide +kernel
theorem d_S_differs_15 : decode b_S_differs 15 = .ok (.getfield 9, 3) := by decide +kernel
theorem d_S_differs_18 : decode b_S_differs 18 = .ok (.iload_n 2, 1) := by decide +kernel
theorem d_S_differs_19 : decode b_S_differs 19 = .ok (.iconst 4, 1) := by decide +kernel
theorem d_S_differs_20 : decode b_S_differs 20 = .ok (.imul, 1) := by decide +kernel
theorem d_S_differs_21 : decode b_S_differs 21 = .ok (.iload_n 3, 1) := by decide +kernel
theorem d_S_differs_22 : decode b_S_differs 22 = .ok (.iadd, 1) := by decide +kernel
theorem d_S_differs_23 : decode b_S_differs 23 = .ok (.iaload, 1) := by decide +kernel
theorem d_S_differs_24 : decode b_S_differs 24 = .ok (.if_icmp .eq 5, 3) := by decide +kernel
theorem d_S_differs_27 : decode b_S_differs 27 = .ok (.iconst 1, 1) := by decide +kernel
theorem d_S_differs_28 : decode b_S_differs 28 = .ok (.ireturn, 1) := by decide +kernel
theorem d_S_differs_29 : decode b_S_differs 29 = .ok (.iinc 3 1, 3) := by decide +kernel
theorem d_S_differs_32 : decode b_S_differs 32 = .ok (.goto (-30), 3) := by decide +kernel
theorem d_S_differs_35 : decode b_S_differs 35 = .ok (.iconst 0, 1) := by decide +kernel
theorem d_S_differs_36 : decode b_S_differs 36 = .ok (.ireturn, 1) := by decide +kernel
theorem d_S_shares_0 : decode b_S_shares 0 = .ok (.aload_n 0, 1) := by decide +kernel
theorem d_S_shares_1 : decode b_S_shares 1 = .ok (.iload_n 1, 1) := by decide +kernel
theorem d_S_shares_2 : decode b_S_shares 2 = .ok (.invokevirtual 119, 3) := by decide +kernel
theorem d_S_shares_5 : decode b_S_shares 5 = .ok (.ifCond .eq 17, 3) := by decide +kernel
theorem d_S_shares_8 : decode b_S_shares 8 = .ok (.aload_n 0, 1) := by decide +kernel
theorem d_S_shares_9 : decode b_S_shares 9 = .ok (.iload_n 1, 1) := by decide +kernel
theorem d_S_shares_10 : decode b_S_shares 10 = .ok (.iload_n 2, 1) := by decide +kernel
theorem d_S_shares_11 : decode b_S_shares 11 = .ok (.invokevirtual 75, 3) := by decide +kernel
theorem d_S_shares_14 : decode b_S_shares 14 = .ok (.iconst (-1), 1) := by decide +kernel
theorem d_S_shares_15 : decode b_S_shares 15 = .ok (.if_icmp .ne 7, 3) := by decide +kernel
theorem d_S_shares_18 : decode b_S_shares 18 = .ok (.iconst 1, 1) := by decide +kernel
theorem d_S_shares_19 : decode b_S_shares 19 = .ok (.goto 4, 3) := by decide +kernel
theorem d_S_shares_22 : decode b_S_shares 22 = .ok (.iconst 0, 1) := by decide +kernel
theorem d_S_shares_23 : decode b_S_shares 23 = .ok (.ireturn, 1) := by decide +kernel
theorem d_S_countSharers_0 : decode b_S_countSharers 0 = .ok (.iconst 0, 1) := by decide +kernel
theorem d_S_countSharers_1 : decode b_S_countSharers 1 = .ok (.istore_n 2, 1) := by decide +kernel
theorem d_S_countSharers_2 : decode b_S_countSharers 2 = .ok (.iconst 0, 1) := by decide +kernel
theorem d_S_countSharers_3 : decode b_S_countSharers 3 = .ok (.istore_n 3, 1) := by decide +kernel
theorem d_S_countSharers_4 : decode b_S_countSharers 4 = .ok (.iload_n 3, 1) := by decide +kernel
theorem d_S_countSharers_5 : decode b_S_countSharers 5 = .ok (.iconst 3, 1) := by decide +kernel
theorem d_S_countSharers_6 : decode b_S_countSharers 6 = .ok (.if_icmp .ge 21, 3) := by decide +kernel
theorem d_S_countSharers_9 : decode b_S_countSharers 9 = .ok (.aload_n 0, 1) := by decide +kernel
theorem d_S_countSharers_10 : decode b_S_countSharers 10 = .ok (.iload_n 3, 1) := by decide +kernel
theorem d_S_countSharers_11 : decode b_S_countSharers 11 = .ok (.iload_n 1, 1) := by decide +kernel
theorem d_S_countSharers_12 : decode b_S_countSharers 12 = .ok (.invokevirtual 152, 3) := by decide +kernel
theorem d_S_countSharers_15 : decode b_S_countSharers 15 = .ok (.ifCond .eq 6, 3) := by decide +kernel
theorem d_S_countSharers_18 : decode b_S_countSharers 18 = .ok (.iinc 2 1, 3) := by decide +kernel
theorem d_S_countSharers_21 : decode b_S_countSharers 21 = .ok (.iinc 3 1, 3) := by decide +kernel
theorem d_S_countSharers_24 : decode b_S_countSharers 24 = .ok (.goto (-20), 3) := by decide +kernel
theorem d_S_countSharers_27 : decode b_S_countSharers 27 = .ok (.iload_n 2, 1) := by decide +kernel
theorem d_S_countSharers_28 : decode b_S_countSharers 28 = .ok (.ireturn, 1) := by decide +kernel
theorem d_S_countCopiesToMerge_0 : decode b_S_countCopiesToMerge 0 = .ok (.iconst 0, 1) := by decide +kernel
theorem d_S_countCopiesToMerge_1 : decode b_S_countCopiesToMerge 1 = .ok (.istore_n 2, 1) := by decide +kernel
theorem d_S_countCopiesToMerge_2 : decode b_S_countCopiesToMerge 2 = .ok (.iconst 0, 1) := by decide +kernel
theorem d_S_countCopiesToMerge_3 : decode b_S_countCopiesToMerge 3 = .ok (.istore_n 3, 1) := by decide +kernel
theorem d_S_countCopiesToMerge_4 : decode b_S_countCopiesToMerge 4 = .ok (.iload_n 3, 1) := by decide +kernel
theorem d_S_countCopiesToMerge_5 : decode b_S_countCopiesToMerge 5 = .ok (.bipush 6, 2) := by decide +kernel
theorem d_S_countCopiesToMerge_7 : decode b_S_countCopiesToMerge 7 = .ok (.if_icmp .ge 27, 3) := by decide +kernel
theorem d_S_countCopiesToMerge_10 : decode b_S_countCopiesToMerge 10 = .ok (.aload_n 0, 1) := by decide +kernel
theorem d_S_countCopiesToMerge_11 : decode b_S_countCopiesToMerge 11 = .ok (.iload_n 1, 1) := by decide +kernel
theorem d_S_countCopiesToMerge_12 : decode b_S_countCopiesToMerge 12 = .ok (.iload_n 3, 1) := by decide +kernel
theorem d_S_countCopiesToMerge_13 : decode b_S_countCopiesToMerge 13 = .ok (.invokevirtual 75, 3) := by decide +kernel
theorem d_S_countCopiesToMerge_16 : decode b_S_countCopiesToMerge 16 = .ok (.iconst (-1), 1) := by decide +kernel
theorem d_S_countCopiesToMerge_17 : decode b_S_countCopiesToMerge 17 = .ok (.if_icmp .eq 11, 3) := by decide +kernel
theorem d_S_countCopiesToMerge_20 : decode b_S_countCopiesToMerge 20 = .ok (.iload_n 2, 1) := by decide +kernel
theorem d_S_countCopiesToMerge_21 : decode b_S_countCopiesToMerge 21 = .ok (.aload_n 0, 1) := by decide +kernel
theorem d_S_countCopiesToMerge_22 : decode b_S_countCopiesToMerge 22 = .ok (.iload_n 3, 1) := by decide +kernel
theorem d_S_countCopiesToMerge_23 : decode b_S_countCopiesToMerge 23 = .ok (.invokevirtual 35, 3) := by decide +kernel
theorem d_S_countCopiesToMerge_26 : decode b_S_countCopiesToMerge 26 = .ok (.iadd, 1) := by decide +kernel
theorem d_S_countCopiesToMerge_27 : decode b_S_countCopiesToMerge 27 = .ok (.istore_n 2, 1) := by decide +kernel
theorem d_S_countCopiesToMerge_28 : decode b_S_countCopiesToMerge 28 = .ok (.iinc 3 1, 3) := by decide +kernel
theorem d_S_countCopiesToMerge_31 : decode b_S_countCopiesToMerge 31 = .ok (.goto (-27), 3) := by decide +kernel
theorem d_S_countCopiesToMerge_34 : decode b_S_countCopiesToMerge 34 = .ok (.iload_n 2, 1) := by decide +kernel
theorem d_S_countCopiesToMerge_35 : decode b_S_countCopiesToMerge 35 = .ok (.ireturn, 1) := by decide +kernel
theorem d_S_copyForSharers_0 : decode b_S_copyForSharers 0 = .ok (.iconst 0, 1) := by decide +kernel
theorem d_S_copyForSharers_1 : decode b_S_copyForSharers 1 = .ok (.istore_n 2, 1) := by decide +kernel
theorem d_S_copyForSharers_2 : decode b_S_copyForSharers 2 = .ok (.iconst 0, 1) := by decide +kernel
theorem d_S_copyForSharers_3 : decode b_S_copyForSharers 3 = .ok (.istore_n 3, 1) := by decide +kernel
theorem d_S_copyForSharers_4 : decode b_S_copyForSharers 4 = .ok (.iload_n 3, 1) := by decide +kernel
theorem d_S_copyForSharers_5 : decode b_S_copyForSharers 5 = .ok (.iconst 3, 1) := by decide +kernel
theorem d_S_copyForSharers_6 : decode b_S_copyForSharers 6 = .ok (.if_icmp .ge 29, 3) := by decide +kernel
theorem d_S_copyForSharers_9 : decode b_S_copyForSharers 9 = .ok (.aload_n 0, 1) := by decide +kernel
theorem d_S_copyForSharers_10 : decode b_S_copyForSharers 10 = .ok (.iload_n 3, 1) := by decide +kernel
theorem d_S_copyForSharers_11 : decode b_S_copyForSharers 11 = .ok (.iload_n 1, 1) := by decide +kernel
theorem d_S_copyForSharers_12 : decode b_S_copyForSharers 12 = .ok (.invokevirtual 152, 3) := by decide +kernel
theorem d_S_copyForSharers_15 : decode b_S_copyForSharers 15 = .ok (.ifCond .eq 14, 3) := by decide +kernel
theorem d_S_copyForSharers_18 : decode b_S_copyForSharers 18 = .ok (.aload_n 0, 1) := by decide +kernel
theorem d_S_copyForSharers_19 : decode b_S_copyForSharers 19 = .ok (.iload_n 3, 1) := by decide +kernel
theorem d_S_copyForSharers_20 : decode b_S_copyForSharers 20 = .ok (.iload_n 1, 1) := by decide +kernel
theorem d_S_copyForSharers_21 : decode b_S_copyForSharers 21 = .ok (.iconst (-1), 1) := by decide +kernel
theorem d_S_copyForSharers_22 : decode b_S_copyForSharers 22 = .ok (.iconst 0, 1) := by decide +kernel
theorem d_S_copyForSharers_23 : decode b_S_copyForSharers 23 = .ok (.invokevirtual 82, 3) := by decide +kernel
theorem d_S_copyForSharers_26 : decode b_S_copyForSharers 26 = .ok (.iinc 2 1, 3) := by decide +kernel
theorem d_S_copyForSharers_29 : decode b_S_copyForSharers 29 = .ok (.iinc 3 1, 3) := by decide +kernel
theorem d_S_copyForSharers_32 : decode b_S_copyForSharers 32 = .ok (.goto (-28), 3) := by decide +kernel
theorem d_S_copyForSharers_35 : decode b_S_copyForSharers 35 = .ok (.iload_n 2, 1) := by decide +kernel
theorem d_S_copyForSharers_36 : decode b_S_copyForSharers 36 = .ok (.ireturn, 1) := by decide +kernel
theorem d_S_copyBlock_0 : decode b_S_copyBlock 0 = .ok (.aload_n 0, 1) := by decide +kernel
theorem d_S_copyBlock_1 : decode b_S_copyBlock 1 = .ok (.invokevirtual 155, 3) := by decide +kernel
theorem d_S_copyBlock_4 : decode b_S_copyBlock 4 = .ok (.istore 5, 2) := by decide +kernel
theorem d_S_copyBlock_6 : decode b_S_copyBlock 6 = .ok (.iload 5, 2) := by decide +kernel
theorem d_S_copyBlock_8 : decode b_S_copyBlock 8 = .ok (.iconst (-1), 1) := by decide +kernel
theorem d_S_copyBlock_9 : decode b_S_copyBlock 9 = .ok (.if_icmp .ne 4, 3) := by decide +kernel
theorem d_S_copyBlock_12 : decode b_S_copyBlock 12 = .ok (.return_, 1) := by decide +kernel
theorem d_S_copyBlock_13 : decode b_S_copyBlock 13 = .ok (.iconst 0, 1) := by decide +kernel
theorem d_S_copyBlock_14 : decode b_S_copyBlock 14 = .ok (.istore 6, 2) := by decide +kernel
theorem d_S_copyBlock_16 : decode b_S_copyBlock 16 = .ok (.iload 6, 2) := by decide +kernel
theorem d_S_copyBlock_18 : decode b_S_copyBlock 18 = .ok (.iconst 4, 1) := by decide +kernel
theorem d_S_copyBlock_19 : decode b_S_copyBlock 19 = .ok (.if_icmp .ge 39, 3) := by decide +kernel
theorem d_S_copyBlock_22 : decode b_S_copyBlock 22 = .ok (.aload_n 0, 1) := by decide +kernel
theorem d_S_copyBlock_23 : decode b_S_copyBlock 23 = .ok (.iload 5, 2) := by decide +kernel
theorem d_S_copyBlock_25 : decode b_S_copyBlock 25 = .ok (.iload 6, 2) := by decide +kernel
theorem d_S_copyBlock_27 : decode b_S_copyBlock 27 = .ok (.iload 6, 2) := by decide +kernel
theorem d_S_copyBlock_29 : decode b_S_copyBlock 29 = .ok (.iload_n 3, 1) := by decide +kernel
theorem d_S_copyBlock_30 : decode b_S_copyBlock 30 = .ok (.if_icmp .ne 8, 3) := by decide +kernel
theorem d_S_copyBlock_33 : decode b_S_copyBlock 33 = .ok (.iload 4, 2) := by decide +kernel
theorem d_S_copyBlock_35 : decode b_S_copyBlock 35 = .ok (.goto 14, 3) := by decide +kernel
theorem d_S_copyBlock_38 : decode b_S_copyBlock 38 = .ok (.aload_n 0, 1) := by decide +kernel
theorem d_S_copyBlock_39 : decode b_S_copyBlock 39 = .ok (.getfield 9, 3) := by decide +kernel
theorem d_S_copyBlock_42 : decode b_S_copyBlock 42 = .ok (.iload_n 2, 1) := by decide +kernel
theorem d_S_copyBlock_43 : decode b_S_copyBlock 43 = .ok (.iconst 4, 1) := by decide +kernel
theorem d_S_copyBlock_44 : decode b_S_copyBlock 44 = .ok (.imul, 1) := by decide +kernel
theorem d_S_copyBlock_45 : decode b_S_copyBlock 45 = .ok (.iload 6, 2) := by decide +kernel
theorem d_S_copyBlock_47 : decode b_S_copyBlock 47 = .ok (.iadd, 1) := by decide +kernel
theorem d_S_copyBlock_48 : decode b_S_copyBlock 48 = .ok (.iaload, 1) := by decide +kernel
theorem d_S_copyBlock_49 : decode b_S_copyBlock 49 = .ok (.invokevirtual 79, 3) := by decide +kernel
theorem d_S_copyBlock_52 : decode b_S_copyBlock 52 = .ok (.iinc 6 1, 3) := by decide +kernel
theorem d_S_copyBlock_55 : decode b_S_copyBlock 55 = .ok (.goto (-39), 3) := by decide +kernel
theorem d_S_copyBlock_58 : decode b_S_copyBlock 58 = .ok (.aload_n 0, 1) := by decide +kernel
theorem d_S_copyBlock_59 : decode b_S_copyBlock 59 = .ok (.iload 5, 2) := by decide +kernel
theorem d_S_copyBlock_61 : decode b_S_copyBlock 61 = .ok (.aload_n 0, 1) := by decide +kernel
theorem d_S_copyBlock_62 : decode b_S_copyBlock 62 = .ok (.getfield 22, 3) := by decide +kernel
theorem d_S_copyBlock_65 : decode b_S_copyBlock 65 = .ok (.iload_n 1, 1) := by decide +kernel
theorem d_S_copyBlock_66 : decode b_S_copyBlock 66 = .ok (.iaload, 1) := by decide +kernel
theorem d_S_copyBlock_67 : decode b_S_copyBlock 67 = .ok (.iload_n 2, 1) := by decide +kernel
theorem d_S_copyBlock_68 : decode b_S_copyBlock 68 = .ok (.invokevirtual 158, 3) := by decide +kernel
theorem d_S_copyBlock_71 : decode b_S_copyBlock 71 = .ok (.return_, 1) := by decide +kernel
theorem d_S_mergeFromMark_0 : decode b_S_mergeFromMark 0 = .ok (.iconst 0, 1) := by decide +kernel
theorem d_S_mergeFromMark_1 : decode b_S_mergeFromMark 1 = .ok (.istore_n 2, 1) := by decide +kernel
theorem d_S_mergeFromMark_2 : decode b_S_mergeFromMark 2 = .ok (.aload_n 0, 1) := by decide +kernel
theorem d_S_mergeFromMark_3 : decode b_S_mergeFromMark 3 = .ok (.getfield 127, 3) := by decide +kernel
theorem d_S_mergeFromMark_6 : decode b_S_mergeFromMark 6 = .ok (.istore_n 3, 1) := by decide +kernel
theorem d_S_mergeFromMark_7 : decode b_S_mergeFromMark 7 = .ok (.iload_n 3, 1) := by decide +kernel
theorem d_S_mergeFromMark_8 : decode b_S_mergeFromMark 8 = .ok (.bipush 6, 2) := by decide +kernel
theorem d_S_mergeFromMark_10 : decode b_S_mergeFromMark 10 = .ok (.if_icmp .ge 46, 3) := by decide +kernel
theorem d_S_mergeFromMark_13 : decode b_S_mergeFromMark 13 = .ok (.aload_n 0, 1) := by decide +kernel
theorem d_S_mergeFromMark_14 : decode b_S_mergeFromMark 14 = .ok (.iload_n 1, 1) := by decide +kernel
theorem d_S_mergeFromMark_15 : decode b_S_mergeFromMark 15 = .ok (.iload_n 3, 1) := by decide +kernel
theorem d_S_mergeFromMark_16 : decode b_S_mergeFromMark 16 = .ok (.invokevirtual 75, 3) := by decide +kernel
theorem d_S_mergeFromMark_19 : decode b_S_mergeFromMark 19 = .ok (.istore 4, 2) := by decide +kernel
theorem d_S_mergeFromMark_21 : decode b_S_mergeFromMark 21 = .ok (.iload 4, 2) := by decide +kernel
theorem d_S_mergeFromMark_23 : decode b_S_mergeFromMark 23 = .ok (.iconst (-1), 1) := by decide +kernel
theorem d_S_mergeFromMark_24 : decode b_S_mergeFromMark 24 = .ok (.if_icmp .eq 26, 3) := by decide +kernel
theorem d_S_mergeFromMark_27 : decode b_S_mergeFromMark 27 = .ok (.aload_n 0, 1) := by decide +kernel
theorem d_S_mergeFromMark_28 : decode b_S_mergeFromMark 28 = .ok (.iload_n 3, 1) := by decide +kernel
theorem d_S_mergeFromMark_29 : decode b_S_mergeFromMark 29 = .ok (.invokevirtual 43, 3) := by decide +kernel
theorem d_S_mergeFromMark_32 : decode b_S_mergeFromMark 32 = .ok (.pop, 1) := by decide +kernel
theorem d_S_mergeFromMark_33 : decode b_S_mergeFromMark 33 = .ok (.aload_n 0, 1) := by decide +kernel
theorem d_S_mergeFromMark_34 : decode b_S_mergeFromMark 34 = .ok (.iload_n 3, 1) := by decide +kernel
theorem d_S_mergeFromMark_35 : decode b_S_mergeFromMark 35 = .ok (.iload 4, 2) := by decide +kernel
theorem d_S_mergeFromMark_37 : decode b_S_mergeFromMark 37 = .ok (.invokevirtual 161, 3) := by decide +kernel
theorem d_S_mergeFromMark_40 : decode b_S_mergeFromMark 40 = .ok (.aload_n 0, 1) := by decide +kernel
theorem d_S_mergeFromMark_41 : decode b_S_mergeFromMark 41 = .ok (.iload_n 3, 1) := by decide +kernel
theorem d_S_mergeFromMark_42 : decode b_S_mergeFromMark 42 = .ok (.iconst 1, 1) := by decide +kernel
theorem d_S_mergeFromMark_43 : decode b_S_mergeFromMark 43 = .ok (.iadd, 1) := by decide +kernel
theorem d_S_mergeFromMark_44 : decode b_S_mergeFromMark 44 = .ok (.invokevirtual 89, 3) := by decide +kernel
theorem d_S_mergeFromMark_47 : decode b_S_mergeFromMark 47 = .ok (.iinc 2 1, 3) := by decide +kernel
theorem d_S_mergeFromMark_50 : decode b_S_mergeFromMark 50 = .ok (.iinc 3 1, 3) := by decide +kernel
theorem d_S_mergeFromMark_53 : decode b_S_mergeFromMark 53 = .ok (.goto (-46), 3) := by decide +kernel
theorem d_S_mergeFromMark_56 : decode b_S_mergeFromMark 56 = .ok (.aload_n 0, 1) := by decide +kernel
theorem d_S_mergeFromMark_57 : decode b_S_mergeFromMark 57 = .ok (.iconst 0, 1) := by decide +kernel
theorem d_S_mergeFromMark_58 : decode b_S_mergeFromMark 58 = .ok (.invokevirtual 92, 3) := by decide +kernel
theorem d_S_mergeFromMark_61 : decode b_S_mergeFromMark 61 = .ok (.iload_n 2, 1) := by decide +kernel
theorem d_S_mergeFromMark_62 : decode b_S_mergeFromMark 62 = .ok (.ireturn, 1) := by decide +kernel
theorem d_S_putBlockBack_0 : decode b_S_putBlockBack 0 = .ok (.iconst 0, 1) := by decide +kernel
theorem d_S_putBlockBack_1 : decode b_S_putBlockBack 1 = .ok (.istore_n 3, 1) := by decide +kernel
theorem d_S_putBlockBack_2 : decode b_S_putBlockBack 2 = .ok (.iload_n 3, 1) := by decide +kernel
theorem d_S_putBlockBack_3 : decode b_S_putBlockBack 3 = .ok (.iconst 4, 1) := by decide +kernel
theorem d_S_putBlockBack_4 : decode b_S_putBlockBack 4 = .ok (.if_icmp .ge 25, 3) := by decide +kernel
theorem d_S_putBlockBack_7 : decode b_S_putBlockBack 7 = .ok (.aload_n 0, 1) := by decide +kernel
theorem d_S_putBlockBack_8 : decode b_S_putBlockBack 8 = .ok (.iload_n 1, 1) := by decide +kernel
theorem d_S_putBlockBack_9 : decode b_S_putBlockBack 9 = .ok (.iload_n 3, 1) := by decide +kernel
theorem d_S_putBlockBack_10 : decode b_S_putBlockBack 10 = .ok (.aload_n 0, 1) := by decide +kernel
theorem d_S_putBlockBack_11 : decode b_S_putBlockBack 11 = .ok (.getfield 13, 3) := by decide +kernel
theorem d_S_putBlockBack_14 : decode b_S_putBlockBack 14 = .ok (.iload_n 2, 1) := by decide +kernel
theorem d_S_putBlockBack_15 : decode b_S_putBlockBack 15 = .ok (.iconst 4, 1) := by decide +kernel
theorem d_S_putBlockBack_16 : decode b_S_putBlockBack 16 = .ok (.imul, 1) := by decide +kernel
theorem d_S_putBlockBack_17 : decode b_S_putBlockBack 17 = .ok (.iload_n 3, 1) := by decide +kernel
theorem d_S_putBlockBack_18 : decode b_S_putBlockBack 18 = .ok (.iadd, 1) := by decide +kernel
theorem d_S_putBlockBack_19 : decode b_S_putBlockBack 19 = .ok (.iaload, 1) := by decide +kernel
theorem d_S_putBlockBack_20 : decode b_S_putBlockBack 20 = .ok (.invokevirtual 46, 3) := by decide +kernel
theorem d_S_putBlockBack_23 : decode b_S_putBlockBack 23 = .ok (.iinc 3 1, 3) := by decide +kernel
theorem d_S_putBlockBack_26 : decode b_S_putBlockBack 26 = .ok (.goto (-24), 3) := by decide +kernel
theorem d_S_putBlockBack_29 : decode b_S_putBlockBack 29 = .ok (.return_, 1) := by decide +kernel
theorem d_S_putBlockWord_0 : decode b_S_putBlockWord 0 = .ok (.aload_n 0, 1) := by decide +kernel
theorem d_S_putBlockWord_1 : decode b_S_putBlockWord 1 = .ok (.invokevirtual 164, 3) := by decide +kernel
theorem d_S_putBlockWord_4 : decode b_S_putBlockWord 4 = .ok (.aload_n 0, 1) := by decide +kernel
theorem d_S_putBlockWord_5 : decode b_S_putBlockWord 5 = .ok (.getfield 9, 3) := by decide +kernel
theorem d_S_putBlockWord_8 : decode b_S_putBlockWord 8 = .ok (.iload_n 1, 1) := by decide +kernel
theorem d_S_putBlockWord_9 : decode b_S_putBlockWord 9 = .ok (.iconst 4, 1) := by decide +kernel
theorem d_S_putBlockWord_10 : decode b_S_putBlockWord 10 = .ok (.imul, 1) := by decide +kernel
theorem d_S_putBlockWord_11 : decode b_S_putBlockWord 11 = .ok (.iload_n 2, 1) := by decide +kernel
theorem d_S_putBlockWord_12 : decode b_S_putBlockWord 12 = .ok (.iadd, 1) := by decide +kernel
theorem d_S_putBlockWord_13 : decode b_S_putBlockWord 13 = .ok (.iload_n 3, 1) := by decide +kernel
theorem d_S_putBlockWord_14 : decode b_S_putBlockWord 14 = .ok (.iastore, 1) := by decide +kernel
theorem d_S_putBlockWord_15 : decode b_S_putBlockWord 15 = .ok (.return_, 1) := by decide +kernel
theorem d_S_putCopyWord_0 : decode b_S_putCopyWord 0 = .ok (.aload_n 0, 1) := by decide +kernel
theorem d_S_putCopyWord_1 : decode b_S_putCopyWord 1 = .ok (.invokevirtual 164, 3) := by decide +kernel
theorem d_S_putCopyWord_4 : decode b_S_putCopyWord 4 = .ok (.aload_n 0, 1) := by decide +kernel
theorem d_S_putCopyWord_5 : decode b_S_putCopyWord 5 = .ok (.getfield 13, 3) := by decide +kernel
theorem d_S_putCopyWord_8 : decode b_S_putCopyWord 8 = .ok (.iload_n 1, 1) := by decide +kernel
theorem d_S_putCopyWord_9 : decode b_S_putCopyWord 9 = .ok (.iconst 4, 1) := by decide +kernel
theorem d_S_putCopyWord_10 : decode b_S_putCopyWord 10 = .ok (.imul, 1) := by decide +kernel
theorem d_S_putCopyWord_11 : decode b_S_putCopyWord 11 = .ok (.iload_n 2, 1) := by decide +kernel
theorem d_S_putCopyWord_12 : decode b_S_putCopyWord 12 = .ok (.iadd, 1) := by decide +kernel
theorem d_S_putCopyWord_13 : decode b_S_putCopyWord 13 = .ok (.iload_n 3, 1) := by decide +kernel
theorem d_S_putCopyWord_14 : decode b_S_putCopyWord 14 = .ok (.iastore, 1) := by decide +kernel
theorem d_S_putCopyWord_15 : decode b_S_putCopyWord 15 = .ok (.return_, 1) := by decide +kernel
theorem d_S_putTag_0 : decode b_S_putTag 0 = .ok (.aload_n 0, 1) := by decide +kernel
theorem d_S_putTag_1 : decode b_S_putTag 1 = .ok (.invokevirtual 164, 3) := by decide +kernel
theorem d_S_putTag_4 : decode b_S_putTag 4 = .ok (.aload_n 0, 1) := by decide +kernel
theorem d_S_putTag_5 : decode b_S_putTag 5 = .ok (.getfield 16, 3) := by decide +kernel
theorem d_S_putTag_8 : decode b_S_putTag 8 = .ok (.iload_n 1, 1) := by decide +kernel
theorem d_S_putTag_9 : decode b_S_putTag 9 = .ok (.iload_n 2, 1) := by decide +kernel
theorem d_S_putTag_10 : decode b_S_putTag 10 = .ok (.iastore, 1) := by decide +kernel
theorem d_S_putTag_11 : decode b_S_putTag 11 = .ok (.aload_n 0, 1) := by decide +kernel
theorem d_S_putTag_12 : decode b_S_putTag 12 = .ok (.getfield 19, 3) := by decide +kernel
theorem d_S_putTag_15 : decode b_S_putTag 15 = .ok (.iload_n 1, 1) := by decide +kernel
theorem d_S_putTag_16 : decode b_S_putTag 16 = .ok (.iload_n 3, 1) := by decide +kernel
theorem d_S_putTag_17 : decode b_S_putTag 17 = .ok (.iastore, 1) := by decide +kernel
theorem d_S_putTag_18 : decode b_S_putTag 18 = .ok (.return_, 1) := by decide +kernel
theorem d_S_putStamp_0 : decode b_S_putStamp 0 = .ok (.aload_n 0, 1) := by decide +kernel
theorem d_S_putStamp_1 : decode b_S_putStamp 1 = .ok (.invokevirtual 164, 3) := by decide +kernel
theorem d_S_putStamp_4 : decode b_S_putStamp 4 = .ok (.aload_n 0, 1) := by decide +kernel
theorem d_S_putStamp_5 : decode b_S_putStamp 5 = .ok (.getfield 22, 3) := by decide +kernel
theorem d_S_putStamp_8 : decode b_S_putStamp 8 = .ok (.iload_n 1, 1) := by decide +kernel
theorem d_S_putStamp_9 : decode b_S_putStamp 9 = .ok (.iload_n 2, 1) := by decide +kernel
theorem d_S_putStamp_10 : decode b_S_putStamp 10 = .ok (.iastore, 1) := by decide +kernel
theorem d_S_putStamp_11 : decode b_S_putStamp 11 = .ok (.return_, 1) := by decide +kernel
theorem d_S_putRoll_0 : decode b_S_putRoll 0 = .ok (.aload_n 0, 1) := by decide +kernel
theorem d_S_putRoll_1 : decode b_S_putRoll 1 = .ok (.invokevirtual 164, 3) := by decide +kernel
theorem d_S_putRoll_4 : decode b_S_putRoll 4 = .ok (.aload_n 0, 1) := by decide +kernel
theorem d_S_putRoll_5 : decode b_S_putRoll 5 = .ok (.iload_n 1, 1) := by decide +kernel
theorem d_S_putRoll_6 : decode b_S_putRoll 6 = .ok (.putfield 107, 3) := by decide +kernel
theorem d_S_putRoll_9 : decode b_S_putRoll 9 = .ok (.return_, 1) := by decide +kernel
theorem d_S_putMark_0 : decode b_S_putMark 0 = .ok (.aload_n 0, 1) := by decide +kernel
theorem d_S_putMark_1 : decode b_S_putMark 1 = .ok (.invokevirtual 164, 3) := by decide +kernel
theorem d_S_putMark_4 : decode b_S_putMark 4 = .ok (.aload_n 0, 1) := by decide +kernel
theorem d_S_putMark_5 : decode b_S_putMark 5 = .ok (.iload_n 1, 1) := by decide +kernel
theorem d_S_putMark_6 : decode b_S_putMark 6 = .ok (.putfield 127, 3) := by decide +kernel
theorem d_S_putMark_9 : decode b_S_putMark 9 = .ok (.return_, 1) := by decide +kernel
theorem d_S_countWrite_0 : decode b_S_countWrite 0 = .ok (.aload_n 0, 1) := by decide +kernel
theorem d_S_countWrite_1 : decode b_S_countWrite 1 = .ok (.getfield 102, 3) := by decide +kernel
theorem d_S_countWrite_4 : decode b_S_countWrite 4 = .ok (.ifCond .ne 23, 3) := by decide +kernel
theorem d_S_countWrite_7 : decode b_S_countWrite 7 = .ok (.aload_n 0, 1) := by decide +kernel
theorem d_S_countWrite_8 : decode b_S_countWrite 8 = .ok (.iconst (-1), 1) := by decide +kernel
theorem d_S_countWrite_9 : decode b_S_countWrite 9 = .ok (.putfield 102, 3) := by decide +kernel
theorem d_S_countWrite_12 : decode b_S_countWrite 12 = .ok (.aload_n 0, 1) := by decide +kernel
theorem d_S_countWrite_13 : decode b_S_countWrite 13 = .ok (.iconst 1, 1) := by decide +kernel
theorem d_S_countWrite_14 : decode b_S_countWrite 14 = .ok (.putfield 98, 3) := by decide +kernel
theorem d_S_countWrite_17 : decode b_S_countWrite 17 = .ok (.new 130, 3) := by decide +kernel
theorem d_S_countWrite_20 : decode b_S_countWrite 20 = .ok (.dup, 1) := by decide +kernel
theorem d_S_countWrite_21 : decode b_S_countWrite 21 = .ok (.ldc 167, 2) := by decide +kernel
theorem d_S_countWrite_23 : decode b_S_countWrite 23 = .ok (.invokespecial 134, 3) := by decide +kernel
theorem d_S_countWrite_26 : decode b_S_countWrite 26 = .ok (.athrow, 1) := by decide +kernel
theorem d_S_countWrite_27 : decode b_S_countWrite 27 = .ok (.aload_n 0, 1) := by decide +kernel
theorem d_S_countWrite_28 : decode b_S_countWrite 28 = .ok (.getfield 102, 3) := by decide +kernel
theorem d_S_countWrite_31 : decode b_S_countWrite 31 = .ok (.ifCond .le 13, 3) := by decide +kernel
theorem d_S_countWrite_34 : decode b_S_countWrite 34 = .ok (.aload_n 0, 1) := by decide +kernel
theorem d_S_countWrite_35 : decode b_S_countWrite 35 = .ok (.dup, 1) := by decide +kernel
theorem d_S_countWrite_36 : decode b_S_countWrite 36 = .ok (.getfield 102, 3) := by decide +kernel
theorem d_S_countWrite_39 : decode b_S_countWrite 39 = .ok (.iconst 1, 1) := by decide +kernel
theorem d_S_countWrite_40 : decode b_S_countWrite 40 = .ok (.isub, 1) := by decide +kernel
theorem d_S_countWrite_41 : decode b_S_countWrite 41 = .ok (.putfield 102, 3) := by decide +kernel
theorem d_S_countWrite_44 : decode b_S_countWrite 44 = .ok (.aload_n 0, 1) := by decide +kernel
theorem d_S_countWrite_45 : decode b_S_countWrite 45 = .ok (.dup, 1) := by decide +kernel
theorem d_S_countWrite_46 : decode b_S_countWrite 46 = .ok (.getfield 110, 3) := by decide +kernel
theorem d_S_countWrite_49 : decode b_S_countWrite 49 = .ok (.iconst 1, 1) := by decide +kernel
theorem d_S_countWrite_50 : decode b_S_countWrite 50 = .ok (.iadd, 1) := by decide +kernel
theorem d_S_countWrite_51 : decode b_S_countWrite 51 = .ok (.putfield 110, 3) := by decide +kernel
theorem d_S_countWrite_54 : decode b_S_countWrite 54 = .ok (.return_, 1) := by decide +kernel
end
section
theorem d_M_init_0 : decode b_M_init 0 = .ok (.aload_n 0, 1) := by decide +kernel
theorem d_M_init_1 : decode b_M_init 1 = .ok (.invokespecial 1, 3) := by decide +kernel
theorem d_M_init_4 : decode b_M_init 4 = .ok (.aload_n 0, 1) := by decide +kernel
theorem d_M_init_5 : decode b_M_init 5 = .ok (.iconst (-1), 1) := by decide +kernel
theorem d_M_init_6 : decode b_M_init 6 = .ok (.putfield 7, 3) := by decide +kernel
theorem d_M_init_9 : decode b_M_init 9 = .ok (.aload_n 0, 1) := by decide +kernel
theorem d_M_init_10 : decode b_M_init 10 = .ok (.bipush 24, 2) := by decide +kernel
theorem d_M_init_12 : decode b_M_init 12 = .ok (.newarray .int, 2) := by decide +kernel
theorem d_M_init_14 : decode b_M_init 14 = .ok (.putfield 13, 3) := by decide +kernel
theorem d_M_init_17 : decode b_M_init 17 = .ok (.aload_n 0, 1) := by decide +kernel
theorem d_M_init_18 : decode b_M_init 18 = .ok (.bipush 72, 2) := by decide +kernel
theorem d_M_init_20 : decode b_M_init 20 = .ok (.newarray .int, 2) := by decide +kernel
theorem d_M_init_22 : decode b_M_init 22 = .ok (.putfield 17, 3) := by decide +kernel
theorem d_M_init_25 : decode b_M_init 25 = .ok (.aload_n 0, 1) := by decide +kernel
theorem d_M_init_26 : decode b_M_init 26 = .ok (.iconst 3, 1) := by decide +kernel
theorem d_M_init_27 : decode b_M_init 27 = .ok (.newarray .boolean, 2) := by decide +kernel
theorem d_M_init_29 : decode b_M_init 29 = .ok (.putfield 20, 3) := by decide +kernel
theorem d_M_init_32 : decode b_M_init 32 = .ok (.aload_n 0, 1) := by decide +kernel
theorem d_M_init_33 : decode b_M_init 33 = .ok (.bipush 18, 2) := by decide +kernel
theorem d_M_init_35 : decode b_M_init 35 = .ok (.newarray .int, 2) := by decide +kernel
theorem d_M_init_37 : decode b_M_init 37 = .ok (.putfield 24, 3) := by decide +kernel
theorem d_M_init_40 : decode b_M_init 40 = .ok (.return_, 1) := by decide +kernel
theorem d_M_thrown_0 : decode b_M_thrown 0 = .ok (.aload_n 0, 1) := by decide +kernel
theorem d_M_thrown_1 : decode b_M_thrown 1 = .ok (.getfield 27, 3) := by decide +kernel
theorem d_M_thrown_4 : decode b_M_thrown 4 = .ok (.ireturn, 1) := by decide +kernel
theorem d_M_format_0 : decode b_M_format 0 = .ok (.aload_n 0, 1) := by decide +kernel
theorem d_M_format_1 : decode b_M_format 1 = .ok (.iconst 0, 1) := by decide +kernel
theorem d_M_format_2 : decode b_M_format 2 = .ok (.putfield 27, 3) := by decide +kernel
theorem d_M_format_5 : decode b_M_format 5 = .ok (.iconst 0, 1) := by decide +kernel
theorem d_M_format_6 : decode b_M_format 6 = .ok (.istore_n 1, 1) := by decide +kernel
theorem d_M_format_7 : decode b_M_format 7 = .ok (.iload_n 1, 1) := by decide +kernel
theorem d_M_format_8 : decode b_M_format 8 = .ok (.bipush 24, 2) := by decide +kernel
theorem d_M_format_10 : decode b_M_format 10 = .ok (.if_icmp .ge 16, 3) := by decide +kernel
theorem d_M_format_13 : decode b_M_format 13 = .ok (.aload_n 0, 1) := by decide +kernel
theorem d_M_format_14 : decode b_M_format 14 = .ok (.getfield 13, 3) := by decide +kernel
theorem d_M_format_17 : decode b_M_format 17 = .ok (.iload_n 1, 1) := by decide +kernel
theorem d_M_format_18 : decode b_M_format 18 = .ok (.iconst 0, 1) := by decide +kernel
theorem d_M_format_19 : decode b_M_format 19 = .ok (.iastore, 1) := by decide +kernel
theorem d_M_format_20 : decode b_M_format 20 = .ok (.iinc 1 1, 3) := by decide +kernel
theorem d_M_format_23 : decode b_M_format 23 = .ok (.goto (-16), 3) := by decide +kernel
theorem d_M_format_26 : decode b_M_format 26 = .ok (.iconst 0, 1) := by decide +kernel
theorem d_M_format_27 : decode b_M_format 27 = .ok (.istore_n 1, 1) := by decide +kernel
theorem d_M_format_28 : decode b_M_format 28 = .ok (.iload_n 1, 1) := by decide +kernel
theorem d_M_format_29 : decode b_M_format 29 = .ok (.iconst 3, 1) := by decide +kernel
theorem d_M_format_30 : decode b_M_format 30 = .ok (.if_icmp .ge 16, 3) := by decide +kernel
theorem d_M_format_33 : decode b_M_format 33 = .ok (.aload_n 0, 1) := by decide +kernel
theorem d_M_format_34 : decode b_M_format 34 = .ok (.getfield 20, 3) := by decide +kernel
theorem d_M_format_37 : decode b_M_format 37 = .ok (.iload_n 1, 1) := by decide +kernel
theorem d_M_format_38 : decode b_M_format 38 = .ok (.iconst 0, 1) := by decide +kernel
theorem d_M_format_39 : decode b_M_format 39 = .ok (.bastore, 1) := by decide +kernel
theorem d_M_format_40 : decode b_M_format 40 = .ok (.iinc 1 1, 3) := by decide +kernel
theorem d_M_format_43 : decode b_M_format 43 = .ok (.goto (-15), 3) := by decide +kernel
theorem d_M_format_46 : decode b_M_format 46 = .ok (.aload_n 0, 1) := by decide +kernel
theorem d_M_format_47 : decode b_M_format 47 = .ok (.iconst 0, 1) := by decide +kernel
theorem d_M_format_48 : decode b_M_format 48 = .ok (.putfield 30, 3) := by decide +kernel
theorem d_M_format_51 : decode b_M_format 51 = .ok (.aload_n 0, 1) := by decide +kernel
theorem d_M_format_52 : decode b_M_format 52 = .ok (.iconst (-1), 1) := by decide +kernel
theorem d_M_format_53 : decode b_M_format 53 = .ok (.putfield 7, 3) := by decide +kernel
theorem d_M_format_56 : decode b_M_format 56 = .ok (.aload_n 0, 1) := by decide +kernel
theorem d_M_format_57 : decode b_M_format 57 = .ok (.iconst 0, 1) := by decide +kernel
theorem d_M_format_58 : decode b_M_format 58 = .ok (.putfield 33, 3) := by decide +kernel
theorem d_M_format_61 : decode b_M_format 61 = .ok (.aload_n 0, 1) := by decide +kernel
theorem d_M_format_62 : decode b_M_format 62 = .ok (.iconst 0, 1) := by decide +kernel
theorem d_M_format_63 : decode b_M_format 63 = .ok (.putfield 37, 3) := by decide +kernel
theorem d_M_format_66 : decode b_M_format 66 = .ok (.return_, 1) := by decide +kernel
theorem d_M_within_0 : decode b_M_within 0 = .ok (.iload_n 0, 1) := by decide +kernel
theorem d_M_within_1 : decode b_M_within 1 = .ok (.iload_n 1, 1) := by decide +kernel
theorem d_M_within_2 : decode b_M_within 2 = .ok (.if_icmp .lt 12, 3) := by decide +kernel
theorem d_M_within_5 : decode b_M_within 5 = .ok (.iload_n 0, 1) := by decide +kernel
theorem d_M_within_6 : decode b_M_within 6 = .ok (.iload_n 2, 1) := by decide +kernel
theorem d_M_within_7 : decode b_M_within 7 = .ok (.if_icmp .gt 7, 3) := by decide +kernel
theorem d_M_within_10 : decode b_M_within 10 = .ok (.iconst 1, 1) := by decide +kernel
theorem d_M_within_11 : decode b_M_within 11 = .ok (.goto 4, 3) := by decide +kernel
theorem d_M_within_14 : decode b_M_within 14 = .ok (.iconst 0, 1) := by decide +kernel
theorem d_M_within_15 : decode b_M_within 15 = .ok (.ireturn, 1) := by decide +kernel
theorem d_M_isSnapshot_0 : decode b_M_isSnapshot 0 = .ok (.iload_n 1, 1) := by decide +kernel
theorem d_M_isSnapshot_1 : decode b_M_isSnapshot 1 = .ok (.iconst 0, 1) := by decide +kernel
theorem d_M_isSnapshot_2 : decode b_M_isSnapshot 2 = .ok (.iconst 2, 1) := by decide +kernel
theorem d_M_isSnapshot_3 : decode b_M_isSnapshot 3 = .ok (.invokestatic 40, 3) := by decide +kernel
theorem d_M_isSnapshot_6 : decode b_M_isSnapshot 6 = .ok (.ifCond .eq 16, 3) := by decide +kernel
theorem d_M_isSnapshot_9 : decode b_M_isSnapshot 9 = .ok (.aload_n 0, 1) := by decide +kernel
theorem d_M_isSnapshot_10 : decode b_M_isSnapshot 10 = .ok (.getfield 20, 3) := by decide +kernel
theorem d_M_isSnapshot_13 : decode b_M_isSnapshot 13 = .ok (.iload_n 1, 1) := by decide +kernel
theorem d_M_isSnapshot_14 : decode b_M_isSnapshot 14 = .ok (.baload, 1) := by decide +kernel
theorem d_M_isSnapshot_15 : decode b_M_isSnapshot 15 = .ok (.ifCond .eq 7, 3) := by decide +kernel
theorem d_M_isSnapshot_18 : decode b_M_isSnapshot 18 = .ok (.iconst 1, 1) := by decide +kernel
theorem d_M_isSnapshot_19 : decode b_M_isSnapshot 19 = .ok (.goto 4, 3) := by decide +kernel
theorem d_M_isSnapshot_22 : decode b_M_isSnapshot 22 = .ok (.iconst 0, 1) := by decide +kernel
theorem d_M_isSnapshot_23 : decode b_M_isSnapshot 23 = .ok (.ireturn, 1) := by decide +kernel
theorem d_M_isWord_0 : decode b_M_isWord 0 = .ok (.iload_n 0, 1) := by decide +kernel
theorem d_M_isWord_1 : decode b_M_isWord 1 = .ok (.iconst 0, 1) := by decide +kernel
theorem d_M_isWord_2 : decode b_M_isWord 2 = .ok (.iconst 5, 1) := by decide +kernel
theorem d_M_isWord_3 : decode b_M_isWord 3 = .ok (.invokestatic 40, 3) := by decide +kernel
theorem d_M_isWord_6 : decode b_M_isWord 6 = .ok (.ifCond .eq 16, 3) := by decide +kernel
theorem d_M_isWord_9 : decode b_M_isWord 9 = .ok (.iload_n 1, 1) := by decide +kernel
theorem d_M_isWord_10 : decode b_M_isWord 10 = .ok (.iconst 0, 1) := by decide +kernel
theorem d_M_isWord_11 : decode b_M_isWord 11 = .ok (.iconst 3, 1) := by decide +kernel
theorem d_M_isWord_12 : decode b_M_isWord 12 = .ok (.invokestatic 40, 3) := by decide +kernel
theorem d_M_isWord_15 : decode b_M_isWord 15 = .ok (.ifCond .eq 7, 3) := by decide +kernel
theorem d_M_isWord_18 : decode b_M_isWord 18 = .ok (.iconst 1, 1) := by decide +kernel
theorem d_M_isWord_19 : decode b_M_isWord 19 = .ok (.goto 4, 3) := by decide +kernel
theorem d_M_isWord_22 : decode b_M_isWord 22 = .ok (.iconst 0, 1) := by decide +kernel
theorem d_M_isWord_23 : decode b_M_isWord 23 = .ok (.ireturn, 1) := by decide +kernel
theorem d_M_usedCopies_0 : decode b_M_usedCopies 0 = .ok (.iconst 0, 1) := by decide +kernel
theorem d_M_usedCopies_1 : decode b_M_usedCopies 1 = .ok (.istore_n 1, 1) := by decide +kernel
theorem d_M_usedCopies_2 : decode b_M_usedCopies 2 = .ok (.iconst 0, 1) := by decide +kernel
theorem d_M_usedCopies_3 : decode b_M_usedCopies 3 = .ok (.istore_n 2, 1) := by decide +kernel
theorem d_M_usedCopies_4 : decode b_M_usedCopies 4 = .ok (.iload_n 2, 1) := by decide +kernel
theorem d_M_usedCopies_5 : decode b_M_usedCopies 5 = .ok (.bipush 18, 2) := by decide +kernel
theorem d_M_usedCopies_7 : decode b_M_usedCopies 7 = .ok (.if_icmp .ge 38, 3) := by decide +kernel
theorem d_M_usedCopies_10 : decode b_M_usedCopies 10 = .ok (.aload_n 0, 1) := by decide +kernel
theorem d_M_usedCopies_11 : decode b_M_usedCopies 11 = .ok (.getfield 20, 3) := by decide +kernel
theorem d_M_usedCopies_14 : decode b_M_usedCopies 14 = .ok (.iload_n 2, 1) := by decide +kernel
theorem d_M_usedCopies_15 : decode b_M_usedCopies 15 = .ok (.bipush 6, 2) := by decide +kernel
theorem d_M_usedCopies_17 : decode b_M_usedCopies 17 = .ok (.idiv, 1) := by decide +kernel
theorem d_M_usedCopies_18 : decode b_M_usedCopies 18 = .ok (.baload, 1) := by decide +kernel
theorem d_M_usedCopies_19 : decode b_M_usedCopies 19 = .ok (.ifCond .eq 18, 3) := by decide +kernel
theorem d_M_usedCopies_22 : decode b_M_usedCopies 22 = .ok (.aload_n 0, 1) := by decide +kernel
theorem d_M_usedCopies_23 : decode b_M_usedCopies 23 = .ok (.getfield 24, 3) := by decide +kernel
theorem d_M_usedCopies_26 : decode b_M_usedCopies 26 = .ok (.iload_n 2, 1) := by decide +kernel
theorem d_M_usedCopies_27 : decode b_M_usedCopies 27 = .ok (.iaload, 1) := by decide +kernel
theorem d_M_usedCopies_28 : decode b_M_usedCopies 28 = .ok (.ifCond .le 9, 3) := by decide +kernel
theorem d_M_usedCopies_31 : decode b_M_usedCopies 31 = .ok (.iload_n 1, 1) := by decide +kernel
theorem d_M_usedCopies_32 : decode b_M_usedCopies 32 = .ok (.iconst 1, 1) := by decide +kernel
theorem d_M_usedCopies_33 : decode b_M_usedCopies 33 = .ok (.iadd, 1) := by decide +kernel
theorem d_M_usedCopies_34 : decode b_M_usedCopies 34 = .ok (.goto 4, 3) := by decide +kernel
theorem d_M_usedCopies_37 : decode b_M_usedCopies 37 = .ok (.iload_n 1, 1) := by decide +kernel
theorem d_M_usedCopies_38 : decode b_M_usedCopies 38 = .ok (.istore_n 1, 1) := by decide +kernel
theorem d_M_usedCopies_39 : decode b_M_usedCopies 39 = .ok (.iinc 2 1, 3) := by decide +kernel
theorem d_M_usedCopies_42 : decode b_M_usedCopies 42 = .ok (.goto (-38), 3) := by decide +kernel
theorem d_M_usedCopies_45 : decode b_M_usedCopies 45 = .ok (.iload_n 1, 1) := by decide +kernel
theorem d_M_usedCopies_46 : decode b_M_usedCopies 46 = .ok (.ireturn, 1) := by decide +kernel
theorem d_M_lowest_0 : decode b_M_lowest 0 = .ok (.iconst 1, 1) := by decide +kernel
theorem d_M_lowest_1 : decode b_M_lowest 1 = .ok (.istore_n 1, 1) := by decide +kernel
theorem d_M_lowest_2 : decode b_M_lowest 2 = .ok (.iconst 1, 1) := by decide +kernel
theorem d_M_lowest_3 : decode b_M_lowest 3 = .ok (.istore_n 2, 1) := by decide +kernel
theorem d_M_lowest_4 : decode b_M_lowest 4 = .ok (.iload_n 2, 1) := by decide +kernel
theorem d_M_lowest_5 : decode b_M_lowest 5 = .ok (.ifCond .eq 66, 3) := by decide +kernel
theorem d_M_lowest_8 : decode b_M_lowest 8 = .ok (.iconst 0, 1) := by decide +kernel
theorem d_M_lowest_9 : decode b_M_lowest 9 = .ok (.istore_n 2, 1) := by decide +kernel
theorem d_M_lowest_10 : decode b_M_lowest 10 = .ok (.iconst 0, 1) := by decide +kernel
theorem d_M_lowest_11 : decode b_M_lowest 11 = .ok (.istore_n 3, 1) := by decide +kernel
theorem d_M_lowest_12 : decode b_M_lowest 12 = .ok (.iload_n 3, 1) := by decide +kernel
theorem d_M_lowest_13 : decode b_M_lowest 13 = .ok (.bipush 18, 2) := by decide +kernel
theorem d_M_lowest_15 : decode b_M_lowest 15 = .ok (.if_icmp .ge 41, 3) := by decide +kernel
theorem d_M_lowest_18 : decode b_M_lowest 18 = .ok (.iload_n 2, 1) := by decide +kernel
theorem d_M_lowest_19 : decode b_M_lowest 19 = .ok (.ifCond .ne 25, 3) := by decide +kernel
theorem d_M_lowest_22 : decode b_M_lowest 22 = .ok (.aload_n 0, 1) := by decide +kernel
theorem d_M_lowest_23 : decode b_M_lowest 23 = .ok (.getfield 20, 3) := by decide +kernel
theorem d_M_lowest_26 : decode b_M_lowest 26 = .ok (.iload_n 3, 1) := by decide +kernel
theorem d_M_lowest_27 : decode b_M_lowest 27 = .ok (.bipush 6, 2) := by decide +kernel
theorem d_M_lowest_29 : decode b_M_lowest 29 = .ok (.idiv, 1) := by decide +kernel
theorem d_M_lowest_30 : decode b_M_lowest 30 = .ok (.baload, 1) := by decide +kernel
theorem d_M_lowest_31 : decode b_M_lowest 31 = .ok (.ifCond .eq 17, 3) := by decide +kernel
theorem d_M_lowest_34 : decode b_M_lowest 34 = .ok (.aload_n 0, 1) := by decide +kernel
theorem d_M_lowest_35 : decode b_M_lowest 35 = .ok (.getfield 24, 3) := by decide +kernel
theorem d_M_lowest_38 : decode b_M_lowest 38 = .ok (.iload_n 3, 1) := by decide +kernel
theorem d_M_lowest_39 : decode b_M_lowest 39 = .ok (.iaload, 1) := by decide +kernel
theorem d_M_lowest_40 : decode b_M_lowest 40 = .ok (.iload_n 1, 1) := by decide +kernel
theorem d_M_lowest_41 : decode b_M_lowest 41 = .ok (.if_icmp .ne 7, 3) := by decide +kernel
theorem d_M_lowest_44 : decode b_M_lowest 44 = .ok (.iconst 1, 1) := by decide +kernel
theorem d_M_lowest_45 : decode b_M_lowest 45 = .ok (.goto 4, 3) := by decide +kernel
theorem d_M_lowest_48 : decode b_M_lowest 48 = .ok (.iconst 0, 1) := by decide +kernel
theorem d_M_lowest_49 : decode b_M_lowest 49 = .ok (.istore_n 2, 1) := by decide +kernel
theorem d_M_lowest_50 : decode b_M_lowest 50 = .ok (.iinc 3 1, 3) := by decide +kernel
theorem d_M_lowest_53 : decode b_M_lowest 53 = .ok (.goto (-41), 3) := by decide +kernel
theorem d_M_lowest_56 : decode b_M_lowest 56 = .ok (.iload_n 2, 1) := by decide +kernel
theorem d_M_lowest_57 : decode b_M_lowest 57 = .ok (.ifCond .eq 9, 3) := by decide +kernel
theorem d_M_lowest_60 : decode b_M_lowest 60 = .ok (.iload_n 1, 1) := by decide +kernel
theorem d_M_lowest_61 : decode b_M_lowest 61 = .ok (.iconst 1, 1) := by decide +kernel
theorem d_M_lowest_62 : decode b_M_lowest 62 = .ok (.iadd, 1) := by decide +kernel
theorem d_M_lowest_63 : decode b_M_lowest 63 = .ok (.goto 4, 3) := by decide +kernel
theorem d_M_lowest_66 : decode b_M_lowest 66 = .ok (.iload_n 1, 1) := by decide +kernel
theorem d_M_lowest_67 : decode b_M_lowest 67 = .ok (.istore_n 1, 1) := by decide +kernel
theorem d_M_lowest_68 : decode b_M_lowest 68 = .ok (.goto (-64), 3) := by decide +kernel
theorem d_M_lowest_71 : decode b_M_lowest 71 = .ok (.iload_n 1, 1) := by decide +kernel
theorem d_M_lowest_72 : decode b_M_lowest 72 = .ok (.ireturn, 1) := by decide +kernel
theorem d_M_sharers_0 : decode b_M_sharers 0 = .ok (.iconst 0, 1) := by decide +kernel
theorem d_M_sharers_1 : decode b_M_sharers 1 = .ok (.istore_n 3, 1) := by decide +kernel
theorem d_M_sharers_2 : decode b_M_sharers 2 = .ok (.iconst 0, 1) := by decide +kernel
theorem d_M_sharers_3 : decode b_M_sharers 3 = .ok (.istore 4, 2) := by decide +kernel
theorem d_M_sharers_5 : decode b_M_sharers 5 = .ok (.iload 4, 2) := by decide +kernel
theorem d_M_sharers_7 : decode b_M_sharers 7 = .ok (.iconst 3, 1) := by decide +kernel
theorem d_M_sharers_8 : decode b_M_sharers 8 = .ok (.if_icmp .ge 48, 3) := by decide +kernel
theorem d_M_sharers_11 : decode b_M_sharers 11 = .ok (.aload_n 0, 1) := by decide +kernel
theorem d_M_sharers_12 : decode b_M_sharers 12 = .ok (.getfield 20, 3) := by decide +kernel
theorem d_M_sharers_15 : decode b_M_sharers 15 = .ok (.iload 4, 2) := by decide +kernel
theorem d_M_sharers_17 : decode b_M_sharers 17 = .ok (.baload, 1) := by decide +kernel
theorem d_M_sharers_18 : decode b_M_sharers 18 = .ok (.ifCond .eq 30, 3) := by decide +kernel
theorem d_M_sharers_21 : decode b_M_sharers 21 = .ok (.iload 4, 2) := by decide +kernel
theorem d_M_sharers_23 : decode b_M_sharers 23 = .ok (.iload_n 2, 1) := by decide +kernel
theorem d_M_sharers_24 : decode b_M_sharers 24 = .ok (.if_icmp .eq 24, 3) := by decide +kernel
theorem d_M_sharers_27 : decode b_M_sharers 27 = .ok (.aload_n 0, 1) := by decide +kernel
theorem d_M_sharers_28 : decode b_M_sharers 28 = .ok (.getfield 24, 3) := by decide +kernel
theorem d_M_sharers_31 : decode b_M_sharers 31 = .ok (.bipush 6, 2) := by decide +kernel
theorem d_M_sharers_33 : decode b_M_sharers 33 = .ok (.iload 4, 2) := by decide +kernel
theorem d_M_sharers_35 : decode b_M_sharers 35 = .ok (.imul, 1) := by decide +kernel
theorem d_M_sharers_36 : decode b_M_sharers 36 = .ok (.iload_n 1, 1) := by decide +kernel
theorem d_M_sharers_37 : decode b_M_sharers 37 = .ok (.iadd, 1) := by decide +kernel
theorem d_M_sharers_38 : decode b_M_sharers 38 = .ok (.iaload, 1) := by decide +kernel
theorem d_M_sharers_39 : decode b_M_sharers 39 = .ok (.ifCond .ne 9, 3) := by decide +kernel
theorem d_M_sharers_42 : decode b_M_sharers 42 = .ok (.iload_n 3, 1) := by decide +kernel
theorem d_M_sharers_43 : decode b_M_sharers 43 = .ok (.iconst 1, 1) := by decide +kernel
theorem d_M_sharers_44 : decode b_M_sharers 44 = .ok (.iadd, 1) := by decide +kernel
theorem d_M_sharers_45 : decode b_M_sharers 45 = .ok (.goto 4, 3) := by decide +kernel
theorem d_M_sharers_48 : decode b_M_sharers 48 = .ok (.iload_n 3, 1) := by decide +kernel
theorem d_M_sharers_49 : decode b_M_sharers 49 = .ok (.istore_n 3, 1) := by decide +kernel
theorem d_M_sharers_50 : decode b_M_sharers 50 = .ok (.iinc 4 1, 3) := by decide +kernel
theorem d_M_sharers_53 : decode b_M_sharers 53 = .ok (.goto (-48), 3) := by decide +kernel
theorem d_M_sharers_56 : decode b_M_sharers 56 = .ok (.iload_n 3, 1) := by decide +kernel
theorem d_M_sharers_57 : decode b_M_sharers 57 = .ok (.ireturn, 1) := by decide +kernel
theorem d_M_part_0 : decode b_M_part 0 = .ok (.iload_n 3, 1) := by decide +kernel
theorem d_M_part_1 : decode b_M_part 1 = .ok (.istore 4, 2) := by decide +kernel
theorem d_M_part_3 : decode b_M_part 3 = .ok (.iconst 0, 1) := by decide +kernel
theorem d_M_part_4 : decode b_M_part 4 = .ok (.istore 5, 2) := by decide +kernel
theorem d_M_part_6 : decode b_M_part 6 = .ok (.iload 5, 2) := by decide +kernel
theorem d_M_part_8 : decode b_M_part 8 = .ok (.iconst 3, 1) := by decide +kernel
theorem d_M_part_9 : decode b_M_part 9 = .ok (.if_icmp .ge 64, 3) := by decide +kernel
theorem d_M_part_12 : decode b_M_part 12 = .ok (.iload 4, 2) := by decide +kernel
theorem d_M_part_14 : decode b_M_part 14 = .ok (.ifCond .le 59, 3) := by decide +kernel
theorem d_M_part_17 : decode b_M_part 17 = .ok (.aload_n 0, 1) := by decide +kernel
theorem d_M_part_18 : decode b_M_part 18 = .ok (.getfield 20, 3) := by decide +kernel
theorem d_M_part_21 : decode b_M_part 21 = .ok (.iload 5, 2) := by decide +kernel
theorem d_M_part_23 : decode b_M_part 23 = .ok (.baload, 1) := by decide +kernel
theorem d_M_part_24 : decode b_M_part 24 = .ok (.ifCond .eq 43, 3) := by decide +kernel
theorem d_M_part_27 : decode b_M_part 27 = .ok (.iload 5, 2) := by decide +kernel
theorem d_M_part_29 : decode b_M_part 29 = .ok (.iload_n 2, 1) := by decide +kernel
theorem d_M_part_30 : decode b_M_part 30 = .ok (.if_icmp .eq 37, 3) := by decide +kernel
theorem d_M_part_33 : decode b_M_part 33 = .ok (.aload_n 0, 1) := by decide +kernel
theorem d_M_part_34 : decode b_M_part 34 = .ok (.getfield 24, 3) := by decide +kernel
theorem d_M_part_37 : decode b_M_part 37 = .ok (.bipush 6, 2) := by decide +kernel
theorem d_M_part_39 : decode b_M_part 39 = .ok (.iload 5, 2) := by decide +kernel
theorem d_M_part_41 : decode b_M_part 41 = .ok (.imul, 1) := by decide +kernel
theorem d_M_part_42 : decode b_M_part 42 = .ok (.iload_n 1, 1) := by decide +kernel
theorem d_M_part_43 : decode b_M_part 43 = .ok (.iadd, 1) := by decide +kernel
theorem d_M_part_44 : decode b_M_part 44 = .ok (.iaload, 1) := by decide +kernel
theorem d_M_part_45 : decode b_M_part 45 = .ok (.ifCond .ne 22, 3) := by decide +kernel
theorem d_M_part_48 : decode b_M_part 48 = .ok (.aload_n 0, 1) := by decide +kernel
theorem d_M_part_49 : decode b_M_part 49 = .ok (.getfield 24, 3) := by decide +kernel
theorem d_M_part_52 : decode b_M_part 52 = .ok (.bipush 6, 2) := by decide +kernel
theorem d_M_part_54 : decode b_M_part 54 = .ok (.iload 5, 2) := by decide +kernel
theorem d_M_part_56 : decode b_M_part 56 = .ok (.imul, 1) := by decide +kernel
theorem d_M_part_57 : decode b_M_part 57 = .ok (.iload_n 1, 1) := by decide +kernel
theorem d_M_part_58 : decode b_M_part 58 = .ok (.iadd, 1) := by decide +kernel
theorem d_M_part_59 : decode b_M_part 59 = .ok (.aload_n 0, 1) := by decide +kernel
theorem d_M_part_60 : decode b_M_part 60 = .ok (.invokevirtual 44, 3) := by decide +kernel
theorem d_M_part_63 : decode b_M_part 63 = .ok (.iastore, 1) := by decide +kernel
theorem d_M_part_64 : decode b_M_part 64 = .ok (.iinc 4 (-1), 3) := by decide +kernel
theorem d_M_part_67 : decode b_M_part 67 = .ok (.iinc 5 1, 3) := by decide +kernel
theorem d_M_part_70 : decode b_M_part 70 = .ok (.goto (-64), 3) := by decide +kernel
theorem d_M_part_73 : decode b_M_part 73 = .ok (.return_, 1) := by decide +kernel
theorem d_M_lasts_0 : decode b_M_lasts 0 = .ok (.aload_n 0, 1) := by decide +kernel
theorem d_M_lasts_1 : decode b_M_lasts 1 = .ok (.getfield 7, 3) := by decide +kernel
theorem d_M_lasts_4 : decode b_M_lasts 4 = .ok (.ifCond .lt 11, 3) := by decide +kernel
theorem d_M_lasts_7 : decode b_M_lasts 7 = .ok (.aload_n 0, 1) := by decide +kernel
theorem d_M_lasts_8 : decode b_M_lasts 8 = .ok (.getfield 7, 3) := by decide +kernel
theorem d_M_lasts_11 : decode b_M_lasts 11 = .ok (.iload_n 1, 1) := by decide +kernel
theorem d_M_lasts_12 : decode b_M_lasts 12 = .ok (.if_icmp .lt 36, 3) := by decide +kernel
theorem d_M_lasts_15 : decode b_M_lasts 15 = .ok (.aload_n 0, 1) := by decide +kernel
theorem d_M_lasts_16 : decode b_M_lasts 16 = .ok (.aload_n 0, 1) := by decide +kernel
theorem d_M_lasts_17 : decode b_M_lasts 17 = .ok (.getfield 37, 3) := by decide +kernel
theorem d_M_lasts_20 : decode b_M_lasts 20 = .ok (.iload_n 1, 1) := by decide +kernel
theorem d_M_lasts_21 : decode b_M_lasts 21 = .ok (.iadd, 1) := by decide +kernel
theorem d_M_lasts_22 : decode b_M_lasts 22 = .ok (.putfield 37, 3) := by decide +kernel
theorem d_M_lasts_25 : decode b_M_lasts 25 = .ok (.aload_n 0, 1) := by decide +kernel
theorem d_M_lasts_26 : decode b_M_lasts 26 = .ok (.aload_n 0, 1) := by decide +kernel
theorem d_M_lasts_27 : decode b_M_lasts 27 = .ok (.getfield 7, 3) := by decide +kernel
theorem d_M_lasts_30 : decode b_M_lasts 30 = .ok (.ifCond .ge 7, 3) := by decide +kernel
theorem d_M_lasts_33 : decode b_M_lasts 33 = .ok (.iconst (-1), 1) := by decide +kernel
theorem d_M_lasts_34 : decode b_M_lasts 34 = .ok (.goto 9, 3) := by decide +kernel
theorem d_M_lasts_37 : decode b_M_lasts 37 = .ok (.aload_n 0, 1) := by decide +kernel
theorem d_M_lasts_38 : decode b_M_lasts 38 = .ok (.getfield 7, 3) := by decide +kernel
theorem d_M_lasts_41 : decode b_M_lasts 41 = .ok (.iload_n 1, 1) := by decide +kernel
theorem d_M_lasts_42 : decode b_M_lasts 42 = .ok (.isub, 1) := by decide +kernel
theorem d_M_lasts_43 : decode b_M_lasts 43 = .ok (.putfield 7, 3) := by decide +kernel
theorem d_M_lasts_46 : decode b_M_lasts 46 = .ok (.iconst 1, 1) := by decide +kernel
theorem d_M_lasts_47 : decode b_M_lasts 47 = .ok (.ireturn, 1) := by decide +kernel
theorem d_M_lasts_48 : decode b_M_lasts 48 = .ok (.aload_n 0, 1) := by decide +kernel
theorem d_M_lasts_49 : decode b_M_lasts 49 = .ok (.aload_n 0, 1) := by decide +kernel
theorem d_M_lasts_50 : decode b_M_lasts 50 = .ok (.getfield 37, 3) := by decide +kernel
theorem d_M_lasts_53 : decode b_M_lasts 53 = .ok (.aload_n 0, 1) := by decide +kernel
theorem d_M_lasts_54 : decode b_M_lasts 54 = .ok (.getfield 7, 3) := by decide +kernel
theorem d_M_lasts_57 : decode b_M_lasts 57 = .ok (.iadd, 1) := by decide +kernel
theorem d_M_lasts_58 : decode b_M_lasts 58 = .ok (.putfield 37, 3) := by decide +kernel
theorem d_M_lasts_61 : decode b_M_lasts 61 = .ok (.aload_n 0, 1) := by decide +kernel
theorem d_M_lasts_62 : decode b_M_lasts 62 = .ok (.iconst 1, 1) := by decide +kernel
theorem d_M_lasts_63 : decode b_M_lasts 63 = .ok (.putfield 33, 3) := by decide +kernel
theorem d_M_lasts_66 : decode b_M_lasts 66 = .ok (.iconst 0, 1) := by decide +kernel
theorem d_M_lasts_67 : decode b_M_lasts 67 = .ok (.ireturn, 1) := by decide +kernel
theorem d_M_cut_0 : decode b_M_cut 0 = .ok (.aload_n 0, 1) := by decide +kernel
theorem d_M_cut_1 : decode b_M_cut 1 = .ok (.getfield 7, 3) := by decide +kernel
theorem d_M_cut_4 : decode b_M_cut 4 = .ok (.istore_n 1, 1) := by decide +kernel
theorem d_M_cut_5 : decode b_M_cut 5 = .ok (.aload_n 0, 1) := by decide +kernel
theorem d_M_cut_6 : decode b_M_cut 6 = .ok (.iconst (-1), 1) := by decide +kernel
theorem d_M_cut_7 : decode b_M_cut 7 = .ok (.putfield 7, 3) := by decide +kernel
theorem d_M_cut_10 : decode b_M_cut 10 = .ok (.iload_n 1, 1) := by decide +kernel
theorem d_M_cut_11 : decode b_M_cut 11 = .ok (.ireturn, 1) := by decide +kernel
theorem d_M_write_0 : decode b_M_write 0 = .ok (.aload_n 0, 1) := by decide +kernel
theorem d_M_write_1 : decode b_M_write 1 = .ok (.aload_n 0, 1) := by decide +kernel
theorem d_M_write_2 : decode b_M_write 2 = .ok (.getfield 33, 3) := by decide +kernel
theorem d_M_write_5 : decode b_M_write 5 = .ok (.ifCond .eq 7, 3) := by decide +kernel
theorem d_M_write_8 : decode b_M_write 8 = .ok (.iconst 3, 1) := by decide +kernel
theorem d_M_write_9 : decode b_M_write 9 = .ok (.goto 36, 3) := by decide +kernel
theorem d_M_write_12 : decode b_M_write 12 = .ok (.iload_n 1, 1) := by decide +kernel
theorem d_M_write_13 : decode b_M_write 13 = .ok (.iload_n 2, 1) := by decide +kernel
theorem d_M_write_14 : decode b_M_write 14 = .ok (.invokestatic 48, 3) := by decide +kernel
theorem d_M_write_17 : decode b_M_write 17 = .ok (.ifCond .ne 7, 3) := by decide +kernel
theorem d_M_write_20 : decode b_M_write 20 = .ok (.iconst 1, 1) := by decide +kernel
theorem d_M_write_21 : decode b_M_write 21 = .ok (.goto 24, 3) := by decide +kernel
theorem d_M_write_24 : decode b_M_write 24 = .ok (.aload_n 0, 1) := by decide +kernel
theorem d_M_write_25 : decode b_M_write 25 = .ok (.iload_n 1, 1) := by decide +kernel
theorem d_M_write_26 : decode b_M_write 26 = .ok (.iconst (-1), 1) := by decide +kernel
theorem d_M_write_27 : decode b_M_write 27 = .ok (.invokevirtual 52, 3) := by decide +kernel
theorem d_M_write_30 : decode b_M_write 30 = .ok (.bipush 9, 2) := by decide +kernel
theorem d_M_write_32 : decode b_M_write 32 = .ok (.aload_n 0, 1) := by decide +kernel
theorem d_M_write_33 : decode b_M_write 33 = .ok (.invokevirtual 56, 3) := by decide +kernel
theorem d_M_write_36 : decode b_M_write 36 = .ok (.isub, 1) := by decide +kernel
theorem d_M_write_37 : decode b_M_write 37 = .ok (.if_icmp .le 7, 3) := by decide +kernel
theorem d_M_write_40 : decode b_M_write 40 = .ok (.iconst 2, 1) := by decide +kernel
theorem d_M_write_41 : decode b_M_write 41 = .ok (.goto 4, 3) := by decide +kernel
theorem d_M_write_44 : decode b_M_write 44 = .ok (.iconst 0, 1) := by decide +kernel
theorem d_M_write_45 : decode b_M_write 45 = .ok (.putfield 27, 3) := by decide +kernel
theorem d_M_write_48 : decode b_M_write 48 = .ok (.aload_n 0, 1) := by decide +kernel
theorem d_M_write_49 : decode b_M_write 49 = .ok (.getfield 27, 3) := by decide +kernel
theorem d_M_write_52 : decode b_M_write 52 = .ok (.ifCond .le 5, 3) := by decide +kernel
theorem d_M_write_55 : decode b_M_write 55 = .ok (.iconst 0, 1) := by decide +kernel
theorem d_M_write_56 : decode b_M_write 56 = .ok (.ireturn, 1) := by decide +kernel
theorem d_M_write_57 : decode b_M_write 57 = .ok (.aload_n 0, 1) := by decide +kernel
theorem d_M_write_58 : decode b_M_write 58 = .ok (.iload_n 1, 1) := by decide +kernel
theorem d_M_write_59 : decode b_M_write 59 = .ok (.iconst (-1), 1) := by decide +kernel
theorem d_M_write_60 : decode b_M_write 60 = .ok (.invokevirtual 52, 3) := by decide +kernel
theorem d_M_write_63 : decode b_M_write 63 = .ok (.istore 4, 2) := by decide +kernel
theorem d_M_write_65 : decode b_M_write 65 = .ok (.aload_n 0, 1) := by decide +kernel
theorem d_M_write_66 : decode b_M_write 66 = .ok (.iconst 5, 1) := by decide +kernel
theorem d_M_write_67 : decode b_M_write 67 = .ok (.iload 4, 2) := by decide +kernel
theorem d_M_write_69 : decode b_M_write 69 = .ok (.imul, 1) := by decide +kernel
theorem d_M_write_70 : decode b_M_write 70 = .ok (.iconst 1, 1) := by decide +kernel
theorem d_M_write_71 : decode b_M_write 71 = .ok (.iadd, 1) := by decide +kernel
theorem d_M_write_72 : decode b_M_write 72 = .ok (.invokevirtual 59, 3) := by decide +kernel
theorem d_M_write_75 : decode b_M_write 75 = .ok (.ifCond .eq 25, 3) := by decide +kernel
theorem d_M_write_78 : decode b_M_write 78 = .ok (.aload_n 0, 1) := by decide +kernel
theorem d_M_write_79 : decode b_M_write 79 = .ok (.iload_n 1, 1) := by decide +kernel
theorem d_M_write_80 : decode b_M_write 80 = .ok (.iconst (-1), 1) := by decide +kernel
theorem d_M_write_81 : decode b_M_write 81 = .ok (.iload 4, 2) := by decide +kernel
theorem d_M_write_83 : decode b_M_write 83 = .ok (.invokevirtual 63, 3) := by decide +kernel
theorem d_M_write_86 : decode b_M_write 86 = .ok (.aload_n 0, 1) := by decide +kernel
theorem d_M_write_87 : decode b_M_write 87 = .ok (.getfield 13, 3) := by decide +kernel
theorem d_M_write_90 : decode b_M_write 90 = .ok (.iconst 4, 1) := by decide +kernel
theorem d_M_write_91 : decode b_M_write 91 = .ok (.iload_n 1, 1) := by decide +kernel
theorem d_M_write_92 : decode b_M_write 92 = .ok (.imul, 1) := by decide +kernel
theorem d_M_write_93 : decode b_M_write 93 = .ok (.iload_n 2, 1) := by decide +kernel
theorem d_M_write_94 : decode b_M_write 94 = .ok (.iadd, 1) := by decide +kernel
theorem d_M_write_95 : decode b_M_write 95 = .ok (.iload_n 3, 1) := by decide +kernel
theorem d_M_write_96 : decode b_M_write 96 = .ok (.iastore, 1) := by decide +kernel
theorem d_M_write_97 : decode b_M_write 97 = .ok (.iload 4, 2) := by decide +kernel
theorem d_M_write_99 : decode b_M_write 99 = .ok (.ireturn, 1) := by decide +kernel
theorem d_M_write_100 : decode b_M_write 100 = .ok (.aload_n 0, 1) := by decide +kernel
theorem d_M_write_101 : decode b_M_write 101 = .ok (.iload_n 1, 1) := by decide +kernel
theorem d_M_write_102 : decode b_M_write 102 = .ok (.iconst (-1), 1) := by decide +kernel
theorem d_M_write_103 : decode b_M_write 103 = .ok (.aload_n 0, 1) := by decide +kernel
theorem d_M_write_104 : decode b_M_write 104 = .ok (.invokevirtual 67, 3) := by decide +kernel
theorem d_M_write_107 : decode b_M_write 107 = .ok (.iconst 5, 1) := by decide +kernel
theorem d_M_write_108 : decode b_M_write 108 = .ok (.idiv, 1) := by decide +kernel
theorem d_M_write_109 : decode b_M_write 109 = .ok (.invokevirtual 63, 3) := by decide +kernel
theorem d_M_write_112 : decode b_M_write 112 = .ok (.aload_n 0, 1) := by decide +kernel
theorem d_M_write_113 : decode b_M_write 113 = .ok (.iconst 3, 1) := by decide +kernel
theorem d_M_write_114 : decode b_M_write 114 = .ok (.putfield 27, 3) := by decide +kernel
theorem d_M_write_117 : decode b_M_write 117 = .ok (.iconst 0, 1) := by decide +kernel
theorem d_M_write_118 : decode b_M_write 118 = .ok (.ireturn, 1) := by decide +kernel
theorem d_M_read_0 : decode b_M_read 0 = .ok (.aload_n 0, 1) := by decide +kernel
theorem d_M_read_1 : decode b_M_read 1 = .ok (.aload_n 0, 1) := by decide +kernel
theorem d_M_read_2 : decode b_M_read 2 = .ok (.getfield 33, 3) := by decide +kernel
theorem d_M_read_5 : decode b_M_read 5 = .ok (.ifCond .eq 7, 3) := by decide +kernel
theorem d_M_read_8 : decode b_M_read 8 = .ok (.iconst 2, 1) := by decide +kernel
theorem d_M_read_9 : decode b_M_read 9 = .ok (.goto 16, 3) := by decide +kernel
theorem d_M_read_12 : decode b_M_read 12 = .ok (.iload_n 1, 1) := by decide +kernel
theorem d_M_read_13 : decode b_M_read 13 = .ok (.iload_n 2, 1) := by decide +kernel
theorem d_M_read_14 : decode b_M_read 14 = .ok (.invokestatic 48, 3) := by decide +kernel
theorem d_M_read_17 : decode b_M_read 17 = .ok (.ifCond .eq 7, 3) := by decide +kernel
theorem d_M_read_20 : decode b_M_read 20 = .ok (.iconst 0, 1) := by decide +kernel
theorem d_M_read_21 : decode b_M_read 21 = .ok (.goto 4, 3) := by decide +kernel
theorem d_M_read_24 : decode b_M_read 24 = .ok (.iconst 1, 1) := by decide +kernel
theorem d_M_read_25 : decode b_M_read 25 = .ok (.putfield 27, 3) := by decide +kernel
theorem d_M_read_28 : decode b_M_read 28 = .ok (.aload_n 0, 1) := by decide +kernel
theorem d_M_read_29 : decode b_M_read 29 = .ok (.getfield 27, 3) := by decide +kernel
theorem d_M_read_32 : decode b_M_read 32 = .ok (.ifCond .le 7, 3) := by decide +kernel
theorem d_M_read_35 : decode b_M_read 35 = .ok (.iconst 0, 1) := by decide +kernel
theorem d_M_read_36 : decode b_M_read 36 = .ok (.goto 13, 3) := by decide +kernel
theorem d_M_read_39 : decode b_M_read 39 = .ok (.aload_n 0, 1) := by decide +kernel
theorem d_M_read_40 : decode b_M_read 40 = .ok (.getfield 13, 3) := by decide +kernel
theorem d_M_read_43 : decode b_M_read 43 = .ok (.iconst 4, 1) := by decide +kernel
theorem d_M_read_44 : decode b_M_read 44 = .ok (.iload_n 1, 1) := by decide +kernel
theorem d_M_read_45 : decode b_M_read 45 = .ok (.imul, 1) := by decide +kernel
theorem d_M_read_46 : decode b_M_read 46 = .ok (.iload_n 2, 1) := by decide +kernel
theorem d_M_read_47 : decode b_M_read 47 = .ok (.iadd, 1) := by decide +kernel
theorem d_M_read_48 : decode b_M_read 48 = .ok (.iaload, 1) := by decide +kernel
theorem d_M_read_49 : decode b_M_read 49 = .ok (.ireturn, 1) := by decide +kernel
theorem d_M_snapshot_0 : decode b_M_snapshot 0 = .ok (.aload_n 0, 1) := by decide +kernel
theorem d_M_snapshot_1 : decode b_M_snapshot 1 = .ok (.getfield 20, 3) := by decide +kernel
theorem d_M_snapshot_4 : decode b_M_snapshot 4 = .ok (.iconst 0, 1) := by decide +kernel
theorem d_M_snapshot_5 : decode b_M_snapshot 5 = .ok (.baload, 1) := by decide +kernel
theorem d_M_snapshot_6 : decode b_M_snapshot 6 = .ok (.ifCond .eq 33, 3) := by decide +kernel
theorem d_M_snapshot_9 : decode b_M_snapshot 9 = .ok (.aload_n 0, 1) := by decide +kernel
theorem d_M_snapshot_10 : decode b_M_snapshot 10 = .ok (.getfield 20, 3) := by decide +kernel
theorem d_M_snapshot_13 : decode b_M_snapshot 13 = .ok (.iconst 1, 1) := by decide +kernel
theorem d_M_snapshot_14 : decode b_M_snapshot 14 = .ok (.baload, 1) := by decide +kernel
theorem d_M_snapshot_15 : decode b_M_snapshot 15 = .ok (.ifCond .eq 20, 3) := by decide +kernel
theorem d_M_snapshot_18 : decode b_M_snapshot 18 = .ok (.aload_n 0, 1) := by decide +kernel
theorem d_M_snapshot_19 : decode b_M_snapshot 19 = .ok (.getfield 20, 3) := by decide +kernel
theorem d_M_snapshot_22 : decode b_M_snapshot 22 = .ok (.iconst 2, 1) := by decide +kernel
theorem d_M_snapshot_23 : decode b_M_snapshot 23 = .ok (.baload, 1) := by decide +kernel
theorem d_M_snapshot_24 : decode b_M_snapshot 24 = .ok (.ifCond .eq 7, 3) := by decide +kernel
theorem d_M_snapshot_27 : decode b_M_snapshot 27 = .ok (.iconst 3, 1) := by decide +kernel
theorem d_M_snapshot_28 : decode b_M_snapshot 28 = .ok (.goto 12, 3) := by decide +kernel
theorem d_M_snapshot_31 : decode b_M_snapshot 31 = .ok (.iconst 2, 1) := by decide +kernel
theorem d_M_snapshot_32 : decode b_M_snapshot 32 = .ok (.goto 8, 3) := by decide +kernel
theorem d_M_snapshot_35 : decode b_M_snapshot 35 = .ok (.iconst 1, 1) := by decide +kernel
theorem d_M_snapshot_36 : decode b_M_snapshot 36 = .ok (.goto 4, 3) := by decide +kernel
theorem d_M_snapshot_39 : decode b_M_snapshot 39 = .ok (.iconst 0, 1) := by decide +kernel
theorem d_M_snapshot_40 : decode b_M_snapshot 40 = .ok (.istore_n 1, 1) := by decide +kernel
theorem d_M_snapshot_41 : decode b_M_snapshot 41 = .ok (.aload_n 0, 1) := by decide +kernel
theorem d_M_snapshot_42 : decode b_M_snapshot 42 = .ok (.aload_n 0, 1) := by decide +kernel
theorem d_M_snapshot_43 : decode b_M_snapshot 43 = .ok (.getfield 33, 3) := by decide +kernel
theorem d_M_snapshot_46 : decode b_M_snapshot 46 = .ok (.ifCond .eq 7, 3) := by decide +kernel
theorem d_M_snapshot_49 : decode b_M_snapshot 49 = .ok (.iconst 2, 1) := by decide +kernel
theorem d_M_snapshot_50 : decode b_M_snapshot 50 = .ok (.goto 13, 3) := by decide +kernel
theorem d_M_snapshot_53 : decode b_M_snapshot 53 = .ok (.iload_n 1, 1) := by decide +kernel
theorem d_M_snapshot_54 : decode b_M_snapshot 54 = .ok (.iconst 3, 1) := by decide +kernel
theorem d_M_snapshot_55 : decode b_M_snapshot 55 = .ok (.if_icmp .ne 7, 3) := by decide +kernel
theorem d_M_snapshot_58 : decode b_M_snapshot 58 = .ok (.iconst 1, 1) := by decide +kernel
theorem d_M_snapshot_59 : decode b_M_snapshot 59 = .ok (.goto 4, 3) := by decide +kernel
theorem d_M_snapshot_62 : decode b_M_snapshot 62 = .ok (.iconst 0, 1) := by decide +kernel
theorem d_M_snapshot_63 : decode b_M_snapshot 63 = .ok (.putfield 27, 3) := by decide +kernel
theorem d_M_snapshot_66 : decode b_M_snapshot 66 = .ok (.aload_n 0, 1) := by decide +kernel
theorem d_M_snapshot_67 : decode b_M_snapshot 67 = .ok (.getfield 27, 3) := by decide +kernel
theorem d_M_snapshot_70 : decode b_M_snapshot 70 = .ok (.ifCond .le 5, 3) := by decide +kernel
theorem d_M_snapshot_73 : decode b_M_snapshot 73 = .ok (.iconst 0, 1) := by decide +kernel
theorem d_M_snapshot_74 : decode b_M_snapshot 74 = .ok (.ireturn, 1) := by decide +kernel
theorem d_M_snapshot_75 : decode b_M_snapshot 75 = .ok (.aload_n 0, 1) := by decide +kernel
theorem d_M_snapshot_76 : decode b_M_snapshot 76 = .ok (.iconst 1, 1) := by decide +kernel
theorem d_M_snapshot_77 : decode b_M_snapshot 77 = .ok (.invokevirtual 59, 3) := by decide +kernel
theorem d_M_snapshot_80 : decode b_M_snapshot 80 = .ok (.ifCond .ne 15, 3) := by decide +kernel
theorem d_M_snapshot_83 : decode b_M_snapshot 83 = .ok (.aload_n 0, 1) := by decide +kernel
theorem d_M_snapshot_84 : decode b_M_snapshot 84 = .ok (.iconst (-1), 1) := by decide +kernel
theorem d_M_snapshot_85 : decode b_M_snapshot 85 = .ok (.putfield 7, 3) := by decide +kernel
theorem d_M_snapshot_88 : decode b_M_snapshot 88 = .ok (.aload_n 0, 1) := by decide +kernel
theorem d_M_snapshot_89 : decode b_M_snapshot 89 = .ok (.iconst 2, 1) := by decide +kernel
theorem d_M_snapshot_90 : decode b_M_snapshot 90 = .ok (.putfield 27, 3) := by decide +kernel
theorem d_M_snapshot_93 : decode b_M_snapshot 93 = .ok (.iconst 0, 1) := by decide +kernel
theorem d_M_snapshot_94 : decode b_M_snapshot 94 = .ok (.ireturn, 1) := by decide +kernel
end
section
theorem d_M_snapshot_95 : decode b_M_snapshot 95 = .ok (.aload_n 0, 1) := by decide +kernel
theorem d_M_snapshot_96 : decode b_M_snapshot 96 = .ok (.getfield 20, 3) := by decide +kernel
theorem d_M_snapshot_99 : decode b_M_snapshot 99 = .ok (.iload_n 1, 1) := by decide +kernel
theorem d_M_snapshot_100 : decode b_M_snapshot 100 = .ok (.iconst 1, 1) := by decide +kernel
theorem d_M_snapshot_101 : decode b_M_snapshot 101 = .ok (.bastore, 1) := by decide +kernel
theorem d_M_snapshot_102 : decode b_M_snapshot 102 = .ok (.iconst 0, 1) := by decide +kernel
theorem d_M_snapshot_103 : decode b_M_snapshot 103 = .ok (.istore_n 2, 1) := by decide +kernel
theorem d_M_snapshot_104 : decode b_M_snapshot 104 = .ok (.iload_n 2, 1) := by decide +kernel
theorem d_M_snapshot_105 : decode b_M_snapshot 105 = .ok (.bipush 6, 2) := by decide +kernel
theorem d_M_snapshot_107 : decode b_M_snapshot 107 = .ok (.if_icmp .ge 21, 3) := by decide +kernel
theorem d_M_snapshot_110 : decode b_M_snapshot 110 = .ok (.aload_n 0, 1) := by decide +kernel
theorem d_M_snapshot_111 : decode b_M_snapshot 111 = .ok (.getfield 24, 3) := by decide +kernel
theorem d_M_snapshot_114 : decode b_M_snapshot 114 = .ok (.bipush 6, 2) := by decide +kernel
theorem d_M_snapshot_116 : decode b_M_snapshot 116 = .ok (.iload_n 1, 1) := by decide +kernel
theorem d_M_snapshot_117 : decode b_M_snapshot 117 = .ok (.imul, 1) := by decide +kernel
theorem d_M_snapshot_118 : decode b_M_snapshot 118 = .ok (.iload_n 2, 1) := by decide +kernel
theorem d_M_snapshot_119 : decode b_M_snapshot 119 = .ok (.iadd, 1) := by decide +kernel
theorem d_M_snapshot_120 : decode b_M_snapshot 120 = .ok (.iconst 0, 1) := by decide +kernel
theorem d_M_snapshot_121 : decode b_M_snapshot 121 = .ok (.iastore, 1) := by decide +kernel
theorem d_M_snapshot_122 : decode b_M_snapshot 122 = .ok (.iinc 2 1, 3) := by decide +kernel
theorem d_M_snapshot_125 : decode b_M_snapshot 125 = .ok (.goto (-21), 3) := by decide +kernel
theorem d_M_snapshot_128 : decode b_M_snapshot 128 = .ok (.iconst 0, 1) := by decide +kernel
theorem d_M_snapshot_129 : decode b_M_snapshot 129 = .ok (.istore_n 2, 1) := by decide +kernel
theorem d_M_snapshot_130 : decode b_M_snapshot 130 = .ok (.iload_n 2, 1) := by decide +kernel
theorem d_M_snapshot_131 : decode b_M_snapshot 131 = .ok (.bipush 24, 2) := by decide +kernel
theorem d_M_snapshot_133 : decode b_M_snapshot 133 = .ok (.if_icmp .ge 26, 3) := by decide +kernel
theorem d_M_snapshot_136 : decode b_M_snapshot 136 = .ok (.aload_n 0, 1) := by decide +kernel
theorem d_M_snapshot_137 : decode b_M_snapshot 137 = .ok (.getfield 17, 3) := by decide +kernel
theorem d_M_snapshot_140 : decode b_M_snapshot 140 = .ok (.bipush 24, 2) := by decide +kernel
theorem d_M_snapshot_142 : decode b_M_snapshot 142 = .ok (.iload_n 1, 1) := by decide +kernel
theorem d_M_snapshot_143 : decode b_M_snapshot 143 = .ok (.imul, 1) := by decide +kernel
theorem d_M_snapshot_144 : decode b_M_snapshot 144 = .ok (.iload_n 2, 1) := by decide +kernel
theorem d_M_snapshot_145 : decode b_M_snapshot 145 = .ok (.iadd, 1) := by decide +kernel
theorem d_M_snapshot_146 : decode b_M_snapshot 146 = .ok (.aload_n 0, 1) := by decide +kernel
theorem d_M_snapshot_147 : decode b_M_snapshot 147 = .ok (.getfield 13, 3) := by decide +kernel
theorem d_M_snapshot_150 : decode b_M_snapshot 150 = .ok (.iload_n 2, 1) := by decide +kernel
theorem d_M_snapshot_151 : decode b_M_snapshot 151 = .ok (.iaload, 1) := by decide +kernel
theorem d_M_snapshot_152 : decode b_M_snapshot 152 = .ok (.iastore, 1) := by decide +kernel
theorem d_M_snapshot_153 : decode b_M_snapshot 153 = .ok (.iinc 2 1, 3) := by decide +kernel
theorem d_M_snapshot_156 : decode b_M_snapshot 156 = .ok (.goto (-26), 3) := by decide +kernel
theorem d_M_snapshot_159 : decode b_M_snapshot 159 = .ok (.iload_n 1, 1) := by decide +kernel
theorem d_M_snapshot_160 : decode b_M_snapshot 160 = .ok (.ireturn, 1) := by decide +kernel
theorem d_M_drop_0 : decode b_M_drop 0 = .ok (.aload_n 0, 1) := by decide +kernel
theorem d_M_drop_1 : decode b_M_drop 1 = .ok (.aload_n 0, 1) := by decide +kernel
theorem d_M_drop_2 : decode b_M_drop 2 = .ok (.getfield 33, 3) := by decide +kernel
theorem d_M_drop_5 : decode b_M_drop 5 = .ok (.ifCond .eq 7, 3) := by decide +kernel
theorem d_M_drop_8 : decode b_M_drop 8 = .ok (.iconst 2, 1) := by decide +kernel
theorem d_M_drop_9 : decode b_M_drop 9 = .ok (.goto 16, 3) := by decide +kernel
theorem d_M_drop_12 : decode b_M_drop 12 = .ok (.aload_n 0, 1) := by decide +kernel
theorem d_M_drop_13 : decode b_M_drop 13 = .ok (.iload_n 1, 1) := by decide +kernel
theorem d_M_drop_14 : decode b_M_drop 14 = .ok (.invokevirtual 70, 3) := by decide +kernel
theorem d_M_drop_17 : decode b_M_drop 17 = .ok (.ifCond .eq 7, 3) := by decide +kernel
theorem d_M_drop_20 : decode b_M_drop 20 = .ok (.iconst 0, 1) := by decide +kernel
theorem d_M_drop_21 : decode b_M_drop 21 = .ok (.goto 4, 3) := by decide +kernel
theorem d_M_drop_24 : decode b_M_drop 24 = .ok (.iconst 1, 1) := by decide +kernel
theorem d_M_drop_25 : decode b_M_drop 25 = .ok (.putfield 27, 3) := by decide +kernel
theorem d_M_drop_28 : decode b_M_drop 28 = .ok (.aload_n 0, 1) := by decide +kernel
theorem d_M_drop_29 : decode b_M_drop 29 = .ok (.getfield 27, 3) := by decide +kernel
theorem d_M_drop_32 : decode b_M_drop 32 = .ok (.ifCond .ne 31, 3) := by decide +kernel
theorem d_M_drop_35 : decode b_M_drop 35 = .ok (.aload_n 0, 1) := by decide +kernel
theorem d_M_drop_36 : decode b_M_drop 36 = .ok (.iconst 1, 1) := by decide +kernel
theorem d_M_drop_37 : decode b_M_drop 37 = .ok (.invokevirtual 59, 3) := by decide +kernel
theorem d_M_drop_40 : decode b_M_drop 40 = .ok (.ifCond .eq 13, 3) := by decide +kernel
theorem d_M_drop_43 : decode b_M_drop 43 = .ok (.aload_n 0, 1) := by decide +kernel
theorem d_M_drop_44 : decode b_M_drop 44 = .ok (.getfield 20, 3) := by decide +kernel
theorem d_M_drop_47 : decode b_M_drop 47 = .ok (.iload_n 1, 1) := by decide +kernel
theorem d_M_drop_48 : decode b_M_drop 48 = .ok (.iconst 0, 1) := by decide +kernel
theorem d_M_drop_49 : decode b_M_drop 49 = .ok (.bastore, 1) := by decide +kernel
theorem d_M_drop_50 : decode b_M_drop 50 = .ok (.goto 13, 3) := by decide +kernel
theorem d_M_drop_53 : decode b_M_drop 53 = .ok (.aload_n 0, 1) := by decide +kernel
theorem d_M_drop_54 : decode b_M_drop 54 = .ok (.iconst (-1), 1) := by decide +kernel
theorem d_M_drop_55 : decode b_M_drop 55 = .ok (.putfield 7, 3) := by decide +kernel
theorem d_M_drop_58 : decode b_M_drop 58 = .ok (.aload_n 0, 1) := by decide +kernel
theorem d_M_drop_59 : decode b_M_drop 59 = .ok (.iconst 2, 1) := by decide +kernel
theorem d_M_drop_60 : decode b_M_drop 60 = .ok (.putfield 27, 3) := by decide +kernel
theorem d_M_drop_63 : decode b_M_drop 63 = .ok (.return_, 1) := by decide +kernel
theorem d_M_readSnapshot_0 : decode b_M_readSnapshot 0 = .ok (.aload_n 0, 1) := by decide +kernel
theorem d_M_readSnapshot_1 : decode b_M_readSnapshot 1 = .ok (.aload_n 0, 1) := by decide +kernel
theorem d_M_readSnapshot_2 : decode b_M_readSnapshot 2 = .ok (.getfield 33, 3) := by decide +kernel
theorem d_M_readSnapshot_5 : decode b_M_readSnapshot 5 = .ok (.ifCond .eq 7, 3) := by decide +kernel
theorem d_M_readSnapshot_8 : decode b_M_readSnapshot 8 = .ok (.iconst 3, 1) := by decide +kernel
theorem d_M_readSnapshot_9 : decode b_M_readSnapshot 9 = .ok (.goto 28, 3) := by decide +kernel
theorem d_M_readSnapshot_12 : decode b_M_readSnapshot 12 = .ok (.aload_n 0, 1) := by decide +kernel
theorem d_M_readSnapshot_13 : decode b_M_readSnapshot 13 = .ok (.iload_n 1, 1) := by decide +kernel
theorem d_M_readSnapshot_14 : decode b_M_readSnapshot 14 = .ok (.invokevirtual 70, 3) := by decide +kernel
theorem d_M_readSnapshot_17 : decode b_M_readSnapshot 17 = .ok (.ifCond .ne 7, 3) := by decide +kernel
theorem d_M_readSnapshot_20 : decode b_M_readSnapshot 20 = .ok (.iconst 1, 1) := by decide +kernel
theorem d_M_readSnapshot_21 : decode b_M_readSnapshot 21 = .ok (.goto 16, 3) := by decide +kernel
theorem d_M_readSnapshot_24 : decode b_M_readSnapshot 24 = .ok (.iload_n 2, 1) := by decide +kernel
theorem d_M_readSnapshot_25 : decode b_M_readSnapshot 25 = .ok (.iload_n 3, 1) := by decide +kernel
theorem d_M_readSnapshot_26 : decode b_M_readSnapshot 26 = .ok (.invokestatic 48, 3) := by decide +kernel
theorem d_M_readSnapshot_29 : decode b_M_readSnapshot 29 = .ok (.ifCond .eq 7, 3) := by decide +kernel
theorem d_M_readSnapshot_32 : decode b_M_readSnapshot 32 = .ok (.iconst 0, 1) := by decide +kernel
theorem d_M_readSnapshot_33 : decode b_M_readSnapshot 33 = .ok (.goto 4, 3) := by decide +kernel
theorem d_M_readSnapshot_36 : decode b_M_readSnapshot 36 = .ok (.iconst 2, 1) := by decide +kernel
theorem d_M_readSnapshot_37 : decode b_M_readSnapshot 37 = .ok (.putfield 27, 3) := by decide +kernel
theorem d_M_readSnapshot_40 : decode b_M_readSnapshot 40 = .ok (.aload_n 0, 1) := by decide +kernel
theorem d_M_readSnapshot_41 : decode b_M_readSnapshot 41 = .ok (.getfield 27, 3) := by decide +kernel
theorem d_M_readSnapshot_44 : decode b_M_readSnapshot 44 = .ok (.ifCond .le 7, 3) := by decide +kernel
theorem d_M_readSnapshot_47 : decode b_M_readSnapshot 47 = .ok (.iconst 0, 1) := by decide +kernel
theorem d_M_readSnapshot_48 : decode b_M_readSnapshot 48 = .ok (.goto 18, 3) := by decide +kernel
theorem d_M_readSnapshot_51 : decode b_M_readSnapshot 51 = .ok (.aload_n 0, 1) := by decide +kernel
theorem d_M_readSnapshot_52 : decode b_M_readSnapshot 52 = .ok (.getfield 17, 3) := by decide +kernel
theorem d_M_readSnapshot_55 : decode b_M_readSnapshot 55 = .ok (.bipush 24, 2) := by decide +kernel
theorem d_M_readSnapshot_57 : decode b_M_readSnapshot 57 = .ok (.iload_n 1, 1) := by decide +kernel
theorem d_M_readSnapshot_58 : decode b_M_readSnapshot 58 = .ok (.imul, 1) := by decide +kernel
theorem d_M_readSnapshot_59 : decode b_M_readSnapshot 59 = .ok (.iconst 4, 1) := by decide +kernel
theorem d_M_readSnapshot_60 : decode b_M_readSnapshot 60 = .ok (.iload_n 2, 1) := by decide +kernel
theorem d_M_readSnapshot_61 : decode b_M_readSnapshot 61 = .ok (.imul, 1) := by decide +kernel
theorem d_M_readSnapshot_62 : decode b_M_readSnapshot 62 = .ok (.iadd, 1) := by decide +kernel
theorem d_M_readSnapshot_63 : decode b_M_readSnapshot 63 = .ok (.iload_n 3, 1) := by decide +kernel
theorem d_M_readSnapshot_64 : decode b_M_readSnapshot 64 = .ok (.iadd, 1) := by decide +kernel
theorem d_M_readSnapshot_65 : decode b_M_readSnapshot 65 = .ok (.iaload, 1) := by decide +kernel
theorem d_M_readSnapshot_66 : decode b_M_readSnapshot 66 = .ok (.ireturn, 1) := by decide +kernel
theorem d_M_writeSnapshot_0 : decode b_M_writeSnapshot 0 = .ok (.aload_n 0, 1) := by decide +kernel
theorem d_M_writeSnapshot_1 : decode b_M_writeSnapshot 1 = .ok (.aload_n 0, 1) := by decide +kernel
theorem d_M_writeSnapshot_2 : decode b_M_writeSnapshot 2 = .ok (.getfield 33, 3) := by decide +kernel
theorem d_M_writeSnapshot_5 : decode b_M_writeSnapshot 5 = .ok (.ifCond .eq 7, 3) := by decide +kernel
theorem d_M_writeSnapshot_8 : decode b_M_writeSnapshot 8 = .ok (.iconst 4, 1) := by decide +kernel
theorem d_M_writeSnapshot_9 : decode b_M_writeSnapshot 9 = .ok (.goto 28, 3) := by decide +kernel
theorem d_M_writeSnapshot_12 : decode b_M_writeSnapshot 12 = .ok (.aload_n 0, 1) := by decide +kernel
theorem d_M_writeSnapshot_13 : decode b_M_writeSnapshot 13 = .ok (.iload_n 1, 1) := by decide +kernel
theorem d_M_writeSnapshot_14 : decode b_M_writeSnapshot 14 = .ok (.invokevirtual 70, 3) := by decide +kernel
theorem d_M_writeSnapshot_17 : decode b_M_writeSnapshot 17 = .ok (.ifCond .ne 7, 3) := by decide +kernel
theorem d_M_writeSnapshot_20 : decode b_M_writeSnapshot 20 = .ok (.iconst 1, 1) := by decide +kernel
theorem d_M_writeSnapshot_21 : decode b_M_writeSnapshot 21 = .ok (.goto 16, 3) := by decide +kernel
theorem d_M_writeSnapshot_24 : decode b_M_writeSnapshot 24 = .ok (.iload_n 2, 1) := by decide +kernel
theorem d_M_writeSnapshot_25 : decode b_M_writeSnapshot 25 = .ok (.iload_n 3, 1) := by decide +kernel
theorem d_M_writeSnapshot_26 : decode b_M_writeSnapshot 26 = .ok (.invokestatic 48, 3) := by decide +kernel
theorem d_M_writeSnapshot_29 : decode b_M_writeSnapshot 29 = .ok (.ifCond .ne 7, 3) := by decide +kernel
theorem d_M_writeSnapshot_32 : decode b_M_writeSnapshot 32 = .ok (.iconst 2, 1) := by decide +kernel
theorem d_M_writeSnapshot_33 : decode b_M_writeSnapshot 33 = .ok (.goto 4, 3) := by decide +kernel
theorem d_M_writeSnapshot_36 : decode b_M_writeSnapshot 36 = .ok (.iconst 0, 1) := by decide +kernel
theorem d_M_writeSnapshot_37 : decode b_M_writeSnapshot 37 = .ok (.putfield 27, 3) := by decide +kernel
theorem d_M_writeSnapshot_40 : decode b_M_writeSnapshot 40 = .ok (.aload_n 0, 1) := by decide +kernel
theorem d_M_writeSnapshot_41 : decode b_M_writeSnapshot 41 = .ok (.getfield 27, 3) := by decide +kernel
theorem d_M_writeSnapshot_44 : decode b_M_writeSnapshot 44 = .ok (.ifCond .le 5, 3) := by decide +kernel
theorem d_M_writeSnapshot_47 : decode b_M_writeSnapshot 47 = .ok (.iconst 0, 1) := by decide +kernel
theorem d_M_writeSnapshot_48 : decode b_M_writeSnapshot 48 = .ok (.ireturn, 1) := by decide +kernel
theorem d_M_writeSnapshot_49 : decode b_M_writeSnapshot 49 = .ok (.aload_n 0, 1) := by decide +kernel
theorem d_M_writeSnapshot_50 : decode b_M_writeSnapshot 50 = .ok (.getfield 24, 3) := by decide +kernel
theorem d_M_writeSnapshot_53 : decode b_M_writeSnapshot 53 = .ok (.bipush 6, 2) := by decide +kernel
theorem d_M_writeSnapshot_55 : decode b_M_writeSnapshot 55 = .ok (.iload_n 1, 1) := by decide +kernel
theorem d_M_writeSnapshot_56 : decode b_M_writeSnapshot 56 = .ok (.imul, 1) := by decide +kernel
theorem d_M_writeSnapshot_57 : decode b_M_writeSnapshot 57 = .ok (.iload_n 2, 1) := by decide +kernel
theorem d_M_writeSnapshot_58 : decode b_M_writeSnapshot 58 = .ok (.iadd, 1) := by decide +kernel
theorem d_M_writeSnapshot_59 : decode b_M_writeSnapshot 59 = .ok (.iaload, 1) := by decide +kernel
theorem d_M_writeSnapshot_60 : decode b_M_writeSnapshot 60 = .ok (.ifCond .ne 7, 3) := by decide +kernel
theorem d_M_writeSnapshot_63 : decode b_M_writeSnapshot 63 = .ok (.iconst 1, 1) := by decide +kernel
theorem d_M_writeSnapshot_64 : decode b_M_writeSnapshot 64 = .ok (.goto 4, 3) := by decide +kernel
theorem d_M_writeSnapshot_67 : decode b_M_writeSnapshot 67 = .ok (.iconst 0, 1) := by decide +kernel
theorem d_M_writeSnapshot_68 : decode b_M_writeSnapshot 68 = .ok (.istore 5, 2) := by decide +kernel
theorem d_M_writeSnapshot_70 : decode b_M_writeSnapshot 70 = .ok (.iload 5, 2) := by decide +kernel
theorem d_M_writeSnapshot_72 : decode b_M_writeSnapshot 72 = .ok (.ifCond .eq 19, 3) := by decide +kernel
theorem d_M_writeSnapshot_75 : decode b_M_writeSnapshot 75 = .ok (.aload_n 0, 1) := by decide +kernel
theorem d_M_writeSnapshot_76 : decode b_M_writeSnapshot 76 = .ok (.invokevirtual 56, 3) := by decide +kernel
theorem d_M_writeSnapshot_79 : decode b_M_writeSnapshot 79 = .ok (.bipush 9, 2) := by decide +kernel
theorem d_M_writeSnapshot_81 : decode b_M_writeSnapshot 81 = .ok (.if_icmp .ne 10, 3) := by decide +kernel
theorem d_M_writeSnapshot_84 : decode b_M_writeSnapshot 84 = .ok (.aload_n 0, 1) := by decide +kernel
theorem d_M_writeSnapshot_85 : decode b_M_writeSnapshot 85 = .ok (.iconst 3, 1) := by decide +kernel
theorem d_M_writeSnapshot_86 : decode b_M_writeSnapshot 86 = .ok (.putfield 27, 3) := by decide +kernel
theorem d_M_writeSnapshot_89 : decode b_M_writeSnapshot 89 = .ok (.iconst 0, 1) := by decide +kernel
theorem d_M_writeSnapshot_90 : decode b_M_writeSnapshot 90 = .ok (.ireturn, 1) := by decide +kernel
theorem d_M_writeSnapshot_91 : decode b_M_writeSnapshot 91 = .ok (.aload_n 0, 1) := by decide +kernel
theorem d_M_writeSnapshot_92 : decode b_M_writeSnapshot 92 = .ok (.iload 5, 2) := by decide +kernel
theorem d_M_writeSnapshot_94 : decode b_M_writeSnapshot 94 = .ok (.ifCond .eq 7, 3) := by decide +kernel
theorem d_M_writeSnapshot_97 : decode b_M_writeSnapshot 97 = .ok (.iconst 5, 1) := by decide +kernel
theorem d_M_writeSnapshot_98 : decode b_M_writeSnapshot 98 = .ok (.goto 4, 3) := by decide +kernel
theorem d_M_writeSnapshot_101 : decode b_M_writeSnapshot 101 = .ok (.iconst 1, 1) := by decide +kernel
theorem d_M_writeSnapshot_102 : decode b_M_writeSnapshot 102 = .ok (.invokevirtual 59, 3) := by decide +kernel
theorem d_M_writeSnapshot_105 : decode b_M_writeSnapshot 105 = .ok (.ifCond .ne 15, 3) := by decide +kernel
theorem d_M_writeSnapshot_108 : decode b_M_writeSnapshot 108 = .ok (.aload_n 0, 1) := by decide +kernel
theorem d_M_writeSnapshot_109 : decode b_M_writeSnapshot 109 = .ok (.iconst (-1), 1) := by decide +kernel
theorem d_M_writeSnapshot_110 : decode b_M_writeSnapshot 110 = .ok (.putfield 7, 3) := by decide +kernel
theorem d_M_writeSnapshot_113 : decode b_M_writeSnapshot 113 = .ok (.aload_n 0, 1) := by decide +kernel
theorem d_M_writeSnapshot_114 : decode b_M_writeSnapshot 114 = .ok (.iconst 4, 1) := by decide +kernel
theorem d_M_writeSnapshot_115 : decode b_M_writeSnapshot 115 = .ok (.putfield 27, 3) := by decide +kernel
theorem d_M_writeSnapshot_118 : decode b_M_writeSnapshot 118 = .ok (.iconst 0, 1) := by decide +kernel
theorem d_M_writeSnapshot_119 : decode b_M_writeSnapshot 119 = .ok (.ireturn, 1) := by decide +kernel
theorem d_M_writeSnapshot_120 : decode b_M_writeSnapshot 120 = .ok (.aload_n 0, 1) := by decide +kernel
theorem d_M_writeSnapshot_121 : decode b_M_writeSnapshot 121 = .ok (.getfield 24, 3) := by decide +kernel
theorem d_M_writeSnapshot_124 : decode b_M_writeSnapshot 124 = .ok (.bipush 6, 2) := by decide +kernel
theorem d_M_writeSnapshot_126 : decode b_M_writeSnapshot 126 = .ok (.iload_n 1, 1) := by decide +kernel
theorem d_M_writeSnapshot_127 : decode b_M_writeSnapshot 127 = .ok (.imul, 1) := by decide +kernel
theorem d_M_writeSnapshot_128 : decode b_M_writeSnapshot 128 = .ok (.iload_n 2, 1) := by decide +kernel
theorem d_M_writeSnapshot_129 : decode b_M_writeSnapshot 129 = .ok (.iadd, 1) := by decide +kernel
theorem d_M_writeSnapshot_130 : decode b_M_writeSnapshot 130 = .ok (.iload 5, 2) := by decide +kernel
theorem d_M_writeSnapshot_132 : decode b_M_writeSnapshot 132 = .ok (.ifCond .eq 10, 3) := by decide +kernel
theorem d_M_writeSnapshot_135 : decode b_M_writeSnapshot 135 = .ok (.aload_n 0, 1) := by decide +kernel
theorem d_M_writeSnapshot_136 : decode b_M_writeSnapshot 136 = .ok (.invokevirtual 44, 3) := by decide +kernel
theorem d_M_writeSnapshot_139 : decode b_M_writeSnapshot 139 = .ok (.goto 14, 3) := by decide +kernel
theorem d_M_writeSnapshot_142 : decode b_M_writeSnapshot 142 = .ok (.aload_n 0, 1) := by decide +kernel
theorem d_M_writeSnapshot_143 : decode b_M_writeSnapshot 143 = .ok (.getfield 24, 3) := by decide +kernel
theorem d_M_writeSnapshot_146 : decode b_M_writeSnapshot 146 = .ok (.bipush 6, 2) := by decide +kernel
theorem d_M_writeSnapshot_148 : decode b_M_writeSnapshot 148 = .ok (.iload_n 1, 1) := by decide +kernel
theorem d_M_writeSnapshot_149 : decode b_M_writeSnapshot 149 = .ok (.imul, 1) := by decide +kernel
theorem d_M_writeSnapshot_150 : decode b_M_writeSnapshot 150 = .ok (.iload_n 2, 1) := by decide +kernel
theorem d_M_writeSnapshot_151 : decode b_M_writeSnapshot 151 = .ok (.iadd, 1) := by decide +kernel
theorem d_M_writeSnapshot_152 : decode b_M_writeSnapshot 152 = .ok (.iaload, 1) := by decide +kernel
theorem d_M_writeSnapshot_153 : decode b_M_writeSnapshot 153 = .ok (.iastore, 1) := by decide +kernel
theorem d_M_writeSnapshot_154 : decode b_M_writeSnapshot 154 = .ok (.aload_n 0, 1) := by decide +kernel
theorem d_M_writeSnapshot_155 : decode b_M_writeSnapshot 155 = .ok (.getfield 17, 3) := by decide +kernel
theorem d_M_writeSnapshot_158 : decode b_M_writeSnapshot 158 = .ok (.bipush 24, 2) := by decide +kernel
theorem d_M_writeSnapshot_160 : decode b_M_writeSnapshot 160 = .ok (.iload_n 1, 1) := by decide +kernel
theorem d_M_writeSnapshot_161 : decode b_M_writeSnapshot 161 = .ok (.imul, 1) := by decide +kernel
theorem d_M_writeSnapshot_162 : decode b_M_writeSnapshot 162 = .ok (.iconst 4, 1) := by decide +kernel
theorem d_M_writeSnapshot_163 : decode b_M_writeSnapshot 163 = .ok (.iload_n 2, 1) := by decide +kernel
theorem d_M_writeSnapshot_164 : decode b_M_writeSnapshot 164 = .ok (.imul, 1) := by decide +kernel
theorem d_M_writeSnapshot_165 : decode b_M_writeSnapshot 165 = .ok (.iadd, 1) := by decide +kernel
theorem d_M_writeSnapshot_166 : decode b_M_writeSnapshot 166 = .ok (.iload_n 3, 1) := by decide +kernel
theorem d_M_writeSnapshot_167 : decode b_M_writeSnapshot 167 = .ok (.iadd, 1) := by decide +kernel
theorem d_M_writeSnapshot_168 : decode b_M_writeSnapshot 168 = .ok (.iload 4, 2) := by decide +kernel
theorem d_M_writeSnapshot_170 : decode b_M_writeSnapshot 170 = .ok (.iastore, 1) := by decide +kernel
theorem d_M_writeSnapshot_171 : decode b_M_writeSnapshot 171 = .ok (.iload 5, 2) := by decide +kernel
theorem d_M_writeSnapshot_173 : decode b_M_writeSnapshot 173 = .ok (.ireturn, 1) := by decide +kernel
theorem d_M_has_0 : decode b_M_has 0 = .ok (.aload_n 0, 1) := by decide +kernel
theorem d_M_has_1 : decode b_M_has 1 = .ok (.getfield 24, 3) := by decide +kernel
theorem d_M_has_4 : decode b_M_has 4 = .ok (.bipush 6, 2) := by decide +kernel
theorem d_M_has_6 : decode b_M_has 6 = .ok (.iload_n 1, 1) := by decide +kernel
theorem d_M_has_7 : decode b_M_has 7 = .ok (.imul, 1) := by decide +kernel
theorem d_M_has_8 : decode b_M_has 8 = .ok (.iload_n 2, 1) := by decide +kernel
theorem d_M_has_9 : decode b_M_has 9 = .ok (.iadd, 1) := by decide +kernel
theorem d_M_has_10 : decode b_M_has 10 = .ok (.iaload, 1) := by decide +kernel
theorem d_M_has_11 : decode b_M_has 11 = .ok (.ifCond .le 7, 3) := by decide +kernel
theorem d_M_has_14 : decode b_M_has 14 = .ok (.iconst 1, 1) := by decide +kernel
theorem d_M_has_15 : decode b_M_has 15 = .ok (.goto 4, 3) := by decide +kernel
theorem d_M_has_18 : decode b_M_has 18 = .ok (.iconst 0, 1) := by decide +kernel
theorem d_M_has_19 : decode b_M_has 19 = .ok (.ireturn, 1) := by decide +kernel
theorem d_M_writesFrom_0 : decode b_M_writesFrom 0 = .ok (.iconst 0, 1) := by decide +kernel
theorem d_M_writesFrom_1 : decode b_M_writesFrom 1 = .ok (.istore_n 3, 1) := by decide +kernel
theorem d_M_writesFrom_2 : decode b_M_writesFrom 2 = .ok (.iload_n 2, 1) := by decide +kernel
theorem d_M_writesFrom_3 : decode b_M_writesFrom 3 = .ok (.istore 4, 2) := by decide +kernel
theorem d_M_writesFrom_5 : decode b_M_writesFrom 5 = .ok (.iload 4, 2) := by decide +kernel
theorem d_M_writesFrom_7 : decode b_M_writesFrom 7 = .ok (.bipush 6, 2) := by decide +kernel
theorem d_M_writesFrom_9 : decode b_M_writesFrom 9 = .ok (.if_icmp .ge 37, 3) := by decide +kernel
theorem d_M_writesFrom_12 : decode b_M_writesFrom 12 = .ok (.aload_n 0, 1) := by decide +kernel
theorem d_M_writesFrom_13 : decode b_M_writesFrom 13 = .ok (.iload_n 1, 1) := by decide +kernel
theorem d_M_writesFrom_14 : decode b_M_writesFrom 14 = .ok (.iload 4, 2) := by decide +kernel
theorem d_M_writesFrom_16 : decode b_M_writesFrom 16 = .ok (.invokevirtual 73, 3) := by decide +kernel
theorem d_M_writesFrom_19 : decode b_M_writesFrom 19 = .ok (.ifCond .eq 19, 3) := by decide +kernel
theorem d_M_writesFrom_22 : decode b_M_writesFrom 22 = .ok (.iload_n 3, 1) := by decide +kernel
theorem d_M_writesFrom_23 : decode b_M_writesFrom 23 = .ok (.iconst 5, 1) := by decide +kernel
theorem d_M_writesFrom_24 : decode b_M_writesFrom 24 = .ok (.aload_n 0, 1) := by decide +kernel
theorem d_M_writesFrom_25 : decode b_M_writesFrom 25 = .ok (.iload 4, 2) := by decide +kernel
theorem d_M_writesFrom_27 : decode b_M_writesFrom 27 = .ok (.iload_n 1, 1) := by decide +kernel
theorem d_M_writesFrom_28 : decode b_M_writesFrom 28 = .ok (.invokevirtual 52, 3) := by decide +kernel
theorem d_M_writesFrom_31 : decode b_M_writesFrom 31 = .ok (.imul, 1) := by decide +kernel
theorem d_M_writesFrom_32 : decode b_M_writesFrom 32 = .ok (.iadd, 1) := by decide +kernel
theorem d_M_writesFrom_33 : decode b_M_writesFrom 33 = .ok (.iconst 5, 1) := by decide +kernel
theorem d_M_writesFrom_34 : decode b_M_writesFrom 34 = .ok (.iadd, 1) := by decide +kernel
theorem d_M_writesFrom_35 : decode b_M_writesFrom 35 = .ok (.goto 4, 3) := by decide +kernel
theorem d_M_writesFrom_38 : decode b_M_writesFrom 38 = .ok (.iload_n 3, 1) := by decide +kernel
theorem d_M_writesFrom_39 : decode b_M_writesFrom 39 = .ok (.istore_n 3, 1) := by decide +kernel
theorem d_M_writesFrom_40 : decode b_M_writesFrom 40 = .ok (.iinc 4 1, 3) := by decide +kernel
theorem d_M_writesFrom_43 : decode b_M_writesFrom 43 = .ok (.goto (-38), 3) := by decide +kernel
theorem d_M_writesFrom_46 : decode b_M_writesFrom 46 = .ok (.iload_n 3, 1) := by decide +kernel
theorem d_M_writesFrom_47 : decode b_M_writesFrom 47 = .ok (.ireturn, 1) := by decide +kernel
theorem d_M_restore_0 : decode b_M_restore 0 = .ok (.aload_n 0, 1) := by decide +kernel
theorem d_M_restore_1 : decode b_M_restore 1 = .ok (.iload_n 2, 1) := by decide +kernel
theorem d_M_restore_2 : decode b_M_restore 2 = .ok (.iload_n 1, 1) := by decide +kernel
theorem d_M_restore_3 : decode b_M_restore 3 = .ok (.iconst 3, 1) := by decide +kernel
theorem d_M_restore_4 : decode b_M_restore 4 = .ok (.invokevirtual 63, 3) := by decide +kernel
theorem d_M_restore_7 : decode b_M_restore 7 = .ok (.iconst 0, 1) := by decide +kernel
theorem d_M_restore_8 : decode b_M_restore 8 = .ok (.istore_n 3, 1) := by decide +kernel
theorem d_M_restore_9 : decode b_M_restore 9 = .ok (.iload_n 3, 1) := by decide +kernel
theorem d_M_restore_10 : decode b_M_restore 10 = .ok (.iconst 4, 1) := by decide +kernel
theorem d_M_restore_11 : decode b_M_restore 11 = .ok (.if_icmp .ge 34, 3) := by decide +kernel
theorem d_M_restore_14 : decode b_M_restore 14 = .ok (.aload_n 0, 1) := by decide +kernel
theorem d_M_restore_15 : decode b_M_restore 15 = .ok (.getfield 13, 3) := by decide +kernel
theorem d_M_restore_18 : decode b_M_restore 18 = .ok (.iconst 4, 1) := by decide +kernel
theorem d_M_restore_19 : decode b_M_restore 19 = .ok (.iload_n 2, 1) := by decide +kernel
theorem d_M_restore_20 : decode b_M_restore 20 = .ok (.imul, 1) := by decide +kernel
theorem d_M_restore_21 : decode b_M_restore 21 = .ok (.iload_n 3, 1) := by decide +kernel
theorem d_M_restore_22 : decode b_M_restore 22 = .ok (.iadd, 1) := by decide +kernel
theorem d_M_restore_23 : decode b_M_restore 23 = .ok (.aload_n 0, 1) := by decide +kernel
theorem d_M_restore_24 : decode b_M_restore 24 = .ok (.getfield 17, 3) := by decide +kernel
theorem d_M_restore_27 : decode b_M_restore 27 = .ok (.bipush 24, 2) := by decide +kernel
theorem d_M_restore_29 : decode b_M_restore 29 = .ok (.iload_n 1, 1) := by decide +kernel
theorem d_M_restore_30 : decode b_M_restore 30 = .ok (.imul, 1) := by decide +kernel
theorem d_M_restore_31 : decode b_M_restore 31 = .ok (.iconst 4, 1) := by decide +kernel
theorem d_M_restore_32 : decode b_M_restore 32 = .ok (.iload_n 2, 1) := by decide +kernel
theorem d_M_restore_33 : decode b_M_restore 33 = .ok (.imul, 1) := by decide +kernel
theorem d_M_restore_34 : decode b_M_restore 34 = .ok (.iadd, 1) := by decide +kernel
theorem d_M_restore_35 : decode b_M_restore 35 = .ok (.iload_n 3, 1) := by decide +kernel
theorem d_M_restore_36 : decode b_M_restore 36 = .ok (.iadd, 1) := by decide +kernel
theorem d_M_restore_37 : decode b_M_restore 37 = .ok (.iaload, 1) := by decide +kernel
theorem d_M_restore_38 : decode b_M_restore 38 = .ok (.iastore, 1) := by decide +kernel
theorem d_M_restore_39 : decode b_M_restore 39 = .ok (.iinc 3 1, 3) := by decide +kernel
theorem d_M_restore_42 : decode b_M_restore 42 = .ok (.goto (-33), 3) := by decide +kernel
theorem d_M_restore_45 : decode b_M_restore 45 = .ok (.return_, 1) := by decide +kernel
theorem d_M_restoreFrom_0 : decode b_M_restoreFrom 0 = .ok (.iconst 0, 1) := by decide +kernel
theorem d_M_restoreFrom_1 : decode b_M_restoreFrom 1 = .ok (.istore_n 3, 1) := by decide +kernel
theorem d_M_restoreFrom_2 : decode b_M_restoreFrom 2 = .ok (.iload_n 2, 1) := by decide +kernel
theorem d_M_restoreFrom_3 : decode b_M_restoreFrom 3 = .ok (.istore 4, 2) := by decide +kernel
theorem d_M_restoreFrom_5 : decode b_M_restoreFrom 5 = .ok (.iload 4, 2) := by decide +kernel
theorem d_M_restoreFrom_7 : decode b_M_restoreFrom 7 = .ok (.bipush 6, 2) := by decide +kernel
theorem d_M_restoreFrom_9 : decode b_M_restoreFrom 9 = .ok (.if_icmp .ge 29, 3) := by decide +kernel
theorem d_M_restoreFrom_12 : decode b_M_restoreFrom 12 = .ok (.aload_n 0, 1) := by decide +kernel
theorem d_M_restoreFrom_13 : decode b_M_restoreFrom 13 = .ok (.iload_n 1, 1) := by decide +kernel
theorem d_M_restoreFrom_14 : decode b_M_restoreFrom 14 = .ok (.iload 4, 2) := by decide +kernel
theorem d_M_restoreFrom_16 : decode b_M_restoreFrom 16 = .ok (.invokevirtual 73, 3) := by decide +kernel
theorem d_M_restoreFrom_19 : decode b_M_restoreFrom 19 = .ok (.ifCond .eq 13, 3) := by decide +kernel
theorem d_M_restoreFrom_22 : decode b_M_restoreFrom 22 = .ok (.aload_n 0, 1) := by decide +kernel
theorem d_M_restoreFrom_23 : decode b_M_restoreFrom 23 = .ok (.iload_n 1, 1) := by decide +kernel
theorem d_M_restoreFrom_24 : decode b_M_restoreFrom 24 = .ok (.iload 4, 2) := by decide +kernel
theorem d_M_restoreFrom_26 : decode b_M_restoreFrom 26 = .ok (.invokevirtual 76, 3) := by decide +kernel
theorem d_M_restoreFrom_29 : decode b_M_restoreFrom 29 = .ok (.iinc 3 1, 3) := by decide +kernel
theorem d_M_restoreFrom_32 : decode b_M_restoreFrom 32 = .ok (.iinc 4 1, 3) := by decide +kernel
theorem d_M_restoreFrom_35 : decode b_M_restoreFrom 35 = .ok (.goto (-30), 3) := by decide +kernel
theorem d_M_restoreFrom_38 : decode b_M_restoreFrom 38 = .ok (.iload_n 3, 1) := by decide +kernel
theorem d_M_restoreFrom_39 : decode b_M_restoreFrom 39 = .ok (.ireturn, 1) := by decide +kernel
theorem d_M_rollback_0 : decode b_M_rollback 0 = .ok (.aload_n 0, 1) := by decide +kernel
theorem d_M_rollback_1 : decode b_M_rollback 1 = .ok (.aload_n 0, 1) := by decide +kernel
theorem d_M_rollback_2 : decode b_M_rollback 2 = .ok (.getfield 33, 3) := by decide +kernel
theorem d_M_rollback_5 : decode b_M_rollback 5 = .ok (.ifCond .eq 7, 3) := by decide +kernel
theorem d_M_rollback_8 : decode b_M_rollback 8 = .ok (.iconst 3, 1) := by decide +kernel
theorem d_M_rollback_9 : decode b_M_rollback 9 = .ok (.goto 16, 3) := by decide +kernel
theorem d_M_rollback_12 : decode b_M_rollback 12 = .ok (.aload_n 0, 1) := by decide +kernel
theorem d_M_rollback_13 : decode b_M_rollback 13 = .ok (.iload_n 1, 1) := by decide +kernel
theorem d_M_rollback_14 : decode b_M_rollback 14 = .ok (.invokevirtual 70, 3) := by decide +kernel
theorem d_M_rollback_17 : decode b_M_rollback 17 = .ok (.ifCond .eq 7, 3) := by decide +kernel
theorem d_M_rollback_20 : decode b_M_rollback 20 = .ok (.iconst 0, 1) := by decide +kernel
theorem d_M_rollback_21 : decode b_M_rollback 21 = .ok (.goto 4, 3) := by decide +kernel
theorem d_M_rollback_24 : decode b_M_rollback 24 = .ok (.iconst 1, 1) := by decide +kernel
theorem d_M_rollback_25 : decode b_M_rollback 25 = .ok (.putfield 27, 3) := by decide +kernel
theorem d_M_rollback_28 : decode b_M_rollback 28 = .ok (.aload_n 0, 1) := by decide +kernel
theorem d_M_rollback_29 : decode b_M_rollback 29 = .ok (.getfield 27, 3) := by decide +kernel
theorem d_M_rollback_32 : decode b_M_rollback 32 = .ok (.ifCond .le 5, 3) := by decide +kernel
theorem d_M_rollback_35 : decode b_M_rollback 35 = .ok (.iconst 0, 1) := by decide +kernel
theorem d_M_rollback_36 : decode b_M_rollback 36 = .ok (.ireturn, 1) := by decide +kernel
theorem d_M_rollback_37 : decode b_M_rollback 37 = .ok (.iconst 0, 1) := by decide +kernel
theorem d_M_rollback_38 : decode b_M_rollback 38 = .ok (.istore_n 2, 1) := by decide +kernel
theorem d_M_rollback_39 : decode b_M_rollback 39 = .ok (.iconst 0, 1) := by decide +kernel
theorem d_M_rollback_40 : decode b_M_rollback 40 = .ok (.istore_n 3, 1) := by decide +kernel
theorem d_M_rollback_41 : decode b_M_rollback 41 = .ok (.iload_n 3, 1) := by decide +kernel
theorem d_M_rollback_42 : decode b_M_rollback 42 = .ok (.bipush 6, 2) := by decide +kernel
theorem d_M_rollback_44 : decode b_M_rollback 44 = .ok (.if_icmp .ge 31, 3) := by decide +kernel
theorem d_M_rollback_47 : decode b_M_rollback 47 = .ok (.aload_n 0, 1) := by decide +kernel
theorem d_M_rollback_48 : decode b_M_rollback 48 = .ok (.iload_n 1, 1) := by decide +kernel
theorem d_M_rollback_49 : decode b_M_rollback 49 = .ok (.iload_n 3, 1) := by decide +kernel
theorem d_M_rollback_50 : decode b_M_rollback 50 = .ok (.invokevirtual 73, 3) := by decide +kernel
theorem d_M_rollback_53 : decode b_M_rollback 53 = .ok (.ifCond .eq 14, 3) := by decide +kernel
theorem d_M_rollback_56 : decode b_M_rollback 56 = .ok (.iload_n 2, 1) := by decide +kernel
theorem d_M_rollback_57 : decode b_M_rollback 57 = .ok (.aload_n 0, 1) := by decide +kernel
theorem d_M_rollback_58 : decode b_M_rollback 58 = .ok (.iload_n 3, 1) := by decide +kernel
theorem d_M_rollback_59 : decode b_M_rollback 59 = .ok (.iload_n 1, 1) := by decide +kernel
theorem d_M_rollback_60 : decode b_M_rollback 60 = .ok (.invokevirtual 52, 3) := by decide +kernel
theorem d_M_rollback_63 : decode b_M_rollback 63 = .ok (.iadd, 1) := by decide +kernel
theorem d_M_rollback_64 : decode b_M_rollback 64 = .ok (.goto 4, 3) := by decide +kernel
theorem d_M_rollback_67 : decode b_M_rollback 67 = .ok (.iload_n 2, 1) := by decide +kernel
theorem d_M_rollback_68 : decode b_M_rollback 68 = .ok (.istore_n 2, 1) := by decide +kernel
theorem d_M_rollback_69 : decode b_M_rollback 69 = .ok (.iinc 3 1, 3) := by decide +kernel
theorem d_M_rollback_72 : decode b_M_rollback 72 = .ok (.goto (-31), 3) := by decide +kernel
theorem d_M_rollback_75 : decode b_M_rollback 75 = .ok (.iload_n 2, 1) := by decide +kernel
theorem d_M_rollback_76 : decode b_M_rollback 76 = .ok (.bipush 9, 2) := by decide +kernel
theorem d_M_rollback_78 : decode b_M_rollback 78 = .ok (.aload_n 0, 1) := by decide +kernel
theorem d_M_rollback_79 : decode b_M_rollback 79 = .ok (.invokevirtual 56, 3) := by decide +kernel
theorem d_M_rollback_82 : decode b_M_rollback 82 = .ok (.isub, 1) := by decide +kernel
theorem d_M_rollback_83 : decode b_M_rollback 83 = .ok (.if_icmp .le 10, 3) := by decide +kernel
theorem d_M_rollback_86 : decode b_M_rollback 86 = .ok (.aload_n 0, 1) := by decide +kernel
theorem d_M_rollback_87 : decode b_M_rollback 87 = .ok (.iconst 2, 1) := by decide +kernel
theorem d_M_rollback_88 : decode b_M_rollback 88 = .ok (.putfield 27, 3) := by decide +kernel
theorem d_M_rollback_91 : decode b_M_rollback 91 = .ok (.iconst 0, 1) := by decide +kernel
theorem d_M_rollback_92 : decode b_M_rollback 92 = .ok (.ireturn, 1) := by decide +kernel
theorem d_M_rollback_93 : decode b_M_rollback 93 = .ok (.aload_n 0, 1) := by decide +kernel
theorem d_M_rollback_94 : decode b_M_rollback 94 = .ok (.iconst 3, 1) := by decide +kernel
theorem d_M_rollback_95 : decode b_M_rollback 95 = .ok (.aload_n 0, 1) := by decide +kernel
theorem d_M_rollback_96 : decode b_M_rollback 96 = .ok (.iload_n 1, 1) := by decide +kernel
theorem d_M_rollback_97 : decode b_M_rollback 97 = .ok (.iconst 0, 1) := by decide +kernel
theorem d_M_rollback_98 : decode b_M_rollback 98 = .ok (.invokevirtual 80, 3) := by decide +kernel
theorem d_M_rollback_101 : decode b_M_rollback 101 = .ok (.iadd, 1) := by decide +kernel
theorem d_M_rollback_102 : decode b_M_rollback 102 = .ok (.invokevirtual 59, 3) := by decide +kernel
theorem d_M_rollback_105 : decode b_M_rollback 105 = .ok (.ifCond .eq 10, 3) := by decide +kernel
theorem d_M_rollback_108 : decode b_M_rollback 108 = .ok (.aload_n 0, 1) := by decide +kernel
theorem d_M_rollback_109 : decode b_M_rollback 109 = .ok (.iload_n 1, 1) := by decide +kernel
theorem d_M_rollback_110 : decode b_M_rollback 110 = .ok (.iconst 0, 1) := by decide +kernel
theorem d_M_rollback_111 : decode b_M_rollback 111 = .ok (.invokevirtual 83, 3) := by decide +kernel
theorem d_M_rollback_114 : decode b_M_rollback 114 = .ok (.ireturn, 1) := by decide +kernel
theorem d_M_rollback_115 : decode b_M_rollback 115 = .ok (.aload_n 0, 1) := by decide +kernel
theorem d_M_rollback_116 : decode b_M_rollback 116 = .ok (.iconst 3, 1) := by decide +kernel
theorem d_M_rollback_117 : decode b_M_rollback 117 = .ok (.putfield 27, 3) := by decide +kernel
theorem d_M_rollback_120 : decode b_M_rollback 120 = .ok (.aload_n 0, 1) := by decide +kernel
theorem d_M_rollback_121 : decode b_M_rollback 121 = .ok (.invokevirtual 67, 3) := by decide +kernel
theorem d_M_rollback_124 : decode b_M_rollback 124 = .ok (.iconst 2, 1) := by decide +kernel
theorem d_M_rollback_125 : decode b_M_rollback 125 = .ok (.isub, 1) := by decide +kernel
theorem d_M_rollback_126 : decode b_M_rollback 126 = .ok (.istore_n 3, 1) := by decide +kernel
theorem d_M_rollback_127 : decode b_M_rollback 127 = .ok (.iload_n 3, 1) := by decide +kernel
theorem d_M_rollback_128 : decode b_M_rollback 128 = .ok (.ifCond .ge 5, 3) := by decide +kernel
theorem d_M_rollback_131 : decode b_M_rollback 131 = .ok (.iconst 0, 1) := by decide +kernel
theorem d_M_rollback_132 : decode b_M_rollback 132 = .ok (.ireturn, 1) := by decide +kernel
theorem d_M_rollback_133 : decode b_M_rollback 133 = .ok (.aload_n 0, 1) := by decide +kernel
theorem d_M_rollback_134 : decode b_M_rollback 134 = .ok (.iconst 1, 1) := by decide +kernel
theorem d_M_rollback_135 : decode b_M_rollback 135 = .ok (.iload_n 1, 1) := by decide +kernel
theorem d_M_rollback_136 : decode b_M_rollback 136 = .ok (.iadd, 1) := by decide +kernel
theorem d_M_rollback_137 : decode b_M_rollback 137 = .ok (.putfield 30, 3) := by decide +kernel
theorem d_M_rollback_140 : decode b_M_rollback 140 = .ok (.aload_n 0, 1) := by decide +kernel
theorem d_M_rollback_141 : decode b_M_rollback 141 = .ok (.iconst 0, 1) := by decide +kernel
theorem d_M_rollback_142 : decode b_M_rollback 142 = .ok (.putfield 86, 3) := by decide +kernel
theorem d_M_rollback_145 : decode b_M_rollback 145 = .ok (.iconst 1, 1) := by decide +kernel
theorem d_M_rollback_146 : decode b_M_rollback 146 = .ok (.istore 4, 2) := by decide +kernel
theorem d_M_rollback_148 : decode b_M_rollback 148 = .ok (.iconst 0, 1) := by decide +kernel
theorem d_M_rollback_149 : decode b_M_rollback 149 = .ok (.istore 5, 2) := by decide +kernel
theorem d_M_rollback_151 : decode b_M_rollback 151 = .ok (.iload 5, 2) := by decide +kernel
theorem d_M_rollback_153 : decode b_M_rollback 153 = .ok (.bipush 6, 2) := by decide +kernel
theorem d_M_rollback_155 : decode b_M_rollback 155 = .ok (.if_icmp .ge 105, 3) := by decide +kernel
theorem d_M_rollback_158 : decode b_M_rollback 158 = .ok (.iload 4, 2) := by decide +kernel
theorem d_M_rollback_160 : decode b_M_rollback 160 = .ok (.ifCond .eq 100, 3) := by decide +kernel
theorem d_M_rollback_163 : decode b_M_rollback 163 = .ok (.aload_n 0, 1) := by decide +kernel
theorem d_M_rollback_164 : decode b_M_rollback 164 = .ok (.iload_n 1, 1) := by decide +kernel
theorem d_M_rollback_165 : decode b_M_rollback 165 = .ok (.iload 5, 2) := by decide +kernel
theorem d_M_rollback_167 : decode b_M_rollback 167 = .ok (.invokevirtual 73, 3) := by decide +kernel
theorem d_M_rollback_170 : decode b_M_rollback 170 = .ok (.ifCond .eq 84, 3) := by decide +kernel
theorem d_M_rollback_173 : decode b_M_rollback 173 = .ok (.aload_n 0, 1) := by decide +kernel
theorem d_M_rollback_174 : decode b_M_rollback 174 = .ok (.iload 5, 2) := by decide +kernel
theorem d_M_rollback_176 : decode b_M_rollback 176 = .ok (.iload_n 1, 1) := by decide +kernel
theorem d_M_rollback_177 : decode b_M_rollback 177 = .ok (.invokevirtual 52, 3) := by decide +kernel
theorem d_M_rollback_180 : decode b_M_rollback 180 = .ok (.istore 6, 2) := by decide +kernel
theorem d_M_rollback_182 : decode b_M_rollback 182 = .ok (.iload_n 3, 1) := by decide +kernel
theorem d_M_rollback_183 : decode b_M_rollback 183 = .ok (.iconst 5, 1) := by decide +kernel
theorem d_M_rollback_184 : decode b_M_rollback 184 = .ok (.iload 6, 2) := by decide +kernel
theorem d_M_rollback_186 : decode b_M_rollback 186 = .ok (.imul, 1) := by decide +kernel
theorem d_M_rollback_187 : decode b_M_rollback 187 = .ok (.iconst 5, 1) := by decide +kernel
theorem d_M_rollback_188 : decode b_M_rollback 188 = .ok (.iadd, 1) := by decide +kernel
theorem d_M_rollback_189 : decode b_M_rollback 189 = .ok (.if_icmp .lt 7, 3) := by decide +kernel
theorem d_M_rollback_192 : decode b_M_rollback 192 = .ok (.iconst 1, 1) := by decide +kernel
theorem d_M_rollback_193 : decode b_M_rollback 193 = .ok (.goto 4, 3) := by decide +kernel
theorem d_M_rollback_196 : decode b_M_rollback 196 = .ok (.iconst 0, 1) := by decide +kernel
theorem d_M_rollback_197 : decode b_M_rollback 197 = .ok (.istore 4, 2) := by decide +kernel
theorem d_M_rollback_199 : decode b_M_rollback 199 = .ok (.iload 4, 2) := by decide +kernel
theorem d_M_rollback_201 : decode b_M_rollback 201 = .ok (.ifCond .eq 30, 3) := by decide +kernel
theorem d_M_rollback_204 : decode b_M_rollback 204 = .ok (.aload_n 0, 1) := by decide +kernel
theorem d_M_rollback_205 : decode b_M_rollback 205 = .ok (.iload_n 1, 1) := by decide +kernel
theorem d_M_rollback_206 : decode b_M_rollback 206 = .ok (.iload 5, 2) := by decide +kernel
theorem d_M_rollback_208 : decode b_M_rollback 208 = .ok (.invokevirtual 76, 3) := by decide +kernel
theorem d_M_rollback_211 : decode b_M_rollback 211 = .ok (.iload_n 3, 1) := by decide +kernel
theorem d_M_rollback_212 : decode b_M_rollback 212 = .ok (.iconst 5, 1) := by decide +kernel
theorem d_M_rollback_213 : decode b_M_rollback 213 = .ok (.iload 6, 2) := by decide +kernel
theorem d_M_rollback_215 : decode b_M_rollback 215 = .ok (.imul, 1) := by decide +kernel
theorem d_M_rollback_216 : decode b_M_rollback 216 = .ok (.isub, 1) := by decide +kernel
theorem d_M_rollback_217 : decode b_M_rollback 217 = .ok (.iconst 5, 1) := by decide +kernel
theorem d_M_rollback_218 : decode b_M_rollback 218 = .ok (.isub, 1) := by decide +kernel
theorem d_M_rollback_219 : decode b_M_rollback 219 = .ok (.istore_n 3, 1) := by decide +kernel
theorem d_M_rollback_220 : decode b_M_rollback 220 = .ok (.aload_n 0, 1) := by decide +kernel
theorem d_M_rollback_221 : decode b_M_rollback 221 = .ok (.iload 5, 2) := by decide +kernel
theorem d_M_rollback_223 : decode b_M_rollback 223 = .ok (.iconst 1, 1) := by decide +kernel
theorem d_M_rollback_224 : decode b_M_rollback 224 = .ok (.iadd, 1) := by decide +kernel
theorem d_M_rollback_225 : decode b_M_rollback 225 = .ok (.putfield 86, 3) := by decide +kernel
theorem d_M_rollback_228 : decode b_M_rollback 228 = .ok (.goto 26, 3) := by decide +kernel
theorem d_M_rollback_231 : decode b_M_rollback 231 = .ok (.aload_n 0, 1) := by decide +kernel
theorem d_M_rollback_232 : decode b_M_rollback 232 = .ok (.iload 5, 2) := by decide +kernel
end
section
theorem d_M_rollback_234 : decode b_M_rollback 234 = .ok (.iload_n 1, 1) := by decide +kernel
theorem d_M_rollback_235 : decode b_M_rollback 235 = .ok (.iload_n 3, 1) := by decide +kernel
theorem d_M_rollback_236 : decode b_M_rollback 236 = .ok (.iconst 5, 1) := by decide +kernel
theorem d_M_rollback_237 : decode b_M_rollback 237 = .ok (.idiv, 1) := by decide +kernel
theorem d_M_rollback_238 : decode b_M_rollback 238 = .ok (.iload 6, 2) := by decide +kernel
theorem d_M_rollback_240 : decode b_M_rollback 240 = .ok (.if_icmp .ge 9, 3) := by decide +kernel
theorem d_M_rollback_243 : decode b_M_rollback 243 = .ok (.iload_n 3, 1) := by decide +kernel
theorem d_M_rollback_244 : decode b_M_rollback 244 = .ok (.iconst 5, 1) := by decide +kernel
theorem d_M_rollback_245 : decode b_M_rollback 245 = .ok (.idiv, 1) := by decide +kernel
theorem d_M_rollback_246 : decode b_M_rollback 246 = .ok (.goto 5, 3) := by decide +kernel
theorem d_M_rollback_249 : decode b_M_rollback 249 = .ok (.iload 6, 2) := by decide +kernel
theorem d_M_rollback_251 : decode b_M_rollback 251 = .ok (.invokevirtual 63, 3) := by decide +kernel
theorem d_M_rollback_254 : decode b_M_rollback 254 = .ok (.iinc 5 1, 3) := by decide +kernel
theorem d_M_rollback_257 : decode b_M_rollback 257 = .ok (.goto (-106), 3) := by decide +kernel
theorem d_M_rollback_260 : decode b_M_rollback 260 = .ok (.iconst 0, 1) := by decide +kernel
theorem d_M_rollback_261 : decode b_M_rollback 261 = .ok (.ireturn, 1) := by decide +kernel
theorem d_M_recover_0 : decode b_M_recover 0 = .ok (.aload_n 0, 1) := by decide +kernel
theorem d_M_recover_1 : decode b_M_recover 1 = .ok (.aload_n 0, 1) := by decide +kernel
theorem d_M_recover_2 : decode b_M_recover 2 = .ok (.getfield 33, 3) := by decide +kernel
theorem d_M_recover_5 : decode b_M_recover 5 = .ok (.ifCond .eq 7, 3) := by decide +kernel
theorem d_M_recover_8 : decode b_M_recover 8 = .ok (.iconst 0, 1) := by decide +kernel
theorem d_M_recover_9 : decode b_M_recover 9 = .ok (.goto 4, 3) := by decide +kernel
theorem d_M_recover_12 : decode b_M_recover 12 = .ok (.iconst 1, 1) := by decide +kernel
theorem d_M_recover_13 : decode b_M_recover 13 = .ok (.putfield 27, 3) := by decide +kernel
theorem d_M_recover_16 : decode b_M_recover 16 = .ok (.aload_n 0, 1) := by decide +kernel
theorem d_M_recover_17 : decode b_M_recover 17 = .ok (.getfield 27, 3) := by decide +kernel
theorem d_M_recover_20 : decode b_M_recover 20 = .ok (.ifCond .le 5, 3) := by decide +kernel
theorem d_M_recover_23 : decode b_M_recover 23 = .ok (.iconst 0, 1) := by decide +kernel
theorem d_M_recover_24 : decode b_M_recover 24 = .ok (.ireturn, 1) := by decide +kernel
theorem d_M_recover_25 : decode b_M_recover 25 = .ok (.aload_n 0, 1) := by decide +kernel
theorem d_M_recover_26 : decode b_M_recover 26 = .ok (.iconst 0, 1) := by decide +kernel
theorem d_M_recover_27 : decode b_M_recover 27 = .ok (.putfield 33, 3) := by decide +kernel
theorem d_M_recover_30 : decode b_M_recover 30 = .ok (.aload_n 0, 1) := by decide +kernel
theorem d_M_recover_31 : decode b_M_recover 31 = .ok (.getfield 30, 3) := by decide +kernel
theorem d_M_recover_34 : decode b_M_recover 34 = .ok (.ifCond .ne 5, 3) := by decide +kernel
theorem d_M_recover_37 : decode b_M_recover 37 = .ok (.iconst 0, 1) := by decide +kernel
theorem d_M_recover_38 : decode b_M_recover 38 = .ok (.ireturn, 1) := by decide +kernel
theorem d_M_recover_39 : decode b_M_recover 39 = .ok (.aload_n 0, 1) := by decide +kernel
theorem d_M_recover_40 : decode b_M_recover 40 = .ok (.getfield 30, 3) := by decide +kernel
theorem d_M_recover_43 : decode b_M_recover 43 = .ok (.iconst 1, 1) := by decide +kernel
theorem d_M_recover_44 : decode b_M_recover 44 = .ok (.isub, 1) := by decide +kernel
theorem d_M_recover_45 : decode b_M_recover 45 = .ok (.istore_n 1, 1) := by decide +kernel
theorem d_M_recover_46 : decode b_M_recover 46 = .ok (.aload_n 0, 1) := by decide +kernel
theorem d_M_recover_47 : decode b_M_recover 47 = .ok (.iconst 0, 1) := by decide +kernel
theorem d_M_recover_48 : decode b_M_recover 48 = .ok (.putfield 30, 3) := by decide +kernel
theorem d_M_recover_51 : decode b_M_recover 51 = .ok (.aload_n 0, 1) := by decide +kernel
theorem d_M_recover_52 : decode b_M_recover 52 = .ok (.aload_n 0, 1) := by decide +kernel
theorem d_M_recover_53 : decode b_M_recover 53 = .ok (.getfield 37, 3) := by decide +kernel
theorem d_M_recover_56 : decode b_M_recover 56 = .ok (.aload_n 0, 1) := by decide +kernel
theorem d_M_recover_57 : decode b_M_recover 57 = .ok (.iload_n 1, 1) := by decide +kernel
theorem d_M_recover_58 : decode b_M_recover 58 = .ok (.aload_n 0, 1) := by decide +kernel
theorem d_M_recover_59 : decode b_M_recover 59 = .ok (.getfield 86, 3) := by decide +kernel
theorem d_M_recover_62 : decode b_M_recover 62 = .ok (.invokevirtual 80, 3) := by decide +kernel
theorem d_M_recover_65 : decode b_M_recover 65 = .ok (.iadd, 1) := by decide +kernel
theorem d_M_recover_66 : decode b_M_recover 66 = .ok (.iconst 1, 1) := by decide +kernel
theorem d_M_recover_67 : decode b_M_recover 67 = .ok (.iadd, 1) := by decide +kernel
theorem d_M_recover_68 : decode b_M_recover 68 = .ok (.putfield 37, 3) := by decide +kernel
theorem d_M_recover_71 : decode b_M_recover 71 = .ok (.aload_n 0, 1) := by decide +kernel
theorem d_M_recover_72 : decode b_M_recover 72 = .ok (.iload_n 1, 1) := by decide +kernel
theorem d_M_recover_73 : decode b_M_recover 73 = .ok (.aload_n 0, 1) := by decide +kernel
theorem d_M_recover_74 : decode b_M_recover 74 = .ok (.getfield 86, 3) := by decide +kernel
theorem d_M_recover_77 : decode b_M_recover 77 = .ok (.invokevirtual 83, 3) := by decide +kernel
theorem d_M_recover_80 : decode b_M_recover 80 = .ok (.ireturn, 1) := by decide +kernel
theorem d_M_fuse_0 : decode b_M_fuse 0 = .ok (.aload_n 0, 1) := by decide +kernel
theorem d_M_fuse_1 : decode b_M_fuse 1 = .ok (.iconst 0, 1) := by decide +kernel
theorem d_M_fuse_2 : decode b_M_fuse 2 = .ok (.putfield 27, 3) := by decide +kernel
theorem d_M_fuse_5 : decode b_M_fuse 5 = .ok (.iload_n 1, 1) := by decide +kernel
theorem d_M_fuse_6 : decode b_M_fuse 6 = .ok (.iconst (-1), 1) := by decide +kernel
theorem d_M_fuse_7 : decode b_M_fuse 7 = .ok (.if_icmp .lt 10, 3) := by decide +kernel
theorem d_M_fuse_10 : decode b_M_fuse 10 = .ok (.aload_n 0, 1) := by decide +kernel
theorem d_M_fuse_11 : decode b_M_fuse 11 = .ok (.getfield 33, 3) := by decide +kernel
theorem d_M_fuse_14 : decode b_M_fuse 14 = .ok (.ifCond .eq 5, 3) := by decide +kernel
theorem d_M_fuse_17 : decode b_M_fuse 17 = .ok (.iconst 0, 1) := by decide +kernel
theorem d_M_fuse_18 : decode b_M_fuse 18 = .ok (.ireturn, 1) := by decide +kernel
theorem d_M_fuse_19 : decode b_M_fuse 19 = .ok (.aload_n 0, 1) := by decide +kernel
theorem d_M_fuse_20 : decode b_M_fuse 20 = .ok (.iload_n 1, 1) := by decide +kernel
theorem d_M_fuse_21 : decode b_M_fuse 21 = .ok (.putfield 7, 3) := by decide +kernel
theorem d_M_fuse_24 : decode b_M_fuse 24 = .ok (.iconst 1, 1) := by decide +kernel
theorem d_M_fuse_25 : decode b_M_fuse 25 = .ok (.ireturn, 1) := by decide +kernel
theorem d_M_isDown_0 : decode b_M_isDown 0 = .ok (.aload_n 0, 1) := by decide +kernel
theorem d_M_isDown_1 : decode b_M_isDown 1 = .ok (.iconst 0, 1) := by decide +kernel
theorem d_M_isDown_2 : decode b_M_isDown 2 = .ok (.putfield 27, 3) := by decide +kernel
theorem d_M_isDown_5 : decode b_M_isDown 5 = .ok (.aload_n 0, 1) := by decide +kernel
theorem d_M_isDown_6 : decode b_M_isDown 6 = .ok (.getfield 33, 3) := by decide +kernel
theorem d_M_isDown_9 : decode b_M_isDown 9 = .ok (.ireturn, 1) := by decide +kernel
theorem d_M_writes_0 : decode b_M_writes 0 = .ok (.aload_n 0, 1) := by decide +kernel
theorem d_M_writes_1 : decode b_M_writes 1 = .ok (.iconst 0, 1) := by decide +kernel
theorem d_M_writes_2 : decode b_M_writes 2 = .ok (.putfield 27, 3) := by decide +kernel
theorem d_M_writes_5 : decode b_M_writes 5 = .ok (.aload_n 0, 1) := by decide +kernel
theorem d_M_writes_6 : decode b_M_writes 6 = .ok (.getfield 37, 3) := by decide +kernel
theorem d_M_writes_9 : decode b_M_writes 9 = .ok (.ireturn, 1) := by decide +kernel
theorem d_M_used_0 : decode b_M_used 0 = .ok (.aload_n 0, 1) := by decide +kernel
theorem d_M_used_1 : decode b_M_used 1 = .ok (.aload_n 0, 1) := by decide +kernel
theorem d_M_used_2 : decode b_M_used 2 = .ok (.getfield 33, 3) := by decide +kernel
theorem d_M_used_5 : decode b_M_used 5 = .ok (.ifCond .eq 7, 3) := by decide +kernel
theorem d_M_used_8 : decode b_M_used 8 = .ok (.iconst 1, 1) := by decide +kernel
theorem d_M_used_9 : decode b_M_used 9 = .ok (.goto 4, 3) := by decide +kernel
theorem d_M_used_12 : decode b_M_used 12 = .ok (.iconst 0, 1) := by decide +kernel
theorem d_M_used_13 : decode b_M_used 13 = .ok (.putfield 27, 3) := by decide +kernel
theorem d_M_used_16 : decode b_M_used 16 = .ok (.aload_n 0, 1) := by decide +kernel
theorem d_M_used_17 : decode b_M_used 17 = .ok (.getfield 27, 3) := by decide +kernel
theorem d_M_used_20 : decode b_M_used 20 = .ok (.ifCond .le 7, 3) := by decide +kernel
theorem d_M_used_23 : decode b_M_used 23 = .ok (.iconst 0, 1) := by decide +kernel
theorem d_M_used_24 : decode b_M_used 24 = .ok (.goto 7, 3) := by decide +kernel
theorem d_M_used_27 : decode b_M_used 27 = .ok (.aload_n 0, 1) := by decide +kernel
theorem d_M_used_28 : decode b_M_used 28 = .ok (.invokevirtual 56, 3) := by decide +kernel
theorem d_M_used_31 : decode b_M_used 31 = .ok (.ireturn, 1) := by decide +kernel
theorem d_M_copyOf_0 : decode b_M_copyOf 0 = .ok (.aload_n 0, 1) := by decide +kernel
theorem d_M_copyOf_1 : decode b_M_copyOf 1 = .ok (.aload_n 0, 1) := by decide +kernel
theorem d_M_copyOf_2 : decode b_M_copyOf 2 = .ok (.getfield 33, 3) := by decide +kernel
theorem d_M_copyOf_5 : decode b_M_copyOf 5 = .ok (.ifCond .eq 7, 3) := by decide +kernel
theorem d_M_copyOf_8 : decode b_M_copyOf 8 = .ok (.iconst 3, 1) := by decide +kernel
theorem d_M_copyOf_9 : decode b_M_copyOf 9 = .ok (.goto 29, 3) := by decide +kernel
theorem d_M_copyOf_12 : decode b_M_copyOf 12 = .ok (.aload_n 0, 1) := by decide +kernel
theorem d_M_copyOf_13 : decode b_M_copyOf 13 = .ok (.iload_n 1, 1) := by decide +kernel
theorem d_M_copyOf_14 : decode b_M_copyOf 14 = .ok (.invokevirtual 70, 3) := by decide +kernel
theorem d_M_copyOf_17 : decode b_M_copyOf 17 = .ok (.ifCond .ne 7, 3) := by decide +kernel
theorem d_M_copyOf_20 : decode b_M_copyOf 20 = .ok (.iconst 1, 1) := by decide +kernel
theorem d_M_copyOf_21 : decode b_M_copyOf 21 = .ok (.goto 17, 3) := by decide +kernel
theorem d_M_copyOf_24 : decode b_M_copyOf 24 = .ok (.iload_n 2, 1) := by decide +kernel
theorem d_M_copyOf_25 : decode b_M_copyOf 25 = .ok (.iconst 0, 1) := by decide +kernel
theorem d_M_copyOf_26 : decode b_M_copyOf 26 = .ok (.iconst 5, 1) := by decide +kernel
theorem d_M_copyOf_27 : decode b_M_copyOf 27 = .ok (.invokestatic 40, 3) := by decide +kernel
theorem d_M_copyOf_30 : decode b_M_copyOf 30 = .ok (.ifCond .eq 7, 3) := by decide +kernel
theorem d_M_copyOf_33 : decode b_M_copyOf 33 = .ok (.iconst 0, 1) := by decide +kernel
theorem d_M_copyOf_34 : decode b_M_copyOf 34 = .ok (.goto 4, 3) := by decide +kernel
theorem d_M_copyOf_37 : decode b_M_copyOf 37 = .ok (.iconst 2, 1) := by decide +kernel
theorem d_M_copyOf_38 : decode b_M_copyOf 38 = .ok (.putfield 27, 3) := by decide +kernel
theorem d_M_copyOf_41 : decode b_M_copyOf 41 = .ok (.aload_n 0, 1) := by decide +kernel
theorem d_M_copyOf_42 : decode b_M_copyOf 42 = .ok (.getfield 27, 3) := by decide +kernel
theorem d_M_copyOf_45 : decode b_M_copyOf 45 = .ok (.ifCond .le 7, 3) := by decide +kernel
theorem d_M_copyOf_48 : decode b_M_copyOf 48 = .ok (.iconst 0, 1) := by decide +kernel
theorem d_M_copyOf_49 : decode b_M_copyOf 49 = .ok (.goto 16, 3) := by decide +kernel
theorem d_M_copyOf_52 : decode b_M_copyOf 52 = .ok (.aload_n 0, 1) := by decide +kernel
theorem d_M_copyOf_53 : decode b_M_copyOf 53 = .ok (.getfield 24, 3) := by decide +kernel
theorem d_M_copyOf_56 : decode b_M_copyOf 56 = .ok (.bipush 6, 2) := by decide +kernel
theorem d_M_copyOf_58 : decode b_M_copyOf 58 = .ok (.iload_n 1, 1) := by decide +kernel
theorem d_M_copyOf_59 : decode b_M_copyOf 59 = .ok (.imul, 1) := by decide +kernel
theorem d_M_copyOf_60 : decode b_M_copyOf 60 = .ok (.iload_n 2, 1) := by decide +kernel
theorem d_M_copyOf_61 : decode b_M_copyOf 61 = .ok (.iadd, 1) := by decide +kernel
theorem d_M_copyOf_62 : decode b_M_copyOf 62 = .ok (.iaload, 1) := by decide +kernel
theorem d_M_copyOf_63 : decode b_M_copyOf 63 = .ok (.iconst 1, 1) := by decide +kernel
theorem d_M_copyOf_64 : decode b_M_copyOf 64 = .ok (.isub, 1) := by decide +kernel
theorem d_M_copyOf_65 : decode b_M_copyOf 65 = .ok (.ireturn, 1) := by decide +kernel
theorem d_M_places_0 : decode b_M_places 0 = .ok (.aload_n 0, 1) := by decide +kernel
theorem d_M_places_1 : decode b_M_places 1 = .ok (.aload_n 0, 1) := by decide +kernel
theorem d_M_places_2 : decode b_M_places 2 = .ok (.getfield 33, 3) := by decide +kernel
theorem d_M_places_5 : decode b_M_places 5 = .ok (.ifCond .eq 7, 3) := by decide +kernel
theorem d_M_places_8 : decode b_M_places 8 = .ok (.iconst 1, 1) := by decide +kernel
theorem d_M_places_9 : decode b_M_places 9 = .ok (.goto 4, 3) := by decide +kernel
theorem d_M_places_12 : decode b_M_places 12 = .ok (.iconst 0, 1) := by decide +kernel
theorem d_M_places_13 : decode b_M_places 13 = .ok (.putfield 27, 3) := by decide +kernel
theorem d_M_places_16 : decode b_M_places 16 = .ok (.aload_n 0, 1) := by decide +kernel
theorem d_M_places_17 : decode b_M_places 17 = .ok (.getfield 20, 3) := by decide +kernel
theorem d_M_places_20 : decode b_M_places 20 = .ok (.iconst 0, 1) := by decide +kernel
theorem d_M_places_21 : decode b_M_places 21 = .ok (.baload, 1) := by decide +kernel
theorem d_M_places_22 : decode b_M_places 22 = .ok (.ifCond .eq 7, 3) := by decide +kernel
theorem d_M_places_25 : decode b_M_places 25 = .ok (.iconst 1, 1) := by decide +kernel
theorem d_M_places_26 : decode b_M_places 26 = .ok (.goto 4, 3) := by decide +kernel
theorem d_M_places_29 : decode b_M_places 29 = .ok (.iconst 0, 1) := by decide +kernel
theorem d_M_places_30 : decode b_M_places 30 = .ok (.aload_n 0, 1) := by decide +kernel
theorem d_M_places_31 : decode b_M_places 31 = .ok (.getfield 20, 3) := by decide +kernel
theorem d_M_places_34 : decode b_M_places 34 = .ok (.iconst 1, 1) := by decide +kernel
theorem d_M_places_35 : decode b_M_places 35 = .ok (.baload, 1) := by decide +kernel
theorem d_M_places_36 : decode b_M_places 36 = .ok (.ifCond .eq 7, 3) := by decide +kernel
theorem d_M_places_39 : decode b_M_places 39 = .ok (.iconst 2, 1) := by decide +kernel
theorem d_M_places_40 : decode b_M_places 40 = .ok (.goto 4, 3) := by decide +kernel
theorem d_M_places_43 : decode b_M_places 43 = .ok (.iconst 0, 1) := by decide +kernel
theorem d_M_places_44 : decode b_M_places 44 = .ok (.iadd, 1) := by decide +kernel
theorem d_M_places_45 : decode b_M_places 45 = .ok (.aload_n 0, 1) := by decide +kernel
theorem d_M_places_46 : decode b_M_places 46 = .ok (.getfield 20, 3) := by decide +kernel
theorem d_M_places_49 : decode b_M_places 49 = .ok (.iconst 2, 1) := by decide +kernel
theorem d_M_places_50 : decode b_M_places 50 = .ok (.baload, 1) := by decide +kernel
theorem d_M_places_51 : decode b_M_places 51 = .ok (.ifCond .eq 7, 3) := by decide +kernel
theorem d_M_places_54 : decode b_M_places 54 = .ok (.iconst 4, 1) := by decide +kernel
theorem d_M_places_55 : decode b_M_places 55 = .ok (.goto 4, 3) := by decide +kernel
theorem d_M_places_58 : decode b_M_places 58 = .ok (.iconst 0, 1) := by decide +kernel
theorem d_M_places_59 : decode b_M_places 59 = .ok (.iadd, 1) := by decide +kernel
theorem d_M_places_60 : decode b_M_places 60 = .ok (.istore_n 1, 1) := by decide +kernel
theorem d_M_places_61 : decode b_M_places 61 = .ok (.aload_n 0, 1) := by decide +kernel
theorem d_M_places_62 : decode b_M_places 62 = .ok (.getfield 27, 3) := by decide +kernel
theorem d_M_places_65 : decode b_M_places 65 = .ok (.ifCond .le 7, 3) := by decide +kernel
theorem d_M_places_68 : decode b_M_places 68 = .ok (.iconst 0, 1) := by decide +kernel
theorem d_M_places_69 : decode b_M_places 69 = .ok (.goto 4, 3) := by decide +kernel
theorem d_M_places_72 : decode b_M_places 72 = .ok (.iload_n 1, 1) := by decide +kernel
theorem d_M_places_73 : decode b_M_places 73 = .ok (.ireturn, 1) := by decide +kernel
theorem d_M_changed_0 : decode b_M_changed 0 = .ok (.aload_n 0, 1) := by decide +kernel
theorem d_M_changed_1 : decode b_M_changed 1 = .ok (.aload_n 0, 1) := by decide +kernel
theorem d_M_changed_2 : decode b_M_changed 2 = .ok (.getfield 33, 3) := by decide +kernel
theorem d_M_changed_5 : decode b_M_changed 5 = .ok (.ifCond .eq 7, 3) := by decide +kernel
theorem d_M_changed_8 : decode b_M_changed 8 = .ok (.iconst 2, 1) := by decide +kernel
theorem d_M_changed_9 : decode b_M_changed 9 = .ok (.goto 16, 3) := by decide +kernel
theorem d_M_changed_12 : decode b_M_changed 12 = .ok (.aload_n 0, 1) := by decide +kernel
theorem d_M_changed_13 : decode b_M_changed 13 = .ok (.iload_n 1, 1) := by decide +kernel
theorem d_M_changed_14 : decode b_M_changed 14 = .ok (.invokevirtual 70, 3) := by decide +kernel
theorem d_M_changed_17 : decode b_M_changed 17 = .ok (.ifCond .eq 7, 3) := by decide +kernel
theorem d_M_changed_20 : decode b_M_changed 20 = .ok (.iconst 0, 1) := by decide +kernel
theorem d_M_changed_21 : decode b_M_changed 21 = .ok (.goto 4, 3) := by decide +kernel
theorem d_M_changed_24 : decode b_M_changed 24 = .ok (.iconst 1, 1) := by decide +kernel
theorem d_M_changed_25 : decode b_M_changed 25 = .ok (.putfield 27, 3) := by decide +kernel
theorem d_M_changed_28 : decode b_M_changed 28 = .ok (.iconst 0, 1) := by decide +kernel
theorem d_M_changed_29 : decode b_M_changed 29 = .ok (.istore_n 2, 1) := by decide +kernel
theorem d_M_changed_30 : decode b_M_changed 30 = .ok (.iconst 0, 1) := by decide +kernel
theorem d_M_changed_31 : decode b_M_changed 31 = .ok (.istore_n 3, 1) := by decide +kernel
theorem d_M_changed_32 : decode b_M_changed 32 = .ok (.iload_n 3, 1) := by decide +kernel
theorem d_M_changed_33 : decode b_M_changed 33 = .ok (.bipush 6, 2) := by decide +kernel
theorem d_M_changed_35 : decode b_M_changed 35 = .ok (.if_icmp .ge 89, 3) := by decide +kernel
theorem d_M_changed_38 : decode b_M_changed 38 = .ok (.aload_n 0, 1) := by decide +kernel
theorem d_M_changed_39 : decode b_M_changed 39 = .ok (.getfield 27, 3) := by decide +kernel
theorem d_M_changed_42 : decode b_M_changed 42 = .ok (.ifCond .ne 82, 3) := by decide +kernel
theorem d_M_changed_45 : decode b_M_changed 45 = .ok (.iconst 1, 1) := by decide +kernel
theorem d_M_changed_46 : decode b_M_changed 46 = .ok (.istore 4, 2) := by decide +kernel
theorem d_M_changed_48 : decode b_M_changed 48 = .ok (.iconst 0, 1) := by decide +kernel
theorem d_M_changed_49 : decode b_M_changed 49 = .ok (.istore 5, 2) := by decide +kernel
theorem d_M_changed_51 : decode b_M_changed 51 = .ok (.iload 5, 2) := by decide +kernel
theorem d_M_changed_53 : decode b_M_changed 53 = .ok (.iconst 4, 1) := by decide +kernel
theorem d_M_changed_54 : decode b_M_changed 54 = .ok (.if_icmp .ge 51, 3) := by decide +kernel
theorem d_M_changed_57 : decode b_M_changed 57 = .ok (.iload 4, 2) := by decide +kernel
theorem d_M_changed_59 : decode b_M_changed 59 = .ok (.ifCond .eq 37, 3) := by decide +kernel
theorem d_M_changed_62 : decode b_M_changed 62 = .ok (.aload_n 0, 1) := by decide +kernel
theorem d_M_changed_63 : decode b_M_changed 63 = .ok (.getfield 17, 3) := by decide +kernel
theorem d_M_changed_66 : decode b_M_changed 66 = .ok (.bipush 24, 2) := by decide +kernel
theorem d_M_changed_68 : decode b_M_changed 68 = .ok (.iload_n 1, 1) := by decide +kernel
theorem d_M_changed_69 : decode b_M_changed 69 = .ok (.imul, 1) := by decide +kernel
theorem d_M_changed_70 : decode b_M_changed 70 = .ok (.iconst 4, 1) := by decide +kernel
theorem d_M_changed_71 : decode b_M_changed 71 = .ok (.iload_n 3, 1) := by decide +kernel
theorem d_M_changed_72 : decode b_M_changed 72 = .ok (.imul, 1) := by decide +kernel
theorem d_M_changed_73 : decode b_M_changed 73 = .ok (.iadd, 1) := by decide +kernel
theorem d_M_changed_74 : decode b_M_changed 74 = .ok (.iload 5, 2) := by decide +kernel
theorem d_M_changed_76 : decode b_M_changed 76 = .ok (.iadd, 1) := by decide +kernel
theorem d_M_changed_77 : decode b_M_changed 77 = .ok (.iaload, 1) := by decide +kernel
theorem d_M_changed_78 : decode b_M_changed 78 = .ok (.aload_n 0, 1) := by decide +kernel
theorem d_M_changed_79 : decode b_M_changed 79 = .ok (.getfield 13, 3) := by decide +kernel
theorem d_M_changed_82 : decode b_M_changed 82 = .ok (.iconst 4, 1) := by decide +kernel
theorem d_M_changed_83 : decode b_M_changed 83 = .ok (.iload_n 3, 1) := by decide +kernel
theorem d_M_changed_84 : decode b_M_changed 84 = .ok (.imul, 1) := by decide +kernel
theorem d_M_changed_85 : decode b_M_changed 85 = .ok (.iload 5, 2) := by decide +kernel
theorem d_M_changed_87 : decode b_M_changed 87 = .ok (.iadd, 1) := by decide +kernel
theorem d_M_changed_88 : decode b_M_changed 88 = .ok (.iaload, 1) := by decide +kernel
theorem d_M_changed_89 : decode b_M_changed 89 = .ok (.if_icmp .ne 7, 3) := by decide +kernel
theorem d_M_changed_92 : decode b_M_changed 92 = .ok (.iconst 1, 1) := by decide +kernel
theorem d_M_changed_93 : decode b_M_changed 93 = .ok (.goto 4, 3) := by decide +kernel
theorem d_M_changed_96 : decode b_M_changed 96 = .ok (.iconst 0, 1) := by decide +kernel
theorem d_M_changed_97 : decode b_M_changed 97 = .ok (.istore 4, 2) := by decide +kernel
theorem d_M_changed_99 : decode b_M_changed 99 = .ok (.iinc 5 1, 3) := by decide +kernel
theorem d_M_changed_102 : decode b_M_changed 102 = .ok (.goto (-51), 3) := by decide +kernel
theorem d_M_changed_105 : decode b_M_changed 105 = .ok (.iload 4, 2) := by decide +kernel
theorem d_M_changed_107 : decode b_M_changed 107 = .ok (.ifCond .eq 7, 3) := by decide +kernel
theorem d_M_changed_110 : decode b_M_changed 110 = .ok (.iload_n 2, 1) := by decide +kernel
theorem d_M_changed_111 : decode b_M_changed 111 = .ok (.goto 6, 3) := by decide +kernel
theorem d_M_changed_114 : decode b_M_changed 114 = .ok (.iload_n 2, 1) := by decide +kernel
theorem d_M_changed_115 : decode b_M_changed 115 = .ok (.iconst 1, 1) := by decide +kernel
theorem d_M_changed_116 : decode b_M_changed 116 = .ok (.iadd, 1) := by decide +kernel
theorem d_M_changed_117 : decode b_M_changed 117 = .ok (.istore_n 2, 1) := by decide +kernel
theorem d_M_changed_118 : decode b_M_changed 118 = .ok (.iinc 3 1, 3) := by decide +kernel
theorem d_M_changed_121 : decode b_M_changed 121 = .ok (.goto (-89), 3) := by decide +kernel
theorem d_M_changed_124 : decode b_M_changed 124 = .ok (.iload_n 2, 1) := by decide +kernel
theorem d_M_changed_125 : decode b_M_changed 125 = .ok (.ireturn, 1) := by decide +kernel
end
section
theorem d_L_write_0 : decode b_L_write 0 = .ok (.aload 4, 2) := by decide +kernel
theorem d_L_write_2 : decode b_L_write 2 = .ok (.iconst 0, 1) := by decide +kernel
theorem d_L_write_3 : decode b_L_write 3 = .ok (.aload_n 0, 1) := by decide +kernel
theorem d_L_write_4 : decode b_L_write 4 = .ok (.iload_n 1, 1) := by decide +kernel
theorem d_L_write_5 : decode b_L_write 5 = .ok (.iload_n 2, 1) := by decide +kernel
theorem d_L_write_6 : decode b_L_write 6 = .ok (.iload_n 3, 1) := by decide +kernel
theorem d_L_write_7 : decode b_L_write 7 = .ok (.invokevirtual 7, 3) := by decide +kernel
theorem d_L_write_10 : decode b_L_write 10 = .ok (.i2l, 1) := by decide +kernel
theorem d_L_write_11 : decode b_L_write 11 = .ok (.lastore, 1) := by decide +kernel
theorem d_L_write_12 : decode b_L_write 12 = .ok (.goto 15, 3) := by decide +kernel
theorem d_L_write_15 : decode b_L_write 15 = .ok (.astore 5, 2) := by decide +kernel
theorem d_L_write_17 : decode b_L_write 17 = .ok (.iconst 1, 1) := by decide +kernel
theorem d_L_write_18 : decode b_L_write 18 = .ok (.ireturn, 1) := by decide +kernel
theorem d_L_write_19 : decode b_L_write 19 = .ok (.astore 5, 2) := by decide +kernel
theorem d_L_write_21 : decode b_L_write 21 = .ok (.iconst 2, 1) := by decide +kernel
theorem d_L_write_22 : decode b_L_write 22 = .ok (.ireturn, 1) := by decide +kernel
theorem d_L_write_23 : decode b_L_write 23 = .ok (.astore 5, 2) := by decide +kernel
theorem d_L_write_25 : decode b_L_write 25 = .ok (.iconst 3, 1) := by decide +kernel
theorem d_L_write_26 : decode b_L_write 26 = .ok (.ireturn, 1) := by decide +kernel
theorem d_L_write_27 : decode b_L_write 27 = .ok (.iconst 0, 1) := by decide +kernel
theorem d_L_write_28 : decode b_L_write 28 = .ok (.ireturn, 1) := by decide +kernel
theorem d_L_read_0 : decode b_L_read 0 = .ok (.aload_n 3, 1) := by decide +kernel
theorem d_L_read_1 : decode b_L_read 1 = .ok (.iconst 0, 1) := by decide +kernel
theorem d_L_read_2 : decode b_L_read 2 = .ok (.aload_n 0, 1) := by decide +kernel
theorem d_L_read_3 : decode b_L_read 3 = .ok (.iload_n 1, 1) := by decide +kernel
theorem d_L_read_4 : decode b_L_read 4 = .ok (.iload_n 2, 1) := by decide +kernel
theorem d_L_read_5 : decode b_L_read 5 = .ok (.invokevirtual 19, 3) := by decide +kernel
theorem d_L_read_8 : decode b_L_read 8 = .ok (.i2l, 1) := by decide +kernel
theorem d_L_read_9 : decode b_L_read 9 = .ok (.lastore, 1) := by decide +kernel
theorem d_L_read_10 : decode b_L_read 10 = .ok (.goto 11, 3) := by decide +kernel
theorem d_L_read_13 : decode b_L_read 13 = .ok (.astore 4, 2) := by decide +kernel
theorem d_L_read_15 : decode b_L_read 15 = .ok (.iconst 1, 1) := by decide +kernel
theorem d_L_read_16 : decode b_L_read 16 = .ok (.ireturn, 1) := by decide +kernel
theorem d_L_read_17 : decode b_L_read 17 = .ok (.astore 4, 2) := by decide +kernel
theorem d_L_read_19 : decode b_L_read 19 = .ok (.iconst 2, 1) := by decide +kernel
theorem d_L_read_20 : decode b_L_read 20 = .ok (.ireturn, 1) := by decide +kernel
theorem d_L_read_21 : decode b_L_read 21 = .ok (.iconst 0, 1) := by decide +kernel
theorem d_L_read_22 : decode b_L_read 22 = .ok (.ireturn, 1) := by decide +kernel
theorem d_L_snapshot_0 : decode b_L_snapshot 0 = .ok (.aload_n 1, 1) := by decide +kernel
theorem d_L_snapshot_1 : decode b_L_snapshot 1 = .ok (.iconst 0, 1) := by decide +kernel
theorem d_L_snapshot_2 : decode b_L_snapshot 2 = .ok (.aload_n 0, 1) := by decide +kernel
theorem d_L_snapshot_3 : decode b_L_snapshot 3 = .ok (.invokevirtual 23, 3) := by decide +kernel
theorem d_L_snapshot_6 : decode b_L_snapshot 6 = .ok (.i2l, 1) := by decide +kernel
theorem d_L_snapshot_7 : decode b_L_snapshot 7 = .ok (.lastore, 1) := by decide +kernel
theorem d_L_snapshot_8 : decode b_L_snapshot 8 = .ok (.goto 9, 3) := by decide +kernel
theorem d_L_snapshot_11 : decode b_L_snapshot 11 = .ok (.astore_n 2, 1) := by decide +kernel
theorem d_L_snapshot_12 : decode b_L_snapshot 12 = .ok (.iconst 1, 1) := by decide +kernel
theorem d_L_snapshot_13 : decode b_L_snapshot 13 = .ok (.ireturn, 1) := by decide +kernel
theorem d_L_snapshot_14 : decode b_L_snapshot 14 = .ok (.astore_n 2, 1) := by decide +kernel
theorem d_L_snapshot_15 : decode b_L_snapshot 15 = .ok (.iconst 2, 1) := by decide +kernel
theorem d_L_snapshot_16 : decode b_L_snapshot 16 = .ok (.ireturn, 1) := by decide +kernel
theorem d_L_snapshot_17 : decode b_L_snapshot 17 = .ok (.iconst 0, 1) := by decide +kernel
theorem d_L_snapshot_18 : decode b_L_snapshot 18 = .ok (.ireturn, 1) := by decide +kernel
theorem d_L_drop_0 : decode b_L_drop 0 = .ok (.aload_n 0, 1) := by decide +kernel
theorem d_L_drop_1 : decode b_L_drop 1 = .ok (.iload_n 1, 1) := by decide +kernel
theorem d_L_drop_2 : decode b_L_drop 2 = .ok (.invokevirtual 27, 3) := by decide +kernel
theorem d_L_drop_5 : decode b_L_drop 5 = .ok (.goto 9, 3) := by decide +kernel
theorem d_L_drop_8 : decode b_L_drop 8 = .ok (.astore_n 2, 1) := by decide +kernel
theorem d_L_drop_9 : decode b_L_drop 9 = .ok (.iconst 1, 1) := by decide +kernel
theorem d_L_drop_10 : decode b_L_drop 10 = .ok (.ireturn, 1) := by decide +kernel
theorem d_L_drop_11 : decode b_L_drop 11 = .ok (.astore_n 2, 1) := by decide +kernel
theorem d_L_drop_12 : decode b_L_drop 12 = .ok (.iconst 2, 1) := by decide +kernel
theorem d_L_drop_13 : decode b_L_drop 13 = .ok (.ireturn, 1) := by decide +kernel
theorem d_L_drop_14 : decode b_L_drop 14 = .ok (.iconst 0, 1) := by decide +kernel
theorem d_L_drop_15 : decode b_L_drop 15 = .ok (.ireturn, 1) := by decide +kernel
theorem d_L_readSnapshot_0 : decode b_L_readSnapshot 0 = .ok (.aload 4, 2) := by decide +kernel
theorem d_L_readSnapshot_2 : decode b_L_readSnapshot 2 = .ok (.iconst 0, 1) := by decide +kernel
theorem d_L_readSnapshot_3 : decode b_L_readSnapshot 3 = .ok (.aload_n 0, 1) := by decide +kernel
theorem d_L_readSnapshot_4 : decode b_L_readSnapshot 4 = .ok (.iload_n 1, 1) := by decide +kernel
theorem d_L_readSnapshot_5 : decode b_L_readSnapshot 5 = .ok (.iload_n 2, 1) := by decide +kernel
theorem d_L_readSnapshot_6 : decode b_L_readSnapshot 6 = .ok (.iload_n 3, 1) := by decide +kernel
theorem d_L_readSnapshot_7 : decode b_L_readSnapshot 7 = .ok (.invokevirtual 33, 3) := by decide +kernel
theorem d_L_readSnapshot_10 : decode b_L_readSnapshot 10 = .ok (.i2l, 1) := by decide +kernel
theorem d_L_readSnapshot_11 : decode b_L_readSnapshot 11 = .ok (.lastore, 1) := by decide +kernel
theorem d_L_readSnapshot_12 : decode b_L_readSnapshot 12 = .ok (.goto 15, 3) := by decide +kernel
theorem d_L_readSnapshot_15 : decode b_L_readSnapshot 15 = .ok (.astore 5, 2) := by decide +kernel
theorem d_L_readSnapshot_17 : decode b_L_readSnapshot 17 = .ok (.iconst 1, 1) := by decide +kernel
theorem d_L_readSnapshot_18 : decode b_L_readSnapshot 18 = .ok (.ireturn, 1) := by decide +kernel
theorem d_L_readSnapshot_19 : decode b_L_readSnapshot 19 = .ok (.astore 5, 2) := by decide +kernel
theorem d_L_readSnapshot_21 : decode b_L_readSnapshot 21 = .ok (.iconst 2, 1) := by decide +kernel
theorem d_L_readSnapshot_22 : decode b_L_readSnapshot 22 = .ok (.ireturn, 1) := by decide +kernel
theorem d_L_readSnapshot_23 : decode b_L_readSnapshot 23 = .ok (.astore 5, 2) := by decide +kernel
theorem d_L_readSnapshot_25 : decode b_L_readSnapshot 25 = .ok (.iconst 3, 1) := by decide +kernel
theorem d_L_readSnapshot_26 : decode b_L_readSnapshot 26 = .ok (.ireturn, 1) := by decide +kernel
theorem d_L_readSnapshot_27 : decode b_L_readSnapshot 27 = .ok (.iconst 0, 1) := by decide +kernel
theorem d_L_readSnapshot_28 : decode b_L_readSnapshot 28 = .ok (.ireturn, 1) := by decide +kernel
theorem d_L_writeSnapshot_0 : decode b_L_writeSnapshot 0 = .ok (.aload 5, 2) := by decide +kernel
theorem d_L_writeSnapshot_2 : decode b_L_writeSnapshot 2 = .ok (.iconst 0, 1) := by decide +kernel
theorem d_L_writeSnapshot_3 : decode b_L_writeSnapshot 3 = .ok (.aload_n 0, 1) := by decide +kernel
theorem d_L_writeSnapshot_4 : decode b_L_writeSnapshot 4 = .ok (.iload_n 1, 1) := by decide +kernel
theorem d_L_writeSnapshot_5 : decode b_L_writeSnapshot 5 = .ok (.iload_n 2, 1) := by decide +kernel
theorem d_L_writeSnapshot_6 : decode b_L_writeSnapshot 6 = .ok (.iload_n 3, 1) := by decide +kernel
theorem d_L_writeSnapshot_7 : decode b_L_writeSnapshot 7 = .ok (.iload 4, 2) := by decide +kernel
theorem d_L_writeSnapshot_9 : decode b_L_writeSnapshot 9 = .ok (.invokevirtual 36, 3) := by decide +kernel
theorem d_L_writeSnapshot_12 : decode b_L_writeSnapshot 12 = .ok (.ifCond .eq 7, 3) := by decide +kernel
theorem d_L_writeSnapshot_15 : decode b_L_writeSnapshot 15 = .ok (.lconst 1, 1) := by decide +kernel
theorem d_L_writeSnapshot_16 : decode b_L_writeSnapshot 16 = .ok (.goto 4, 3) := by decide +kernel
theorem d_L_writeSnapshot_19 : decode b_L_writeSnapshot 19 = .ok (.lconst 0, 1) := by decide +kernel
theorem d_L_writeSnapshot_20 : decode b_L_writeSnapshot 20 = .ok (.lastore, 1) := by decide +kernel
theorem d_L_writeSnapshot_21 : decode b_L_writeSnapshot 21 = .ok (.goto 19, 3) := by decide +kernel
theorem d_L_writeSnapshot_24 : decode b_L_writeSnapshot 24 = .ok (.astore 6, 2) := by decide +kernel
theorem d_L_writeSnapshot_26 : decode b_L_writeSnapshot 26 = .ok (.iconst 1, 1) := by decide +kernel
theorem d_L_writeSnapshot_27 : decode b_L_writeSnapshot 27 = .ok (.ireturn, 1) := by decide +kernel
theorem d_L_writeSnapshot_28 : decode b_L_writeSnapshot 28 = .ok (.astore 6, 2) := by decide +kernel
theorem d_L_writeSnapshot_30 : decode b_L_writeSnapshot 30 = .ok (.iconst 2, 1) := by decide +kernel
theorem d_L_writeSnapshot_31 : decode b_L_writeSnapshot 31 = .ok (.ireturn, 1) := by decide +kernel
theorem d_L_writeSnapshot_32 : decode b_L_writeSnapshot 32 = .ok (.astore 6, 2) := by decide +kernel
theorem d_L_writeSnapshot_34 : decode b_L_writeSnapshot 34 = .ok (.iconst 3, 1) := by decide +kernel
theorem d_L_writeSnapshot_35 : decode b_L_writeSnapshot 35 = .ok (.ireturn, 1) := by decide +kernel
theorem d_L_writeSnapshot_36 : decode b_L_writeSnapshot 36 = .ok (.astore 6, 2) := by decide +kernel
theorem d_L_writeSnapshot_38 : decode b_L_writeSnapshot 38 = .ok (.iconst 4, 1) := by decide +kernel
theorem d_L_writeSnapshot_39 : decode b_L_writeSnapshot 39 = .ok (.ireturn, 1) := by decide +kernel
theorem d_L_writeSnapshot_40 : decode b_L_writeSnapshot 40 = .ok (.iconst 0, 1) := by decide +kernel
theorem d_L_writeSnapshot_41 : decode b_L_writeSnapshot 41 = .ok (.ireturn, 1) := by decide +kernel
theorem d_L_rollback_0 : decode b_L_rollback 0 = .ok (.aload_n 2, 1) := by decide +kernel
theorem d_L_rollback_1 : decode b_L_rollback 1 = .ok (.iconst 0, 1) := by decide +kernel
theorem d_L_rollback_2 : decode b_L_rollback 2 = .ok (.aload_n 0, 1) := by decide +kernel
theorem d_L_rollback_3 : decode b_L_rollback 3 = .ok (.iload_n 1, 1) := by decide +kernel
theorem d_L_rollback_4 : decode b_L_rollback 4 = .ok (.invokevirtual 40, 3) := by decide +kernel
theorem d_L_rollback_7 : decode b_L_rollback 7 = .ok (.i2l, 1) := by decide +kernel
theorem d_L_rollback_8 : decode b_L_rollback 8 = .ok (.lastore, 1) := by decide +kernel
theorem d_L_rollback_9 : decode b_L_rollback 9 = .ok (.goto 12, 3) := by decide +kernel
theorem d_L_rollback_12 : decode b_L_rollback 12 = .ok (.astore_n 3, 1) := by decide +kernel
theorem d_L_rollback_13 : decode b_L_rollback 13 = .ok (.iconst 1, 1) := by decide +kernel
theorem d_L_rollback_14 : decode b_L_rollback 14 = .ok (.ireturn, 1) := by decide +kernel
theorem d_L_rollback_15 : decode b_L_rollback 15 = .ok (.astore_n 3, 1) := by decide +kernel
theorem d_L_rollback_16 : decode b_L_rollback 16 = .ok (.iconst 2, 1) := by decide +kernel
theorem d_L_rollback_17 : decode b_L_rollback 17 = .ok (.ireturn, 1) := by decide +kernel
theorem d_L_rollback_18 : decode b_L_rollback 18 = .ok (.astore_n 3, 1) := by decide +kernel
theorem d_L_rollback_19 : decode b_L_rollback 19 = .ok (.iconst 3, 1) := by decide +kernel
theorem d_L_rollback_20 : decode b_L_rollback 20 = .ok (.ireturn, 1) := by decide +kernel
theorem d_L_rollback_21 : decode b_L_rollback 21 = .ok (.iconst 0, 1) := by decide +kernel
theorem d_L_rollback_22 : decode b_L_rollback 22 = .ok (.ireturn, 1) := by decide +kernel
theorem d_L_recover_0 : decode b_L_recover 0 = .ok (.aload_n 1, 1) := by decide +kernel
theorem d_L_recover_1 : decode b_L_recover 1 = .ok (.iconst 0, 1) := by decide +kernel
theorem d_L_recover_2 : decode b_L_recover 2 = .ok (.aload_n 0, 1) := by decide +kernel
theorem d_L_recover_3 : decode b_L_recover 3 = .ok (.invokevirtual 44, 3) := by decide +kernel
theorem d_L_recover_6 : decode b_L_recover 6 = .ok (.i2l, 1) := by decide +kernel
theorem d_L_recover_7 : decode b_L_recover 7 = .ok (.lastore, 1) := by decide +kernel
theorem d_L_recover_8 : decode b_L_recover 8 = .ok (.goto 6, 3) := by decide +kernel
theorem d_L_recover_11 : decode b_L_recover 11 = .ok (.astore_n 2, 1) := by decide +kernel
theorem d_L_recover_12 : decode b_L_recover 12 = .ok (.iconst 1, 1) := by decide +kernel
theorem d_L_recover_13 : decode b_L_recover 13 = .ok (.ireturn, 1) := by decide +kernel
theorem d_L_recover_14 : decode b_L_recover 14 = .ok (.iconst 0, 1) := by decide +kernel
theorem d_L_recover_15 : decode b_L_recover 15 = .ok (.ireturn, 1) := by decide +kernel
theorem d_L_used_0 : decode b_L_used 0 = .ok (.aload_n 1, 1) := by decide +kernel
theorem d_L_used_1 : decode b_L_used 1 = .ok (.iconst 0, 1) := by decide +kernel
theorem d_L_used_2 : decode b_L_used 2 = .ok (.aload_n 0, 1) := by decide +kernel
theorem d_L_used_3 : decode b_L_used 3 = .ok (.invokevirtual 47, 3) := by decide +kernel
theorem d_L_used_6 : decode b_L_used 6 = .ok (.i2l, 1) := by decide +kernel
theorem d_L_used_7 : decode b_L_used 7 = .ok (.lastore, 1) := by decide +kernel
theorem d_L_used_8 : decode b_L_used 8 = .ok (.goto 6, 3) := by decide +kernel
theorem d_L_used_11 : decode b_L_used 11 = .ok (.astore_n 2, 1) := by decide +kernel
theorem d_L_used_12 : decode b_L_used 12 = .ok (.iconst 1, 1) := by decide +kernel
theorem d_L_used_13 : decode b_L_used 13 = .ok (.ireturn, 1) := by decide +kernel
theorem d_L_used_14 : decode b_L_used 14 = .ok (.iconst 0, 1) := by decide +kernel
theorem d_L_used_15 : decode b_L_used 15 = .ok (.ireturn, 1) := by decide +kernel
theorem d_L_copyOf_0 : decode b_L_copyOf 0 = .ok (.aload_n 3, 1) := by decide +kernel
theorem d_L_copyOf_1 : decode b_L_copyOf 1 = .ok (.iconst 0, 1) := by decide +kernel
theorem d_L_copyOf_2 : decode b_L_copyOf 2 = .ok (.aload_n 0, 1) := by decide +kernel
theorem d_L_copyOf_3 : decode b_L_copyOf 3 = .ok (.iload_n 1, 1) := by decide +kernel
theorem d_L_copyOf_4 : decode b_L_copyOf 4 = .ok (.iload_n 2, 1) := by decide +kernel
theorem d_L_copyOf_5 : decode b_L_copyOf 5 = .ok (.invokevirtual 50, 3) := by decide +kernel
theorem d_L_copyOf_8 : decode b_L_copyOf 8 = .ok (.i2l, 1) := by decide +kernel
theorem d_L_copyOf_9 : decode b_L_copyOf 9 = .ok (.lastore, 1) := by decide +kernel
theorem d_L_copyOf_10 : decode b_L_copyOf 10 = .ok (.goto 15, 3) := by decide +kernel
theorem d_L_copyOf_13 : decode b_L_copyOf 13 = .ok (.astore 4, 2) := by decide +kernel
theorem d_L_copyOf_15 : decode b_L_copyOf 15 = .ok (.iconst 1, 1) := by decide +kernel
theorem d_L_copyOf_16 : decode b_L_copyOf 16 = .ok (.ireturn, 1) := by decide +kernel
theorem d_L_copyOf_17 : decode b_L_copyOf 17 = .ok (.astore 4, 2) := by decide +kernel
theorem d_L_copyOf_19 : decode b_L_copyOf 19 = .ok (.iconst 2, 1) := by decide +kernel
theorem d_L_copyOf_20 : decode b_L_copyOf 20 = .ok (.ireturn, 1) := by decide +kernel
theorem d_L_copyOf_21 : decode b_L_copyOf 21 = .ok (.astore 4, 2) := by decide +kernel
theorem d_L_copyOf_23 : decode b_L_copyOf 23 = .ok (.iconst 3, 1) := by decide +kernel
theorem d_L_copyOf_24 : decode b_L_copyOf 24 = .ok (.ireturn, 1) := by decide +kernel
theorem d_L_copyOf_25 : decode b_L_copyOf 25 = .ok (.iconst 0, 1) := by decide +kernel
theorem d_L_copyOf_26 : decode b_L_copyOf 26 = .ok (.ireturn, 1) := by decide +kernel
theorem d_L_places_0 : decode b_L_places 0 = .ok (.aload_n 1, 1) := by decide +kernel
theorem d_L_places_1 : decode b_L_places 1 = .ok (.iconst 0, 1) := by decide +kernel
theorem d_L_places_2 : decode b_L_places 2 = .ok (.aload_n 0, 1) := by decide +kernel
theorem d_L_places_3 : decode b_L_places 3 = .ok (.invokevirtual 53, 3) := by decide +kernel
theorem d_L_places_6 : decode b_L_places 6 = .ok (.i2l, 1) := by decide +kernel
theorem d_L_places_7 : decode b_L_places 7 = .ok (.lastore, 1) := by decide +kernel
theorem d_L_places_8 : decode b_L_places 8 = .ok (.goto 6, 3) := by decide +kernel
theorem d_L_places_11 : decode b_L_places 11 = .ok (.astore_n 2, 1) := by decide +kernel
theorem d_L_places_12 : decode b_L_places 12 = .ok (.iconst 1, 1) := by decide +kernel
theorem d_L_places_13 : decode b_L_places 13 = .ok (.ireturn, 1) := by decide +kernel
theorem d_L_places_14 : decode b_L_places 14 = .ok (.iconst 0, 1) := by decide +kernel
theorem d_L_places_15 : decode b_L_places 15 = .ok (.ireturn, 1) := by decide +kernel
theorem d_L_changed_0 : decode b_L_changed 0 = .ok (.aload_n 2, 1) := by decide +kernel
theorem d_L_changed_1 : decode b_L_changed 1 = .ok (.iconst 0, 1) := by decide +kernel
theorem d_L_changed_2 : decode b_L_changed 2 = .ok (.aload_n 0, 1) := by decide +kernel
theorem d_L_changed_3 : decode b_L_changed 3 = .ok (.iload_n 1, 1) := by decide +kernel
theorem d_L_changed_4 : decode b_L_changed 4 = .ok (.invokevirtual 56, 3) := by decide +kernel
theorem d_L_changed_7 : decode b_L_changed 7 = .ok (.i2l, 1) := by decide +kernel
theorem d_L_changed_8 : decode b_L_changed 8 = .ok (.lastore, 1) := by decide +kernel
theorem d_L_changed_9 : decode b_L_changed 9 = .ok (.goto 9, 3) := by decide +kernel
theorem d_L_changed_12 : decode b_L_changed 12 = .ok (.astore_n 3, 1) := by decide +kernel
theorem d_L_changed_13 : decode b_L_changed 13 = .ok (.iconst 1, 1) := by decide +kernel
theorem d_L_changed_14 : decode b_L_changed 14 = .ok (.ireturn, 1) := by decide +kernel
theorem d_L_changed_15 : decode b_L_changed 15 = .ok (.astore_n 3, 1) := by decide +kernel
theorem d_L_changed_16 : decode b_L_changed 16 = .ok (.iconst 2, 1) := by decide +kernel
theorem d_L_changed_17 : decode b_L_changed 17 = .ok (.ireturn, 1) := by decide +kernel
theorem d_L_changed_18 : decode b_L_changed 18 = .ok (.iconst 0, 1) := by decide +kernel
theorem d_L_changed_19 : decode b_L_changed 19 = .ok (.ireturn, 1) := by decide +kernel
theorem d_L_law_0 : decode b_L_law 0 = .ok (.new 8, 3) := by decide +kernel
theorem d_L_law_3 : decode b_L_law 3 = .ok (.dup, 1) := by decide +kernel
theorem d_L_law_4 : decode b_L_law 4 = .ok (.invokespecial 59, 3) := by decide +kernel
theorem d_L_law_7 : decode b_L_law 7 = .ok (.astore_n 1, 1) := by decide +kernel
theorem d_L_law_8 : decode b_L_law 8 = .ok (.new 60, 3) := by decide +kernel
theorem d_L_law_11 : decode b_L_law 11 = .ok (.dup, 1) := by decide +kernel
theorem d_L_law_12 : decode b_L_law 12 = .ok (.invokespecial 62, 3) := by decide +kernel
theorem d_L_law_15 : decode b_L_law 15 = .ok (.astore_n 2, 1) := by decide +kernel
theorem d_L_law_16 : decode b_L_law 16 = .ok (.iconst 1, 1) := by decide +kernel
theorem d_L_law_17 : decode b_L_law 17 = .ok (.newarray .long, 2) := by decide +kernel
theorem d_L_law_19 : decode b_L_law 19 = .ok (.astore_n 3, 1) := by decide +kernel
theorem d_L_law_20 : decode b_L_law 20 = .ok (.iconst 0, 1) := by decide +kernel
theorem d_L_law_21 : decode b_L_law 21 = .ok (.istore 4, 2) := by decide +kernel
theorem d_L_law_23 : decode b_L_law 23 = .ok (.iload 4, 2) := by decide +kernel
theorem d_L_law_25 : decode b_L_law 25 = .ok (.aload_n 0, 1) := by decide +kernel
theorem d_L_law_26 : decode b_L_law 26 = .ok (.arraylength, 1) := by decide +kernel
theorem d_L_law_27 : decode b_L_law 27 = .ok (.iconst 5, 1) := by decide +kernel
theorem d_L_law_28 : decode b_L_law 28 = .ok (.isub, 1) := by decide +kernel
theorem d_L_law_29 : decode b_L_law 29 = .ok (.if_icmp .gt 874, 3) := by decide +kernel
theorem d_L_law_32 : decode b_L_law 32 = .ok (.aload_n 0, 1) := by decide +kernel
theorem d_L_law_33 : decode b_L_law 33 = .ok (.iload 4, 2) := by decide +kernel
theorem d_L_law_35 : decode b_L_law 35 = .ok (.iaload, 1) := by decide +kernel
theorem d_L_law_36 : decode b_L_law 36 = .ok (.bipush 15, 2) := by decide +kernel
theorem d_L_law_38 : decode b_L_law 38 = .ok (.iand, 1) := by decide +kernel
theorem d_L_law_39 : decode b_L_law 39 = .ok (.tableswitch 858 0 15 #[77, 88, 168, 236, 280, 316, 396, 495, 551, 576, 620, 633, 646, 690, 758, 802], 77) := by decide +kernel
theorem d_L_law_116 : decode b_L_law 116 = .ok (.aload_n 1, 1) := by decide +kernel
theorem d_L_law_117 : decode b_L_law 117 = .ok (.invokevirtual 63, 3) := by decide +kernel
theorem d_L_law_120 : decode b_L_law 120 = .ok (.aload_n 2, 1) := by decide +kernel
theorem d_L_law_121 : decode b_L_law 121 = .ok (.invokevirtual 66, 3) := by decide +kernel
theorem d_L_law_124 : decode b_L_law 124 = .ok (.goto 773, 3) := by decide +kernel
theorem d_L_law_127 : decode b_L_law 127 = .ok (.aload_n 1, 1) := by decide +kernel
theorem d_L_law_128 : decode b_L_law 128 = .ok (.aload_n 0, 1) := by decide +kernel
theorem d_L_law_129 : decode b_L_law 129 = .ok (.iload 4, 2) := by decide +kernel
theorem d_L_law_131 : decode b_L_law 131 = .ok (.iconst 1, 1) := by decide +kernel
theorem d_L_law_132 : decode b_L_law 132 = .ok (.iadd, 1) := by decide +kernel
theorem d_L_law_133 : decode b_L_law 133 = .ok (.iaload, 1) := by decide +kernel
theorem d_L_law_134 : decode b_L_law 134 = .ok (.aload_n 0, 1) := by decide +kernel
theorem d_L_law_135 : decode b_L_law 135 = .ok (.iload 4, 2) := by decide +kernel
theorem d_L_law_137 : decode b_L_law 137 = .ok (.iconst 2, 1) := by decide +kernel
theorem d_L_law_138 : decode b_L_law 138 = .ok (.iadd, 1) := by decide +kernel
theorem d_L_law_139 : decode b_L_law 139 = .ok (.iaload, 1) := by decide +kernel
theorem d_L_law_140 : decode b_L_law 140 = .ok (.aload_n 0, 1) := by decide +kernel
theorem d_L_law_141 : decode b_L_law 141 = .ok (.iload 4, 2) := by decide +kernel
theorem d_L_law_143 : decode b_L_law 143 = .ok (.iconst 3, 1) := by decide +kernel
theorem d_L_law_144 : decode b_L_law 144 = .ok (.iadd, 1) := by decide +kernel
theorem d_L_law_145 : decode b_L_law 145 = .ok (.iaload, 1) := by decide +kernel
theorem d_L_law_146 : decode b_L_law 146 = .ok (.aload_n 3, 1) := by decide +kernel
theorem d_L_law_147 : decode b_L_law 147 = .ok (.invokestatic 67, 3) := by decide +kernel
theorem d_L_law_150 : decode b_L_law 150 = .ok (.istore 5, 2) := by decide +kernel
theorem d_L_law_152 : decode b_L_law 152 = .ok (.aload_n 2, 1) := by decide +kernel
theorem d_L_law_153 : decode b_L_law 153 = .ok (.aload_n 0, 1) := by decide +kernel
theorem d_L_law_154 : decode b_L_law 154 = .ok (.iload 4, 2) := by decide +kernel
theorem d_L_law_156 : decode b_L_law 156 = .ok (.iconst 1, 1) := by decide +kernel
theorem d_L_law_157 : decode b_L_law 157 = .ok (.iadd, 1) := by decide +kernel
theorem d_L_law_158 : decode b_L_law 158 = .ok (.iaload, 1) := by decide +kernel
theorem d_L_law_159 : decode b_L_law 159 = .ok (.aload_n 0, 1) := by decide +kernel
theorem d_L_law_160 : decode b_L_law 160 = .ok (.iload 4, 2) := by decide +kernel
theorem d_L_law_162 : decode b_L_law 162 = .ok (.iconst 2, 1) := by decide +kernel
theorem d_L_law_163 : decode b_L_law 163 = .ok (.iadd, 1) := by decide +kernel
theorem d_L_law_164 : decode b_L_law 164 = .ok (.iaload, 1) := by decide +kernel
theorem d_L_law_165 : decode b_L_law 165 = .ok (.aload_n 0, 1) := by decide +kernel
theorem d_L_law_166 : decode b_L_law 166 = .ok (.iload 4, 2) := by decide +kernel
theorem d_L_law_168 : decode b_L_law 168 = .ok (.iconst 3, 1) := by decide +kernel
theorem d_L_law_169 : decode b_L_law 169 = .ok (.iadd, 1) := by decide +kernel
theorem d_L_law_170 : decode b_L_law 170 = .ok (.iaload, 1) := by decide +kernel
theorem d_L_law_171 : decode b_L_law 171 = .ok (.invokevirtual 72, 3) := by decide +kernel
theorem d_L_law_174 : decode b_L_law 174 = .ok (.istore 6, 2) := by decide +kernel
theorem d_L_law_176 : decode b_L_law 176 = .ok (.aload_n 2, 1) := by decide +kernel
theorem d_L_law_177 : decode b_L_law 177 = .ok (.invokevirtual 73, 3) := by decide +kernel
theorem d_L_law_180 : decode b_L_law 180 = .ok (.iload 5, 2) := by decide +kernel
theorem d_L_law_182 : decode b_L_law 182 = .ok (.if_icmp .eq 5, 3) := by decide +kernel
theorem d_L_law_185 : decode b_L_law 185 = .ok (.iconst 0, 1) := by decide +kernel
theorem d_L_law_186 : decode b_L_law 186 = .ok (.ireturn, 1) := by decide +kernel
theorem d_L_law_187 : decode b_L_law 187 = .ok (.iload 5, 2) := by decide +kernel
theorem d_L_law_189 : decode b_L_law 189 = .ok (.ifCond .ne 15, 3) := by decide +kernel
theorem d_L_law_192 : decode b_L_law 192 = .ok (.aload_n 3, 1) := by decide +kernel
theorem d_L_law_193 : decode b_L_law 193 = .ok (.iconst 0, 1) := by decide +kernel
theorem d_L_law_194 : decode b_L_law 194 = .ok (.laload, 1) := by decide +kernel
theorem d_L_law_195 : decode b_L_law 195 = .ok (.iload 6, 2) := by decide +kernel
theorem d_L_law_197 : decode b_L_law 197 = .ok (.i2l, 1) := by decide +kernel
theorem d_L_law_198 : decode b_L_law 198 = .ok (.lcmp, 1) := by decide +kernel
theorem d_L_law_199 : decode b_L_law 199 = .ok (.ifCond .eq 5, 3) := by decide +kernel
theorem d_L_law_202 : decode b_L_law 202 = .ok (.iconst 0, 1) := by decide +kernel
theorem d_L_law_203 : decode b_L_law 203 = .ok (.ireturn, 1) := by decide +kernel
theorem d_L_law_204 : decode b_L_law 204 = .ok (.goto 693, 3) := by decide +kernel
theorem d_L_law_207 : decode b_L_law 207 = .ok (.aload_n 1, 1) := by decide +kernel
theorem d_L_law_208 : decode b_L_law 208 = .ok (.aload_n 0, 1) := by decide +kernel
theorem d_L_law_209 : decode b_L_law 209 = .ok (.iload 4, 2) := by decide +kernel
theorem d_L_law_211 : decode b_L_law 211 = .ok (.iconst 1, 1) := by decide +kernel
theorem d_L_law_212 : decode b_L_law 212 = .ok (.iadd, 1) := by decide +kernel
theorem d_L_law_213 : decode b_L_law 213 = .ok (.iaload, 1) := by decide +kernel
theorem d_L_law_214 : decode b_L_law 214 = .ok (.aload_n 0, 1) := by decide +kernel
theorem d_L_law_215 : decode b_L_law 215 = .ok (.iload 4, 2) := by decide +kernel
theorem d_L_law_217 : decode b_L_law 217 = .ok (.iconst 2, 1) := by decide +kernel
theorem d_L_law_218 : decode b_L_law 218 = .ok (.iadd, 1) := by decide +kernel
theorem d_L_law_219 : decode b_L_law 219 = .ok (.iaload, 1) := by decide +kernel
theorem d_L_law_220 : decode b_L_law 220 = .ok (.aload_n 3, 1) := by decide +kernel
theorem d_L_law_221 : decode b_L_law 221 = .ok (.invokestatic 76, 3) := by decide +kernel
theorem d_L_law_224 : decode b_L_law 224 = .ok (.istore 5, 2) := by decide +kernel
theorem d_L_law_226 : decode b_L_law 226 = .ok (.aload_n 2, 1) := by decide +kernel
theorem d_L_law_227 : decode b_L_law 227 = .ok (.aload_n 0, 1) := by decide +kernel
theorem d_L_law_228 : decode b_L_law 228 = .ok (.iload 4, 2) := by decide +kernel
theorem d_L_law_230 : decode b_L_law 230 = .ok (.iconst 1, 1) := by decide +kernel
theorem d_L_law_231 : decode b_L_law 231 = .ok (.iadd, 1) := by decide +kernel
theorem d_L_law_232 : decode b_L_law 232 = .ok (.iaload, 1) := by decide +kernel
theorem d_L_law_233 : decode b_L_law 233 = .ok (.aload_n 0, 1) := by decide +kernel
theorem d_L_law_234 : decode b_L_law 234 = .ok (.iload 4, 2) := by decide +kernel
theorem d_L_law_236 : decode b_L_law 236 = .ok (.iconst 2, 1) := by decide +kernel
theorem d_L_law_237 : decode b_L_law 237 = .ok (.iadd, 1) := by decide +kernel
theorem d_L_law_238 : decode b_L_law 238 = .ok (.iaload, 1) := by decide +kernel
theorem d_L_law_239 : decode b_L_law 239 = .ok (.invokevirtual 79, 3) := by decide +kernel
theorem d_L_law_242 : decode b_L_law 242 = .ok (.istore 6, 2) := by decide +kernel
theorem d_L_law_244 : decode b_L_law 244 = .ok (.aload_n 2, 1) := by decide +kernel
theorem d_L_law_245 : decode b_L_law 245 = .ok (.invokevirtual 73, 3) := by decide +kernel
theorem d_L_law_248 : decode b_L_law 248 = .ok (.iload 5, 2) := by decide +kernel
theorem d_L_law_250 : decode b_L_law 250 = .ok (.if_icmp .eq 5, 3) := by decide +kernel
theorem d_L_law_253 : decode b_L_law 253 = .ok (.iconst 0, 1) := by decide +kernel
theorem d_L_law_254 : decode b_L_law 254 = .ok (.ireturn, 1) := by decide +kernel
theorem d_L_law_255 : decode b_L_law 255 = .ok (.iload 5, 2) := by decide +kernel
theorem d_L_law_257 : decode b_L_law 257 = .ok (.ifCond .ne 15, 3) := by decide +kernel
theorem d_L_law_260 : decode b_L_law 260 = .ok (.aload_n 3, 1) := by decide +kernel
theorem d_L_law_261 : decode b_L_law 261 = .ok (.iconst 0, 1) := by decide +kernel
theorem d_L_law_262 : decode b_L_law 262 = .ok (.laload, 1) := by decide +kernel
theorem d_L_law_263 : decode b_L_law 263 = .ok (.iload 6, 2) := by decide +kernel
theorem d_L_law_265 : decode b_L_law 265 = .ok (.i2l, 1) := by decide +kernel
theorem d_L_law_266 : decode b_L_law 266 = .ok (.lcmp, 1) := by decide +kernel
theorem d_L_law_267 : decode b_L_law 267 = .ok (.ifCond .eq 5, 3) := by decide +kernel
theorem d_L_law_270 : decode b_L_law 270 = .ok (.iconst 0, 1) := by decide +kernel
theorem d_L_law_271 : decode b_L_law 271 = .ok (.ireturn, 1) := by decide +kernel
theorem d_L_law_272 : decode b_L_law 272 = .ok (.goto 625, 3) := by decide +kernel
theorem d_L_law_275 : decode b_L_law 275 = .ok (.aload_n 1, 1) := by decide +kernel
theorem d_L_law_276 : decode b_L_law 276 = .ok (.aload_n 3, 1) := by decide +kernel
theorem d_L_law_277 : decode b_L_law 277 = .ok (.invokestatic 80, 3) := by decide +kernel
theorem d_L_law_280 : decode b_L_law 280 = .ok (.istore 5, 2) := by decide +kernel
theorem d_L_law_282 : decode b_L_law 282 = .ok (.aload_n 2, 1) := by decide +kernel
theorem d_L_law_283 : decode b_L_law 283 = .ok (.invokevirtual 83, 3) := by decide +kernel
theorem d_L_law_286 : decode b_L_law 286 = .ok (.istore 6, 2) := by decide +kernel
theorem d_L_law_288 : decode b_L_law 288 = .ok (.aload_n 2, 1) := by decide +kernel
theorem d_L_law_289 : decode b_L_law 289 = .ok (.invokevirtual 73, 3) := by decide +kernel
theorem d_L_law_292 : decode b_L_law 292 = .ok (.iload 5, 2) := by decide +kernel
theorem d_L_law_294 : decode b_L_law 294 = .ok (.if_icmp .eq 5, 3) := by decide +kernel
theorem d_L_law_297 : decode b_L_law 297 = .ok (.iconst 0, 1) := by decide +kernel
theorem d_L_law_298 : decode b_L_law 298 = .ok (.ireturn, 1) := by decide +kernel
theorem d_L_law_299 : decode b_L_law 299 = .ok (.iload 5, 2) := by decide +kernel
theorem d_L_law_301 : decode b_L_law 301 = .ok (.ifCond .ne 15, 3) := by decide +kernel
theorem d_L_law_304 : decode b_L_law 304 = .ok (.aload_n 3, 1) := by decide +kernel
theorem d_L_law_305 : decode b_L_law 305 = .ok (.iconst 0, 1) := by decide +kernel
theorem d_L_law_306 : decode b_L_law 306 = .ok (.laload, 1) := by decide +kernel
theorem d_L_law_307 : decode b_L_law 307 = .ok (.iload 6, 2) := by decide +kernel
theorem d_L_law_309 : decode b_L_law 309 = .ok (.i2l, 1) := by decide +kernel
theorem d_L_law_310 : decode b_L_law 310 = .ok (.lcmp, 1) := by decide +kernel
theorem d_L_law_311 : decode b_L_law 311 = .ok (.ifCond .eq 5, 3) := by decide +kernel
theorem d_L_law_314 : decode b_L_law 314 = .ok (.iconst 0, 1) := by decide +kernel
theorem d_L_law_315 : decode b_L_law 315 = .ok (.ireturn, 1) := by decide +kernel
theorem d_L_law_316 : decode b_L_law 316 = .ok (.goto 581, 3) := by decide +kernel
theorem d_L_law_319 : decode b_L_law 319 = .ok (.aload_n 1, 1) := by decide +kernel
theorem d_L_law_320 : decode b_L_law 320 = .ok (.aload_n 0, 1) := by decide +kernel
theorem d_L_law_321 : decode b_L_law 321 = .ok (.iload 4, 2) := by decide +kernel
theorem d_L_law_323 : decode b_L_law 323 = .ok (.iconst 1, 1) := by decide +kernel
theorem d_L_law_324 : decode b_L_law 324 = .ok (.iadd, 1) := by decide +kernel
theorem d_L_law_325 : decode b_L_law 325 = .ok (.iaload, 1) := by decide +kernel
theorem d_L_law_326 : decode b_L_law 326 = .ok (.invokestatic 84, 3) := by decide +kernel
theorem d_L_law_329 : decode b_L_law 329 = .ok (.istore 5, 2) := by decide +kernel
theorem d_L_law_331 : decode b_L_law 331 = .ok (.aload_n 2, 1) := by decide +kernel
theorem d_L_law_332 : decode b_L_law 332 = .ok (.aload_n 0, 1) := by decide +kernel
theorem d_L_law_333 : decode b_L_law 333 = .ok (.iload 4, 2) := by decide +kernel
theorem d_L_law_335 : decode b_L_law 335 = .ok (.iconst 1, 1) := by decide +kernel
theorem d_L_law_336 : decode b_L_law 336 = .ok (.iadd, 1) := by decide +kernel
theorem d_L_law_337 : decode b_L_law 337 = .ok (.iaload, 1) := by decide +kernel
theorem d_L_law_338 : decode b_L_law 338 = .ok (.invokevirtual 87, 3) := by decide +kernel
theorem d_L_law_341 : decode b_L_law 341 = .ok (.aload_n 2, 1) := by decide +kernel
theorem d_L_law_342 : decode b_L_law 342 = .ok (.invokevirtual 73, 3) := by decide +kernel
theorem d_L_law_345 : decode b_L_law 345 = .ok (.iload 5, 2) := by decide +kernel
theorem d_L_law_347 : decode b_L_law 347 = .ok (.if_icmp .eq 5, 3) := by decide +kernel
theorem d_L_law_350 : decode b_L_law 350 = .ok (.iconst 0, 1) := by decide +kernel
theorem d_L_law_351 : decode b_L_law 351 = .ok (.ireturn, 1) := by decide +kernel
theorem d_L_law_352 : decode b_L_law 352 = .ok (.goto 545, 3) := by decide +kernel
theorem d_L_law_355 : decode b_L_law 355 = .ok (.aload_n 1, 1) := by decide +kernel
theorem d_L_law_356 : decode b_L_law 356 = .ok (.aload_n 0, 1) := by decide +kernel
theorem d_L_law_357 : decode b_L_law 357 = .ok (.iload 4, 2) := by decide +kernel
theorem d_L_law_359 : decode b_L_law 359 = .ok (.iconst 1, 1) := by decide +kernel
theorem d_L_law_360 : decode b_L_law 360 = .ok (.iadd, 1) := by decide +kernel
theorem d_L_law_361 : decode b_L_law 361 = .ok (.iaload, 1) := by decide +kernel
theorem d_L_law_362 : decode b_L_law 362 = .ok (.aload_n 0, 1) := by decide +kernel
theorem d_L_law_363 : decode b_L_law 363 = .ok (.iload 4, 2) := by decide +kernel
theorem d_L_law_365 : decode b_L_law 365 = .ok (.iconst 2, 1) := by decide +kernel
theorem d_L_law_366 : decode b_L_law 366 = .ok (.iadd, 1) := by decide +kernel
theorem d_L_law_367 : decode b_L_law 367 = .ok (.iaload, 1) := by decide +kernel
theorem d_L_law_368 : decode b_L_law 368 = .ok (.aload_n 0, 1) := by decide +kernel
theorem d_L_law_369 : decode b_L_law 369 = .ok (.iload 4, 2) := by decide +kernel
theorem d_L_law_371 : decode b_L_law 371 = .ok (.iconst 3, 1) := by decide +kernel
theorem d_L_law_372 : decode b_L_law 372 = .ok (.iadd, 1) := by decide +kernel
theorem d_L_law_373 : decode b_L_law 373 = .ok (.iaload, 1) := by decide +kernel
theorem d_L_law_374 : decode b_L_law 374 = .ok (.aload_n 3, 1) := by decide +kernel
theorem d_L_law_375 : decode b_L_law 375 = .ok (.invokestatic 88, 3) := by decide +kernel
theorem d_L_law_378 : decode b_L_law 378 = .ok (.istore 5, 2) := by decide +kernel
theorem d_L_law_380 : decode b_L_law 380 = .ok (.aload_n 2, 1) := by decide +kernel
theorem d_L_law_381 : decode b_L_law 381 = .ok (.aload_n 0, 1) := by decide +kernel
theorem d_L_law_382 : decode b_L_law 382 = .ok (.iload 4, 2) := by decide +kernel
theorem d_L_law_384 : decode b_L_law 384 = .ok (.iconst 1, 1) := by decide +kernel
theorem d_L_law_385 : decode b_L_law 385 = .ok (.iadd, 1) := by decide +kernel
theorem d_L_law_386 : decode b_L_law 386 = .ok (.iaload, 1) := by decide +kernel
theorem d_L_law_387 : decode b_L_law 387 = .ok (.aload_n 0, 1) := by decide +kernel
theorem d_L_law_388 : decode b_L_law 388 = .ok (.iload 4, 2) := by decide +kernel
theorem d_L_law_390 : decode b_L_law 390 = .ok (.iconst 2, 1) := by decide +kernel
theorem d_L_law_391 : decode b_L_law 391 = .ok (.iadd, 1) := by decide +kernel
theorem d_L_law_392 : decode b_L_law 392 = .ok (.iaload, 1) := by decide +kernel
theorem d_L_law_393 : decode b_L_law 393 = .ok (.aload_n 0, 1) := by decide +kernel
theorem d_L_law_394 : decode b_L_law 394 = .ok (.iload 4, 2) := by decide +kernel
theorem d_L_law_396 : decode b_L_law 396 = .ok (.iconst 3, 1) := by decide +kernel
theorem d_L_law_397 : decode b_L_law 397 = .ok (.iadd, 1) := by decide +kernel
theorem d_L_law_398 : decode b_L_law 398 = .ok (.iaload, 1) := by decide +kernel
theorem d_L_law_399 : decode b_L_law 399 = .ok (.invokevirtual 90, 3) := by decide +kernel
theorem d_L_law_402 : decode b_L_law 402 = .ok (.istore 6, 2) := by decide +kernel
theorem d_L_law_404 : decode b_L_law 404 = .ok (.aload_n 2, 1) := by decide +kernel
theorem d_L_law_405 : decode b_L_law 405 = .ok (.invokevirtual 73, 3) := by decide +kernel
theorem d_L_law_408 : decode b_L_law 408 = .ok (.iload 5, 2) := by decide +kernel
theorem d_L_law_410 : decode b_L_law 410 = .ok (.if_icmp .eq 5, 3) := by decide +kernel
theorem d_L_law_413 : decode b_L_law 413 = .ok (.iconst 0, 1) := by decide +kernel
theorem d_L_law_414 : decode b_L_law 414 = .ok (.ireturn, 1) := by decide +kernel
theorem d_L_law_415 : decode b_L_law 415 = .ok (.iload 5, 2) := by decide +kernel
theorem d_L_law_417 : decode b_L_law 417 = .ok (.ifCond .ne 15, 3) := by decide +kernel
theorem d_L_law_420 : decode b_L_law 420 = .ok (.aload_n 3, 1) := by decide +kernel
theorem d_L_law_421 : decode b_L_law 421 = .ok (.iconst 0, 1) := by decide +kernel
theorem d_L_law_422 : decode b_L_law 422 = .ok (.laload, 1) := by decide +kernel
theorem d_L_law_423 : decode b_L_law 423 = .ok (.iload 6, 2) := by decide +kernel
theorem d_L_law_425 : decode b_L_law 425 = .ok (.i2l, 1) := by decide +kernel
theorem d_L_law_426 : decode b_L_law 426 = .ok (.lcmp, 1) := by decide +kernel
theorem d_L_law_427 : decode b_L_law 427 = .ok (.ifCond .eq 5, 3) := by decide +kernel
theorem d_L_law_430 : decode b_L_law 430 = .ok (.iconst 0, 1) := by decide +kernel
theorem d_L_law_431 : decode b_L_law 431 = .ok (.ireturn, 1) := by decide +kernel
theorem d_L_law_432 : decode b_L_law 432 = .ok (.goto 465, 3) := by decide +kernel
theorem d_L_law_435 : decode b_L_law 435 = .ok (.aload_n 1, 1) := by decide +kernel
theorem d_L_law_436 : decode b_L_law 436 = .ok (.aload_n 0, 1) := by decide +kernel
theorem d_L_law_437 : decode b_L_law 437 = .ok (.iload 4, 2) := by decide +kernel
theorem d_L_law_439 : decode b_L_law 439 = .ok (.iconst 1, 1) := by decide +kernel
theorem d_L_law_440 : decode b_L_law 440 = .ok (.iadd, 1) := by decide +kernel
theorem d_L_law_441 : decode b_L_law 441 = .ok (.iaload, 1) := by decide +kernel
theorem d_L_law_442 : decode b_L_law 442 = .ok (.aload_n 0, 1) := by decide +kernel
theorem d_L_law_443 : decode b_L_law 443 = .ok (.iload 4, 2) := by decide +kernel
theorem d_L_law_445 : decode b_L_law 445 = .ok (.iconst 2, 1) := by decide +kernel
theorem d_L_law_446 : decode b_L_law 446 = .ok (.iadd, 1) := by decide +kernel
theorem d_L_law_447 : decode b_L_law 447 = .ok (.iaload, 1) := by decide +kernel
theorem d_L_law_448 : decode b_L_law 448 = .ok (.aload_n 0, 1) := by decide +kernel
theorem d_L_law_449 : decode b_L_law 449 = .ok (.iload 4, 2) := by decide +kernel
end
section
theorem d_L_law_451 : decode b_L_law 451 = .ok (.iconst 3, 1) := by decide +kernel
theorem d_L_law_452 : decode b_L_law 452 = .ok (.iadd, 1) := by decide +kernel
theorem d_L_law_453 : decode b_L_law 453 = .ok (.iaload, 1) := by decide +kernel
theorem d_L_law_454 : decode b_L_law 454 = .ok (.aload_n 0, 1) := by decide +kernel
theorem d_L_law_455 : decode b_L_law 455 = .ok (.iload 4, 2) := by decide +kernel
theorem d_L_law_457 : decode b_L_law 457 = .ok (.iconst 4, 1) := by decide +kernel
theorem d_L_law_458 : decode b_L_law 458 = .ok (.iadd, 1) := by decide +kernel
theorem d_L_law_459 : decode b_L_law 459 = .ok (.iaload, 1) := by decide +kernel
theorem d_L_law_460 : decode b_L_law 460 = .ok (.aload_n 3, 1) := by decide +kernel
theorem d_L_law_461 : decode b_L_law 461 = .ok (.invokestatic 91, 3) := by decide +kernel
theorem d_L_law_464 : decode b_L_law 464 = .ok (.istore 5, 2) := by decide +kernel
theorem d_L_law_466 : decode b_L_law 466 = .ok (.aload_n 2, 1) := by decide +kernel
theorem d_L_law_467 : decode b_L_law 467 = .ok (.aload_n 0, 1) := by decide +kernel
theorem d_L_law_468 : decode b_L_law 468 = .ok (.iload 4, 2) := by decide +kernel
theorem d_L_law_470 : decode b_L_law 470 = .ok (.iconst 1, 1) := by decide +kernel
theorem d_L_law_471 : decode b_L_law 471 = .ok (.iadd, 1) := by decide +kernel
theorem d_L_law_472 : decode b_L_law 472 = .ok (.iaload, 1) := by decide +kernel
theorem d_L_law_473 : decode b_L_law 473 = .ok (.aload_n 0, 1) := by decide +kernel
theorem d_L_law_474 : decode b_L_law 474 = .ok (.iload 4, 2) := by decide +kernel
theorem d_L_law_476 : decode b_L_law 476 = .ok (.iconst 2, 1) := by decide +kernel
theorem d_L_law_477 : decode b_L_law 477 = .ok (.iadd, 1) := by decide +kernel
theorem d_L_law_478 : decode b_L_law 478 = .ok (.iaload, 1) := by decide +kernel
theorem d_L_law_479 : decode b_L_law 479 = .ok (.aload_n 0, 1) := by decide +kernel
theorem d_L_law_480 : decode b_L_law 480 = .ok (.iload 4, 2) := by decide +kernel
theorem d_L_law_482 : decode b_L_law 482 = .ok (.iconst 3, 1) := by decide +kernel
theorem d_L_law_483 : decode b_L_law 483 = .ok (.iadd, 1) := by decide +kernel
theorem d_L_law_484 : decode b_L_law 484 = .ok (.iaload, 1) := by decide +kernel
theorem d_L_law_485 : decode b_L_law 485 = .ok (.aload_n 0, 1) := by decide +kernel
theorem d_L_law_486 : decode b_L_law 486 = .ok (.iload 4, 2) := by decide +kernel
theorem d_L_law_488 : decode b_L_law 488 = .ok (.iconst 4, 1) := by decide +kernel
theorem d_L_law_489 : decode b_L_law 489 = .ok (.iadd, 1) := by decide +kernel
theorem d_L_law_490 : decode b_L_law 490 = .ok (.iaload, 1) := by decide +kernel
theorem d_L_law_491 : decode b_L_law 491 = .ok (.invokevirtual 94, 3) := by decide +kernel
theorem d_L_law_494 : decode b_L_law 494 = .ok (.istore 6, 2) := by decide +kernel
theorem d_L_law_496 : decode b_L_law 496 = .ok (.aload_n 2, 1) := by decide +kernel
theorem d_L_law_497 : decode b_L_law 497 = .ok (.invokevirtual 73, 3) := by decide +kernel
theorem d_L_law_500 : decode b_L_law 500 = .ok (.iload 5, 2) := by decide +kernel
theorem d_L_law_502 : decode b_L_law 502 = .ok (.if_icmp .eq 5, 3) := by decide +kernel
theorem d_L_law_505 : decode b_L_law 505 = .ok (.iconst 0, 1) := by decide +kernel
theorem d_L_law_506 : decode b_L_law 506 = .ok (.ireturn, 1) := by decide +kernel
theorem d_L_law_507 : decode b_L_law 507 = .ok (.iload 5, 2) := by decide +kernel
theorem d_L_law_509 : decode b_L_law 509 = .ok (.ifCond .ne 22, 3) := by decide +kernel
theorem d_L_law_512 : decode b_L_law 512 = .ok (.aload_n 3, 1) := by decide +kernel
theorem d_L_law_513 : decode b_L_law 513 = .ok (.iconst 0, 1) := by decide +kernel
theorem d_L_law_514 : decode b_L_law 514 = .ok (.laload, 1) := by decide +kernel
theorem d_L_law_515 : decode b_L_law 515 = .ok (.iload 6, 2) := by decide +kernel
theorem d_L_law_517 : decode b_L_law 517 = .ok (.ifCond .eq 7, 3) := by decide +kernel
theorem d_L_law_520 : decode b_L_law 520 = .ok (.lconst 1, 1) := by decide +kernel
theorem d_L_law_521 : decode b_L_law 521 = .ok (.goto 4, 3) := by decide +kernel
theorem d_L_law_524 : decode b_L_law 524 = .ok (.lconst 0, 1) := by decide +kernel
theorem d_L_law_525 : decode b_L_law 525 = .ok (.lcmp, 1) := by decide +kernel
theorem d_L_law_526 : decode b_L_law 526 = .ok (.ifCond .eq 5, 3) := by decide +kernel
theorem d_L_law_529 : decode b_L_law 529 = .ok (.iconst 0, 1) := by decide +kernel
theorem d_L_law_530 : decode b_L_law 530 = .ok (.ireturn, 1) := by decide +kernel
theorem d_L_law_531 : decode b_L_law 531 = .ok (.goto 366, 3) := by decide +kernel
theorem d_L_law_534 : decode b_L_law 534 = .ok (.aload_n 1, 1) := by decide +kernel
theorem d_L_law_535 : decode b_L_law 535 = .ok (.aload_n 0, 1) := by decide +kernel
theorem d_L_law_536 : decode b_L_law 536 = .ok (.iload 4, 2) := by decide +kernel
theorem d_L_law_538 : decode b_L_law 538 = .ok (.iconst 1, 1) := by decide +kernel
theorem d_L_law_539 : decode b_L_law 539 = .ok (.iadd, 1) := by decide +kernel
theorem d_L_law_540 : decode b_L_law 540 = .ok (.iaload, 1) := by decide +kernel
theorem d_L_law_541 : decode b_L_law 541 = .ok (.aload_n 3, 1) := by decide +kernel
theorem d_L_law_542 : decode b_L_law 542 = .ok (.invokestatic 95, 3) := by decide +kernel
theorem d_L_law_545 : decode b_L_law 545 = .ok (.istore 5, 2) := by decide +kernel
theorem d_L_law_547 : decode b_L_law 547 = .ok (.aload_n 2, 1) := by decide +kernel
theorem d_L_law_548 : decode b_L_law 548 = .ok (.aload_n 0, 1) := by decide +kernel
theorem d_L_law_549 : decode b_L_law 549 = .ok (.iload 4, 2) := by decide +kernel
theorem d_L_law_551 : decode b_L_law 551 = .ok (.iconst 1, 1) := by decide +kernel
theorem d_L_law_552 : decode b_L_law 552 = .ok (.iadd, 1) := by decide +kernel
theorem d_L_law_553 : decode b_L_law 553 = .ok (.iaload, 1) := by decide +kernel
theorem d_L_law_554 : decode b_L_law 554 = .ok (.invokevirtual 98, 3) := by decide +kernel
theorem d_L_law_557 : decode b_L_law 557 = .ok (.istore 6, 2) := by decide +kernel
theorem d_L_law_559 : decode b_L_law 559 = .ok (.aload_n 2, 1) := by decide +kernel
theorem d_L_law_560 : decode b_L_law 560 = .ok (.invokevirtual 73, 3) := by decide +kernel
theorem d_L_law_563 : decode b_L_law 563 = .ok (.iload 5, 2) := by decide +kernel
theorem d_L_law_565 : decode b_L_law 565 = .ok (.if_icmp .eq 5, 3) := by decide +kernel
theorem d_L_law_568 : decode b_L_law 568 = .ok (.iconst 0, 1) := by decide +kernel
theorem d_L_law_569 : decode b_L_law 569 = .ok (.ireturn, 1) := by decide +kernel
theorem d_L_law_570 : decode b_L_law 570 = .ok (.iload 5, 2) := by decide +kernel
theorem d_L_law_572 : decode b_L_law 572 = .ok (.ifCond .ne 15, 3) := by decide +kernel
theorem d_L_law_575 : decode b_L_law 575 = .ok (.aload_n 3, 1) := by decide +kernel
theorem d_L_law_576 : decode b_L_law 576 = .ok (.iconst 0, 1) := by decide +kernel
theorem d_L_law_577 : decode b_L_law 577 = .ok (.laload, 1) := by decide +kernel
theorem d_L_law_578 : decode b_L_law 578 = .ok (.iload 6, 2) := by decide +kernel
theorem d_L_law_580 : decode b_L_law 580 = .ok (.i2l, 1) := by decide +kernel
theorem d_L_law_581 : decode b_L_law 581 = .ok (.lcmp, 1) := by decide +kernel
theorem d_L_law_582 : decode b_L_law 582 = .ok (.ifCond .eq 5, 3) := by decide +kernel
theorem d_L_law_585 : decode b_L_law 585 = .ok (.iconst 0, 1) := by decide +kernel
theorem d_L_law_586 : decode b_L_law 586 = .ok (.ireturn, 1) := by decide +kernel
theorem d_L_law_587 : decode b_L_law 587 = .ok (.goto 310, 3) := by decide +kernel
theorem d_L_law_590 : decode b_L_law 590 = .ok (.aload_n 1, 1) := by decide +kernel
theorem d_L_law_591 : decode b_L_law 591 = .ok (.aload_n 0, 1) := by decide +kernel
theorem d_L_law_592 : decode b_L_law 592 = .ok (.iload 4, 2) := by decide +kernel
theorem d_L_law_594 : decode b_L_law 594 = .ok (.iconst 1, 1) := by decide +kernel
theorem d_L_law_595 : decode b_L_law 595 = .ok (.iadd, 1) := by decide +kernel
theorem d_L_law_596 : decode b_L_law 596 = .ok (.iaload, 1) := by decide +kernel
theorem d_L_law_597 : decode b_L_law 597 = .ok (.invokevirtual 99, 3) := by decide +kernel
theorem d_L_law_600 : decode b_L_law 600 = .ok (.aload_n 2, 1) := by decide +kernel
theorem d_L_law_601 : decode b_L_law 601 = .ok (.aload_n 0, 1) := by decide +kernel
theorem d_L_law_602 : decode b_L_law 602 = .ok (.iload 4, 2) := by decide +kernel
theorem d_L_law_604 : decode b_L_law 604 = .ok (.iconst 1, 1) := by decide +kernel
theorem d_L_law_605 : decode b_L_law 605 = .ok (.iadd, 1) := by decide +kernel
theorem d_L_law_606 : decode b_L_law 606 = .ok (.iaload, 1) := by decide +kernel
theorem d_L_law_607 : decode b_L_law 607 = .ok (.invokevirtual 103, 3) := by decide +kernel
theorem d_L_law_610 : decode b_L_law 610 = .ok (.if_icmp .eq 287, 3) := by decide +kernel
theorem d_L_law_613 : decode b_L_law 613 = .ok (.iconst 0, 1) := by decide +kernel
theorem d_L_law_614 : decode b_L_law 614 = .ok (.ireturn, 1) := by decide +kernel
theorem d_L_law_615 : decode b_L_law 615 = .ok (.aload_n 1, 1) := by decide +kernel
theorem d_L_law_616 : decode b_L_law 616 = .ok (.aload_n 3, 1) := by decide +kernel
theorem d_L_law_617 : decode b_L_law 617 = .ok (.invokestatic 104, 3) := by decide +kernel
theorem d_L_law_620 : decode b_L_law 620 = .ok (.istore 5, 2) := by decide +kernel
theorem d_L_law_622 : decode b_L_law 622 = .ok (.aload_n 2, 1) := by decide +kernel
theorem d_L_law_623 : decode b_L_law 623 = .ok (.invokevirtual 106, 3) := by decide +kernel
theorem d_L_law_626 : decode b_L_law 626 = .ok (.istore 6, 2) := by decide +kernel
theorem d_L_law_628 : decode b_L_law 628 = .ok (.aload_n 2, 1) := by decide +kernel
theorem d_L_law_629 : decode b_L_law 629 = .ok (.invokevirtual 73, 3) := by decide +kernel
theorem d_L_law_632 : decode b_L_law 632 = .ok (.iload 5, 2) := by decide +kernel
theorem d_L_law_634 : decode b_L_law 634 = .ok (.if_icmp .eq 5, 3) := by decide +kernel
theorem d_L_law_637 : decode b_L_law 637 = .ok (.iconst 0, 1) := by decide +kernel
theorem d_L_law_638 : decode b_L_law 638 = .ok (.ireturn, 1) := by decide +kernel
theorem d_L_law_639 : decode b_L_law 639 = .ok (.iload 5, 2) := by decide +kernel
theorem d_L_law_641 : decode b_L_law 641 = .ok (.ifCond .ne 15, 3) := by decide +kernel
theorem d_L_law_644 : decode b_L_law 644 = .ok (.aload_n 3, 1) := by decide +kernel
theorem d_L_law_645 : decode b_L_law 645 = .ok (.iconst 0, 1) := by decide +kernel
theorem d_L_law_646 : decode b_L_law 646 = .ok (.laload, 1) := by decide +kernel
theorem d_L_law_647 : decode b_L_law 647 = .ok (.iload 6, 2) := by decide +kernel
theorem d_L_law_649 : decode b_L_law 649 = .ok (.i2l, 1) := by decide +kernel
theorem d_L_law_650 : decode b_L_law 650 = .ok (.lcmp, 1) := by decide +kernel
theorem d_L_law_651 : decode b_L_law 651 = .ok (.ifCond .eq 5, 3) := by decide +kernel
theorem d_L_law_654 : decode b_L_law 654 = .ok (.iconst 0, 1) := by decide +kernel
theorem d_L_law_655 : decode b_L_law 655 = .ok (.ireturn, 1) := by decide +kernel
theorem d_L_law_656 : decode b_L_law 656 = .ok (.goto 241, 3) := by decide +kernel
theorem d_L_law_659 : decode b_L_law 659 = .ok (.aload_n 1, 1) := by decide +kernel
theorem d_L_law_660 : decode b_L_law 660 = .ok (.invokevirtual 107, 3) := by decide +kernel
theorem d_L_law_663 : decode b_L_law 663 = .ok (.aload_n 2, 1) := by decide +kernel
theorem d_L_law_664 : decode b_L_law 664 = .ok (.invokevirtual 111, 3) := by decide +kernel
theorem d_L_law_667 : decode b_L_law 667 = .ok (.if_icmp .eq 230, 3) := by decide +kernel
theorem d_L_law_670 : decode b_L_law 670 = .ok (.iconst 0, 1) := by decide +kernel
theorem d_L_law_671 : decode b_L_law 671 = .ok (.ireturn, 1) := by decide +kernel
theorem d_L_law_672 : decode b_L_law 672 = .ok (.aload_n 1, 1) := by decide +kernel
theorem d_L_law_673 : decode b_L_law 673 = .ok (.invokevirtual 112, 3) := by decide +kernel
theorem d_L_law_676 : decode b_L_law 676 = .ok (.aload_n 2, 1) := by decide +kernel
theorem d_L_law_677 : decode b_L_law 677 = .ok (.invokevirtual 115, 3) := by decide +kernel
theorem d_L_law_680 : decode b_L_law 680 = .ok (.if_icmp .eq 217, 3) := by decide +kernel
theorem d_L_law_683 : decode b_L_law 683 = .ok (.iconst 0, 1) := by decide +kernel
theorem d_L_law_684 : decode b_L_law 684 = .ok (.ireturn, 1) := by decide +kernel
theorem d_L_law_685 : decode b_L_law 685 = .ok (.aload_n 1, 1) := by decide +kernel
theorem d_L_law_686 : decode b_L_law 686 = .ok (.aload_n 3, 1) := by decide +kernel
theorem d_L_law_687 : decode b_L_law 687 = .ok (.invokestatic 116, 3) := by decide +kernel
theorem d_L_law_690 : decode b_L_law 690 = .ok (.istore 5, 2) := by decide +kernel
theorem d_L_law_692 : decode b_L_law 692 = .ok (.aload_n 2, 1) := by decide +kernel
theorem d_L_law_693 : decode b_L_law 693 = .ok (.invokevirtual 118, 3) := by decide +kernel
theorem d_L_law_696 : decode b_L_law 696 = .ok (.istore 6, 2) := by decide +kernel
theorem d_L_law_698 : decode b_L_law 698 = .ok (.aload_n 2, 1) := by decide +kernel
theorem d_L_law_699 : decode b_L_law 699 = .ok (.invokevirtual 73, 3) := by decide +kernel
theorem d_L_law_702 : decode b_L_law 702 = .ok (.iload 5, 2) := by decide +kernel
theorem d_L_law_704 : decode b_L_law 704 = .ok (.if_icmp .eq 5, 3) := by decide +kernel
theorem d_L_law_707 : decode b_L_law 707 = .ok (.iconst 0, 1) := by decide +kernel
theorem d_L_law_708 : decode b_L_law 708 = .ok (.ireturn, 1) := by decide +kernel
theorem d_L_law_709 : decode b_L_law 709 = .ok (.iload 5, 2) := by decide +kernel
theorem d_L_law_711 : decode b_L_law 711 = .ok (.ifCond .ne 15, 3) := by decide +kernel
theorem d_L_law_714 : decode b_L_law 714 = .ok (.aload_n 3, 1) := by decide +kernel
theorem d_L_law_715 : decode b_L_law 715 = .ok (.iconst 0, 1) := by decide +kernel
theorem d_L_law_716 : decode b_L_law 716 = .ok (.laload, 1) := by decide +kernel
theorem d_L_law_717 : decode b_L_law 717 = .ok (.iload 6, 2) := by decide +kernel
theorem d_L_law_719 : decode b_L_law 719 = .ok (.i2l, 1) := by decide +kernel
theorem d_L_law_720 : decode b_L_law 720 = .ok (.lcmp, 1) := by decide +kernel
theorem d_L_law_721 : decode b_L_law 721 = .ok (.ifCond .eq 5, 3) := by decide +kernel
theorem d_L_law_724 : decode b_L_law 724 = .ok (.iconst 0, 1) := by decide +kernel
theorem d_L_law_725 : decode b_L_law 725 = .ok (.ireturn, 1) := by decide +kernel
theorem d_L_law_726 : decode b_L_law 726 = .ok (.goto 171, 3) := by decide +kernel
theorem d_L_law_729 : decode b_L_law 729 = .ok (.aload_n 1, 1) := by decide +kernel
theorem d_L_law_730 : decode b_L_law 730 = .ok (.aload_n 0, 1) := by decide +kernel
theorem d_L_law_731 : decode b_L_law 731 = .ok (.iload 4, 2) := by decide +kernel
theorem d_L_law_733 : decode b_L_law 733 = .ok (.iconst 1, 1) := by decide +kernel
theorem d_L_law_734 : decode b_L_law 734 = .ok (.iadd, 1) := by decide +kernel
theorem d_L_law_735 : decode b_L_law 735 = .ok (.iaload, 1) := by decide +kernel
theorem d_L_law_736 : decode b_L_law 736 = .ok (.aload_n 0, 1) := by decide +kernel
theorem d_L_law_737 : decode b_L_law 737 = .ok (.iload 4, 2) := by decide +kernel
theorem d_L_law_739 : decode b_L_law 739 = .ok (.iconst 2, 1) := by decide +kernel
theorem d_L_law_740 : decode b_L_law 740 = .ok (.iadd, 1) := by decide +kernel
theorem d_L_law_741 : decode b_L_law 741 = .ok (.iaload, 1) := by decide +kernel
theorem d_L_law_742 : decode b_L_law 742 = .ok (.aload_n 3, 1) := by decide +kernel
theorem d_L_law_743 : decode b_L_law 743 = .ok (.invokestatic 119, 3) := by decide +kernel
theorem d_L_law_746 : decode b_L_law 746 = .ok (.istore 5, 2) := by decide +kernel
theorem d_L_law_748 : decode b_L_law 748 = .ok (.aload_n 2, 1) := by decide +kernel
theorem d_L_law_749 : decode b_L_law 749 = .ok (.aload_n 0, 1) := by decide +kernel
theorem d_L_law_750 : decode b_L_law 750 = .ok (.iload 4, 2) := by decide +kernel
theorem d_L_law_752 : decode b_L_law 752 = .ok (.iconst 1, 1) := by decide +kernel
theorem d_L_law_753 : decode b_L_law 753 = .ok (.iadd, 1) := by decide +kernel
theorem d_L_law_754 : decode b_L_law 754 = .ok (.iaload, 1) := by decide +kernel
theorem d_L_law_755 : decode b_L_law 755 = .ok (.aload_n 0, 1) := by decide +kernel
theorem d_L_law_756 : decode b_L_law 756 = .ok (.iload 4, 2) := by decide +kernel
theorem d_L_law_758 : decode b_L_law 758 = .ok (.iconst 2, 1) := by decide +kernel
theorem d_L_law_759 : decode b_L_law 759 = .ok (.iadd, 1) := by decide +kernel
theorem d_L_law_760 : decode b_L_law 760 = .ok (.iaload, 1) := by decide +kernel
theorem d_L_law_761 : decode b_L_law 761 = .ok (.invokevirtual 121, 3) := by decide +kernel
theorem d_L_law_764 : decode b_L_law 764 = .ok (.istore 6, 2) := by decide +kernel
theorem d_L_law_766 : decode b_L_law 766 = .ok (.aload_n 2, 1) := by decide +kernel
theorem d_L_law_767 : decode b_L_law 767 = .ok (.invokevirtual 73, 3) := by decide +kernel
theorem d_L_law_770 : decode b_L_law 770 = .ok (.iload 5, 2) := by decide +kernel
theorem d_L_law_772 : decode b_L_law 772 = .ok (.if_icmp .eq 5, 3) := by decide +kernel
theorem d_L_law_775 : decode b_L_law 775 = .ok (.iconst 0, 1) := by decide +kernel
theorem d_L_law_776 : decode b_L_law 776 = .ok (.ireturn, 1) := by decide +kernel
theorem d_L_law_777 : decode b_L_law 777 = .ok (.iload 5, 2) := by decide +kernel
theorem d_L_law_779 : decode b_L_law 779 = .ok (.ifCond .ne 15, 3) := by decide +kernel
theorem d_L_law_782 : decode b_L_law 782 = .ok (.aload_n 3, 1) := by decide +kernel
theorem d_L_law_783 : decode b_L_law 783 = .ok (.iconst 0, 1) := by decide +kernel
theorem d_L_law_784 : decode b_L_law 784 = .ok (.laload, 1) := by decide +kernel
theorem d_L_law_785 : decode b_L_law 785 = .ok (.iload 6, 2) := by decide +kernel
theorem d_L_law_787 : decode b_L_law 787 = .ok (.i2l, 1) := by decide +kernel
theorem d_L_law_788 : decode b_L_law 788 = .ok (.lcmp, 1) := by decide +kernel
theorem d_L_law_789 : decode b_L_law 789 = .ok (.ifCond .eq 5, 3) := by decide +kernel
theorem d_L_law_792 : decode b_L_law 792 = .ok (.iconst 0, 1) := by decide +kernel
theorem d_L_law_793 : decode b_L_law 793 = .ok (.ireturn, 1) := by decide +kernel
theorem d_L_law_794 : decode b_L_law 794 = .ok (.goto 103, 3) := by decide +kernel
theorem d_L_law_797 : decode b_L_law 797 = .ok (.aload_n 1, 1) := by decide +kernel
theorem d_L_law_798 : decode b_L_law 798 = .ok (.aload_n 3, 1) := by decide +kernel
theorem d_L_law_799 : decode b_L_law 799 = .ok (.invokestatic 122, 3) := by decide +kernel
theorem d_L_law_802 : decode b_L_law 802 = .ok (.istore 5, 2) := by decide +kernel
theorem d_L_law_804 : decode b_L_law 804 = .ok (.aload_n 2, 1) := by decide +kernel
theorem d_L_law_805 : decode b_L_law 805 = .ok (.invokevirtual 124, 3) := by decide +kernel
theorem d_L_law_808 : decode b_L_law 808 = .ok (.istore 6, 2) := by decide +kernel
theorem d_L_law_810 : decode b_L_law 810 = .ok (.aload_n 2, 1) := by decide +kernel
theorem d_L_law_811 : decode b_L_law 811 = .ok (.invokevirtual 73, 3) := by decide +kernel
theorem d_L_law_814 : decode b_L_law 814 = .ok (.iload 5, 2) := by decide +kernel
theorem d_L_law_816 : decode b_L_law 816 = .ok (.if_icmp .eq 5, 3) := by decide +kernel
theorem d_L_law_819 : decode b_L_law 819 = .ok (.iconst 0, 1) := by decide +kernel
theorem d_L_law_820 : decode b_L_law 820 = .ok (.ireturn, 1) := by decide +kernel
theorem d_L_law_821 : decode b_L_law 821 = .ok (.iload 5, 2) := by decide +kernel
theorem d_L_law_823 : decode b_L_law 823 = .ok (.ifCond .ne 15, 3) := by decide +kernel
theorem d_L_law_826 : decode b_L_law 826 = .ok (.aload_n 3, 1) := by decide +kernel
theorem d_L_law_827 : decode b_L_law 827 = .ok (.iconst 0, 1) := by decide +kernel
theorem d_L_law_828 : decode b_L_law 828 = .ok (.laload, 1) := by decide +kernel
theorem d_L_law_829 : decode b_L_law 829 = .ok (.iload 6, 2) := by decide +kernel
theorem d_L_law_831 : decode b_L_law 831 = .ok (.i2l, 1) := by decide +kernel
theorem d_L_law_832 : decode b_L_law 832 = .ok (.lcmp, 1) := by decide +kernel
theorem d_L_law_833 : decode b_L_law 833 = .ok (.ifCond .eq 5, 3) := by decide +kernel
theorem d_L_law_836 : decode b_L_law 836 = .ok (.iconst 0, 1) := by decide +kernel
theorem d_L_law_837 : decode b_L_law 837 = .ok (.ireturn, 1) := by decide +kernel
theorem d_L_law_838 : decode b_L_law 838 = .ok (.goto 59, 3) := by decide +kernel
theorem d_L_law_841 : decode b_L_law 841 = .ok (.aload_n 1, 1) := by decide +kernel
theorem d_L_law_842 : decode b_L_law 842 = .ok (.aload_n 0, 1) := by decide +kernel
theorem d_L_law_843 : decode b_L_law 843 = .ok (.iload 4, 2) := by decide +kernel
theorem d_L_law_845 : decode b_L_law 845 = .ok (.iconst 1, 1) := by decide +kernel
theorem d_L_law_846 : decode b_L_law 846 = .ok (.iadd, 1) := by decide +kernel
theorem d_L_law_847 : decode b_L_law 847 = .ok (.iaload, 1) := by decide +kernel
theorem d_L_law_848 : decode b_L_law 848 = .ok (.aload_n 3, 1) := by decide +kernel
theorem d_L_law_849 : decode b_L_law 849 = .ok (.invokestatic 125, 3) := by decide +kernel
theorem d_L_law_852 : decode b_L_law 852 = .ok (.istore 5, 2) := by decide +kernel
theorem d_L_law_854 : decode b_L_law 854 = .ok (.aload_n 2, 1) := by decide +kernel
theorem d_L_law_855 : decode b_L_law 855 = .ok (.aload_n 0, 1) := by decide +kernel
theorem d_L_law_856 : decode b_L_law 856 = .ok (.iload 4, 2) := by decide +kernel
theorem d_L_law_858 : decode b_L_law 858 = .ok (.iconst 1, 1) := by decide +kernel
theorem d_L_law_859 : decode b_L_law 859 = .ok (.iadd, 1) := by decide +kernel
theorem d_L_law_860 : decode b_L_law 860 = .ok (.iaload, 1) := by decide +kernel
theorem d_L_law_861 : decode b_L_law 861 = .ok (.invokevirtual 127, 3) := by decide +kernel
theorem d_L_law_864 : decode b_L_law 864 = .ok (.istore 6, 2) := by decide +kernel
theorem d_L_law_866 : decode b_L_law 866 = .ok (.aload_n 2, 1) := by decide +kernel
theorem d_L_law_867 : decode b_L_law 867 = .ok (.invokevirtual 73, 3) := by decide +kernel
theorem d_L_law_870 : decode b_L_law 870 = .ok (.iload 5, 2) := by decide +kernel
theorem d_L_law_872 : decode b_L_law 872 = .ok (.if_icmp .eq 5, 3) := by decide +kernel
theorem d_L_law_875 : decode b_L_law 875 = .ok (.iconst 0, 1) := by decide +kernel
theorem d_L_law_876 : decode b_L_law 876 = .ok (.ireturn, 1) := by decide +kernel
theorem d_L_law_877 : decode b_L_law 877 = .ok (.iload 5, 2) := by decide +kernel
theorem d_L_law_879 : decode b_L_law 879 = .ok (.ifCond .ne 15, 3) := by decide +kernel
theorem d_L_law_882 : decode b_L_law 882 = .ok (.aload_n 3, 1) := by decide +kernel
theorem d_L_law_883 : decode b_L_law 883 = .ok (.iconst 0, 1) := by decide +kernel
theorem d_L_law_884 : decode b_L_law 884 = .ok (.laload, 1) := by decide +kernel
theorem d_L_law_885 : decode b_L_law 885 = .ok (.iload 6, 2) := by decide +kernel
theorem d_L_law_887 : decode b_L_law 887 = .ok (.i2l, 1) := by decide +kernel
theorem d_L_law_888 : decode b_L_law 888 = .ok (.lcmp, 1) := by decide +kernel
theorem d_L_law_889 : decode b_L_law 889 = .ok (.ifCond .eq 5, 3) := by decide +kernel
theorem d_L_law_892 : decode b_L_law 892 = .ok (.iconst 0, 1) := by decide +kernel
theorem d_L_law_893 : decode b_L_law 893 = .ok (.ireturn, 1) := by decide +kernel
theorem d_L_law_894 : decode b_L_law 894 = .ok (.goto 3, 3) := by decide +kernel
theorem d_L_law_897 : decode b_L_law 897 = .ok (.iinc 4 5, 3) := by decide +kernel
theorem d_L_law_900 : decode b_L_law 900 = .ok (.goto (-877), 3) := by decide +kernel
theorem d_L_law_903 : decode b_L_law 903 = .ok (.iconst 1, 1) := by decide +kernel
theorem d_L_law_904 : decode b_L_law 904 = .ok (.ireturn, 1) := by decide +kernel
end
section

/-! ===== numbers ===== -/
def bI (b : Bool) : Int32 := match b with
  | true => 1
  | false => 0
def oI (o : Option Nat) : Int32 := match o with
  | none => -1
  | some k => nI k
theorem bI_eq0 (b : Bool) : bI b = 0 ↔ b = false := by cases b <;> decide
theorem bI_inj (a b : Bool) : bI a = bI b ↔ a = b := by cases a <;> cases b <;> decide
theorem nI_lit0 : (0 : Int32) = nI 0 := rfl
theorem upd_n (f : Nat → Nat) (k x : Nat) : upd (fun j => nI (f j)) k (nI x) = fun j => nI (va_up f k x j) := by
  funext j
  unfold upd va_up
  by_cases h : j = k <;> simp [h]
theorem upd_b (f : Nat → Bool) (k : Nat) (x : Bool) : upd (fun j => bI (f j)) k (bI x) = fun j => bI (va_up f k x j) := by
  funext j
  unfold upd va_up
  by_cases h : j = k <;> simp [h]
theorem bI_nar (b : Bool) : vp_nar .boolean (bI b) = bI b := by cases b <;> rfl
theorem bI_narrow (b : Bool) : narrow .boolean (.int (bI b)) = .int (bI b) := by cases b <;> rfl
theorem bI_fits (b : Bool) : fits .boolean (.int (bI b)) = true := by cases b <;> rfl
/-- how many of the first n hold -/
def cnt (p : Nat → Bool) : Nat → Nat
  | 0 => 0
  | n + 1 => cnt p n + (if p n then 1 else 0)
/-- the first of n from k on that holds -/
def fst (p : Nat → Bool) : Nat → Nat → Option Nat
  | 0, _ => none
  | n + 1, k => if p k then some k else fst p n (k + 1)
theorem cnt_le (p : Nat → Bool) (n : Nat) : cnt p n ≤ n := by
  induction n with
  | zero => exact Nat.le_refl _
  | succ n ih =>
    unfold cnt
    split <;> omega
theorem fst_some {p : Nat → Bool} : ∀ {n k c : Nat}, fst p n k = some c → k ≤ c ∧ c < k + n ∧ p c = true ∧ ∀ j, k ≤ j → j < c → p j = false := by
  intro n
  induction n with
  | zero => intro k c h; cases h
  | succ n ih =>
    intro k c h
    unfold fst at h
    by_cases hk : p k = true
    · rw [if_pos hk] at h
      cases h
      exact ⟨Nat.le_refl _, by omega, hk, fun j h1 h2 => absurd h2 (by omega)⟩
    · rw [if_neg hk] at h
      obtain ⟨h1, h2, h3, h4⟩ := ih h
      refine ⟨by omega, by omega, h3, fun j g1 g2 => ?_⟩
      by_cases hj : j = k
      · subst hj; simpa using hk
      · exact h4 j (by omega) g2
theorem fst_none {p : Nat → Bool} : ∀ {n k : Nat}, fst p n k = none → ∀ j, k ≤ j → j < k + n → p j = false := by
  intro n
  induction n with
  | zero => intro k _ j h1 h2; omega
  | succ n ih =>
    intro k h j h1 h2
    unfold fst at h
    by_cases hk : p k = true
    · rw [if_pos hk] at h; cases h
    · rw [if_neg hk] at h
      by_cases hj : j = k
      · subst hj; simpa using hk
      · exact ih h j (by omega) (by omega)
end
section

/-! ===== the words of all methods: the tables' good words ===== -/
def wg_ok (w : Cond) : Bool := (w.onTables && w.keeps) || (match w with
  | .arrayClass _ => true
  | _ => false)
def wG : List Cond := lw_tbl.filter wg_ok
theorem wg_in {w : Cond} (h1 : w ∈ lw_tbl) (h2 : wg_ok w = true) : w ∈ wG := List.mem_filter.mpr ⟨h1, h2⟩
theorem wg_good {w : Cond} (h : w ∈ wG) : (w.onTables && w.keeps) = true ∨ ∃ ty, w = .arrayClass ty := by
  have h2 := (List.mem_filter.mp h).2
  unfold wg_ok at h2
  rcases Bool.or_eq_true _ _ |>.mp h2 with h3 | h3
  · exact Or.inl h3
  · cases w <;> first | exact Or.inr ⟨_, rfl⟩ | (simp at h3)
theorem wg_sub {big : List Cond} (hbig : ∀ w ∈ wG, w ∈ big) {ws : List Cond} (h : ∀ w ∈ ws, w ∈ wG) : GoodIn big ws := fun w hw => ⟨hbig w (h w hw), wg_good (h w hw)⟩
/-- a callee and its link, by the words -/
def lkV (own : String) (idx : Nat) (C : String) (y : MethodName) (b : ByteArray) (maxL : Nat) (ret : Option FieldType) (n : Nat) : Prop :=
  Cond.methodLink own idx y ∈ wG ∧ Cond.instanceMethod y ∈ wG ∧ Cond.selects C y y ∈ wG ∧ Cond.initialized C ∈ wG ∧ Cond.code y b maxL ret ∈ wG ∧
  (y.cls = C ∧ y.cls ≠ "java/lang/invoke/MethodHandle" ∧ y.cls ≠ "java/lang/invoke/VarHandle" ∧ (parseMethodDescriptor y.desc).map (fun d => d.parameters.length) = some n)
def lkS (own : String) (idx : Nat) (y : MethodName) (b : ByteArray) (maxL : Nat) (ret : Option FieldType) (n : Nat) : Prop :=
  Cond.methodLink own idx y ∈ wG ∧ Cond.static y ∈ wG ∧ Cond.initialized own ∈ wG ∧ Cond.code y b maxL ret ∈ wG ∧
  (y.cls = own ∧ y.cls ≠ "java/lang/invoke/MethodHandle" ∧ y.cls ≠ "java/lang/invoke/VarHandle" ∧ (parseMethodDescriptor y.desc).map (fun d => d.parameters.length) = some n)
theorem lkV.cw {own : String} {idx : Nat} {C : String} {y : MethodName} {b : ByteArray} {maxL : Nat} {ret : Option FieldType} {n : Nat} (k : lkV own idx C y b maxL ret n) {R rm : Room} {s : State} {args : Array Value} (hG : ∀ w ∈ wG, w.before args s = true) (hR : rm.frames + 1 ≤ R.frames ∧ 8 + (maxL + 11) + rm.locals ≤ R.locals) :
    CallW R s args own C idx y b maxL ret (.code y b maxL ret :: wG) rm rm.cells rm.slots n := by
  obtain ⟨k1, k2, k3, k4, k5, k6⟩ := k
  refine cwV n hG (wg_sub (fun w h => h) fun w hw => ?_) rfl rfl rfl k6 hR
  simp only [wsV, List.mem_append, List.mem_cons, List.not_mem_nil, or_false] at hw
  rcases hw with (rfl | rfl | rfl | rfl) | rfl | hw
  · exact k1
  · exact k2
  · exact k3
  · exact k4
  · exact k5
  · exact hw
theorem lkS.cw {own : String} {idx : Nat} {y : MethodName} {b : ByteArray} {maxL : Nat} {ret : Option FieldType} {n : Nat} (k : lkS own idx y b maxL ret n) {R rm : Room} {s : State} {args : Array Value} (hG : ∀ w ∈ wG, w.before args s = true) (hR : rm.frames + 1 ≤ R.frames ∧ 8 + (maxL + 11) + rm.locals ≤ R.locals) :
    CallB R s args own idx y b maxL ret (.code y b maxL ret :: wG) rm rm.cells rm.slots n ∧ (Cond.static y).before args s = true := by
  obtain ⟨k1, k2, k3, k4, k6⟩ := k
  refine cwS n hG (wg_sub (fun w h => h) fun w hw => ?_) rfl rfl rfl k6 hR
  simp only [wsS, List.mem_append, List.mem_cons, List.not_mem_nil, or_false] at hw
  rcases hw with (rfl | rfl | rfl) | rfl | hw
  · exact k1
  · exact k2
  · exact k3
  · exact k4
  · exact hw
/-- what a walk stands on: the machine, the code, the class, the words -/
def gC (p : Program) (s : State) (m : MethodId) (args : Array Value) (meth : Method) (c : Code) (cc : ByteArray) (nL : Nat) (own : String) : Prop :=
  p.tables.exec = Jvm.exec ∧ c.code = cc ∧ c.maxLocals = nL ∧ s.vm.findClass own = some m.cls ∧ (∀ w ∈ wG, w.before args s = true) ∧ meth.locks = false

theorem wg_i {w : Cond} (h : (decide (w ∈ lw_tbl) && wg_ok w) = true) : w ∈ wG := by
  simp only [Bool.and_eq_true, decide_eq_true_eq] at h
  exact wg_in h.1 h.2
theorem lay_S : ∀ w ∈ u_ws R_S F_S 11, w ∈ wG := fun w hw => wg_i ((List.all_eq_true.mp (show (u_ws R_S F_S 11).all (fun w => decide (w ∈ lw_tbl) && wg_ok w) = true by decide +kernel)) w hw)
theorem fl_S0 : Cond.fieldLink R_S 9 R_S "blockWords" "[I" ∈ wG := wg_i (by decide +kernel)
theorem fl_S1 : Cond.fieldLink R_S 13 R_S "copyWords" "[I" ∈ wG := wg_i (by decide +kernel)
theorem fl_S2 : Cond.fieldLink R_S 16 R_S "tagStamps" "[I" ∈ wG := wg_i (by decide +kernel)
theorem fl_S3 : Cond.fieldLink R_S 19 R_S "tagBlocks" "[I" ∈ wG := wg_i (by decide +kernel)
theorem fl_S4 : Cond.fieldLink R_S 22 R_S "stamps" "[I" ∈ wG := wg_i (by decide +kernel)
theorem fl_S5 : Cond.fieldLink R_S 107 R_S "roll" "I" ∈ wG := wg_i (by decide +kernel)
theorem fl_S6 : Cond.fieldLink R_S 127 R_S "mark" "I" ∈ wG := wg_i (by decide +kernel)
theorem fl_S7 : Cond.fieldLink R_S 61 R_S "lastStamp" "I" ∈ wG := wg_i (by decide +kernel)
theorem fl_S8 : Cond.fieldLink R_S 102 R_S "fuseLeft" "I" ∈ wG := wg_i (by decide +kernel)
theorem fl_S9 : Cond.fieldLink R_S 98 R_S "down" "Z" ∈ wG := wg_i (by decide +kernel)
theorem fl_S10 : Cond.fieldLink R_S 110 R_S "writesDone" "I" ∈ wG := wg_i (by decide +kernel)
theorem lay_M : ∀ w ∈ u_ws R_M F_M 10, w ∈ wG := fun w hw => wg_i ((List.all_eq_true.mp (show (u_ws R_M F_M 10).all (fun w => decide (w ∈ lw_tbl) && wg_ok w) = true by decide +kernel)) w hw)
theorem fl_M0 : Cond.fieldLink R_M 27 R_M "code" "I" ∈ wG := wg_i (by decide +kernel)
theorem fl_M1 : Cond.fieldLink R_M 33 R_M "down" "Z" ∈ wG := wg_i (by decide +kernel)
theorem fl_M2 : Cond.fieldLink R_M 7 R_M "fuse" "I" ∈ wG := wg_i (by decide +kernel)
theorem fl_M3 : Cond.fieldLink R_M 37 R_M "count" "I" ∈ wG := wg_i (by decide +kernel)
theorem fl_M4 : Cond.fieldLink R_M 13 R_M "volume" "[I" ∈ wG := wg_i (by decide +kernel)
theorem fl_M5 : Cond.fieldLink R_M 17 R_M "words" "[I" ∈ wG := wg_i (by decide +kernel)
theorem fl_M6 : Cond.fieldLink R_M 20 R_M "there" "[Z" ∈ wG := wg_i (by decide +kernel)
theorem fl_M7 : Cond.fieldLink R_M 24 R_M "own" "[I" ∈ wG := wg_i (by decide +kernel)
theorem fl_M8 : Cond.fieldLink R_M 30 R_M "back" "I" ∈ wG := wg_i (by decide +kernel)
theorem fl_M9 : Cond.fieldLink R_M 86 R_M "mark" "I" ∈ wG := wg_i (by decide +kernel)
end
section
section NR
variable {p : Program} {l : Launch} {e : Env} {R : Room} {s : State} {m : MethodId} {args : Array Value} {below : List Frame} {meth : Method} {c : Code} {H : Heap} {locs : List Loc} {cells slots : Nat} {Q : State → Prop}
variable {cc : ByteArray} {pc : Nat} {ls : Array Slot} {rest : List Value}
theorem n_iadd (hx : p.tables.exec = Jvm.exec) (hb : c.code = cc) {a b : Nat} (hdg : decode cc pc = .ok (.iadd, 1)) (k : W p l e R s m args below meth c H locs cells slots Q (F0 m (pc + 1) ls (.int (nI (a + b)) :: rest))) : W p l e R s m args below meth c H locs cells slots Q (F0 m pc ls (.int (nI b) :: .int (nI a) :: rest)) := by
  refine lv_iadd hx hb hdg ?_
  rw [nI_add a b]
  exact k
theorem n_imul (hx : p.tables.exec = Jvm.exec) (hb : c.code = cc) {a b : Nat} (hdg : decode cc pc = .ok (.imul, 1)) (k : W p l e R s m args below meth c H locs cells slots Q (F0 m (pc + 1) ls (.int (nI (a * b)) :: rest))) : W p l e R s m args below meth c H locs cells slots Q (F0 m pc ls (.int (nI b) :: .int (nI a) :: rest)) := by
  refine lv_imul hx hb hdg ?_
  rw [pk_mul a b]
  exact k
theorem n_isub (hx : p.tables.exec = Jvm.exec) (hb : c.code = cc) {a b : Nat} (hab : b ≤ a) (hdg : decode cc pc = .ok (.isub, 1)) (k : W p l e R s m args below meth c H locs cells slots Q (F0 m (pc + 1) ls (.int (nI (a - b)) :: rest))) : W p l e R s m args below meth c H locs cells slots Q (F0 m pc ls (.int (nI b) :: .int (nI a) :: rest)) := by
  refine lv_isub hx hb hdg ?_
  rw [pk_sub hab]
  exact k
theorem n_idiv (hx : p.tables.exec = Jvm.exec) (hb : c.code = cc) {a b : Nat} (ha : a < 2 ^ 31) (h0 : 0 < b) (hb2 : b < 2 ^ 31) (hdg : decode cc pc = .ok (.idiv, 1)) (k : W p l e R s m args below meth c H locs cells slots Q (F0 m (pc + 1) ls (.int (nI (a / b)) :: rest))) : W p l e R s m args below meth c H locs cells slots Q (F0 m pc ls (.int (nI b) :: .int (nI a) :: rest)) := by
  refine lv_idiv hx hb hdg (nI_ne0 h0 hb2) ?_
  rw [pk_div ha h0 hb2]
  exact k
theorem n_icmp_ge (hx : p.tables.exec = Jvm.exec) (hb : c.code = cc) {a b : Nat} {off : Int} {tgt : Nat} (ha : a < 2 ^ 31) (hb2 : b < 2 ^ 31) (hdg : decode cc pc = .ok (.if_icmp .ge off, 3)) (ht : (pc : Int) + off = (tgt : Int)) (k1 : b ≤ a → W p l e R s m args below meth c H locs cells slots Q (F0 m tgt ls rest)) (k2 : a < b → W p l e R s m args below meth c H locs cells slots Q (F0 m (pc + 3) ls rest)) : W p l e R s m args below meth c H locs cells slots Q (F0 m pc ls (.int (nI b) :: .int (nI a) :: rest)) := by
  refine lv_icmp_ge hx hb hdg ht (fun q => k1 ((nI_leI hb2 ha).mp q)) (fun q => k2 ?_)
  have q2 : ¬ (b ≤ a) := fun z => q ((nI_leI hb2 ha).mpr z)
  omega
theorem n_icmp_lt (hx : p.tables.exec = Jvm.exec) (hb : c.code = cc) {a b : Nat} {off : Int} {tgt : Nat} (ha : a < 2 ^ 31) (hb2 : b < 2 ^ 31) (hdg : decode cc pc = .ok (.if_icmp .lt off, 3)) (ht : (pc : Int) + off = (tgt : Int)) (k1 : a < b → W p l e R s m args below meth c H locs cells slots Q (F0 m tgt ls rest)) (k2 : b ≤ a → W p l e R s m args below meth c H locs cells slots Q (F0 m (pc + 3) ls rest)) : W p l e R s m args below meth c H locs cells slots Q (F0 m pc ls (.int (nI b) :: .int (nI a) :: rest)) := by
  refine lv_icmp_lt hx hb hdg ht (fun q => k1 ((nI_ltI ha hb2).mp q)) (fun q => k2 ?_)
  have q2 : ¬ (a < b) := fun z => q ((nI_ltI ha hb2).mpr z)
  omega
theorem n_icmp_gt (hx : p.tables.exec = Jvm.exec) (hb : c.code = cc) {a b : Nat} {off : Int} {tgt : Nat} (ha : a < 2 ^ 31) (hb2 : b < 2 ^ 31) (hdg : decode cc pc = .ok (.if_icmp .gt off, 3)) (ht : (pc : Int) + off = (tgt : Int)) (k1 : b < a → W p l e R s m args below meth c H locs cells slots Q (F0 m tgt ls rest)) (k2 : a ≤ b → W p l e R s m args below meth c H locs cells slots Q (F0 m (pc + 3) ls rest)) : W p l e R s m args below meth c H locs cells slots Q (F0 m pc ls (.int (nI b) :: .int (nI a) :: rest)) := by
  refine lv_icmp_gt hx hb hdg ht (fun q => k1 ((nI_ltI hb2 ha).mp q)) (fun q => k2 ?_)
  have q2 : ¬ (b < a) := fun z => q ((nI_ltI hb2 ha).mpr z)
  omega
theorem n_icmp_le (hx : p.tables.exec = Jvm.exec) (hb : c.code = cc) {a b : Nat} {off : Int} {tgt : Nat} (ha : a < 2 ^ 31) (hb2 : b < 2 ^ 31) (hdg : decode cc pc = .ok (.if_icmp .le off, 3)) (ht : (pc : Int) + off = (tgt : Int)) (k1 : a ≤ b → W p l e R s m args below meth c H locs cells slots Q (F0 m tgt ls rest)) (k2 : b < a → W p l e R s m args below meth c H locs cells slots Q (F0 m (pc + 3) ls rest)) : W p l e R s m args below meth c H locs cells slots Q (F0 m pc ls (.int (nI b) :: .int (nI a) :: rest)) := by
  refine lv_icmp_le hx hb hdg ht (fun q => k1 ((nI_leI ha hb2).mp q)) (fun q => k2 ?_)
  have q2 : ¬ (a ≤ b) := fun z => q ((nI_leI ha hb2).mpr z)
  omega
theorem n_icmp_eq (hx : p.tables.exec = Jvm.exec) (hb : c.code = cc) {a b : Nat} {off : Int} {tgt : Nat} (ha : a < 2 ^ 31) (hb2 : b < 2 ^ 31) (hdg : decode cc pc = .ok (.if_icmp .eq off, 3)) (ht : (pc : Int) + off = (tgt : Int)) (k1 : a = b → W p l e R s m args below meth c H locs cells slots Q (F0 m tgt ls rest)) (k2 : ¬ a = b → W p l e R s m args below meth c H locs cells slots Q (F0 m (pc + 3) ls rest)) : W p l e R s m args below meth c H locs cells slots Q (F0 m pc ls (.int (nI b) :: .int (nI a) :: rest)) := by
  exact lv_icmp_eq hx hb hdg ht (fun q => k1 ((nI_eq ha hb2).mp q)) (fun q => k2 (fun z => q ((nI_eq ha hb2).mpr z)))
theorem n_icmp_ne (hx : p.tables.exec = Jvm.exec) (hb : c.code = cc) {a b : Nat} {off : Int} {tgt : Nat} (ha : a < 2 ^ 31) (hb2 : b < 2 ^ 31) (hdg : decode cc pc = .ok (.if_icmp .ne off, 3)) (ht : (pc : Int) + off = (tgt : Int)) (k1 : ¬ a = b → W p l e R s m args below meth c H locs cells slots Q (F0 m tgt ls rest)) (k2 : a = b → W p l e R s m args below meth c H locs cells slots Q (F0 m (pc + 3) ls rest)) : W p l e R s m args below meth c H locs cells slots Q (F0 m pc ls (.int (nI b) :: .int (nI a) :: rest)) := by
  exact lv_icmp_ne hx hb hdg ht (fun q => k1 (fun z => q ((nI_eq ha hb2).mpr z))) (fun q => k2 ((nI_eq ha hb2).mp q))
theorem n_ifeq (hx : p.tables.exec = Jvm.exec) (hb : c.code = cc) {b : Bool} {off : Int} {tgt : Nat} (hdg : decode cc pc = .ok (.ifCond .eq off, 3)) (ht : (pc : Int) + off = (tgt : Int)) (k1 : b = false → W p l e R s m args below meth c H locs cells slots Q (F0 m tgt ls rest)) (k2 : b = true → W p l e R s m args below meth c H locs cells slots Q (F0 m (pc + 3) ls rest)) : W p l e R s m args below meth c H locs cells slots Q (F0 m pc ls (.int (bI b) :: rest)) := by
  refine lv_if_eq hx hb hdg ht (fun q => k1 ((bI_eq0 b).mp q)) (fun q => k2 ?_)
  cases b
  · exact absurd rfl q
  · rfl
theorem n_ifne (hx : p.tables.exec = Jvm.exec) (hb : c.code = cc) {b : Bool} {off : Int} {tgt : Nat} (hdg : decode cc pc = .ok (.ifCond .ne off, 3)) (ht : (pc : Int) + off = (tgt : Int)) (k1 : b = true → W p l e R s m args below meth c H locs cells slots Q (F0 m tgt ls rest)) (k2 : b = false → W p l e R s m args below meth c H locs cells slots Q (F0 m (pc + 3) ls rest)) : W p l e R s m args below meth c H locs cells slots Q (F0 m pc ls (.int (bI b) :: rest)) := by
  refine lv_if_ne hx hb hdg ht (fun q => k1 ?_) (fun q => k2 ((bI_eq0 b).mp q))
  cases b
  · exact absurd rfl q
  · rfl
theorem n_ifz_eq (hx : p.tables.exec = Jvm.exec) (hb : c.code = cc) {a : Nat} {off : Int} {tgt : Nat} (ha : a < 2 ^ 31) (hdg : decode cc pc = .ok (.ifCond .eq off, 3)) (ht : (pc : Int) + off = (tgt : Int)) (k1 : a = 0 → W p l e R s m args below meth c H locs cells slots Q (F0 m tgt ls rest)) (k2 : ¬ a = 0 → W p l e R s m args below meth c H locs cells slots Q (F0 m (pc + 3) ls rest)) : W p l e R s m args below meth c H locs cells slots Q (F0 m pc ls (.int (nI a) :: rest)) := by
  have hh : nI a = 0 ↔ a = 0 := by
    rw [← nI_0]
    exact nI_eq ha (by decide)
  exact lv_if_eq hx hb hdg ht (fun q => k1 (hh.mp q)) (fun q => k2 (fun z => q (hh.mpr z)))
theorem n_ifz_ne (hx : p.tables.exec = Jvm.exec) (hb : c.code = cc) {a : Nat} {off : Int} {tgt : Nat} (ha : a < 2 ^ 31) (hdg : decode cc pc = .ok (.ifCond .ne off, 3)) (ht : (pc : Int) + off = (tgt : Int)) (k1 : ¬ a = 0 → W p l e R s m args below meth c H locs cells slots Q (F0 m tgt ls rest)) (k2 : a = 0 → W p l e R s m args below meth c H locs cells slots Q (F0 m (pc + 3) ls rest)) : W p l e R s m args below meth c H locs cells slots Q (F0 m pc ls (.int (nI a) :: rest)) := by
  have hh : nI a = 0 ↔ a = 0 := by
    rw [← nI_0]
    exact nI_eq ha (by decide)
  exact lv_if_ne hx hb hdg ht (fun q => k1 (fun z => q (hh.mpr z))) (fun q => k2 (hh.mp q))
theorem n_ifz_lt (hx : p.tables.exec = Jvm.exec) (hb : c.code = cc) {a : Nat} {off : Int} {tgt : Nat} (ha : a < 2 ^ 31) (hdg : decode cc pc = .ok (.ifCond .lt off, 3)) (ht : (pc : Int) + off = (tgt : Int)) (k1 : a < 0 → W p l e R s m args below meth c H locs cells slots Q (F0 m tgt ls rest)) (k2 : ¬ a < 0 → W p l e R s m args below meth c H locs cells slots Q (F0 m (pc + 3) ls rest)) : W p l e R s m args below meth c H locs cells slots Q (F0 m pc ls (.int (nI a) :: rest)) := by
  have hh : nI a < 0 ↔ a < 0 := by
    rw [← nI_0]
    exact nI_ltI ha (by decide)
  exact lv_if_lt hx hb hdg ht (fun q => k1 (hh.mp q)) (fun q => k2 (fun z => q (hh.mpr z)))
theorem n_ifz_ge (hx : p.tables.exec = Jvm.exec) (hb : c.code = cc) {a : Nat} {off : Int} {tgt : Nat} (ha : a < 2 ^ 31) (hdg : decode cc pc = .ok (.ifCond .ge off, 3)) (ht : (pc : Int) + off = (tgt : Int)) (k1 : 0 ≤ a → W p l e R s m args below meth c H locs cells slots Q (F0 m tgt ls rest)) (k2 : ¬ 0 ≤ a → W p l e R s m args below meth c H locs cells slots Q (F0 m (pc + 3) ls rest)) : W p l e R s m args below meth c H locs cells slots Q (F0 m pc ls (.int (nI a) :: rest)) := by
  have hh : 0 ≤ nI a ↔ 0 ≤ a := by
    rw [← nI_0]
    exact nI_leI (by decide) ha
  exact lv_if_ge hx hb hdg ht (fun q => k1 (hh.mp q)) (fun q => k2 (fun z => q (hh.mpr z)))
theorem n_ifz_gt (hx : p.tables.exec = Jvm.exec) (hb : c.code = cc) {a : Nat} {off : Int} {tgt : Nat} (ha : a < 2 ^ 31) (hdg : decode cc pc = .ok (.ifCond .gt off, 3)) (ht : (pc : Int) + off = (tgt : Int)) (k1 : 0 < a → W p l e R s m args below meth c H locs cells slots Q (F0 m tgt ls rest)) (k2 : ¬ 0 < a → W p l e R s m args below meth c H locs cells slots Q (F0 m (pc + 3) ls rest)) : W p l e R s m args below meth c H locs cells slots Q (F0 m pc ls (.int (nI a) :: rest)) := by
  have hh : 0 < nI a ↔ 0 < a := by
    rw [← nI_0]
    exact nI_ltI (by decide) ha
  exact lv_if_gt hx hb hdg ht (fun q => k1 (hh.mp q)) (fun q => k2 (fun z => q (hh.mpr z)))
theorem n_ifz_le (hx : p.tables.exec = Jvm.exec) (hb : c.code = cc) {a : Nat} {off : Int} {tgt : Nat} (ha : a < 2 ^ 31) (hdg : decode cc pc = .ok (.ifCond .le off, 3)) (ht : (pc : Int) + off = (tgt : Int)) (k1 : a ≤ 0 → W p l e R s m args below meth c H locs cells slots Q (F0 m tgt ls rest)) (k2 : ¬ a ≤ 0 → W p l e R s m args below meth c H locs cells slots Q (F0 m (pc + 3) ls rest)) : W p l e R s m args below meth c H locs cells slots Q (F0 m pc ls (.int (nI a) :: rest)) := by
  have hh : nI a ≤ 0 ↔ a ≤ 0 := by
    rw [← nI_0]
    exact nI_leI ha (by decide)
  exact lv_if_le hx hb hdg ht (fun q => k1 (hh.mp q)) (fun q => k2 (fun z => q (hh.mpr z)))
end NR
end
section
abbrev vcl : List vw_C := [(R_S, F_S, 11), (R_M, F_M, 10)]
abbrev ty3 (cA : Nat → ClassId) : List (ClassId × FieldType) := [(cA 0, .int), (cA 1, .boolean), (cA 2, .long)]
abbrev SV : Type := (Nat → Int32) × (Nat → Int32) × (Nat → Int32) × (Nat → Int32) × (Nat → Int32) × Nat × Nat × Nat × Option Nat × Bool × Nat
def svW (cA : Nat → ClassId) (h : Nat → Nat) (u : SV) : va_W := match u with
  | (bw, cw, ts, tb, st, ro, mr, la, fu, dn, wr) => [(h 0, .inr (0, [.ref (h 1), .ref (h 2), .ref (h 3), .ref (h 4), .ref (h 5), .int (nI ro), .int (nI mr), .int (nI la), .int (oI fu), .int (bI dn), .int (nI wr)])), (h 1, .inl (cA 0, 24, .inl bw)), (h 2, .inl (cA 0, 36, .inl cw)), (h 3, .inl (cA 0, 9, .inl ts)), (h 4, .inl (cA 0, 9, .inl tb)), (h 5, .inl (cA 0, 3, .inl st))]
abbrev svA (cA : Nat → ClassId) (h : Nat → Nat) (u : SV) (sz : Nat) : Nat → Prop := va_A (svW cA h u) sz
def svPre (D : va_G) (cA : Nat → ClassId) (h : Nat → Nat) (u : SV) (sz : Nat) (U : State) : Prop := U.heap.size = sz ∧ va_P D vcl (svW cA h u) U.heap ∧ va_K D vcl (ty3 cA) U ∧ va_D (fun _ => True) (svW cA h u)
def svAt (D : va_G) (cA : Nat → ClassId) (A : Nat → Prop) (h : Nat → Nat) (u : SV) (t : State) : Prop := va_P D vcl (svW cA h u) t.heap ∧ va_K D vcl (ty3 cA) t ∧ va_D A (svW cA h u)
/-- the world at a point of a walk -/
def svI (D : va_G) (cA : Nat → ClassId) (A : Nat → Prop) (s : State) (h : Nat → Nat) (u : SV) (H : Heap) (locs : List Loc) : Prop := va_K D vcl (ty3 cA) s ∧ va_P D vcl (svW cA h u) H ∧ va_D A (svW cA h u) ∧ va_S A s.heap H locs ∧ ∀ q, s.heap.size ≤ q → A q
theorem svPre.blind {D : va_G} {cA : Nat → ClassId} {h : Nat → Nat} {u : SV} {sz : Nat} {U : State} (q : svPre D cA h u sz U) (g : JFrame) (mk : MethodId) (a : Array Value) : svPre D cA h u sz (U.calling g mk a) := ⟨q.1, q.2.1, va_K.moved (u := U) (U := U.calling g mk a) (Vm.Alike.refl U.vm) q.2.2.1, q.2.2.2⟩
abbrev svMi (l : Launch) (D : va_G) (cA : Nat → ClassId) (h : Nat → Nat) (u : SV) (sz : Nat) (y : MethodName) (hd : Cond) (rm : Room) (avs : List Value) (post : Int32 → SV → Prop) : Prop := Met l y (hd :: wG) rm (va_Pc (.ref (h 0) :: avs) (svPre D cA h u sz)) (va_Qi post (svAt D cA (svA cA h u sz) h) (svA cA h u sz)) 0 0 (svA cA h u sz)
abbrev svMv (l : Launch) (D : va_G) (cA : Nat → ClassId) (h : Nat → Nat) (u : SV) (sz : Nat) (y : MethodName) (hd : Cond) (rm : Room) (avs : List Value) (post : SV → Prop) : Prop := Met l y (hd :: wG) rm (va_Pc (.ref (h 0) :: avs) (svPre D cA h u sz)) (va_Qv post (svAt D cA (svA cA h u sz) h) (svA cA h u sz)) 0 0 (svA cA h u sz)
abbrev SM : Type := Nat × Bool × Option Nat × Nat × (Nat → Int32) × (Nat → Int32) × (Nat → Bool) × (Nat → Nat) × Nat × Nat
def smW (cA : Nat → ClassId) (h : Nat → Nat) (u : SM) : va_W := match u with
  | (co, dn, fu, ct, vo, wo, th, ow, ba, mr) => [(h 0, .inr (1, [.int (nI co), .int (bI dn), .int (oI fu), .int (nI ct), .ref (h 1), .ref (h 2), .ref (h 3), .ref (h 4), .int (nI ba), .int (nI mr)])), (h 1, .inl (cA 0, 24, .inl vo)), (h 2, .inl (cA 0, 72, .inl wo)), (h 3, .inl (cA 1, 3, .inl (fun k => bI (th k)))), (h 4, .inl (cA 0, 18, .inl (fun k => nI (ow k))))]
abbrev smA (cA : Nat → ClassId) (h : Nat → Nat) (u : SM) (sz : Nat) : Nat → Prop := va_A (smW cA h u) sz
def smPre (D : va_G) (cA : Nat → ClassId) (h : Nat → Nat) (u : SM) (sz : Nat) (U : State) : Prop := U.heap.size = sz ∧ va_P D vcl (smW cA h u) U.heap ∧ va_K D vcl (ty3 cA) U ∧ va_D (fun _ => True) (smW cA h u)
def smAt (D : va_G) (cA : Nat → ClassId) (A : Nat → Prop) (h : Nat → Nat) (u : SM) (t : State) : Prop := va_P D vcl (smW cA h u) t.heap ∧ va_K D vcl (ty3 cA) t ∧ va_D A (smW cA h u)
/-- the world at a point of a walk -/
def smI (D : va_G) (cA : Nat → ClassId) (A : Nat → Prop) (s : State) (h : Nat → Nat) (u : SM) (H : Heap) (locs : List Loc) : Prop := va_K D vcl (ty3 cA) s ∧ va_P D vcl (smW cA h u) H ∧ va_D A (smW cA h u) ∧ va_S A s.heap H locs ∧ ∀ q, s.heap.size ≤ q → A q
theorem smPre.blind {D : va_G} {cA : Nat → ClassId} {h : Nat → Nat} {u : SM} {sz : Nat} {U : State} (q : smPre D cA h u sz U) (g : JFrame) (mk : MethodId) (a : Array Value) : smPre D cA h u sz (U.calling g mk a) := ⟨q.1, q.2.1, va_K.moved (u := U) (U := U.calling g mk a) (Vm.Alike.refl U.vm) q.2.2.1, q.2.2.2⟩
abbrev smMi (l : Launch) (D : va_G) (cA : Nat → ClassId) (h : Nat → Nat) (u : SM) (sz : Nat) (y : MethodName) (hd : Cond) (rm : Room) (avs : List Value) (post : Int32 → SM → Prop) : Prop := Met l y (hd :: wG) rm (va_Pc (.ref (h 0) :: avs) (smPre D cA h u sz)) (va_Qi post (smAt D cA (smA cA h u sz) h) (smA cA h u sz)) 0 0 (smA cA h u sz)
abbrev smMv (l : Launch) (D : va_G) (cA : Nat → ClassId) (h : Nat → Nat) (u : SM) (sz : Nat) (y : MethodName) (hd : Cond) (rm : Room) (avs : List Value) (post : SM → Prop) : Prop := Met l y (hd :: wG) rm (va_Pc (.ref (h 0) :: avs) (smPre D cA h u sz)) (va_Qv post (smAt D cA (smA cA h u sz) h) (smA cA h u sz)) 0 0 (smA cA h u sz)
end
section
section Rsv
variable {p : Program} {l : Launch} {e : Env} {R : Room} {s : State} {m : MethodId} {args : Array Value} {below : List Frame} {meth : Method} {c : Code} {H : Heap} {locs : List Loc} {cells slots : Nat} {Q : State → Prop}
variable {cc : ByteArray} {nL pc : Nat} {ls : Array Slot} {rest : List Value} {D : va_G} {cA : Nat → ClassId} {A : Nat → Prop} {h : Nat → Nat}
variable {bw : (Nat → Int32)} {cw : (Nat → Int32)} {ts : (Nat → Int32)} {tb : (Nat → Int32)} {st : (Nat → Int32)} {ro : Nat} {mr : Nat} {la : Nat} {fu : Option Nat} {dn : Bool} {wr : Nat}
theorem sv_g0 (C : gC p s m args meth c cc nL R_S) (I : svI D cA A s h (bw, cw, ts, tb, st, ro, mr, la, fu, dn, wr) H locs) (hdg : decode cc pc = .ok (.getfield 9, 3)) (kk : W p l e R s m args below meth c H locs cells slots Q (F0 m (pc + 3) ls (.ref (h 1) :: rest))) : W p l e R s m args below meth c H locs cells slots Q (F0 m pc ls (.ref (h 0) :: rest)) :=
  va_get (D := D) (ci := 0) (v := .ref (h 1)) (C := R_S) (T := F_S) (N := 11) C.1 C.2.1 C.2.2.2.2.1 lay_S C.2.2.2.1 I.1 I.2.1 0 rfl rfl 0 (by decide) (C.2.2.2.2.1 _ fl_S0) (fun _ h9 => h9) rfl hdg kk
theorem sv_g1 (C : gC p s m args meth c cc nL R_S) (I : svI D cA A s h (bw, cw, ts, tb, st, ro, mr, la, fu, dn, wr) H locs) (hdg : decode cc pc = .ok (.getfield 13, 3)) (kk : W p l e R s m args below meth c H locs cells slots Q (F0 m (pc + 3) ls (.ref (h 2) :: rest))) : W p l e R s m args below meth c H locs cells slots Q (F0 m pc ls (.ref (h 0) :: rest)) :=
  va_get (D := D) (ci := 0) (v := .ref (h 2)) (C := R_S) (T := F_S) (N := 11) C.1 C.2.1 C.2.2.2.2.1 lay_S C.2.2.2.1 I.1 I.2.1 0 rfl rfl 1 (by decide) (C.2.2.2.2.1 _ fl_S1) (fun _ h9 => h9) rfl hdg kk
theorem sv_g2 (C : gC p s m args meth c cc nL R_S) (I : svI D cA A s h (bw, cw, ts, tb, st, ro, mr, la, fu, dn, wr) H locs) (hdg : decode cc pc = .ok (.getfield 16, 3)) (kk : W p l e R s m args below meth c H locs cells slots Q (F0 m (pc + 3) ls (.ref (h 3) :: rest))) : W p l e R s m args below meth c H locs cells slots Q (F0 m pc ls (.ref (h 0) :: rest)) :=
  va_get (D := D) (ci := 0) (v := .ref (h 3)) (C := R_S) (T := F_S) (N := 11) C.1 C.2.1 C.2.2.2.2.1 lay_S C.2.2.2.1 I.1 I.2.1 0 rfl rfl 2 (by decide) (C.2.2.2.2.1 _ fl_S2) (fun _ h9 => h9) rfl hdg kk
theorem sv_g3 (C : gC p s m args meth c cc nL R_S) (I : svI D cA A s h (bw, cw, ts, tb, st, ro, mr, la, fu, dn, wr) H locs) (hdg : decode cc pc = .ok (.getfield 19, 3)) (kk : W p l e R s m args below meth c H locs cells slots Q (F0 m (pc + 3) ls (.ref (h 4) :: rest))) : W p l e R s m args below meth c H locs cells slots Q (F0 m pc ls (.ref (h 0) :: rest)) :=
  va_get (D := D) (ci := 0) (v := .ref (h 4)) (C := R_S) (T := F_S) (N := 11) C.1 C.2.1 C.2.2.2.2.1 lay_S C.2.2.2.1 I.1 I.2.1 0 rfl rfl 3 (by decide) (C.2.2.2.2.1 _ fl_S3) (fun _ h9 => h9) rfl hdg kk
theorem sv_g4 (C : gC p s m args meth c cc nL R_S) (I : svI D cA A s h (bw, cw, ts, tb, st, ro, mr, la, fu, dn, wr) H locs) (hdg : decode cc pc = .ok (.getfield 22, 3)) (kk : W p l e R s m args below meth c H locs cells slots Q (F0 m (pc + 3) ls (.ref (h 5) :: rest))) : W p l e R s m args below meth c H locs cells slots Q (F0 m pc ls (.ref (h 0) :: rest)) :=
  va_get (D := D) (ci := 0) (v := .ref (h 5)) (C := R_S) (T := F_S) (N := 11) C.1 C.2.1 C.2.2.2.2.1 lay_S C.2.2.2.1 I.1 I.2.1 0 rfl rfl 4 (by decide) (C.2.2.2.2.1 _ fl_S4) (fun _ h9 => h9) rfl hdg kk
theorem sv_g5 (C : gC p s m args meth c cc nL R_S) (I : svI D cA A s h (bw, cw, ts, tb, st, ro, mr, la, fu, dn, wr) H locs) (hdg : decode cc pc = .ok (.getfield 107, 3)) (kk : W p l e R s m args below meth c H locs cells slots Q (F0 m (pc + 3) ls (.int (nI ro) :: rest))) : W p l e R s m args below meth c H locs cells slots Q (F0 m pc ls (.ref (h 0) :: rest)) :=
  va_get (D := D) (ci := 0) (v := .int (nI ro)) (C := R_S) (T := F_S) (N := 11) C.1 C.2.1 C.2.2.2.2.1 lay_S C.2.2.2.1 I.1 I.2.1 0 rfl rfl 5 (by decide) (C.2.2.2.2.1 _ fl_S5) (fun _ h9 => h9) rfl hdg kk
theorem sv_p5 (C : gC p s m args meth c cc nL R_S) (I : svI D cA A s h (bw, cw, ts, tb, st, ro, mr, la, fu, dn, wr) H locs) {x : Int32} (ro' : Nat) (hv : Value.int x = .int (nI ro')) (hdg : decode cc pc = .ok (.putfield 107, 3)) (kk : ∀ (H1 : Heap) (locs1 : List Loc), svI D cA A s h (bw, cw, ts, tb, st, ro', mr, la, fu, dn, wr) H1 locs1 → W p l e R s m args below meth c H1 locs1 cells slots Q (F0 m (pc + 3) ls (rest))) : W p l e R s m args below meth c H locs cells slots Q (F0 m pc ls (.int x :: .ref (h 0) :: rest)) := by
  rw [hv]
  exact va_put (D := D) (ci := 0) (v := .int (nI ro')) (ty := .int) (C := R_S) (T := F_S) (N := 11) C.1 C.2.1 C.2.2.2.2.1 lay_S t_S t_S_ok n_S C.2.2.2.1 I.1 I.2.1 I.2.2.1 I.2.2.2.1 0 rfl rfl 5 (by decide) (C.2.2.2.2.1 _ fl_S5) (fun _ h9 => h9) rfl (by decide +kernel) rfl rfl (Nat.le_of_ble_eq_true rfl) hdg (fun H1 locs1 h1 h2 h3 => kk H1 locs1 ⟨I.1, h1, h2, h3, I.2.2.2.2⟩)
theorem sv_g6 (C : gC p s m args meth c cc nL R_S) (I : svI D cA A s h (bw, cw, ts, tb, st, ro, mr, la, fu, dn, wr) H locs) (hdg : decode cc pc = .ok (.getfield 127, 3)) (kk : W p l e R s m args below meth c H locs cells slots Q (F0 m (pc + 3) ls (.int (nI mr) :: rest))) : W p l e R s m args below meth c H locs cells slots Q (F0 m pc ls (.ref (h 0) :: rest)) :=
  va_get (D := D) (ci := 0) (v := .int (nI mr)) (C := R_S) (T := F_S) (N := 11) C.1 C.2.1 C.2.2.2.2.1 lay_S C.2.2.2.1 I.1 I.2.1 0 rfl rfl 6 (by decide) (C.2.2.2.2.1 _ fl_S6) (fun _ h9 => h9) rfl hdg kk
theorem sv_p6 (C : gC p s m args meth c cc nL R_S) (I : svI D cA A s h (bw, cw, ts, tb, st, ro, mr, la, fu, dn, wr) H locs) {x : Int32} (mr' : Nat) (hv : Value.int x = .int (nI mr')) (hdg : decode cc pc = .ok (.putfield 127, 3)) (kk : ∀ (H1 : Heap) (locs1 : List Loc), svI D cA A s h (bw, cw, ts, tb, st, ro, mr', la, fu, dn, wr) H1 locs1 → W p l e R s m args below meth c H1 locs1 cells slots Q (F0 m (pc + 3) ls (rest))) : W p l e R s m args below meth c H locs cells slots Q (F0 m pc ls (.int x :: .ref (h 0) :: rest)) := by
  rw [hv]
  exact va_put (D := D) (ci := 0) (v := .int (nI mr')) (ty := .int) (C := R_S) (T := F_S) (N := 11) C.1 C.2.1 C.2.2.2.2.1 lay_S t_S t_S_ok n_S C.2.2.2.1 I.1 I.2.1 I.2.2.1 I.2.2.2.1 0 rfl rfl 6 (by decide) (C.2.2.2.2.1 _ fl_S6) (fun _ h9 => h9) rfl (by decide +kernel) rfl rfl (Nat.le_of_ble_eq_true rfl) hdg (fun H1 locs1 h1 h2 h3 => kk H1 locs1 ⟨I.1, h1, h2, h3, I.2.2.2.2⟩)
theorem sv_g7 (C : gC p s m args meth c cc nL R_S) (I : svI D cA A s h (bw, cw, ts, tb, st, ro, mr, la, fu, dn, wr) H locs) (hdg : decode cc pc = .ok (.getfield 61, 3)) (kk : W p l e R s m args below meth c H locs cells slots Q (F0 m (pc + 3) ls (.int (nI la) :: rest))) : W p l e R s m args below meth c H locs cells slots Q (F0 m pc ls (.ref (h 0) :: rest)) :=
  va_get (D := D) (ci := 0) (v := .int (nI la)) (C := R_S) (T := F_S) (N := 11) C.1 C.2.1 C.2.2.2.2.1 lay_S C.2.2.2.1 I.1 I.2.1 0 rfl rfl 7 (by decide) (C.2.2.2.2.1 _ fl_S7) (fun _ h9 => h9) rfl hdg kk
theorem sv_p7 (C : gC p s m args meth c cc nL R_S) (I : svI D cA A s h (bw, cw, ts, tb, st, ro, mr, la, fu, dn, wr) H locs) {x : Int32} (la' : Nat) (hv : Value.int x = .int (nI la')) (hdg : decode cc pc = .ok (.putfield 61, 3)) (kk : ∀ (H1 : Heap) (locs1 : List Loc), svI D cA A s h (bw, cw, ts, tb, st, ro, mr, la', fu, dn, wr) H1 locs1 → W p l e R s m args below meth c H1 locs1 cells slots Q (F0 m (pc + 3) ls (rest))) : W p l e R s m args below meth c H locs cells slots Q (F0 m pc ls (.int x :: .ref (h 0) :: rest)) := by
  rw [hv]
  exact va_put (D := D) (ci := 0) (v := .int (nI la')) (ty := .int) (C := R_S) (T := F_S) (N := 11) C.1 C.2.1 C.2.2.2.2.1 lay_S t_S t_S_ok n_S C.2.2.2.1 I.1 I.2.1 I.2.2.1 I.2.2.2.1 0 rfl rfl 7 (by decide) (C.2.2.2.2.1 _ fl_S7) (fun _ h9 => h9) rfl (by decide +kernel) rfl rfl (Nat.le_of_ble_eq_true rfl) hdg (fun H1 locs1 h1 h2 h3 => kk H1 locs1 ⟨I.1, h1, h2, h3, I.2.2.2.2⟩)
theorem sv_g8 (C : gC p s m args meth c cc nL R_S) (I : svI D cA A s h (bw, cw, ts, tb, st, ro, mr, la, fu, dn, wr) H locs) (hdg : decode cc pc = .ok (.getfield 102, 3)) (kk : W p l e R s m args below meth c H locs cells slots Q (F0 m (pc + 3) ls (.int (oI fu) :: rest))) : W p l e R s m args below meth c H locs cells slots Q (F0 m pc ls (.ref (h 0) :: rest)) :=
  va_get (D := D) (ci := 0) (v := .int (oI fu)) (C := R_S) (T := F_S) (N := 11) C.1 C.2.1 C.2.2.2.2.1 lay_S C.2.2.2.1 I.1 I.2.1 0 rfl rfl 8 (by decide) (C.2.2.2.2.1 _ fl_S8) (fun _ h9 => h9) rfl hdg kk
theorem sv_p8 (C : gC p s m args meth c cc nL R_S) (I : svI D cA A s h (bw, cw, ts, tb, st, ro, mr, la, fu, dn, wr) H locs) {x : Int32} (fu' : Option Nat) (hv : Value.int x = .int (oI fu')) (hdg : decode cc pc = .ok (.putfield 102, 3)) (kk : ∀ (H1 : Heap) (locs1 : List Loc), svI D cA A s h (bw, cw, ts, tb, st, ro, mr, la, fu', dn, wr) H1 locs1 → W p l e R s m args below meth c H1 locs1 cells slots Q (F0 m (pc + 3) ls (rest))) : W p l e R s m args below meth c H locs cells slots Q (F0 m pc ls (.int x :: .ref (h 0) :: rest)) := by
  rw [hv]
  exact va_put (D := D) (ci := 0) (v := .int (oI fu')) (ty := .int) (C := R_S) (T := F_S) (N := 11) C.1 C.2.1 C.2.2.2.2.1 lay_S t_S t_S_ok n_S C.2.2.2.1 I.1 I.2.1 I.2.2.1 I.2.2.2.1 0 rfl rfl 8 (by decide) (C.2.2.2.2.1 _ fl_S8) (fun _ h9 => h9) rfl (by decide +kernel) rfl rfl (Nat.le_of_ble_eq_true rfl) hdg (fun H1 locs1 h1 h2 h3 => kk H1 locs1 ⟨I.1, h1, h2, h3, I.2.2.2.2⟩)
theorem sv_g9 (C : gC p s m args meth c cc nL R_S) (I : svI D cA A s h (bw, cw, ts, tb, st, ro, mr, la, fu, dn, wr) H locs) (hdg : decode cc pc = .ok (.getfield 98, 3)) (kk : W p l e R s m args below meth c H locs cells slots Q (F0 m (pc + 3) ls (.int (bI dn) :: rest))) : W p l e R s m args below meth c H locs cells slots Q (F0 m pc ls (.ref (h 0) :: rest)) :=
  va_get (D := D) (ci := 0) (v := .int (bI dn)) (C := R_S) (T := F_S) (N := 11) C.1 C.2.1 C.2.2.2.2.1 lay_S C.2.2.2.1 I.1 I.2.1 0 rfl rfl 9 (by decide) (C.2.2.2.2.1 _ fl_S9) (fun _ h9 => h9) rfl hdg kk
theorem sv_p9 (C : gC p s m args meth c cc nL R_S) (I : svI D cA A s h (bw, cw, ts, tb, st, ro, mr, la, fu, dn, wr) H locs) {x : Int32} (dn' : Bool) (hv : Value.int x = .int (bI dn')) (hdg : decode cc pc = .ok (.putfield 98, 3)) (kk : ∀ (H1 : Heap) (locs1 : List Loc), svI D cA A s h (bw, cw, ts, tb, st, ro, mr, la, fu, dn', wr) H1 locs1 → W p l e R s m args below meth c H1 locs1 cells slots Q (F0 m (pc + 3) ls (rest))) : W p l e R s m args below meth c H locs cells slots Q (F0 m pc ls (.int x :: .ref (h 0) :: rest)) := by
  rw [hv]
  exact va_put (D := D) (ci := 0) (v := .int (bI dn')) (ty := .boolean) (C := R_S) (T := F_S) (N := 11) C.1 C.2.1 C.2.2.2.2.1 lay_S t_S t_S_ok n_S C.2.2.2.1 I.1 I.2.1 I.2.2.1 I.2.2.2.1 0 rfl rfl 9 (by decide) (C.2.2.2.2.1 _ fl_S9) (fun _ h9 => h9) rfl (by decide +kernel) (bI_narrow dn') (bI_fits dn') (Nat.le_of_ble_eq_true rfl) hdg (fun H1 locs1 h1 h2 h3 => kk H1 locs1 ⟨I.1, h1, h2, h3, I.2.2.2.2⟩)
theorem sv_g10 (C : gC p s m args meth c cc nL R_S) (I : svI D cA A s h (bw, cw, ts, tb, st, ro, mr, la, fu, dn, wr) H locs) (hdg : decode cc pc = .ok (.getfield 110, 3)) (kk : W p l e R s m args below meth c H locs cells slots Q (F0 m (pc + 3) ls (.int (nI wr) :: rest))) : W p l e R s m args below meth c H locs cells slots Q (F0 m pc ls (.ref (h 0) :: rest)) :=
  va_get (D := D) (ci := 0) (v := .int (nI wr)) (C := R_S) (T := F_S) (N := 11) C.1 C.2.1 C.2.2.2.2.1 lay_S C.2.2.2.1 I.1 I.2.1 0 rfl rfl 10 (by decide) (C.2.2.2.2.1 _ fl_S10) (fun _ h9 => h9) rfl hdg kk
theorem sv_p10 (C : gC p s m args meth c cc nL R_S) (I : svI D cA A s h (bw, cw, ts, tb, st, ro, mr, la, fu, dn, wr) H locs) {x : Int32} (wr' : Nat) (hv : Value.int x = .int (nI wr')) (hdg : decode cc pc = .ok (.putfield 110, 3)) (kk : ∀ (H1 : Heap) (locs1 : List Loc), svI D cA A s h (bw, cw, ts, tb, st, ro, mr, la, fu, dn, wr') H1 locs1 → W p l e R s m args below meth c H1 locs1 cells slots Q (F0 m (pc + 3) ls (rest))) : W p l e R s m args below meth c H locs cells slots Q (F0 m pc ls (.int x :: .ref (h 0) :: rest)) := by
  rw [hv]
  exact va_put (D := D) (ci := 0) (v := .int (nI wr')) (ty := .int) (C := R_S) (T := F_S) (N := 11) C.1 C.2.1 C.2.2.2.2.1 lay_S t_S t_S_ok n_S C.2.2.2.1 I.1 I.2.1 I.2.2.1 I.2.2.2.1 0 rfl rfl 10 (by decide) (C.2.2.2.2.1 _ fl_S10) (fun _ h9 => h9) rfl (by decide +kernel) rfl rfl (Nat.le_of_ble_eq_true rfl) hdg (fun H1 locs1 h1 h2 h3 => kk H1 locs1 ⟨I.1, h1, h2, h3, I.2.2.2.2⟩)
theorem sv_l1 (C : gC p s m args meth c cc nL R_S) (I : svI D cA A s h (bw, cw, ts, tb, st, ro, mr, la, fu, dn, wr) H locs) {k : Nat} (hk : k < 24) (hdg : decode cc pc = .ok (.iaload, 1)) (kk : W p l e R s m args below meth c H locs cells slots Q (F0 m (pc + 1) ls (.int (bw k) :: rest))) : W p l e R s m args below meth c H locs cells slots Q (F0 m pc ls (.int (nI k) :: .ref (h 1) :: rest)) := by
  refine va_iald (D := D) C.1 C.2.1 I.1 I.2.1 1 0 (cA := cA 0) (n := 24) (f := bw) rfl rfl (vp_in_nI hk (by decide)) hdg ?_
  rw [nI_clamp (Nat.lt_of_lt_of_le hk (by decide))]
  exact kk
theorem sv_s1 (C : gC p s m args meth c cc nL R_S) (I : svI D cA A s h (bw, cw, ts, tb, st, ro, mr, la, fu, dn, wr) H locs) {k : Nat} {x : Int32} (hk : k < 24) (hdg : decode cc pc = .ok (.iastore, 1)) (kk : ∀ (H1 : Heap) (locs1 : List Loc), svI D cA A s h ((upd bw k x), cw, ts, tb, st, ro, mr, la, fu, dn, wr) H1 locs1 → W p l e R s m args below meth c H1 locs1 cells slots Q (F0 m (pc + 1) ls (rest))) : W p l e R s m args below meth c H locs cells slots Q (F0 m pc ls (.int x :: .int (nI k) :: .ref (h 1) :: rest)) := by
  refine va_iast (D := D) C.1 C.2.1 I.1 I.2.1 I.2.2.1 I.2.2.2.1 1 0 (cA := cA 0) (n := 24) (f := bw) rfl rfl (vp_in_nI hk (by decide)) hdg (fun H1 locs1 h1 h2 h3 => ?_)
  rw [nI_clamp (Nat.lt_of_lt_of_le hk (by decide))] at h1 h2
  exact kk H1 locs1 ⟨I.1, h1, h2, h3, I.2.2.2.2⟩
theorem sv_l2 (C : gC p s m args meth c cc nL R_S) (I : svI D cA A s h (bw, cw, ts, tb, st, ro, mr, la, fu, dn, wr) H locs) {k : Nat} (hk : k < 36) (hdg : decode cc pc = .ok (.iaload, 1)) (kk : W p l e R s m args below meth c H locs cells slots Q (F0 m (pc + 1) ls (.int (cw k) :: rest))) : W p l e R s m args below meth c H locs cells slots Q (F0 m pc ls (.int (nI k) :: .ref (h 2) :: rest)) := by
  refine va_iald (D := D) C.1 C.2.1 I.1 I.2.1 2 0 (cA := cA 0) (n := 36) (f := cw) rfl rfl (vp_in_nI hk (by decide)) hdg ?_
  rw [nI_clamp (Nat.lt_of_lt_of_le hk (by decide))]
  exact kk
theorem sv_s2 (C : gC p s m args meth c cc nL R_S) (I : svI D cA A s h (bw, cw, ts, tb, st, ro, mr, la, fu, dn, wr) H locs) {k : Nat} {x : Int32} (hk : k < 36) (hdg : decode cc pc = .ok (.iastore, 1)) (kk : ∀ (H1 : Heap) (locs1 : List Loc), svI D cA A s h (bw, (upd cw k x), ts, tb, st, ro, mr, la, fu, dn, wr) H1 locs1 → W p l e R s m args below meth c H1 locs1 cells slots Q (F0 m (pc + 1) ls (rest))) : W p l e R s m args below meth c H locs cells slots Q (F0 m pc ls (.int x :: .int (nI k) :: .ref (h 2) :: rest)) := by
  refine va_iast (D := D) C.1 C.2.1 I.1 I.2.1 I.2.2.1 I.2.2.2.1 2 0 (cA := cA 0) (n := 36) (f := cw) rfl rfl (vp_in_nI hk (by decide)) hdg (fun H1 locs1 h1 h2 h3 => ?_)
  rw [nI_clamp (Nat.lt_of_lt_of_le hk (by decide))] at h1 h2
  exact kk H1 locs1 ⟨I.1, h1, h2, h3, I.2.2.2.2⟩
theorem sv_l3 (C : gC p s m args meth c cc nL R_S) (I : svI D cA A s h (bw, cw, ts, tb, st, ro, mr, la, fu, dn, wr) H locs) {k : Nat} (hk : k < 9) (hdg : decode cc pc = .ok (.iaload, 1)) (kk : W p l e R s m args below meth c H locs cells slots Q (F0 m (pc + 1) ls (.int (ts k) :: rest))) : W p l e R s m args below meth c H locs cells slots Q (F0 m pc ls (.int (nI k) :: .ref (h 3) :: rest)) := by
  refine va_iald (D := D) C.1 C.2.1 I.1 I.2.1 3 0 (cA := cA 0) (n := 9) (f := ts) rfl rfl (vp_in_nI hk (by decide)) hdg ?_
  rw [nI_clamp (Nat.lt_of_lt_of_le hk (by decide))]
  exact kk
theorem sv_s3 (C : gC p s m args meth c cc nL R_S) (I : svI D cA A s h (bw, cw, ts, tb, st, ro, mr, la, fu, dn, wr) H locs) {k : Nat} {x : Int32} (hk : k < 9) (hdg : decode cc pc = .ok (.iastore, 1)) (kk : ∀ (H1 : Heap) (locs1 : List Loc), svI D cA A s h (bw, cw, (upd ts k x), tb, st, ro, mr, la, fu, dn, wr) H1 locs1 → W p l e R s m args below meth c H1 locs1 cells slots Q (F0 m (pc + 1) ls (rest))) : W p l e R s m args below meth c H locs cells slots Q (F0 m pc ls (.int x :: .int (nI k) :: .ref (h 3) :: rest)) := by
  refine va_iast (D := D) C.1 C.2.1 I.1 I.2.1 I.2.2.1 I.2.2.2.1 3 0 (cA := cA 0) (n := 9) (f := ts) rfl rfl (vp_in_nI hk (by decide)) hdg (fun H1 locs1 h1 h2 h3 => ?_)
  rw [nI_clamp (Nat.lt_of_lt_of_le hk (by decide))] at h1 h2
  exact kk H1 locs1 ⟨I.1, h1, h2, h3, I.2.2.2.2⟩
theorem sv_l4 (C : gC p s m args meth c cc nL R_S) (I : svI D cA A s h (bw, cw, ts, tb, st, ro, mr, la, fu, dn, wr) H locs) {k : Nat} (hk : k < 9) (hdg : decode cc pc = .ok (.iaload, 1)) (kk : W p l e R s m args below meth c H locs cells slots Q (F0 m (pc + 1) ls (.int (tb k) :: rest))) : W p l e R s m args below meth c H locs cells slots Q (F0 m pc ls (.int (nI k) :: .ref (h 4) :: rest)) := by
  refine va_iald (D := D) C.1 C.2.1 I.1 I.2.1 4 0 (cA := cA 0) (n := 9) (f := tb) rfl rfl (vp_in_nI hk (by decide)) hdg ?_
  rw [nI_clamp (Nat.lt_of_lt_of_le hk (by decide))]
  exact kk
theorem sv_s4 (C : gC p s m args meth c cc nL R_S) (I : svI D cA A s h (bw, cw, ts, tb, st, ro, mr, la, fu, dn, wr) H locs) {k : Nat} {x : Int32} (hk : k < 9) (hdg : decode cc pc = .ok (.iastore, 1)) (kk : ∀ (H1 : Heap) (locs1 : List Loc), svI D cA A s h (bw, cw, ts, (upd tb k x), st, ro, mr, la, fu, dn, wr) H1 locs1 → W p l e R s m args below meth c H1 locs1 cells slots Q (F0 m (pc + 1) ls (rest))) : W p l e R s m args below meth c H locs cells slots Q (F0 m pc ls (.int x :: .int (nI k) :: .ref (h 4) :: rest)) := by
  refine va_iast (D := D) C.1 C.2.1 I.1 I.2.1 I.2.2.1 I.2.2.2.1 4 0 (cA := cA 0) (n := 9) (f := tb) rfl rfl (vp_in_nI hk (by decide)) hdg (fun H1 locs1 h1 h2 h3 => ?_)
  rw [nI_clamp (Nat.lt_of_lt_of_le hk (by decide))] at h1 h2
  exact kk H1 locs1 ⟨I.1, h1, h2, h3, I.2.2.2.2⟩
theorem sv_l5 (C : gC p s m args meth c cc nL R_S) (I : svI D cA A s h (bw, cw, ts, tb, st, ro, mr, la, fu, dn, wr) H locs) {k : Nat} (hk : k < 3) (hdg : decode cc pc = .ok (.iaload, 1)) (kk : W p l e R s m args below meth c H locs cells slots Q (F0 m (pc + 1) ls (.int (st k) :: rest))) : W p l e R s m args below meth c H locs cells slots Q (F0 m pc ls (.int (nI k) :: .ref (h 5) :: rest)) := by
  refine va_iald (D := D) C.1 C.2.1 I.1 I.2.1 5 0 (cA := cA 0) (n := 3) (f := st) rfl rfl (vp_in_nI hk (by decide)) hdg ?_
  rw [nI_clamp (Nat.lt_of_lt_of_le hk (by decide))]
  exact kk
theorem sv_s5 (C : gC p s m args meth c cc nL R_S) (I : svI D cA A s h (bw, cw, ts, tb, st, ro, mr, la, fu, dn, wr) H locs) {k : Nat} {x : Int32} (hk : k < 3) (hdg : decode cc pc = .ok (.iastore, 1)) (kk : ∀ (H1 : Heap) (locs1 : List Loc), svI D cA A s h (bw, cw, ts, tb, (upd st k x), ro, mr, la, fu, dn, wr) H1 locs1 → W p l e R s m args below meth c H1 locs1 cells slots Q (F0 m (pc + 1) ls (rest))) : W p l e R s m args below meth c H locs cells slots Q (F0 m pc ls (.int x :: .int (nI k) :: .ref (h 5) :: rest)) := by
  refine va_iast (D := D) C.1 C.2.1 I.1 I.2.1 I.2.2.1 I.2.2.2.1 5 0 (cA := cA 0) (n := 3) (f := st) rfl rfl (vp_in_nI hk (by decide)) hdg (fun H1 locs1 h1 h2 h3 => ?_)
  rw [nI_clamp (Nat.lt_of_lt_of_le hk (by decide))] at h1 h2
  exact kk H1 locs1 ⟨I.1, h1, h2, h3, I.2.2.2.2⟩
end Rsv
section Csv
variable {p : Program} {l : Launch} {e : Env} {R : Room} {s : State} {m : MethodId} {args : Array Value} {below : List Frame} {meth : Method} {c : Code} {H : Heap} {locs : List Loc} {cells slots : Nat} {Q : State → Prop}
variable {cc bytes : ByteArray} {nL maxL n index pc : Nat} {ls : Array Slot} {rest st0 avs : List Value} {D : va_G} {cA : Nat → ClassId} {A : Nat → Prop} {h : Nat → Nat} {u : SV} {y : MethodName} {ret : Option FieldType} {rm : Room} {own : String}
theorem svI.free (I : svI D cA A s h u H locs) : ∀ q, svA cA h u H.size q → A q := by
  intro q hq
  rcases hq with ⟨k, e0, h1⟩ | h1
  · exact I.2.2.1.2 k _ h1
  · exact I.2.2.2.2 q (Nat.le_trans I.2.2.2.1.1 h1)
theorem svI.pre (I : svI D cA A s h u H locs) {U : State} (hU : U.heap = H) (hW : s.WarmedH U.vm) : svPre D cA h u H.size U := ⟨by rw [hU], by rw [hU]; exact I.2.1, va_K.moved hW.alike I.1, I.2.2.1.weaken (fun _ _ _ _ => trivial)⟩
theorem svI.back (I : svI D cA A s h u H locs) {u' : SV} {t : State} {H1 : Heap} {locs1 : List Loc} (ht : t.heap = H1) (hv : s.vm.Alike t.vm) (hB : svAt D cA (svA cA h u H.size) h u' t) (hS : va_S A s.heap H1 locs1) : svI D cA A s h u' H1 locs1 := ⟨I.1, by rw [← ht]; exact hB.1, hB.2.2.weaken (fun _ q _ hq => I.free q.1 hq), hS, I.2.2.2.2⟩
theorem svI.recv (I : svI D cA A s h u H locs) : ∃ cell : Cell, H[h 0]? = some cell ∧ cell.vm.isStatics = false ∧ s.vm.findClass R_S = some cell.cls := by
  obtain ⟨bw, cw, ts, tb, st, ro, mr, la, fu, dn, wr⟩ := u
  exact va_recv (q := (R_S, F_S, 11)) I.1 I.2.1 (ci := 0) (q0 := 0) rfl rfl
theorem sv_ci {post : Int32 → SV → Prop} (C : gC p s m args meth c cc nL own) (I : svI D cA A s h u H locs) (hM : svMi l D cA h u H.size y (.code y bytes maxL ret) rm avs post) (k : lkV own index R_S y bytes maxL ret n) (hrc : rm.cells = 0) (hrs : rm.slots = 0) (hR : rm.frames + 1 ≤ R.frames ∧ 8 + (maxL + 11) + rm.locals ≤ R.locals) (hcl : cells ≤ R.cells ∧ slots ≤ R.slots) (hn : avs.length = n) (hl : ls.size = nL) (hst : st0 = avs.reverse ++ .ref (h 0) :: rest) (hrest : (rest.map fun v => v.category).sum ≤ 8) (hdg : decode cc pc = .ok (.invokevirtual index, 3)) (kk : ∀ (r : Int32) (u' : SV) (H1 : Heap) (locs1 : List Loc), post r u' → svI D cA A s h u' H1 locs1 → W p l e R s m args below meth c H1 locs1 cells slots Q (F0 m (pc + 3) ls (.int r :: rest))) : W p l e R s m args below meth c H locs cells slots Q (F0 m pc ls st0) := by
  have cw := k.cw (R := R) (rm := rm) (args := args) (s := s) C.2.2.2.2.1 hR
  rw [hrc, hrs] at cw
  refine va_calli (va_runV (As := avs) (rest := rest) ⟨C.1, C.2.1, C.2.2.1, C.2.2.2.1, C.2.2.2.2.1⟩ hM cw ⟨fun a U g mk q => ⟨q.1, q.2.blind g mk a⟩, I.recv, fun U hU hW => ⟨rfl, I.pre hU hW⟩⟩ rfl hn hl hst (lv_room hrest) hdg hcl) I.2.2.2.1 (fun q _ hq => I.free q hq) (fun q hq => I.free q hq) (fun r u' t H1 locs1 ht hvm hw hB hz hk hS => ?_)
  exact kk r u' H1 locs1 hw (I.back ht hvm hB hS)
theorem sv_cv {post : SV → Prop} (C : gC p s m args meth c cc nL own) (I : svI D cA A s h u H locs) (hM : svMv l D cA h u H.size y (.code y bytes maxL ret) rm avs post) (k : lkV own index R_S y bytes maxL ret n) (hrc : rm.cells = 0) (hrs : rm.slots = 0) (hR : rm.frames + 1 ≤ R.frames ∧ 8 + (maxL + 11) + rm.locals ≤ R.locals) (hcl : cells ≤ R.cells ∧ slots ≤ R.slots) (hn : avs.length = n) (hl : ls.size = nL) (hst : st0 = avs.reverse ++ .ref (h 0) :: rest) (hrest : (rest.map fun v => v.category).sum ≤ 8) (hdg : decode cc pc = .ok (.invokevirtual index, 3)) (kk : ∀ (u' : SV) (H1 : Heap) (locs1 : List Loc), post u' → svI D cA A s h u' H1 locs1 → W p l e R s m args below meth c H1 locs1 cells slots Q (F0 m (pc + 3) ls (rest))) : W p l e R s m args below meth c H locs cells slots Q (F0 m pc ls st0) := by
  have cw := k.cw (R := R) (rm := rm) (args := args) (s := s) C.2.2.2.2.1 hR
  rw [hrc, hrs] at cw
  refine va_callv (va_runV (As := avs) (rest := rest) ⟨C.1, C.2.1, C.2.2.1, C.2.2.2.1, C.2.2.2.2.1⟩ hM cw ⟨fun a U g mk q => ⟨q.1, q.2.blind g mk a⟩, I.recv, fun U hU hW => ⟨rfl, I.pre hU hW⟩⟩ rfl hn hl hst (lv_room hrest) hdg hcl) I.2.2.2.1 (fun q _ hq => I.free q hq) (fun q hq => I.free q hq) (fun u' t H1 locs1 ht hvm hw hB hz hk hS => ?_)
  exact kk u' H1 locs1 hw (I.back ht hvm hB hS)
end Csv
section Esv
variable {p : Program} {l : Launch} {e : Env} {R : Room} {s : State} {m : MethodId} {args : Array Value} {below : List Frame} {meth : Method} {c : Code} {H : Heap} {locs : List Loc} {cells slots : Nat} {Q : State → Prop}
variable {cc : ByteArray} {nL maxL pc sz : Nat} {ls : Array Slot} {avs : List Value} {D : va_G} {cA : Nat → ClassId} {A : Nat → Prop} {h : Nat → Nat} {u : SV} {y : MethodName} {ret : Option FieldType} {rm : Room} {own : String}
theorem sv_mi {post : Int32 → SV → Prop} (hy : plainName y.cls = true) (hys : y.cls = R_S) (hlen : (lg_sl (.ref (h 0) :: avs)).length ≤ maxL) (body : ∀ (p : Program) (e : Env) (s : State) (m : MethodId) (args : Array Value) (below : List Frame) (meth : Method) (c : Code), gC p s m args meth c cc maxL R_S → meth.sig.returnType = ret → s.heap.size = sz → svI D cA (svA cA h u sz) s h u s.heap [] → ∀ ls : Array Slot, lv_has ls maxL (lv_args 0 (.ref (h 0) :: avs)) → W p l e rm s m args below meth c s.heap [] 0 0 (MQ below (va_Qi post (svAt D cA (svA cA h u sz) h) (svA cA h u sz)) args s 0 0 (svA cA h u sz)) (F0 m 0 ls [])) : svMi l D cA h u sz y (.code y cc maxL ret) rm avs post := by
  refine Met.ofW (cc := cc) (maxL := maxL) (ret := ret) hy rfl ?_
  intro p e s m args below meth c s₁ B hml hv
  obtain ⟨rfl, hsz, hP, hK, hD0⟩ := hv
  subst hsz
  have hts := atoms_spec (ws := .code y cc maxL ret :: wG) B.pre
  have hl := lv_entry (.ref (h 0) :: avs) (n := maxL) hlen
  rw [lg_entry_eq]
  exact body p e s m _ below meth c ⟨B.exec, B.bytes, hml, by rw [← hys]; exact findClass_of_methodNamed B.named, fun w hw => hts w (List.mem_cons_of_mem _ hw), B.notSynchronized⟩ B.returns rfl ⟨hK, hP, hD0.self, va_S.rf, fun q hq => Or.inr hq⟩ _ hl
theorem sv_mv {post : SV → Prop} (hy : plainName y.cls = true) (hys : y.cls = R_S) (hlen : (lg_sl (.ref (h 0) :: avs)).length ≤ maxL) (body : ∀ (p : Program) (e : Env) (s : State) (m : MethodId) (args : Array Value) (below : List Frame) (meth : Method) (c : Code), gC p s m args meth c cc maxL R_S → meth.sig.returnType = ret → s.heap.size = sz → svI D cA (svA cA h u sz) s h u s.heap [] → ∀ ls : Array Slot, lv_has ls maxL (lv_args 0 (.ref (h 0) :: avs)) → W p l e rm s m args below meth c s.heap [] 0 0 (MQ below (va_Qv post (svAt D cA (svA cA h u sz) h) (svA cA h u sz)) args s 0 0 (svA cA h u sz)) (F0 m 0 ls [])) : svMv l D cA h u sz y (.code y cc maxL ret) rm avs post := by
  refine Met.ofW (cc := cc) (maxL := maxL) (ret := ret) hy rfl ?_
  intro p e s m args below meth c s₁ B hml hv
  obtain ⟨rfl, hsz, hP, hK, hD0⟩ := hv
  subst hsz
  have hts := atoms_spec (ws := .code y cc maxL ret :: wG) B.pre
  have hl := lv_entry (.ref (h 0) :: avs) (n := maxL) hlen
  rw [lg_entry_eq]
  exact body p e s m _ below meth c ⟨B.exec, B.bytes, hml, by rw [← hys]; exact findClass_of_methodNamed B.named, fun w hw => hts w (List.mem_cons_of_mem _ hw), B.notSynchronized⟩ B.returns rfl ⟨hK, hP, hD0.self, va_S.rf, fun q hq => Or.inr hq⟩ _ hl
theorem sv_ri {post : Int32 → SV → Prop} {v : Int32} (C : gC p s m args meth c cc nL own) (hr : meth.sig.returnType = some .int) (I : svI D cA A s h u H locs) (hp : post v u) (hdg : decode cc pc = .ok (.ireturn, 1)) : W p l e R s m args below meth c H locs 0 0 (MQ below (va_Qi post (svAt D cA A h) A) args s 0 0 A) (F0 m pc ls [.int v]) :=
  W.iret (v := v) C.1 C.2.1 hr (fun t ht hW => ⟨⟨v, u, rfl, hp, by rw [ht]; exact I.2.1, va_K.moved hW.alike I.1, I.2.2.1⟩, I.2.2.2.1.F ht⟩) (fun q hq => I.2.2.2.1.2.2 q hq) hdg C.2.2.2.2.2
theorem sv_rz {post : Int32 → SV → Prop} {b : Bool} (C : gC p s m args meth c cc nL own) (hr : meth.sig.returnType = some .boolean) (I : svI D cA A s h u H locs) (hp : post (bI b) u) (hdg : decode cc pc = .ok (.ireturn, 1)) : W p l e R s m args below meth c H locs 0 0 (MQ below (va_Qi post (svAt D cA A h) A) args s 0 0 A) (F0 m pc ls [.int (bI b)]) :=
  W.zret (v := bI b) C.1 C.2.1 hr (bI_narrow b) (fun t ht hW => ⟨⟨bI b, u, rfl, hp, by rw [ht]; exact I.2.1, va_K.moved hW.alike I.1, I.2.2.1⟩, I.2.2.2.1.F ht⟩) (fun q hq => I.2.2.2.1.2.2 q hq) hdg C.2.2.2.2.2
theorem sv_rv {post : SV → Prop} (C : gC p s m args meth c cc nL own) (hr : meth.sig.returnType = none) (I : svI D cA A s h u H locs) (hp : post u) (hdg : decode cc pc = .ok (.return_, 1)) : W p l e R s m args below meth c H locs 0 0 (MQ below (va_Qv post (svAt D cA A h) A) args s 0 0 A) (F0 m pc ls []) :=
  W.vret C.1 C.2.1 hr (fun t ht hW => ⟨⟨u, rfl, hp, by rw [ht]; exact I.2.1, va_K.moved hW.alike I.1, I.2.2.1⟩, I.2.2.2.1.F ht⟩) (fun q hq => I.2.2.2.1.2.2 q hq) hdg C.2.2.2.2.2
end Esv
end
section
section Rsm
variable {p : Program} {l : Launch} {e : Env} {R : Room} {s : State} {m : MethodId} {args : Array Value} {below : List Frame} {meth : Method} {c : Code} {H : Heap} {locs : List Loc} {cells slots : Nat} {Q : State → Prop}
variable {cc : ByteArray} {nL pc : Nat} {ls : Array Slot} {rest : List Value} {D : va_G} {cA : Nat → ClassId} {A : Nat → Prop} {h : Nat → Nat}
variable {co : Nat} {dn : Bool} {fu : Option Nat} {ct : Nat} {vo : (Nat → Int32)} {wo : (Nat → Int32)} {th : (Nat → Bool)} {ow : (Nat → Nat)} {ba : Nat} {mr : Nat}
theorem sm_g0 (C : gC p s m args meth c cc nL R_M) (I : smI D cA A s h (co, dn, fu, ct, vo, wo, th, ow, ba, mr) H locs) (hdg : decode cc pc = .ok (.getfield 27, 3)) (kk : W p l e R s m args below meth c H locs cells slots Q (F0 m (pc + 3) ls (.int (nI co) :: rest))) : W p l e R s m args below meth c H locs cells slots Q (F0 m pc ls (.ref (h 0) :: rest)) :=
  va_get (D := D) (ci := 1) (v := .int (nI co)) (C := R_M) (T := F_M) (N := 10) C.1 C.2.1 C.2.2.2.2.1 lay_M C.2.2.2.1 I.1 I.2.1 0 rfl rfl 0 (by decide) (C.2.2.2.2.1 _ fl_M0) (fun _ h9 => h9) rfl hdg kk
theorem sm_p0 (C : gC p s m args meth c cc nL R_M) (I : smI D cA A s h (co, dn, fu, ct, vo, wo, th, ow, ba, mr) H locs) {x : Int32} (co' : Nat) (hv : Value.int x = .int (nI co')) (hdg : decode cc pc = .ok (.putfield 27, 3)) (kk : ∀ (H1 : Heap) (locs1 : List Loc), smI D cA A s h (co', dn, fu, ct, vo, wo, th, ow, ba, mr) H1 locs1 → W p l e R s m args below meth c H1 locs1 cells slots Q (F0 m (pc + 3) ls (rest))) : W p l e R s m args below meth c H locs cells slots Q (F0 m pc ls (.int x :: .ref (h 0) :: rest)) := by
  rw [hv]
  exact va_put (D := D) (ci := 1) (v := .int (nI co')) (ty := .int) (C := R_M) (T := F_M) (N := 10) C.1 C.2.1 C.2.2.2.2.1 lay_M t_M t_M_ok n_M C.2.2.2.1 I.1 I.2.1 I.2.2.1 I.2.2.2.1 0 rfl rfl 0 (by decide) (C.2.2.2.2.1 _ fl_M0) (fun _ h9 => h9) rfl (by decide +kernel) rfl rfl (Nat.le_of_ble_eq_true rfl) hdg (fun H1 locs1 h1 h2 h3 => kk H1 locs1 ⟨I.1, h1, h2, h3, I.2.2.2.2⟩)
theorem sm_g1 (C : gC p s m args meth c cc nL R_M) (I : smI D cA A s h (co, dn, fu, ct, vo, wo, th, ow, ba, mr) H locs) (hdg : decode cc pc = .ok (.getfield 33, 3)) (kk : W p l e R s m args below meth c H locs cells slots Q (F0 m (pc + 3) ls (.int (bI dn) :: rest))) : W p l e R s m args below meth c H locs cells slots Q (F0 m pc ls (.ref (h 0) :: rest)) :=
  va_get (D := D) (ci := 1) (v := .int (bI dn)) (C := R_M) (T := F_M) (N := 10) C.1 C.2.1 C.2.2.2.2.1 lay_M C.2.2.2.1 I.1 I.2.1 0 rfl rfl 1 (by decide) (C.2.2.2.2.1 _ fl_M1) (fun _ h9 => h9) rfl hdg kk
theorem sm_p1 (C : gC p s m args meth c cc nL R_M) (I : smI D cA A s h (co, dn, fu, ct, vo, wo, th, ow, ba, mr) H locs) {x : Int32} (dn' : Bool) (hv : Value.int x = .int (bI dn')) (hdg : decode cc pc = .ok (.putfield 33, 3)) (kk : ∀ (H1 : Heap) (locs1 : List Loc), smI D cA A s h (co, dn', fu, ct, vo, wo, th, ow, ba, mr) H1 locs1 → W p l e R s m args below meth c H1 locs1 cells slots Q (F0 m (pc + 3) ls (rest))) : W p l e R s m args below meth c H locs cells slots Q (F0 m pc ls (.int x :: .ref (h 0) :: rest)) := by
  rw [hv]
  exact va_put (D := D) (ci := 1) (v := .int (bI dn')) (ty := .boolean) (C := R_M) (T := F_M) (N := 10) C.1 C.2.1 C.2.2.2.2.1 lay_M t_M t_M_ok n_M C.2.2.2.1 I.1 I.2.1 I.2.2.1 I.2.2.2.1 0 rfl rfl 1 (by decide) (C.2.2.2.2.1 _ fl_M1) (fun _ h9 => h9) rfl (by decide +kernel) (bI_narrow dn') (bI_fits dn') (Nat.le_of_ble_eq_true rfl) hdg (fun H1 locs1 h1 h2 h3 => kk H1 locs1 ⟨I.1, h1, h2, h3, I.2.2.2.2⟩)
theorem sm_g2 (C : gC p s m args meth c cc nL R_M) (I : smI D cA A s h (co, dn, fu, ct, vo, wo, th, ow, ba, mr) H locs) (hdg : decode cc pc = .ok (.getfield 7, 3)) (kk : W p l e R s m args below meth c H locs cells slots Q (F0 m (pc + 3) ls (.int (oI fu) :: rest))) : W p l e R s m args below meth c H locs cells slots Q (F0 m pc ls (.ref (h 0) :: rest)) :=
  va_get (D := D) (ci := 1) (v := .int (oI fu)) (C := R_M) (T := F_M) (N := 10) C.1 C.2.1 C.2.2.2.2.1 lay_M C.2.2.2.1 I.1 I.2.1 0 rfl rfl 2 (by decide) (C.2.2.2.2.1 _ fl_M2) (fun _ h9 => h9) rfl hdg kk
theorem sm_p2 (C : gC p s m args meth c cc nL R_M) (I : smI D cA A s h (co, dn, fu, ct, vo, wo, th, ow, ba, mr) H locs) {x : Int32} (fu' : Option Nat) (hv : Value.int x = .int (oI fu')) (hdg : decode cc pc = .ok (.putfield 7, 3)) (kk : ∀ (H1 : Heap) (locs1 : List Loc), smI D cA A s h (co, dn, fu', ct, vo, wo, th, ow, ba, mr) H1 locs1 → W p l e R s m args below meth c H1 locs1 cells slots Q (F0 m (pc + 3) ls (rest))) : W p l e R s m args below meth c H locs cells slots Q (F0 m pc ls (.int x :: .ref (h 0) :: rest)) := by
  rw [hv]
  exact va_put (D := D) (ci := 1) (v := .int (oI fu')) (ty := .int) (C := R_M) (T := F_M) (N := 10) C.1 C.2.1 C.2.2.2.2.1 lay_M t_M t_M_ok n_M C.2.2.2.1 I.1 I.2.1 I.2.2.1 I.2.2.2.1 0 rfl rfl 2 (by decide) (C.2.2.2.2.1 _ fl_M2) (fun _ h9 => h9) rfl (by decide +kernel) rfl rfl (Nat.le_of_ble_eq_true rfl) hdg (fun H1 locs1 h1 h2 h3 => kk H1 locs1 ⟨I.1, h1, h2, h3, I.2.2.2.2⟩)
theorem sm_g3 (C : gC p s m args meth c cc nL R_M) (I : smI D cA A s h (co, dn, fu, ct, vo, wo, th, ow, ba, mr) H locs) (hdg : decode cc pc = .ok (.getfield 37, 3)) (kk : W p l e R s m args below meth c H locs cells slots Q (F0 m (pc + 3) ls (.int (nI ct) :: rest))) : W p l e R s m args below meth c H locs cells slots Q (F0 m pc ls (.ref (h 0) :: rest)) :=
  va_get (D := D) (ci := 1) (v := .int (nI ct)) (C := R_M) (T := F_M) (N := 10) C.1 C.2.1 C.2.2.2.2.1 lay_M C.2.2.2.1 I.1 I.2.1 0 rfl rfl 3 (by decide) (C.2.2.2.2.1 _ fl_M3) (fun _ h9 => h9) rfl hdg kk
theorem sm_p3 (C : gC p s m args meth c cc nL R_M) (I : smI D cA A s h (co, dn, fu, ct, vo, wo, th, ow, ba, mr) H locs) {x : Int32} (ct' : Nat) (hv : Value.int x = .int (nI ct')) (hdg : decode cc pc = .ok (.putfield 37, 3)) (kk : ∀ (H1 : Heap) (locs1 : List Loc), smI D cA A s h (co, dn, fu, ct', vo, wo, th, ow, ba, mr) H1 locs1 → W p l e R s m args below meth c H1 locs1 cells slots Q (F0 m (pc + 3) ls (rest))) : W p l e R s m args below meth c H locs cells slots Q (F0 m pc ls (.int x :: .ref (h 0) :: rest)) := by
  rw [hv]
  exact va_put (D := D) (ci := 1) (v := .int (nI ct')) (ty := .int) (C := R_M) (T := F_M) (N := 10) C.1 C.2.1 C.2.2.2.2.1 lay_M t_M t_M_ok n_M C.2.2.2.1 I.1 I.2.1 I.2.2.1 I.2.2.2.1 0 rfl rfl 3 (by decide) (C.2.2.2.2.1 _ fl_M3) (fun _ h9 => h9) rfl (by decide +kernel) rfl rfl (Nat.le_of_ble_eq_true rfl) hdg (fun H1 locs1 h1 h2 h3 => kk H1 locs1 ⟨I.1, h1, h2, h3, I.2.2.2.2⟩)
theorem sm_g4 (C : gC p s m args meth c cc nL R_M) (I : smI D cA A s h (co, dn, fu, ct, vo, wo, th, ow, ba, mr) H locs) (hdg : decode cc pc = .ok (.getfield 13, 3)) (kk : W p l e R s m args below meth c H locs cells slots Q (F0 m (pc + 3) ls (.ref (h 1) :: rest))) : W p l e R s m args below meth c H locs cells slots Q (F0 m pc ls (.ref (h 0) :: rest)) :=
  va_get (D := D) (ci := 1) (v := .ref (h 1)) (C := R_M) (T := F_M) (N := 10) C.1 C.2.1 C.2.2.2.2.1 lay_M C.2.2.2.1 I.1 I.2.1 0 rfl rfl 4 (by decide) (C.2.2.2.2.1 _ fl_M4) (fun _ h9 => h9) rfl hdg kk
theorem sm_g5 (C : gC p s m args meth c cc nL R_M) (I : smI D cA A s h (co, dn, fu, ct, vo, wo, th, ow, ba, mr) H locs) (hdg : decode cc pc = .ok (.getfield 17, 3)) (kk : W p l e R s m args below meth c H locs cells slots Q (F0 m (pc + 3) ls (.ref (h 2) :: rest))) : W p l e R s m args below meth c H locs cells slots Q (F0 m pc ls (.ref (h 0) :: rest)) :=
  va_get (D := D) (ci := 1) (v := .ref (h 2)) (C := R_M) (T := F_M) (N := 10) C.1 C.2.1 C.2.2.2.2.1 lay_M C.2.2.2.1 I.1 I.2.1 0 rfl rfl 5 (by decide) (C.2.2.2.2.1 _ fl_M5) (fun _ h9 => h9) rfl hdg kk
theorem sm_g6 (C : gC p s m args meth c cc nL R_M) (I : smI D cA A s h (co, dn, fu, ct, vo, wo, th, ow, ba, mr) H locs) (hdg : decode cc pc = .ok (.getfield 20, 3)) (kk : W p l e R s m args below meth c H locs cells slots Q (F0 m (pc + 3) ls (.ref (h 3) :: rest))) : W p l e R s m args below meth c H locs cells slots Q (F0 m pc ls (.ref (h 0) :: rest)) :=
  va_get (D := D) (ci := 1) (v := .ref (h 3)) (C := R_M) (T := F_M) (N := 10) C.1 C.2.1 C.2.2.2.2.1 lay_M C.2.2.2.1 I.1 I.2.1 0 rfl rfl 6 (by decide) (C.2.2.2.2.1 _ fl_M6) (fun _ h9 => h9) rfl hdg kk
theorem sm_g7 (C : gC p s m args meth c cc nL R_M) (I : smI D cA A s h (co, dn, fu, ct, vo, wo, th, ow, ba, mr) H locs) (hdg : decode cc pc = .ok (.getfield 24, 3)) (kk : W p l e R s m args below meth c H locs cells slots Q (F0 m (pc + 3) ls (.ref (h 4) :: rest))) : W p l e R s m args below meth c H locs cells slots Q (F0 m pc ls (.ref (h 0) :: rest)) :=
  va_get (D := D) (ci := 1) (v := .ref (h 4)) (C := R_M) (T := F_M) (N := 10) C.1 C.2.1 C.2.2.2.2.1 lay_M C.2.2.2.1 I.1 I.2.1 0 rfl rfl 7 (by decide) (C.2.2.2.2.1 _ fl_M7) (fun _ h9 => h9) rfl hdg kk
theorem sm_g8 (C : gC p s m args meth c cc nL R_M) (I : smI D cA A s h (co, dn, fu, ct, vo, wo, th, ow, ba, mr) H locs) (hdg : decode cc pc = .ok (.getfield 30, 3)) (kk : W p l e R s m args below meth c H locs cells slots Q (F0 m (pc + 3) ls (.int (nI ba) :: rest))) : W p l e R s m args below meth c H locs cells slots Q (F0 m pc ls (.ref (h 0) :: rest)) :=
  va_get (D := D) (ci := 1) (v := .int (nI ba)) (C := R_M) (T := F_M) (N := 10) C.1 C.2.1 C.2.2.2.2.1 lay_M C.2.2.2.1 I.1 I.2.1 0 rfl rfl 8 (by decide) (C.2.2.2.2.1 _ fl_M8) (fun _ h9 => h9) rfl hdg kk
theorem sm_p8 (C : gC p s m args meth c cc nL R_M) (I : smI D cA A s h (co, dn, fu, ct, vo, wo, th, ow, ba, mr) H locs) {x : Int32} (ba' : Nat) (hv : Value.int x = .int (nI ba')) (hdg : decode cc pc = .ok (.putfield 30, 3)) (kk : ∀ (H1 : Heap) (locs1 : List Loc), smI D cA A s h (co, dn, fu, ct, vo, wo, th, ow, ba', mr) H1 locs1 → W p l e R s m args below meth c H1 locs1 cells slots Q (F0 m (pc + 3) ls (rest))) : W p l e R s m args below meth c H locs cells slots Q (F0 m pc ls (.int x :: .ref (h 0) :: rest)) := by
  rw [hv]
  exact va_put (D := D) (ci := 1) (v := .int (nI ba')) (ty := .int) (C := R_M) (T := F_M) (N := 10) C.1 C.2.1 C.2.2.2.2.1 lay_M t_M t_M_ok n_M C.2.2.2.1 I.1 I.2.1 I.2.2.1 I.2.2.2.1 0 rfl rfl 8 (by decide) (C.2.2.2.2.1 _ fl_M8) (fun _ h9 => h9) rfl (by decide +kernel) rfl rfl (Nat.le_of_ble_eq_true rfl) hdg (fun H1 locs1 h1 h2 h3 => kk H1 locs1 ⟨I.1, h1, h2, h3, I.2.2.2.2⟩)
theorem sm_g9 (C : gC p s m args meth c cc nL R_M) (I : smI D cA A s h (co, dn, fu, ct, vo, wo, th, ow, ba, mr) H locs) (hdg : decode cc pc = .ok (.getfield 86, 3)) (kk : W p l e R s m args below meth c H locs cells slots Q (F0 m (pc + 3) ls (.int (nI mr) :: rest))) : W p l e R s m args below meth c H locs cells slots Q (F0 m pc ls (.ref (h 0) :: rest)) :=
  va_get (D := D) (ci := 1) (v := .int (nI mr)) (C := R_M) (T := F_M) (N := 10) C.1 C.2.1 C.2.2.2.2.1 lay_M C.2.2.2.1 I.1 I.2.1 0 rfl rfl 9 (by decide) (C.2.2.2.2.1 _ fl_M9) (fun _ h9 => h9) rfl hdg kk
theorem sm_p9 (C : gC p s m args meth c cc nL R_M) (I : smI D cA A s h (co, dn, fu, ct, vo, wo, th, ow, ba, mr) H locs) {x : Int32} (mr' : Nat) (hv : Value.int x = .int (nI mr')) (hdg : decode cc pc = .ok (.putfield 86, 3)) (kk : ∀ (H1 : Heap) (locs1 : List Loc), smI D cA A s h (co, dn, fu, ct, vo, wo, th, ow, ba, mr') H1 locs1 → W p l e R s m args below meth c H1 locs1 cells slots Q (F0 m (pc + 3) ls (rest))) : W p l e R s m args below meth c H locs cells slots Q (F0 m pc ls (.int x :: .ref (h 0) :: rest)) := by
  rw [hv]
  exact va_put (D := D) (ci := 1) (v := .int (nI mr')) (ty := .int) (C := R_M) (T := F_M) (N := 10) C.1 C.2.1 C.2.2.2.2.1 lay_M t_M t_M_ok n_M C.2.2.2.1 I.1 I.2.1 I.2.2.1 I.2.2.2.1 0 rfl rfl 9 (by decide) (C.2.2.2.2.1 _ fl_M9) (fun _ h9 => h9) rfl (by decide +kernel) rfl rfl (Nat.le_of_ble_eq_true rfl) hdg (fun H1 locs1 h1 h2 h3 => kk H1 locs1 ⟨I.1, h1, h2, h3, I.2.2.2.2⟩)
theorem sm_l1 (C : gC p s m args meth c cc nL R_M) (I : smI D cA A s h (co, dn, fu, ct, vo, wo, th, ow, ba, mr) H locs) {k : Nat} (hk : k < 24) (hdg : decode cc pc = .ok (.iaload, 1)) (kk : W p l e R s m args below meth c H locs cells slots Q (F0 m (pc + 1) ls (.int (vo k) :: rest))) : W p l e R s m args below meth c H locs cells slots Q (F0 m pc ls (.int (nI k) :: .ref (h 1) :: rest)) := by
  refine va_iald (D := D) C.1 C.2.1 I.1 I.2.1 1 0 (cA := cA 0) (n := 24) (f := vo) rfl rfl (vp_in_nI hk (by decide)) hdg ?_
  rw [nI_clamp (Nat.lt_of_lt_of_le hk (by decide))]
  exact kk
theorem sm_s1 (C : gC p s m args meth c cc nL R_M) (I : smI D cA A s h (co, dn, fu, ct, vo, wo, th, ow, ba, mr) H locs) {k : Nat} {x : Int32} (hk : k < 24) (hdg : decode cc pc = .ok (.iastore, 1)) (kk : ∀ (H1 : Heap) (locs1 : List Loc), smI D cA A s h (co, dn, fu, ct, (upd vo k x), wo, th, ow, ba, mr) H1 locs1 → W p l e R s m args below meth c H1 locs1 cells slots Q (F0 m (pc + 1) ls (rest))) : W p l e R s m args below meth c H locs cells slots Q (F0 m pc ls (.int x :: .int (nI k) :: .ref (h 1) :: rest)) := by
  refine va_iast (D := D) C.1 C.2.1 I.1 I.2.1 I.2.2.1 I.2.2.2.1 1 0 (cA := cA 0) (n := 24) (f := vo) rfl rfl (vp_in_nI hk (by decide)) hdg (fun H1 locs1 h1 h2 h3 => ?_)
  rw [nI_clamp (Nat.lt_of_lt_of_le hk (by decide))] at h1 h2
  exact kk H1 locs1 ⟨I.1, h1, h2, h3, I.2.2.2.2⟩
theorem sm_l2 (C : gC p s m args meth c cc nL R_M) (I : smI D cA A s h (co, dn, fu, ct, vo, wo, th, ow, ba, mr) H locs) {k : Nat} (hk : k < 72) (hdg : decode cc pc = .ok (.iaload, 1)) (kk : W p l e R s m args below meth c H locs cells slots Q (F0 m (pc + 1) ls (.int (wo k) :: rest))) : W p l e R s m args below meth c H locs cells slots Q (F0 m pc ls (.int (nI k) :: .ref (h 2) :: rest)) := by
  refine va_iald (D := D) C.1 C.2.1 I.1 I.2.1 2 0 (cA := cA 0) (n := 72) (f := wo) rfl rfl (vp_in_nI hk (by decide)) hdg ?_
  rw [nI_clamp (Nat.lt_of_lt_of_le hk (by decide))]
  exact kk
theorem sm_s2 (C : gC p s m args meth c cc nL R_M) (I : smI D cA A s h (co, dn, fu, ct, vo, wo, th, ow, ba, mr) H locs) {k : Nat} {x : Int32} (hk : k < 72) (hdg : decode cc pc = .ok (.iastore, 1)) (kk : ∀ (H1 : Heap) (locs1 : List Loc), smI D cA A s h (co, dn, fu, ct, vo, (upd wo k x), th, ow, ba, mr) H1 locs1 → W p l e R s m args below meth c H1 locs1 cells slots Q (F0 m (pc + 1) ls (rest))) : W p l e R s m args below meth c H locs cells slots Q (F0 m pc ls (.int x :: .int (nI k) :: .ref (h 2) :: rest)) := by
  refine va_iast (D := D) C.1 C.2.1 I.1 I.2.1 I.2.2.1 I.2.2.2.1 2 0 (cA := cA 0) (n := 72) (f := wo) rfl rfl (vp_in_nI hk (by decide)) hdg (fun H1 locs1 h1 h2 h3 => ?_)
  rw [nI_clamp (Nat.lt_of_lt_of_le hk (by decide))] at h1 h2
  exact kk H1 locs1 ⟨I.1, h1, h2, h3, I.2.2.2.2⟩
theorem sm_l3 (C : gC p s m args meth c cc nL R_M) (I : smI D cA A s h (co, dn, fu, ct, vo, wo, th, ow, ba, mr) H locs) {k : Nat} (hk : k < 3) (hdg : decode cc pc = .ok (.baload, 1)) (kk : W p l e R s m args below meth c H locs cells slots Q (F0 m (pc + 1) ls (.int (bI (th k)) :: rest))) : W p l e R s m args below meth c H locs cells slots Q (F0 m pc ls (.int (nI k) :: .ref (h 3) :: rest)) := by
  refine va_zald (D := D) C.1 C.2.1 I.1 I.2.1 3 1 (cA := cA 1) (n := 3) (f := (fun k => bI (th k))) rfl rfl (vp_in_nI hk (by decide)) hdg ?_
  rw [nI_clamp (Nat.lt_of_lt_of_le hk (by decide))]
  exact kk
theorem sm_s3 (C : gC p s m args meth c cc nL R_M) (I : smI D cA A s h (co, dn, fu, ct, vo, wo, th, ow, ba, mr) H locs) {k : Nat} {x : Bool} (hk : k < 3) (hdg : decode cc pc = .ok (.bastore, 1)) (kk : ∀ (H1 : Heap) (locs1 : List Loc), smI D cA A s h (co, dn, fu, ct, vo, wo, (va_up th k x), ow, ba, mr) H1 locs1 → W p l e R s m args below meth c H1 locs1 cells slots Q (F0 m (pc + 1) ls (rest))) : W p l e R s m args below meth c H locs cells slots Q (F0 m pc ls (.int (bI x) :: .int (nI k) :: .ref (h 3) :: rest)) := by
  refine va_zast (D := D) C.1 C.2.1 I.1 I.2.1 I.2.2.1 I.2.2.2.1 3 1 (cA := cA 1) (n := 3) (f := (fun k => bI (th k))) rfl rfl (vp_in_nI hk (by decide)) hdg (fun H1 locs1 h1 h2 h3 => ?_)
  rw [nI_clamp (Nat.lt_of_lt_of_le hk (by decide))] at h1 h2
  rw [bI_nar, upd_b] at h1 h2
  exact kk H1 locs1 ⟨I.1, h1, h2, h3, I.2.2.2.2⟩
theorem sm_l4 (C : gC p s m args meth c cc nL R_M) (I : smI D cA A s h (co, dn, fu, ct, vo, wo, th, ow, ba, mr) H locs) {k : Nat} (hk : k < 18) (hdg : decode cc pc = .ok (.iaload, 1)) (kk : W p l e R s m args below meth c H locs cells slots Q (F0 m (pc + 1) ls (.int (nI (ow k)) :: rest))) : W p l e R s m args below meth c H locs cells slots Q (F0 m pc ls (.int (nI k) :: .ref (h 4) :: rest)) := by
  refine va_iald (D := D) C.1 C.2.1 I.1 I.2.1 4 0 (cA := cA 0) (n := 18) (f := (fun k => nI (ow k))) rfl rfl (vp_in_nI hk (by decide)) hdg ?_
  rw [nI_clamp (Nat.lt_of_lt_of_le hk (by decide))]
  exact kk
theorem sm_s4 (C : gC p s m args meth c cc nL R_M) (I : smI D cA A s h (co, dn, fu, ct, vo, wo, th, ow, ba, mr) H locs) {k : Nat} {x : Nat} (hk : k < 18) (hdg : decode cc pc = .ok (.iastore, 1)) (kk : ∀ (H1 : Heap) (locs1 : List Loc), smI D cA A s h (co, dn, fu, ct, vo, wo, th, (va_up ow k x), ba, mr) H1 locs1 → W p l e R s m args below meth c H1 locs1 cells slots Q (F0 m (pc + 1) ls (rest))) : W p l e R s m args below meth c H locs cells slots Q (F0 m pc ls (.int (nI x) :: .int (nI k) :: .ref (h 4) :: rest)) := by
  refine va_iast (D := D) C.1 C.2.1 I.1 I.2.1 I.2.2.1 I.2.2.2.1 4 0 (cA := cA 0) (n := 18) (f := (fun k => nI (ow k))) rfl rfl (vp_in_nI hk (by decide)) hdg (fun H1 locs1 h1 h2 h3 => ?_)
  rw [nI_clamp (Nat.lt_of_lt_of_le hk (by decide))] at h1 h2
  rw [upd_n] at h1 h2
  exact kk H1 locs1 ⟨I.1, h1, h2, h3, I.2.2.2.2⟩
end Rsm
section Csm
variable {p : Program} {l : Launch} {e : Env} {R : Room} {s : State} {m : MethodId} {args : Array Value} {below : List Frame} {meth : Method} {c : Code} {H : Heap} {locs : List Loc} {cells slots : Nat} {Q : State → Prop}
variable {cc bytes : ByteArray} {nL maxL n index pc : Nat} {ls : Array Slot} {rest st0 avs : List Value} {D : va_G} {cA : Nat → ClassId} {A : Nat → Prop} {h : Nat → Nat} {u : SM} {y : MethodName} {ret : Option FieldType} {rm : Room} {own : String}
theorem smI.free (I : smI D cA A s h u H locs) : ∀ q, smA cA h u H.size q → A q := by
  intro q hq
  rcases hq with ⟨k, e0, h1⟩ | h1
  · exact I.2.2.1.2 k _ h1
  · exact I.2.2.2.2 q (Nat.le_trans I.2.2.2.1.1 h1)
theorem smI.pre (I : smI D cA A s h u H locs) {U : State} (hU : U.heap = H) (hW : s.WarmedH U.vm) : smPre D cA h u H.size U := ⟨by rw [hU], by rw [hU]; exact I.2.1, va_K.moved hW.alike I.1, I.2.2.1.weaken (fun _ _ _ _ => trivial)⟩
theorem smI.back (I : smI D cA A s h u H locs) {u' : SM} {t : State} {H1 : Heap} {locs1 : List Loc} (ht : t.heap = H1) (hv : s.vm.Alike t.vm) (hB : smAt D cA (smA cA h u H.size) h u' t) (hS : va_S A s.heap H1 locs1) : smI D cA A s h u' H1 locs1 := ⟨I.1, by rw [← ht]; exact hB.1, hB.2.2.weaken (fun _ q _ hq => I.free q.1 hq), hS, I.2.2.2.2⟩
theorem smI.recv (I : smI D cA A s h u H locs) : ∃ cell : Cell, H[h 0]? = some cell ∧ cell.vm.isStatics = false ∧ s.vm.findClass R_M = some cell.cls := by
  obtain ⟨co, dn, fu, ct, vo, wo, th, ow, ba, mr⟩ := u
  exact va_recv (q := (R_M, F_M, 10)) I.1 I.2.1 (ci := 1) (q0 := 0) rfl rfl
theorem sm_ci {post : Int32 → SM → Prop} (C : gC p s m args meth c cc nL own) (I : smI D cA A s h u H locs) (hM : smMi l D cA h u H.size y (.code y bytes maxL ret) rm avs post) (k : lkV own index R_M y bytes maxL ret n) (hrc : rm.cells = 0) (hrs : rm.slots = 0) (hR : rm.frames + 1 ≤ R.frames ∧ 8 + (maxL + 11) + rm.locals ≤ R.locals) (hcl : cells ≤ R.cells ∧ slots ≤ R.slots) (hn : avs.length = n) (hl : ls.size = nL) (hst : st0 = avs.reverse ++ .ref (h 0) :: rest) (hrest : (rest.map fun v => v.category).sum ≤ 8) (hdg : decode cc pc = .ok (.invokevirtual index, 3)) (kk : ∀ (r : Int32) (u' : SM) (H1 : Heap) (locs1 : List Loc), post r u' → smI D cA A s h u' H1 locs1 → W p l e R s m args below meth c H1 locs1 cells slots Q (F0 m (pc + 3) ls (.int r :: rest))) : W p l e R s m args below meth c H locs cells slots Q (F0 m pc ls st0) := by
  have cw := k.cw (R := R) (rm := rm) (args := args) (s := s) C.2.2.2.2.1 hR
  rw [hrc, hrs] at cw
  refine va_calli (va_runV (As := avs) (rest := rest) ⟨C.1, C.2.1, C.2.2.1, C.2.2.2.1, C.2.2.2.2.1⟩ hM cw ⟨fun a U g mk q => ⟨q.1, q.2.blind g mk a⟩, I.recv, fun U hU hW => ⟨rfl, I.pre hU hW⟩⟩ rfl hn hl hst (lv_room hrest) hdg hcl) I.2.2.2.1 (fun q _ hq => I.free q hq) (fun q hq => I.free q hq) (fun r u' t H1 locs1 ht hvm hw hB hz hk hS => ?_)
  exact kk r u' H1 locs1 hw (I.back ht hvm hB hS)
theorem sm_cv {post : SM → Prop} (C : gC p s m args meth c cc nL own) (I : smI D cA A s h u H locs) (hM : smMv l D cA h u H.size y (.code y bytes maxL ret) rm avs post) (k : lkV own index R_M y bytes maxL ret n) (hrc : rm.cells = 0) (hrs : rm.slots = 0) (hR : rm.frames + 1 ≤ R.frames ∧ 8 + (maxL + 11) + rm.locals ≤ R.locals) (hcl : cells ≤ R.cells ∧ slots ≤ R.slots) (hn : avs.length = n) (hl : ls.size = nL) (hst : st0 = avs.reverse ++ .ref (h 0) :: rest) (hrest : (rest.map fun v => v.category).sum ≤ 8) (hdg : decode cc pc = .ok (.invokevirtual index, 3)) (kk : ∀ (u' : SM) (H1 : Heap) (locs1 : List Loc), post u' → smI D cA A s h u' H1 locs1 → W p l e R s m args below meth c H1 locs1 cells slots Q (F0 m (pc + 3) ls (rest))) : W p l e R s m args below meth c H locs cells slots Q (F0 m pc ls st0) := by
  have cw := k.cw (R := R) (rm := rm) (args := args) (s := s) C.2.2.2.2.1 hR
  rw [hrc, hrs] at cw
  refine va_callv (va_runV (As := avs) (rest := rest) ⟨C.1, C.2.1, C.2.2.1, C.2.2.2.1, C.2.2.2.2.1⟩ hM cw ⟨fun a U g mk q => ⟨q.1, q.2.blind g mk a⟩, I.recv, fun U hU hW => ⟨rfl, I.pre hU hW⟩⟩ rfl hn hl hst (lv_room hrest) hdg hcl) I.2.2.2.1 (fun q _ hq => I.free q hq) (fun q hq => I.free q hq) (fun u' t H1 locs1 ht hvm hw hB hz hk hS => ?_)
  exact kk u' H1 locs1 hw (I.back ht hvm hB hS)
end Csm
section Esm
variable {p : Program} {l : Launch} {e : Env} {R : Room} {s : State} {m : MethodId} {args : Array Value} {below : List Frame} {meth : Method} {c : Code} {H : Heap} {locs : List Loc} {cells slots : Nat} {Q : State → Prop}
variable {cc : ByteArray} {nL maxL pc sz : Nat} {ls : Array Slot} {avs : List Value} {D : va_G} {cA : Nat → ClassId} {A : Nat → Prop} {h : Nat → Nat} {u : SM} {y : MethodName} {ret : Option FieldType} {rm : Room} {own : String}
theorem sm_mi {post : Int32 → SM → Prop} (hy : plainName y.cls = true) (hys : y.cls = R_M) (hlen : (lg_sl (.ref (h 0) :: avs)).length ≤ maxL) (body : ∀ (p : Program) (e : Env) (s : State) (m : MethodId) (args : Array Value) (below : List Frame) (meth : Method) (c : Code), gC p s m args meth c cc maxL R_M → meth.sig.returnType = ret → s.heap.size = sz → smI D cA (smA cA h u sz) s h u s.heap [] → ∀ ls : Array Slot, lv_has ls maxL (lv_args 0 (.ref (h 0) :: avs)) → W p l e rm s m args below meth c s.heap [] 0 0 (MQ below (va_Qi post (smAt D cA (smA cA h u sz) h) (smA cA h u sz)) args s 0 0 (smA cA h u sz)) (F0 m 0 ls [])) : smMi l D cA h u sz y (.code y cc maxL ret) rm avs post := by
  refine Met.ofW (cc := cc) (maxL := maxL) (ret := ret) hy rfl ?_
  intro p e s m args below meth c s₁ B hml hv
  obtain ⟨rfl, hsz, hP, hK, hD0⟩ := hv
  subst hsz
  have hts := atoms_spec (ws := .code y cc maxL ret :: wG) B.pre
  have hl := lv_entry (.ref (h 0) :: avs) (n := maxL) hlen
  rw [lg_entry_eq]
  exact body p e s m _ below meth c ⟨B.exec, B.bytes, hml, by rw [← hys]; exact findClass_of_methodNamed B.named, fun w hw => hts w (List.mem_cons_of_mem _ hw), B.notSynchronized⟩ B.returns rfl ⟨hK, hP, hD0.self, va_S.rf, fun q hq => Or.inr hq⟩ _ hl
theorem sm_mv {post : SM → Prop} (hy : plainName y.cls = true) (hys : y.cls = R_M) (hlen : (lg_sl (.ref (h 0) :: avs)).length ≤ maxL) (body : ∀ (p : Program) (e : Env) (s : State) (m : MethodId) (args : Array Value) (below : List Frame) (meth : Method) (c : Code), gC p s m args meth c cc maxL R_M → meth.sig.returnType = ret → s.heap.size = sz → smI D cA (smA cA h u sz) s h u s.heap [] → ∀ ls : Array Slot, lv_has ls maxL (lv_args 0 (.ref (h 0) :: avs)) → W p l e rm s m args below meth c s.heap [] 0 0 (MQ below (va_Qv post (smAt D cA (smA cA h u sz) h) (smA cA h u sz)) args s 0 0 (smA cA h u sz)) (F0 m 0 ls [])) : smMv l D cA h u sz y (.code y cc maxL ret) rm avs post := by
  refine Met.ofW (cc := cc) (maxL := maxL) (ret := ret) hy rfl ?_
  intro p e s m args below meth c s₁ B hml hv
  obtain ⟨rfl, hsz, hP, hK, hD0⟩ := hv
  subst hsz
  have hts := atoms_spec (ws := .code y cc maxL ret :: wG) B.pre
  have hl := lv_entry (.ref (h 0) :: avs) (n := maxL) hlen
  rw [lg_entry_eq]
  exact body p e s m _ below meth c ⟨B.exec, B.bytes, hml, by rw [← hys]; exact findClass_of_methodNamed B.named, fun w hw => hts w (List.mem_cons_of_mem _ hw), B.notSynchronized⟩ B.returns rfl ⟨hK, hP, hD0.self, va_S.rf, fun q hq => Or.inr hq⟩ _ hl
theorem sm_ri {post : Int32 → SM → Prop} {v : Int32} (C : gC p s m args meth c cc nL own) (hr : meth.sig.returnType = some .int) (I : smI D cA A s h u H locs) (hp : post v u) (hdg : decode cc pc = .ok (.ireturn, 1)) : W p l e R s m args below meth c H locs 0 0 (MQ below (va_Qi post (smAt D cA A h) A) args s 0 0 A) (F0 m pc ls [.int v]) :=
  W.iret (v := v) C.1 C.2.1 hr (fun t ht hW => ⟨⟨v, u, rfl, hp, by rw [ht]; exact I.2.1, va_K.moved hW.alike I.1, I.2.2.1⟩, I.2.2.2.1.F ht⟩) (fun q hq => I.2.2.2.1.2.2 q hq) hdg C.2.2.2.2.2
theorem sm_rz {post : Int32 → SM → Prop} {b : Bool} (C : gC p s m args meth c cc nL own) (hr : meth.sig.returnType = some .boolean) (I : smI D cA A s h u H locs) (hp : post (bI b) u) (hdg : decode cc pc = .ok (.ireturn, 1)) : W p l e R s m args below meth c H locs 0 0 (MQ below (va_Qi post (smAt D cA A h) A) args s 0 0 A) (F0 m pc ls [.int (bI b)]) :=
  W.zret (v := bI b) C.1 C.2.1 hr (bI_narrow b) (fun t ht hW => ⟨⟨bI b, u, rfl, hp, by rw [ht]; exact I.2.1, va_K.moved hW.alike I.1, I.2.2.1⟩, I.2.2.2.1.F ht⟩) (fun q hq => I.2.2.2.1.2.2 q hq) hdg C.2.2.2.2.2
theorem sm_rv {post : SM → Prop} (C : gC p s m args meth c cc nL own) (hr : meth.sig.returnType = none) (I : smI D cA A s h u H locs) (hp : post u) (hdg : decode cc pc = .ok (.return_, 1)) : W p l e R s m args below meth c H locs 0 0 (MQ below (va_Qv post (smAt D cA A h) A) args s 0 0 A) (F0 m pc ls []) :=
  W.vret C.1 C.2.1 hr (fun t ht hW => ⟨⟨u, rfl, hp, by rw [ht]; exact I.2.1, va_K.moved hW.alike I.1, I.2.2.1⟩, I.2.2.2.1.F ht⟩) (fun q hq => I.2.2.2.1.2.2 q hq) hdg C.2.2.2.2.2
end Esm

/-! ===== static methods without a world ===== -/
abbrev stMi (l : Launch) (sz : Nat) (y : MethodName) (hd : Cond) (rm : Room) (avs : List Value) (post : Int32 → Prop) : Prop := Met l y (hd :: wG) rm (va_Pc avs (fun U => U.heap.size = sz)) (va_Qi (fun r (_ : Unit) => post r) (fun _ _ => True) (va_A [] sz)) 0 0 (va_A [] sz)
theorem st_A {sz q : Nat} (h : va_A [] sz q) : sz ≤ q := by
  rcases h with ⟨k, e, h1⟩ | h1
  · simp at h1
  · exact h1
section EST
variable {p : Program} {l : Launch} {e : Env} {R : Room} {s : State} {m : MethodId} {args : Array Value} {below : List Frame} {meth : Method} {c : Code} {H : Heap} {locs : List Loc} {cells slots : Nat} {Q : State → Prop}
variable {cc : ByteArray} {nL maxL pc sz : Nat} {ls : Array Slot} {avs : List Value} {y : MethodName} {ret : Option FieldType} {rm : Room} {own : String}
theorem st_mi {post : Int32 → Prop} (hy : plainName y.cls = true) (hys : y.cls = own) (hlen : (lg_sl avs).length ≤ maxL) (body : ∀ (p : Program) (e : Env) (s : State) (m : MethodId) (args : Array Value) (below : List Frame) (meth : Method) (c : Code), gC p s m args meth c cc maxL own → meth.sig.returnType = ret → s.heap.size = sz → ∀ ls : Array Slot, lv_has ls maxL (lv_args 0 avs) → W p l e rm s m args below meth c s.heap [] 0 0 (MQ below (va_Qi (fun r (_ : Unit) => post r) (fun _ _ => True) (va_A [] sz)) args s 0 0 (va_A [] sz)) (F0 m 0 ls [])) : stMi l sz y (.code y cc maxL ret) rm avs post := by
  refine Met.ofW (cc := cc) (maxL := maxL) (ret := ret) hy rfl ?_
  intro p e s m args below meth c s₁ B hml hv
  obtain ⟨rfl, hsz⟩ := hv
  have hts := atoms_spec (ws := .code y cc maxL ret :: wG) B.pre
  have hl := lv_entry avs (n := maxL) hlen
  rw [lg_entry_eq]
  exact body p e s m _ below meth c ⟨B.exec, B.bytes, hml, by rw [← hys]; exact findClass_of_methodNamed B.named, fun w hw => hts w (List.mem_cons_of_mem _ hw), B.notSynchronized⟩ B.returns hsz _ hl
theorem st_rz {post : Int32 → Prop} {b : Bool} (C : gC p s m args meth c cc nL own) (hr : meth.sig.returnType = some .boolean) (hp : post (bI b)) (hdg : decode cc pc = .ok (.ireturn, 1)) : W p l e R s m args below meth c s.heap [] 0 0 (MQ below (va_Qi (fun r (_ : Unit) => post r) (fun _ _ => True) (va_A [] sz)) args s 0 0 (va_A [] sz)) (F0 m pc ls [.int (bI b)]) :=
  W.zret (v := bI b) C.1 C.2.1 hr (bI_narrow b) (fun t ht hW => ⟨⟨bI b, (), rfl, hp, trivial⟩, by rw [ht]; exact Nat.le_refl _, fun q _ _ => by rw [ht]⟩) (fun q hq => by cases hq) hdg C.2.2.2.2.2
end EST
section Ssm
variable {p : Program} {l : Launch} {e : Env} {R : Room} {s : State} {m : MethodId} {args : Array Value} {below : List Frame} {meth : Method} {c : Code} {H : Heap} {locs : List Loc} {cells slots : Nat} {Q : State → Prop}
variable {cc bytes : ByteArray} {nL maxL n index pc : Nat} {ls : Array Slot} {rest st0 avs : List Value} {D : va_G} {cA : Nat → ClassId} {A : Nat → Prop} {h : Nat → Nat} {u : SM} {y : MethodName} {ret : Option FieldType} {rm : Room} {own : String}
theorem sm_cs {post : Int32 → Prop} (C : gC p s m args meth c cc nL own) (I : smI D cA A s h u H locs) (hM : stMi l H.size y (.code y bytes maxL ret) rm avs post) (k : lkS own index y bytes maxL ret n) (hrc : rm.cells = 0) (hrs : rm.slots = 0) (hR : rm.frames + 1 ≤ R.frames ∧ 8 + (maxL + 11) + rm.locals ≤ R.locals) (hcl : cells ≤ R.cells ∧ slots ≤ R.slots) (hn : avs.length = n) (hl : ls.size = nL) (hst : st0 = avs.reverse ++ rest) (hrest : (rest.map fun v => v.category).sum ≤ 8) (hdg : decode cc pc = .ok (.invokestatic index, 3)) (kk : ∀ (r : Int32) (H1 : Heap) (locs1 : List Loc), post r → smI D cA A s h u H1 locs1 → W p l e R s m args below meth c H1 locs1 cells slots Q (F0 m (pc + 3) ls (.int r :: rest))) : W p l e R s m args below meth c H locs cells slots Q (F0 m pc ls st0) := by
  have cw := k.cw (R := R) (rm := rm) (args := args) (s := s) C.2.2.2.2.1 hR
  rw [hrc, hrs] at cw
  refine va_calli (va_runS (As := avs) (rest := rest) ⟨C.1, C.2.1, C.2.2.1, C.2.2.2.1, C.2.2.2.2.1⟩ hM cw ⟨fun a U g mk q => ⟨q.1, q.2⟩, fun U hU hW => ⟨rfl, congrArg Array.size hU⟩⟩ rfl hn hl hst (lv_room hrest) hdg hcl) I.2.2.2.1 (fun q hq hz => absurd (st_A hz) (by omega)) (fun q hq => I.2.2.2.2 q (Nat.le_trans I.2.2.2.1.1 (st_A hq))) (fun r u' t H1 locs1 ht hvm hw hB hz hk hS => ?_)
  exact kk r H1 locs1 hw ⟨I.1, I.2.1.kept (fun k q hq => hk _ ((I.2.1 k q hq).lt) (fun hz => absurd (st_A hz) (by have := (I.2.1 k q hq).lt; omega))), I.2.2.1, hS, I.2.2.2.2⟩
end Ssm
end
section
/-! My own rows: methods that may throw (no traces kept), and the catching of what they throw. A contract wx_Met says both ends; wx_T is the machine with a thrown object over the frame. -/
/-- what may be new: nothing where it returned, n where it threw -/
def wx_k (o : Outcome) (n : Nat) : Nat := match o with
  | .returned _ => 0
  | .threw _ => n
def wx_End (s : State) (o : Outcome) (t : State) (L : List Loc) (k n : Nat) : Prop := s.WarmedH t.vm ∧ s.sameButNew ({ t with vm := s.vm } : State) L (wx_k o k) (wx_k o n)
def wx_Met (l : Launch) (y : MethodName) (ws : List Cond) (rm : Room) (Pc : Array Value → State → Prop) (Qc : Array Value → State → Outcome → State → Prop) (mc ms : Nat) (free : Addr → Prop) : Prop :=
  MetFree l y (headSpec ws rm) Pc (fun _ _ _ _ _ => True) (fun a st o t => Qc a st o t ∧ ∃ L, wx_End st o t L mc ms ∧ ∀ q ∈ L, free q.base)
def wx_MQ (below : List Frame) (Qc : Array Value → State → Outcome → State → Prop) (a : Array Value) (s : State) (mc ms : Nat) (free : Addr → Prop) : State → Prop := fun t =>
  ∃ o, t.status = .running ∧ Ended t below o ∧ Qc a s o t ∧ ∃ L, wx_End s o t L mc ms ∧ ∀ q ∈ L, free q.base
def wx_T (p : Program) (l : Launch) (e : Env) (R : Room) (s : State) (m : MethodId) (args : Array Value) (below : List Frame) (meth : Method) (c : Code) (H : Heap) (locs : List Loc) (cells slots : Nat) (Q : State → Prop) (g : JFrame) (x : Addr) : Prop :=
  ∀ T : State, T.heap = H → Stand p l e R s m args below meth c T locs cells slots → ∃ t, Steps p.tables e below ((T.setTop g).pushFrame (.throwing x)) t ∧ Q t
/-- the kinds of exceptions of this class -/
def wx_N (k : Nat) : String := match k with
  | 0 => "java/lang/UnsupportedOperationException"
  | 1 => "java/lang/IllegalArgumentException"
  | 2 => "java/lang/IllegalStateException"
  | _ => "java/util/NoSuchElementException"
/-- at x, made since the heap was of size z, lies an exception of kind k -/
def wx_E (k x z : Nat) (U : State) (H : Heap) : Prop := z ≤ x ∧ ∃ ce : Cell, H[x]? = some ce ∧ ce.vm.isStatics = false ∧ U.vm.findClass (wx_N k) = some ce.cls
/-- a method's ends: an answer, or an exception of a kind -/
def wx_Q {S : Type} (post : Option Value → S → Prop) (pt : Nat → S → Prop) (B : S → State → Prop) (A : Nat → Prop) : Array Value → State → Outcome → State → Prop := fun _ st oc t =>
  ((∃ (v : Option Value) (u : S), oc = .returned v ∧ post v u ∧ B u t) ∨ (∃ (k x : Nat) (u : S), oc = .threw x ∧ wx_E k x st.heap.size t t.heap ∧ pt k u ∧ B u t)) ∧ va_F A st t
section WX
variable {p : Program} {l : Launch} {e : Env} {R : Room} {s : State} {m : MethodId} {args : Array Value} {below : List Frame} {meth : Method} {c : Code} {H : Heap} {locs : List Loc} {cells slots : Nat} {Q : State → Prop}
theorem wx_MQ.of {Qc : Array Value → State → Outcome → State → Prop} {a : Array Value} {mc ms : Nat} {free : Addr → Prop} (t : State) (h : MQ below Qc a s 0 0 free t) : wx_MQ below Qc a s mc ms free t := by
  obtain ⟨o, h1, h2, h3, L, ⟨⟨v, hv⟩, hW, hs⟩, hL⟩ := h
  subst hv
  exact ⟨.returned v, h1, h2, h3, L, ⟨hW, hs⟩, hL⟩
theorem wx_mono {Q' : State → Prop} {g : JFrame} (h : ∀ t, Q t → Q' t) (k : W p l e R s m args below meth c H locs cells slots Q g) : W p l e R s m args below meth c H locs cells slots Q' g := by
  intro T hT X
  obtain ⟨t, a, b⟩ := k T hT X
  exact ⟨t, a, h t b⟩
theorem wx_ofW {y : MethodName} {ws ws' : List Cond} {rm : Room} {Pc : Array Value → State → Prop} {Qc : Array Value → State → Outcome → State → Prop} {mc ms : Nat} {free : Addr → Prop} {cc : ByteArray} {maxL : Nat} {ret : Option FieldType}
    (hy : plainName y.cls = true) (hw : ws = Cond.code y cc maxL ret :: ws')
    (body : ∀ p e s m args below meth c s₁, BodyLoose p l y (headSpec ws rm) cc maxL ret e s m args below meth c s₁ → c.maxLocals = maxL → c.exceptionTable.toList = [] → Pc args s →
      W p l e (headSpec ws rm).room s m args below meth c s.heap [] 0 0 (wx_MQ below Qc args s mc ms free) (entryFrame m args maxL)) : wx_Met l y ws rm Pc Qc mc ms free := by
  refine MetFree.of_bodyS (code := cc) (maxLocals := maxL) (ret := ret) hy ?_ ?_
  · intro args s m h hn
    obtain ⟨meth, c, h1, h2, h3, h4, h5, h6, -, -⟩ := Cond.code_spec hn (atoms_spec (ws := ws) h _ (by rw [hw]; exact List.mem_cons_self))
    exact ⟨meth, c, h1, h2, h3, h4, h5, h6⟩
  · intro p e s m args below meth c s₁ B hml hP _
    have hh0 : s₁.heap = s.heap := by rw [B.state]; rfl
    have hno : c.exceptionTable.toList = [] := by
      have h1 := B.noHandlers (atoms_spec (ws := ws) B.pre _ (by rw [hw]; exact List.mem_cons_self))
      have h2 : c.exceptionTable.size = 0 := by simpa [Array.isEmpty] using h1
      exact List.eq_nil_of_length_eq_zero (by simpa using h2)
    obtain ⟨t, a1, o, b1, b2, b3⟩ := body p e s m args below meth c s₁ B hml hno hP s₁ hh0 (Stand.of_body B)
    exact ⟨t, o, a1, b1, b2, ⟨b3.1, b3.2⟩⟩
/-- a thrown object leaves a method without handlers -/
theorem wx_out {Qc : Array Value → State → Outcome → State → Prop} {free : Addr → Prop} {g : JFrame} {x : Addr} (hno : c.exceptionTable.toList = []) (hlocks : meth.locks = false) (hg : g.method = m) (hgl : g.locked = none) (hge : g.entered = [])
    (hq : ∀ t : State, t.heap = H → s.WarmedH t.vm → Qc args s (.threw x) t) (hf : ∀ q ∈ locs, free q.base) {mc ms : Nat} (hc : cells ≤ mc) (hs : slots ≤ ms) :
    wx_T p l e R s m args below meth c H locs cells slots (wx_MQ below Qc args s mc ms free) g x := by
  intro T hT X
  obtain ⟨h1, h2, h3, h4, h5⟩ := X.leaveThrown x (g := g) hg hgl hge (fun y hy => by rw [hno] at hy; cases hy) hlocks
  exact ⟨_, h1, .threw x, h2, h3, hq _ hT h4, locs, ⟨h4, h5.mono hc hs⟩, hf⟩
theorem wx_widen {g : JFrame} {x : Addr} {k n : Nat} (h1 : cells ≤ k) (h2 : slots ≤ n) (kk : wx_T p l e R s m args below meth c H locs k n Q g x) : wx_T p l e R s m args below meth c H locs cells slots Q g x := fun T hT X => kk T hT (stand_widen X h1 h2)
/-- a call by a contract of both ends -/
theorem wx_back {T : State} (X : Stand p l e R s m args below meth c T locs cells slots) {own : String} {index n : Nat} {y : MethodName} {bytes : ByteArray} {maxL : Nat} {ret : Option FieldType} {ws : List Cond} {rm : Room} {mc ms : Nat} {Pc : Array Value → State → Prop} {Qc : Array Value → State → Outcome → State → Prop} {free : Addr → Prop}
    (cb : CallB R s args own index y bytes maxL ret ws rm mc ms n) (hM : wx_Met l y ws rm Pc Qc mc ms free) (hbl : FrameBlind Pc)
    {g : JFrame} (hg : g.method = m) (hsize : g.locals.size = c.maxLocals) {ig : Instr} (hdg : decode c.code g.pc = .ok (ig, 3)) (hW : 2 * g.monitorRoom + (g.stack.map fun v => v.category).sum ≤ 8) {mk : MethodId} (hn : T.methodNamed? y = some mk) {a : Array Value} (hp : cells + mc ≤ R.cells ∧ slots + ms ≤ R.slots ∧ Pc a T) :
    ∃ (o : Outcome) (st₀ t T' : State) (L : List Loc), st₀.heap = T.heap ∧ Stand p l e R s m args below meth c T' (locs ++ L) (cells + wx_k o mc) (slots + wx_k o ms) ∧ (∀ q ∈ L, free q.base) ∧ T'.heap = t.heap ∧ T'.vm = t.vm ∧ Qc a st₀ o t ∧
      ((∃ v, o = .returned v ∧ Steps p.tables e below (doInvoke e (T.setTop g) [] mk a).1 (T'.setTop { g with pc := g.pc + 3, stack := v.toList ++ g.stack })) ∨ (∃ x, o = .threw x ∧ Steps p.tables e below (doInvoke e (T.setTop g) [] mk a).1 ((T'.setTop g).pushFrame (.throwing x)))) := by
  obtain ⟨hrc, hrs, hfr, hlo, hws, hcw, -, hini, -⟩ := cb
  have hcode : (Cond.code y bytes maxL ret).before a T = true := hws _ hcw _ _ X.warmed
  have hini' : (Cond.initialized y.cls).before a T = true := word_at X.warmed (Or.inl (by first | rfl | simp [Cond.onTables, Cond.keeps, Cond.steady])) hini
  obtain ⟨methY, cY, hmY, hcY, -, hlY, -⟩ := Cond.code_spec hn hcode
  obtain ⟨kY, hkY, -⟩ := className_of_methodNamed hn
  have hinitY : kY.init = .initialized := Cond.initialized_spec (findClass_of_methodNamed hn) hkY hini'
  have h : At T g.method c below := by rw [hg]; exact X.here
  have happ : (headSpec ws rm).appliesLoose y e.platform (T.calling g mk a) = true :=
    Spec.appliesLoose_calling (g := g) h hdg hn hkY hinitY
      (X.room_calling (g := g) (R' := (headSpec ws rm).room) hsize hmY hcY hfr (by rw [hlY]; show _ + _ + _ + rm.locals ≤ _; omega) (by show _ + rm.cells ≤ _; rw [hrc]; exact hp.1) (by show _ + rm.slots ≤ _; rw [hrs]; exact hp.2.1)) (atoms_intro fun w hw => hws w hw _ _ X.warmed)
  obtain ⟨mid, hmid⟩ := h.above
  have hfr2 : (T.setTop g).frames = (.java g :: mid) ++ below := by rw [State.frames_setTop' g h.top, hmid]; rfl
  obtain ⟨o, s₂, hsteps, -, hend, hq⟩ := Steps.callFree hM p X.admits X.cas X.clock (acts := []) hfr2 happ (hbl _ _ _ _ hp.2.2) trivial
  have hq' : Qc a (T.calling g mk a) o s₂ ∧ ∃ L, wx_End (T.calling g mk a) o s₂ L mc ms ∧ ∀ q ∈ L, free q.base := hq
  obtain ⟨hqc, L, ⟨hW₂, hsame⟩, hL⟩ := hq'
  rw [State.frames_setTop' g h.top, X.tail] at hend
  cases o with
  | returned v =>
    obtain ⟨T', X', hTW, hTs, ht⟩ := X.outOf hg hdg hend hW₂ hsame
    refine ⟨.returned v, T.calling g mk a, s₂, T', L, rfl, X', hL, ?_, ?_, hqc, Or.inl ⟨v, rfl, ?_⟩⟩
    · rw [ht]; simp
    · rw [ht]; simp
    · rw [← ht]; exact hsteps
  | threw x =>
    obtain ⟨T', X', hTW, hTs, ht⟩ := X.outOfThrown hg hend hW₂ hsame
    refine ⟨.threw x, T.calling g mk a, s₂, T', L, rfl, X', hL, ?_, ?_, hqc, Or.inr ⟨x, rfl, ?_⟩⟩
    · rw [ht, Stand.throwing_heap]
    · rw [ht, Stand.throwing_vm]
    · rw [← ht]; exact hsteps
def wx_Run (p : Program) (l : Launch) (e : Env) (R : Room) (s : State) (m : MethodId) (args : Array Value) (below : List Frame) (meth : Method) (c : Code) (H : Heap) (locs : List Loc) (cells slots mc ms : Nat) (g : JFrame) (rest : List Value) (Qa : State → Outcome → State → Prop) (free : Addr → Prop) : Prop :=
  ∀ T : State, T.heap = H → Stand p l e R s m args below meth c T locs cells slots → ∃ (o : Outcome) (st₀ t T' : State) (L : List Loc), st₀.heap = H ∧ Stand p l e R s m args below meth c T' (locs ++ L) (cells + wx_k o mc) (slots + wx_k o ms) ∧ (∀ q ∈ L, free q.base) ∧ T'.heap = t.heap ∧ T'.vm = t.vm ∧ Qa st₀ o t ∧
    ((∃ v, o = .returned v ∧ Goes p e below T g T' { g with pc := g.pc + 3, stack := v.toList ++ rest }) ∨ (∃ x, o = .threw x ∧ ∀ target, Steps p.tables e below ((T'.setTop { g with stack := rest }).pushFrame (.throwing x)) target → Steps p.tables e below (T.setTop g) target))
theorem wx_runV {y : MethodName} {bytes cc : ByteArray} {maxL nL mc ms n index : Nat} {ret : Option FieldType} {ws : List Cond} {rm : Room} {Pc : Array Value → State → Prop} {Qc : Array Value → State → Outcome → State → Prop} {free : Addr → Prop} {Ts : List Cond} {own C : String} {b : Addr} {As rest : List Value} {g : JFrame}
    (S : CallFix p m c cc nL s args Ts own) (hM : wx_Met l y ws rm Pc Qc mc ms free) (cw : CallW R s args own C index y bytes maxL ret ws rm mc ms n) (hp : PreV s H C b Pc As)
    (hg : g.method = m) (hn : As.length = n) (hsize : g.locals.size = nL) (hstack : g.stack = As.reverse ++ .ref b :: rest) (hW : 2 * g.monitorRoom + (rest.map fun v => v.category).sum ≤ 8) (hdg : decode cc g.pc = .ok (.invokevirtual index, 3)) (hf : cells + mc ≤ R.cells ∧ slots + ms ≤ R.slots) :
    wx_Run p l e R s m args below meth c H locs cells slots mc ms g rest (Qc (Value.ref b :: As).toArray) free := by
  obtain ⟨hx, hb, hml, ho, -⟩ := S
  obtain ⟨hbl, ⟨cellB, hcB, hoB, hclB⟩, hPc⟩ := hp
  obtain ⟨cb, hinst, hsel⟩ := cw
  obtain ⟨-, -, -, -, -, -, hcode, -, hy, hlen, hlink⟩ := id cb
  intro T hT X
  obtain ⟨mk, methM, hnamed, hmethM, hstM, habM⟩ := Cond.instanceMethod_spec hinst
  obtain ⟨methM', cM, hmethM', -, -, -, -, -, -, hsigM⟩ := Cond.code_spec hnamed hcode
  cases hmethM.symm.trans hmethM'
  obtain ⟨c2, r2, m2, q1, q2, q3, q4, kP, hkP, hkPi⟩ := Cond.selects_spec hsel
  cases hclB.symm.trans q1
  cases (State.methodFound?_of_named hnamed hy).symm.trans q2
  cases hnamed.symm.trans q3
  have hselP : selectMethod e.platform s.vm cellB.cls mk = .method mk := by rw [Launch.admits_selectMethod X.admits]; exact q4
  obtain ⟨vm₁, X₁, hstep₁⟩ := X.invokevirtual hx ho hlink hnamed hmethM hstM hkP hkPi hy (a := b) (cell := cellB) (by rw [hT]; exact hcB)
    (fun z h => by rw [h] at hoB; cases hoB) hselP hmethM habM hkP hkPi (g := g) hg (argsL := As) (rest := rest) (hn.trans (hlen _ hsigM)) hstack (by rw [hb]; exact hdg)
  obtain ⟨o, st₀, t, T', L, e0, X', hL, e1, e2, hq, hend⟩ := wx_back X₁ cb hM hbl (g := { g with stack := rest }) hg (hsize.trans hml.symm) (ig := .invokevirtual index) (by rw [hb]; exact hdg) hW (X₁.named hnamed) (a := (Value.ref b :: As).toArray) ⟨hf.1, hf.2, hPc _ hT X₁.warmed⟩
  refine ⟨o, st₀, t, T', L, e0.trans hT, X', hL, e1, e2, hq, ?_⟩
  rcases hend with ⟨v, ho', st⟩ | ⟨x, ho', st⟩
  · exact Or.inl ⟨v, ho', fun target h => hstep₁ _ fun acts => by rw [doInvoke_state]; exact st.trans h⟩
  · exact Or.inr ⟨x, ho', fun target h => hstep₁ _ fun acts => by rw [doInvoke_state]; exact st.trans h⟩
section CALL
variable {pc : Nat} {ls : Array Slot} {rest st0 : List Value} {a : Array Value} {A0 A1 : Nat → Prop} {mc ms : Nat} {free : Addr → Prop}
theorem wx_call {S : Type} {post : Option Value → S → Prop} {pt : Nat → S → Prop} {B : S → State → Prop} (hr : wx_Run p l e R s m args below meth c H locs cells slots mc ms (F0 m pc ls st0) rest (wx_Q post pt B A1 a) free) (hS : va_S A0 s.heap H locs) (hA : ∀ q, q < H.size → A1 q → A0 q) (hf : ∀ q, free q → A0 q)
    (kk : ∀ (v : Option Value) (u : S) (t : State) (H1 : Heap) (locs1 : List Loc), t.heap = H1 → s.vm.Alike t.vm → post v u → B u t → (∀ q : Nat, q < H.size → ¬ A1 q → H1[q]? = H[q]?) → va_S A0 s.heap H1 locs1 → W p l e R s m args below meth c H1 locs1 cells slots Q (F0 m (pc + 3) ls (v.toList ++ rest)))
    (kt : ∀ (k x : Nat) (u : S) (t : State) (H1 : Heap) (locs1 : List Loc), t.heap = H1 → s.vm.Alike t.vm → wx_E k x s.heap.size s H1 → pt k u → B u t → (∀ q : Nat, q < H.size → ¬ A1 q → H1[q]? = H[q]?) → va_S A0 s.heap H1 locs1 → wx_T p l e R s m args below meth c H1 locs1 (cells + mc) (slots + ms) Q (F0 m pc ls rest) x) :
    W p l e R s m args below meth c H locs cells slots Q (F0 m pc ls st0) := by
  intro T hT X
  obtain ⟨o, st₀, t, T', L, h0, X', hL, e1, e2, ⟨hq, hz, hk⟩, hend⟩ := hr T hT X
  rw [h0] at hz hk
  have hal : s.vm.Alike t.vm := by rw [← e2]; exact X'.warmed.alike
  have hS' : va_S A0 s.heap T'.heap (locs ++ L) := ⟨Nat.le_trans hS.1 (by rw [e1]; exact hz), fun q h1 h2 => by rw [e1, hk q (Nat.lt_of_lt_of_le h1 hS.1) (fun z => h2 (hA q (Nat.lt_of_lt_of_le h1 hS.1) z))]; exact hS.2.1 q h1 h2, fun q hq => by
      rcases List.mem_append.mp hq with h | h
      · exact hS.2.2 q h
      · exact hf _ (hL q h)⟩
  rcases hq with ⟨v, u, ho, hp, hb⟩ | ⟨k, x, u, ho, ⟨hx0, ce, hx1, hx2, hx3⟩, hp, hb⟩
  · subst ho
    rcases hend with ⟨v', ho', st⟩ | ⟨x, ho', st⟩
    · cases ho'
      obtain ⟨t2, a1, b1⟩ := kk v u t T'.heap (locs ++ L) e1.symm hal hp hb (fun q h1 h2 => by rw [e1]; exact hk q h1 h2) hS' T' rfl X'
      exact ⟨t2, st t2 a1, b1⟩
    · cases ho'
  · subst ho
    rcases hend with ⟨v, ho', st⟩ | ⟨x', ho', st⟩
    · cases ho'
    · cases ho'
      obtain ⟨t2, a1, b1⟩ := kt k x u t T'.heap (locs ++ L) e1.symm hal ⟨Nat.le_trans hS.1 (by rw [h0] at hx0; exact hx0), ce, by rw [e1]; exact hx1, hx2, by rw [← hal.findClass]; exact hx3⟩ hp hb (fun q h1 h2 => by rw [e1]; exact hk q h1 h2) hS' T' rfl X'
      exact ⟨t2, st t2 a1, b1⟩
end CALL
/-- the same point of the walk, seen as a start of its own: nothing written or made yet -/
theorem wx_rebase {T : State} (X : Stand p l e R s m args below meth c T locs cells slots) {R' : Room} (h1 : R'.frames ≤ R.frames) (h2 : R'.locals ≤ R.locals) (h3 : cells + R'.cells ≤ R.cells) (h4 : slots + R'.slots ≤ R.slots) :
    Stand p l e R' (T.setFrames (.invoking m args :: below)) m args below meth c T [] 0 0 := by
  obtain ⟨g₀, hfr⟩ := X.frames_eq
  obtain ⟨th, hth, -⟩ := State.frames_cons hfr
  have hcur : T.cur < T.threads.size := State.cur_lt_of_frames hfr
  have hF : (T.setFrames (.invoking m args :: below)).frames = .invoking m args :: below := State.frames_setFrames _ hcur
  have hm : (T.setFrames (.invoking m args :: below)).vm.method? m = some meth := X.method'
  refine ⟨X.admits, X.cas, X.clock, hF, ?_, ?_, hm, X.code, X.here, X.tail, State.WarmedH.refl _, ?_, ?_, ?_⟩
  · obtain ⟨r1, r2, r3, r4⟩ := State.hasRoom_stack X.room
    have r5 := State.hasRoom_real X.room
    have h := X.room
    simp only [State.hasRoom, Bool.and_eq_true, decide_eq_true_eq] at h
    rw [State.localsInUse_invoking X.frames X.method X.code] at r3 r4 r5
    rw [X.frames, List.length_cons] at r1 r2
    have hU := State.localsInUse_invoking hF hm X.code
    have z1 := X.heapSize
    have z2 := X.used
    simp only [State.hasRoom, Bool.and_eq_true, decide_eq_true_eq, hF, hU, List.length_cons, State.stackLimits_setFrames, State.stackBytes_setFrames, X.limits, X.bytes]
    refine ⟨⟨⟨⟨by omega, by omega, by omega, by omega, by omega, h.1.1.1.2.2.2.2.2⟩, ?_⟩, ?_⟩, X.book⟩
    · have := h.1.1.2
      show T.heap.size + R'.cells ≤ _
      omega
    · have := h.1.2
      show T.slotsUsed + R'.slots ≤ _
      omega
  · have hh := X.hears
    have e1 : (T.setFrames (.invoking m args :: below)).hears m below = s.hears m below := by
      rcases below with _ | ⟨y, r⟩
      · simp [State.hears, State.setFrames, X.warmed.alike.method?]
      · cases y <;> simp [State.hears, State.setFrames, State.code?_eq, X.warmed.alike.method?]
    rw [e1]
    exact hh
  · rw [State.stackLimits_setFrames]
  · rw [State.stackBytes_setFrames]
  · obtain ⟨t2, ht2, -⟩ := State.frames_cons hF
    have h := (State.sameButNew.refl (T.setFrames (.invoking m args :: below)) ht2).setFrames T.frames (State.cur_lt_of_frames hF)
    have e2 : ((T.setFrames (.invoking m args :: below)).setFrames T.frames) = T := by rw [State.setFrames_setFrames, State.setFrames_self hth]
    rw [e2] at h
    exact h
/-- the four words of a throw that speak of the heap -/
def wx_four : List Cond := [.isRef (.static Bundle.tN "UNASSIGNED_STACK" Bundle.steD), .isRef (.static Bundle.tN "SUPPRESSED_SENTINEL" Bundle.listD), .laysStatic Bundle.tN "UNASSIGNED_STACK" Bundle.steD, .laysStatic Bundle.tN "SUPPRESSED_SENTINEL" Bundle.listD]
/-- the words of a throw that are true of the tables, but that the walk's own lists do not carry -/
def wx_B : List Cond := [.castable (wx_N 0) (wx_N 0), .castable (wx_N 1) (wx_N 1), .castable (wx_N 2) (wx_N 2), .castable (wx_N 3) (wx_N 3), .declares (Bundle.initS "java/lang/RuntimeException"), .declares (Bundle.initS "java/lang/Exception"), .declares (Bundle.initS "java/lang/Throwable")]
def wx_Bs (U : State) : Prop := ∀ w ∈ wx_B, w.before #[] U = true
theorem wx_B_at {u U : State} {a a' : Array Value} {w : Cond} (hw : w ∈ wx_B) (hvm : u.vm.Alike U.vm) (h : w.before a u = true) : w.before a' U = true := by
  have h1 : w.faceAtom = true ∧ w.onTables = true := by
    simp only [wx_B, List.mem_cons, List.not_mem_nil, or_false] at hw
    rcases hw with rfl | rfl | rfl | rfl | rfl | rfl | rfl <;> exact ⟨rfl, rfl⟩
  have h2 := Cond.faceAtom_setVm hvm w h1.1 h
  rw [Cond.onTables_vm (A' := a') (U' := U) U.vm w h1.2] at h2
  exact h2
theorem wx_Bs.moved {u U : State} (hvm : u.vm.Alike U.vm) (h : wx_Bs u) : wx_Bs U := fun w hw => wx_B_at hw hvm (h w hw)
/-- a static's place, outside A -/
def wx_L (C n d : String) (A : Nat → Prop) (U : State) (H : Heap) : Prop := ∃ (c : ClassId) (k : Class) (i : Nat) (f : Field) (a : Nat) (cell : Cell), (U.vm.findClass C = some c ∧ U.fieldFound? C n d = some (c, k, i, f)) ∧ (f.isStatic = true ∧ k.statics = some a) ∧ H[a]? = some cell ∧ cell.vm.isStatics = true ∧ cell.cls = c ∧ f.slot < cell.slots.size ∧ k.staticTypes[f.slot]? = some f.type ∧ ¬ A a
theorem wx_L.moved {C n d : String} {A : Nat → Prop} {u U : State} {H : Heap} (hvm : u.vm.Alike U.vm) (h : wx_L C n d A u H) : wx_L C n d A U H := by
  obtain ⟨c, k, i, f, a, cell, ⟨h1, h2⟩, ⟨h3, h4⟩, h5, h6, h7, h8, h9, h10⟩ := h
  obtain ⟨k', hi', he⟩ := State.fieldFound?_setVm hvm h2
  exact ⟨c, k', i, f, a, cell, ⟨by rw [hvm.findClass]; exact h1, hi'⟩, ⟨h3, by rw [he]; exact h4⟩, h5, h6, h7, h8, by rw [he]; exact h9, h10⟩
theorem wx_L.kept {C n d : String} {A : Nat → Prop} {U : State} {H H1 : Heap} (h : wx_L C n d A U H) (hq : ∀ a : Nat, a < H.size → ¬ A a → H1[a]? = H[a]?) : wx_L C n d A U H1 := by
  obtain ⟨c, k, i, f, a, cell, h1, h2, h5, h6, h7, h8, h9, h10⟩ := h
  exact ⟨c, k, i, f, a, cell, h1, h2, by rw [hq a (Array.getElem?_eq_some_iff.mp h5).1 h10]; exact h5, h6, h7, h8, h9, h10⟩
theorem wx_L.narrow {C n d : String} {A B : Nat → Prop} {U : State} {H : Heap} (h : wx_L C n d A U H) (hAB : ∀ q, B q → A q) : wx_L C n d B U H := by
  obtain ⟨c, k, i, f, a, cell, h1, h2, h5, h6, h7, h8, h9, h10⟩ := h
  exact ⟨c, k, i, f, a, cell, h1, h2, h5, h6, h7, h8, h9, fun z => h10 (hAB _ z)⟩
theorem wx_L.word {C n d : String} {A : Nat → Prop} {U : State} (h : wx_L C n d A U U.heap) (args : Array Value) : (Cond.laysStatic C n d).before args U = true := by
  obtain ⟨c, k, i, f, a, cell, ⟨h1, h2⟩, ⟨h3, h4⟩, h5, h6, h7, h8, h9, -⟩ := h
  show (Cond.laysStatic C n d).holds args U none U [] = true
  exact Cond.laysStatic_of h1 h2 h3 h4 h5 h6 h7 h8 h9
theorem wx_L.of {C n d : String} {A : Nat → Prop} {U : State} {args : Array Value} (h : (Cond.laysStatic C n d).before args U = true) (hA : ∀ a : Nat, a < U.heap.size → ¬ A a) : wx_L C n d A U U.heap := by
  obtain ⟨c, k, i, f, a, cell, h1, h2, h3, h4, h5, h6, h7, h8, h9⟩ := Cond.laysStatic_spec h
  exact ⟨c, k, i, f, a, cell, ⟨h1, h2⟩, ⟨h3, h4⟩, h5, h6, h7, h8, h9, hA a (Array.getElem?_eq_some_iff.mp h5).1⟩
/-- what the two statics of Throwable hold, outside A -/
def wx_Y (n d : String) (A : Nat → Prop) (U : State) (H : Heap) : Prop := (∃ v : Value, v.isRef = true ∧ va_Z Bundle.tN n d v A U H) ∧ wx_L Bundle.tN n d A U H
def wx_Z (A : Nat → Prop) (U : State) (H : Heap) : Prop := wx_Y "UNASSIGNED_STACK" Bundle.steD A U H ∧ wx_Y "SUPPRESSED_SENTINEL" Bundle.listD A U H
theorem wx_Z.moved {A : Nat → Prop} {u U : State} {H : Heap} (hvm : u.vm.Alike U.vm) (h : wx_Z A u H) : wx_Z A U H := by
  obtain ⟨⟨⟨v, h1, h2⟩, l1⟩, ⟨w, h3, h4⟩, l2⟩ := h
  exact ⟨⟨⟨v, h1, h2.moved hvm⟩, l1.moved hvm⟩, ⟨w, h3, h4.moved hvm⟩, l2.moved hvm⟩
theorem wx_Z.kept {A : Nat → Prop} {U : State} {H H1 : Heap} (h : wx_Z A U H) (hq : ∀ a : Nat, a < H.size → ¬ A a → H1[a]? = H[a]?) : wx_Z A U H1 := by
  obtain ⟨⟨⟨v, h1, h2⟩, l1⟩, ⟨w, h3, h4⟩, l2⟩ := h
  exact ⟨⟨⟨v, h1, h2.kept hq⟩, l1.kept hq⟩, ⟨w, h3, h4.kept hq⟩, l2.kept hq⟩
theorem wx_Z.narrow {A B : Nat → Prop} {U : State} {H : Heap} (h : wx_Z A U H) (hAB : ∀ q, B q → A q) : wx_Z B U H := by
  obtain ⟨⟨⟨v, h1, h2⟩, l1⟩, ⟨w, h3, h4⟩, l2⟩ := h
  exact ⟨⟨⟨v, h1, h2.narrow hAB⟩, l1.narrow hAB⟩, ⟨w, h3, h4.narrow hAB⟩, l2.narrow hAB⟩
theorem wx_isRef {C n d : String} {v : Value} {A : Nat → Prop} {U : State} (hv : v.isRef = true) (h : va_Z C n d v A U U.heap) (a : Array Value) : (Cond.isRef (.static C n d)).before a U = true := by
  obtain ⟨cf, kf, fi, f, q, cell, h1, h2, h3, h4, h5, h6, h7, h8⟩ := h
  have hev : (Term.static C n d).eval a U none [] U = some v := by
    simp [Term.eval, State.fieldNamed?, h1, h2, h4, h5, h6, h7]
  cases v <;> simp_all [Cond.before, Cond.holds, Cond.value, Value.isRef]
theorem wx_own {L : List Cond} {A : Nat → Prop} {U : State} {a : Array Value} (h : ∀ w ∈ L, w ∉ wx_four → w.before a U = true) (hZ : wx_Z A U U.heap) : ∀ w ∈ L, w.before a U = true := by
  obtain ⟨⟨⟨v, h1, h2⟩, l1⟩, ⟨w', h3, h4⟩, l2⟩ := hZ
  intro w hw
  by_cases g : w ∈ wx_four
  · simp only [wx_four, List.mem_cons, List.not_mem_nil, or_false] at g
    rcases g with rfl | rfl | rfl | rfl
    · exact wx_isRef h1 h2 a
    · exact wx_isRef h3 h4 a
    · exact l1.word a
    · exact l2.word a
  · exact h w hw g
set_option maxHeartbeats 1000000 in
/-- the constructor with a text, whose first link may have any index, and the throw; no trace kept -/
theorem wx_ctor {T0 : State} (X : Stand p l e R s m args below meth c T0 locs cells slots) (hexec : p.tables.exec = Jvm.exec) (htr : e.platform.stackTraces = false) {own cls : String} {names : List String} {ic ix : Nat} {rx : ByteArray}
    (hr : decode rx 0 = .ok (.aload_n 0, 1) ∧ decode rx 1 = .ok (.aload_n 1, 1) ∧ decode rx 2 = .ok (.invokespecial ix, 3) ∧ decode rx 5 = .ok (.return_, 1))
    (hown : s.vm.findClass own = some m.cls) (hcls : Bundle.fit cls = true) (hnames : ∀ n ∈ names, Bundle.fit n = true) (h : ∀ w ∈ Bundle.ownAtomsX own ic cls ix rx names, w.before args s = true) (hlocs : locs = [])
    {a : Addr} {cX : ClassId} {kX : Class} (hfX : s.vm.findClass cls = some cX) (hkX : s.vm.classes[cX]? = some kX) (hcell : T0.heap[a]? = some (freshCell cX kX)) (hnew : s.heap.size ≤ a) {msg : Value} (hmsg : msg.isRef = true)
    {g : JFrame} (hg : g.method = m) (hsize : g.locals.size = c.maxLocals) (hlk : g.locked = none) (hen : g.entered = []) {rest : List Value} (hst : g.stack = msg :: .ref a :: .ref a :: rest)
    (hd6 : decode c.code g.pc = .ok (.invokespecial ic, 3)) (hd9 : decode c.code (g.pc + 3) = .ok (.athrow, 1)) (hout : ∀ x ∈ c.exceptionTable.toList, covers x (g.pc + 3) = false)
    (hfr : names.length + 3 < R.frames) (hlo : 2 * g.monitorRoom + ((Value.ref a :: rest).map fun v => v.category).sum + (13 * (names.length + 1) + 42) ≤ R.locals) (hlocks : meth.locks = false) :
    ∃ U : State, Steps p.tables e below (T0.setTop g) U ∧ U.status = .running ∧ Ended U below (.threw a) ∧ s.WarmedH U.vm ∧ s.sameButNew ({ U with vm := s.vm } : State) locs cells slots ∧ ∃ ce, U.heap[a]? = some ce ∧ ce.vm = .none ∧ s.vm.findClass cls = some ce.cls := by
  have hom : e.platform.frameOwnsMonitors = true := by rw [X.admits.platform]
  have hfi : e.platform.finalization = false := by rw [X.admits.platform]
  have hpl : e.platform.magicAccessors = ({} : Platform).magicAccessors := by rw [X.admits.platform]
  have in1 : ∀ w ∈ Bundle.throwableAtoms, w.before args s = true := fun w hw => h w (by simp [Bundle.ownAtomsX, hw])
  have in2 : ∀ w ∈ Bundle.throwableSAtoms, w.before args s = true := fun w hw => h w (by simp [Bundle.ownAtomsX, hw])
  have in3 : ∀ w ∈ Bundle.chainSAtomsX cls ix rx names, w.before args s = true := fun w hw => h w (by simp [Bundle.ownAtomsX, hw])
  have in4 : ∀ w : Cond, w ∈ Bundle.ownAtomsX own ic cls ix rx names → w.holds args s none s [] = true := fun w hw => h w hw
  obtain ⟨T, Z0, L, -, Y⟩ := ThrowableC.of_atoms (args := args) hom hfi hpl in1
  obtain ⟨Z, M, LZ, LM, hnZ⟩ := Init0T.ofS_atoms (args := args) hpl L Y in2
  obtain ⟨P1, Ps, hlen, L1, hL, hP1, hlink1, hlink⟩ := Bundle.chainSX (args := args) hpl hnZ hr.1 hr.2.1 hr.2.2.1 hr.2.2.2 names cls hcls hnames in3
  have hfc : s.vm.findClass cls = some P1.m.cls := findClass_of_methodNamed hP1
  cases hfX.symm.trans hfc
  obtain ⟨c1, k1, hc1, hk, hord, -, -, -⟩ := Cond.instantiable_spec (in4 (.instantiable cls 6) (by simp [Bundle.ownAtomsX]))
  cases hc1.symm.trans hfc
  cases hkX.symm.trans hk
  have sel : ∀ (y : MethodName) (my : MethodId), s.methodNamed? y = some my → (y.cls ≠ "java/lang/invoke/MethodHandle" ∧ y.cls ≠ "java/lang/invoke/VarHandle") → (Cond.selects cls y y).holds args s none s [] = true → selectMethod e.platform s.vm P1.m.cls my = .method my := by
    intro y my hy hyp hw
    obtain ⟨c2, r2, m2, q1, q2, q3, q4, -⟩ := Cond.selects_spec hw
    cases q1.symm.trans hfc
    cases q2.symm.trans (State.methodFound?_of_named hy hyp)
    cases q3.symm.trans hy
    rw [Launch.admits_selectMethod X.admits]; exact q4
  have hsel0 := sel Bundle.tFill0 _ Y.fill0 (by decide) (in4 _ (by simp [Bundle.ownAtomsX]))
  have hselF := sel Bundle.tFill _ Y.fill (by decide) (in4 _ (by simp [Bundle.ownAtomsX]))
  obtain ⟨cS0, hcS0, hiss⟩ := Y.statics
  obtain ⟨u0, hu0⟩ := Cond.staticRefV Y.unassigned L.unassignedStatic L.statics hcS0 hiss (in4 (.isRef (.static Bundle.tN "UNASSIGNED_STACK" Bundle.steD)) (by simp [Bundle.ownAtomsX]))
  obtain ⟨sen, hsen⟩ := Cond.staticRefV Y.sentinel L.sentinelStatic L.statics hcS0 hiss (in4 (.isRef (.static Bundle.tN "SUPPRESSED_SENTINEL" Bundle.listD)) (by simp [Bundle.ownAtomsX]))
  obtain ⟨ci, i198, fB, b1, b2, b3, b4, -, hnB, htB, hffB⟩ := Cond.ownField (t := .object "java/lang/Object") Y.found L.cls (by decide +kernel) (in4 (.fieldLink Bundle.tN 198 Bundle.tN "backtrace" "Ljava/lang/Object;") (by simp [Bundle.ownAtomsX])) (in4 (.lays Bundle.tN Bundle.tN "backtrace" "Ljava/lang/Object;") (by simp [Bundle.ownAtomsX])) e.platform hpl
  obtain ⟨cS, hcS, heS, -, hkeep⟩ := X.same.2.2.2.2.2 T.aS cS0 hcS0
  have hcellS : T0.heap[T.aS]? = some cS := hcS
  have hnl : ∀ i, (⟨T.aS, i⟩ : Loc) ∉ locs := fun i hm => by rw [hlocs] at hm; cases hm
  have hkn : cS.vm ≠ .unknown := by
    rw [heS]
    intro hu
    rw [show cS0.vm = .unknown from hu] at hiss
    cases hiss
  have hne : T.aS ≠ a := Nat.ne_of_lt (Nat.lt_of_lt_of_le (Array.getElem?_eq_some_iff.mp hcS0).1 hnew)
  obtain ⟨iM, hffM⟩ := Y.msg
  obtain ⟨tyC, dC, hdC, hnC⟩ := Cond.laysAt hfc hk Y.cause (in4 (.lays cls Bundle.tN "cause" "Ljava/lang/Throwable;") (by simp [Bundle.ownAtomsX]))
  obtain ⟨tyS, dS, hdS, hnS⟩ := Cond.laysAt hfc hk Y.stack (in4 (.lays cls Bundle.tN "stackTrace" Bundle.steD) (by simp [Bundle.ownAtomsX]))
  obtain ⟨tyP, dP, hdP, hnP⟩ := Cond.laysAt hfc hk Y.supp (in4 (.lays cls Bundle.tN "suppressedExceptions" Bundle.listD) (by simp [Bundle.ownAtomsX]))
  obtain ⟨tyM, dM, hdM, hnM⟩ := Cond.laysAt hfc hk hffM (in4 (.lays cls Bundle.tN "detailMessage" "Ljava/lang/String;") (by simp [Bundle.ownAtomsX]))
  obtain ⟨tyB, dB, hdB, hnBB⟩ := Cond.laysAt hfc hk hffB (in4 (.lays cls Bundle.tN "backtrace" "Ljava/lang/Object;") (by simp [Bundle.ownAtomsX]))
  have bC := Cond.laysApart hdB hdC hnBB hnC (by rw [hnB, Y.causeName]; decide)
  have bS := Cond.laysApart hdB hdS hnBB hnS (by rw [hnB, Y.stackName]; decide)
  have bP := Cond.laysApart hdB hdP hnBB hnP (by rw [hnB, Y.suppName]; decide)
  have hskip : SkipFacts T e.platform s (fun u => u) u0 ((preparedCellV T.toThrowableT (freshCell P1.m.cls kX) a u0 sen).withEntry T0.cur) :=
    ⟨{ ci198 := ci, i198 := i198, fBack := fB }, ⟨b1, b2, b3, b4⟩, by
      have := fresh_default (c := P1.m.cls) tyB
      rw [htB] at this
      simpa [preparedCellV, Cell.setSlot, Cell.withEntry, Array.getElem?_setIfInBounds, bC, bS, bP, bC.symm, bS.symm, bP.symm, defaultValue] using this, fun _ _ => rfl⟩
  obtain ⟨tm, mC, cC, kC, vm₁, hnCt, -, -, -, -, -, -, -, hW₁, st1⟩ := Steps.initColdS (tb := p.tables) (e := e) (below := below) (s := s) (U := T0) X.here hexec X.warmed hpl hown (t := Bundle.initS cls) rfl rfl (Bundle.fit_spec hcls).2
    (in4 (.methodLink own ic (Bundle.initS cls)) (by simp [Bundle.ownAtomsX])) (h (.instanceMethod (Bundle.initS cls)) (by cases names <;> simp [Bundle.ownAtomsX, Bundle.chainSAtomsX, Bundle.passSAtoms])) (bytes := rx) (maxL := 2) (h (.code (Bundle.initS cls) rx 2 none) (by cases names <;> simp [Bundle.ownAtomsX, Bundle.chainSAtomsX, Bundle.passSAtoms]))
    (f := g) hg (a := a) (msg := msg) (rest := .ref a :: rest) hst hd6
  cases hnCt.symm.trans hP1
  have X₁ := X.noted hW₁
  obtain ⟨vm₂, X₂, st2⟩ := X₁.ctorMessageOffV hexec (g := { g with stack := .ref a :: rest }) hg hsize T L Z LZ M LM (P1 :: Ps)
    (fun P hP => by rcases List.mem_cons.mp hP with rfl | hP; exact L1; exact hL P hP) ⟨hlink1, hlink⟩ (u0 := u0) (sen := sen) (self := a) hmsg (cell := freshCell P1.m.cls kX) (cellS := cS)
    hcell (fun _ => by simp) (by simp) rfl rfl hsel0 hselF hcellS hne hkn (by rw [hkeep _ (hnl _)]; exact hu0) (by rw [hkeep _ (hnl _)]; exact hsen)
    (Takes.of_laid hk hord tyC (by rw [Y.causeType]; rfl)) (Takes.of_laid hk hord tyS (by rw [Y.stackType]; exact fits_refV_array _ u0)) (Takes.of_laid hk hord tyP (by rw [Y.suppType]; exact fits_refV_object _ sen))
    (Takes.of_laid hk hord tyM (by rw [Y.msgType]; exact fits_refV_object _ ⟨msg, hmsg⟩)) Y.objLocals hskip htr [] hd6
    (by simp only [List.length_cons, hlen]; omega) (by simp only [List.length_cons, hlen]; exact hlo)
  obtain ⟨hwalk, hrun, hended, hWU, hsame⟩ := X₂.athrowLeaves hexec (g := { g with stack := .ref a :: rest, pc := g.pc + 3 }) hg hlk hen hout (a := a) (rest := rest) rfl hd9
  have hlt : a < ((T0.setVm vm₁).setVm vm₂).heap.size := (Array.getElem?_eq_some_iff.mp hcell).1
  have hU := heapAt_setCell_self (s := (T0.setVm vm₁).setVm vm₂) (plainBareV T.toThrowableT (freshCell P1.m.cls kX) a u0 sen msg) hlt
  refine ⟨_, st1 _ (fun acts => ?_), hrun, hended, hWU, hsame.weaken (fun y hy hy' => ?_) (Nat.le_refl _) (Nat.le_refl _), _, hU, rfl, hfc⟩
  · rw [doInvoke_state]
    exact st2 _ hwalk
  · rcases List.mem_append.mp hy with h1 | h1
    · exact h1
    · exfalso
      have hb : y.base = a := by
        simp only [List.mem_cons, List.not_mem_nil, or_false] at h1
        rcases h1 with rfl | rfl | rfl | rfl | rfl <;> rfl
      rw [hb] at hy'
      exact Nat.not_lt.mpr hnew hy'
set_option maxHeartbeats 4000000 in
/-- throw new X(".."): five instructions, and out of the method -/
theorem wx_throw {cc : ByteArray} {own tx : String} {kd : Nat} {names : List String} {i0 i1 i2 ix q : Nat} {rx : ByteArray} {A : Nat → Prop} {pc : Nat} {ls : Array Slot} {rest : List Value} {Qc : Array Value → State → Outcome → State → Prop} {free : Addr → Prop} {mc ms : Nat}
    (hx : p.tables.exec = Jvm.exec) (hb : c.code = cc) (hml : c.maxLocals = ls.size) (hlt : l.stackTraces = false) (hown : s.vm.findClass own = some m.cls) (hfX : Bundle.fit (wx_N kd) = true) (hfn : ∀ n ∈ names, Bundle.fit n = true)
    (hr : decode rx 0 = .ok (.aload_n 0, 1) ∧ decode rx 1 = .ok (.aload_n 1, 1) ∧ decode rx 2 = .ok (.invokespecial ix, 3) ∧ decode rx 5 = .ok (.return_, 1)) (hT : ∀ w ∈ Bundle.ownAtomsX own i2 (wx_N kd) ix rx names, w ∉ wx_four → ((w.onTables && w.keeps) = true ∧ w.before args s = true) ∨ w ∈ wx_B) (hBs : wx_Bs s)
    (hcl : (Cond.classLink own i0 (wx_N kd)).before args s = true) (hini : (Cond.initialized (wx_N kd)).before args s = true) (hins : (Cond.instantiable (wx_N kd) 6).before args s = true)
    (hZ : wx_Z A s s.heap) (hR : vk_R own i1 tx q s) (hS : va_S A s.heap H locs) (hno : c.exceptionTable.toList = []) (hlocks : meth.locks = false)
    (hd0 : decode cc pc = .ok (.new i0, 3)) (hd3 : decode cc (pc + 3) = .ok (.dup, 1)) (hd4 : decode cc (pc + 3 + 1) = .ok (.ldc i1, 2)) (hd6 : decode cc (pc + 3 + 1 + 2) = .ok (.invokespecial i2, 3)) (hd9 : decode cc (pc + 3 + 1 + 2 + 3) = .ok (.athrow, 1))
    (hfr : names.length + 3 < R.frames) (hlo : 1 + (rest.map fun v => v.category).sum + (13 * (names.length + 1) + 42) ≤ R.locals) (hc1 : cells + 1 ≤ R.cells) (hs1 : slots + 6 ≤ R.slots) (hc2 : cells + 1 ≤ mc) (hs2 : slots + 6 ≤ ms)
    (hq : ∀ (U : State) (x : Nat), s.WarmedH U.vm → (∀ a : Nat, a < H.size → U.heap[a]? = H[a]?) → H.size ≤ U.heap.size → wx_E kd x H.size U U.heap → Qc args s (.threw x) U) (hf : ∀ a ∈ locs, free a.base) :
    W p l e R s m args below meth c H locs cells slots (wx_MQ below Qc args s mc ms free) (F0 m pc ls rest) := by
  intro T hT0 X
  have htr : e.platform.stackTraces = false := by rw [X.admits.platform]; exact hlt
  have X' := wx_rebase X (R' := { frames := R.frames, locals := R.locals, cells := 1, slots := 6 }) (Nat.le_refl _) (Nat.le_refl _) hc1 hs1
  have hW0 : s.WarmedH (T.setFrames (.invoking m args :: below)).vm := X.warmed
  have hal := X.warmed.alike
  have hown' : (T.setFrames (.invoking m args :: below)).vm.findClass own = some m.cls := by rw [show (T.setFrames (.invoking m args :: below)).vm = T.vm from rfl, hal.findClass]; exact hown
  have wd : ∀ w : Cond, (w.onTables && w.keeps) = true → w.before args s = true → w.before args (T.setFrames (.invoking m args :: below)) = true := fun w hg hw => word_at hW0 (Or.inl hg) hw
  have hZ' : wx_Z A (T.setFrames (.invoking m args :: below)) (T.setFrames (.invoking m args :: below)).heap := by
    have h1 := (hZ.moved (U := T.setFrames (.invoking m args :: below)) hal).kept (H1 := H) hS.2.1
    rw [← hT0] at h1
    exact h1
  have hat := wx_own (L := Bundle.ownAtomsX own i2 (wx_N kd) ix rx names) (a := args) (fun w hw h4 => (hT w hw h4).elim (fun q => wd w q.1 q.2) (fun q => wx_B_at q hal (hBs w q))) hZ'
  have hR' : vk_R own i1 tx q (T.setFrames (.invoking m args :: below)) := hR.warm hW0
  have key : W p l e { frames := R.frames, locals := R.locals, cells := 1, slots := 6 } (T.setFrames (.invoking m args :: below)) m args below meth c T.heap [] 0 0
      (fun U => ∃ x : Nat, U.status = .running ∧ Ended U below (.threw x) ∧ T.heap.size ≤ x ∧ (T.setFrames (.invoking m args :: below)).WarmedH U.vm ∧ (T.setFrames (.invoking m args :: below)).sameButNew ({ U with vm := (T.setFrames (.invoking m args :: below)).vm } : State) [] 1 6 ∧
        ∃ ce, U.heap[x]? = some ce ∧ ce.vm = .none ∧ (T.setFrames (.invoking m args :: below)).vm.findClass (wx_N kd) = some ce.cls) (F0 m pc ls rest) := by
    refine W.newc (C := wx_N kd) (n := 6) hx hb hown' (wd _ (by rfl) hcl) (wd _ (by rfl) hins) (wd _ (by rfl) hini) rfl hd0 (Nat.le_refl 1) (Nat.le_refl 6) fun cC kC h1 h2 h3 h4 => ?_
    refine lv_dup hx hb hd3 rfl ?_
    refine va_ldcS hx hb hown' hR' hd4 ?_
    intro T2 hT2 X2
    obtain ⟨U, g1, g2, g3, g4, g5, ce, g6, g7⟩ := wx_ctor X2 hx htr (own := own) (cls := wx_N kd) (names := names) (ic := i2) hr hown' hfX hfn hat rfl (a := T.heap.size) (cX := cC) (kX := kC) h1 h2
      (by rw [hT2]; show (Array.push _ _)[_]? = _; rw [Array.getElem?_push]; simp [freshCell]) (Nat.le_refl _) (msg := .ref q) rfl (g := F0 m (pc + 3 + 1 + 2) ls (.ref q :: .ref T.heap.size :: .ref T.heap.size :: rest)) rfl (by rw [hml]) rfl rfl rfl (by rw [hb]; exact hd6) (by rw [hb]; exact hd9)
      (fun y hy => by rw [hno] at hy; cases hy) hfr (by show 2 * 0 + _ + _ ≤ _; simp only [List.map_cons, List.sum_cons]; have e1 : (Value.ref T.heap.size).category = 1 := rfl; omega) hlocks
    exact ⟨U, g1, T.heap.size, g2, g3, Nat.le_refl _, g4, g5, ce, g6, g7⟩
  obtain ⟨U, st, x, h1, h2, h3, h4, h5, ce, h6, h7, h7'⟩ := key T rfl X'
  have hWU : s.WarmedH U.vm := State.WarmedH.trans hW0 h4
  refine ⟨U, st, .threw x, h1, h2, hq U x hWU (fun a ha => ?_) ?_ ⟨by rw [← hT0]; exact h3, ce, h6, ?_, ?_⟩, locs, ⟨hWU, ?_⟩, hf⟩
  · rw [← hT0] at ha ⊢
    have e1 : T.heap[a]? = some T.heap[a] := Array.getElem?_eq_getElem ha
    rw [e1]
    exact h5.old_cell (a := a) (c := T.heap[a]) e1
  · rw [← hT0]
    exact h5.2.1
  · rw [h7]; rfl
  · rw [h4.alike.findClass]; exact h7'
  · have h8 : T.sameButNew (({ U with vm := s.vm } : State).setVm T.vm) [] 1 6 := by
      obtain ⟨q1, q2⟩ := h5
      rw [State.setFrames_setFrames] at q1
      exact ⟨q1, q2⟩
    have h9 := X.same.trans (h8.setVm s.vm)
    rw [List.append_nil] at h9
    exact h9.mono hc2 hs2
end WX
end
section
/-! My own rows: an exception is caught where its class's entry stands behind entries of other classes; their pool entries cold or warm. -/
theorem wx_go {Q : Handler → Pre} {E : CtlPost} {e : Env} {d : Bool} {acts : List Action} {S : State} {g : JFrame} {x : Addr} {y : ExceptionTableEntry} {t : List ExceptionTableEntry} {cT : ClassId} {cell : Cell} (hx : covers y g.pc = true) (h0 : y.catchType ≠ 0)
    (hl : S.vm.ClassLinks e.platform g.method.cls y.catchType cT) (hcell : S.heap[x]? = some cell) (hobj : ∀ k, cell.vm ≠ .statics k) (hk : ∃ k, S.vm.classes[cell.cls]? = some k) (hc : ∃ k, S.vm.classes[cT]? = some k) :
    wp (findHandler.go g x (y :: t)) Q E e d acts S ↔ if S.vm.assignable cell.cls cT = true then Q (.found y.handlerPc) d acts (S.setVm (S.vm.noted g.method.cls y.catchType (.cls cT))) else wp (findHandler.go g x t) Q E e d acts (S.setVm (S.vm.noted g.method.cls y.catchType (.cls cT))) := by
  simp only [covers] at hx
  obtain ⟨ha, ht⟩ := (resolveClass_links e.toSetting hl).op (op := VmOp.resolveClass g.method.cls y.catchType) rfl
  have hal : S.vm.Alike (S.vm.noted g.method.cls y.catchType (.cls cT)) := (Vm.Alike.refl S.vm).noted _ _ _
  obtain ⟨k1, hk1⟩ := hk
  obtain ⟨k2, hk2⟩ := hc
  obtain ⟨k1', hk1', -⟩ := hal.2.2 _ _ hk1
  obtain ⟨k2', hk2', -⟩ := hal.2.2 _ _ hk2
  have hasg := hal.assignable cell.cls cT
  cases hfit : S.vm.assignable cell.cls cT
  · rw [hfit] at hasg
    simp [findHandler.go, hx, h0, ha, ht, hcell, hobj, hk1', hk2', hasg, VmOp.dirties, VmOp.acts]
  · rw [hfit] at hasg
    simp [findHandler.go, hx, h0, ha, ht, hcell, hobj, hk1', hk2', hasg, VmOp.dirties, VmOp.acts]
section WXC
variable {p : Program} {l : Launch} {e : Env} {R : Room} {s : State} {m : MethodId} {args : Array Value} {below : List Frame} {meth : Method} {c : Code} {H : Heap} {locs : List Loc} {cells slots : Nat} {Q : State → Prop}
theorem wx_find {S : State} {g : JFrame} (hg : g.method = m) (hpl : e.platform.magicAccessors = ({} : Platform).magicAccessors) {own : String} (hown : s.vm.findClass own = some m.cls) {x : Addr} {cell : Cell} (hcell : S.heap[x]? = some cell) (hobj : cell.vm.isStatics = false) {C : String} (hC : s.vm.findClass C = some cell.cls)
    (ent : ExceptionTableEntry) (rest : List ExceptionTableEntry) (hent : covers ent g.pc = true ∧ ent.catchType ≠ 0 ∧ (Cond.classLink own ent.catchType C).before args s = true) :
    ∀ (pre : List ExceptionTableEntry) (vm₁ : Vm), s.WarmedH vm₁ → (∀ y ∈ pre, covers y g.pc = true ∧ y.catchType ≠ 0 ∧ ∃ nm, (Cond.classLink own y.catchType nm).before args s = true ∧ va_Nc C nm s) →
      ∃ vm', s.WarmedH vm' ∧ ∀ (Q : Handler → Pre) (E : CtlPost) (d : Bool) (acts : List Action), wp (findHandler.go g x (pre ++ ent :: rest)) Q E e d acts (S.setVm vm₁) ↔ Q (.found ent.handlerPc) d acts (S.setVm vm') := by
  subst hg
  have st : ∀ (y : ExceptionTableEntry) (nm : String) (vm₁ : Vm), s.WarmedH vm₁ → (Cond.classLink own y.catchType nm).before args s = true → ∃ cT, s.vm.findClass nm = some cT ∧ vm₁.ClassLinks e.platform g.method.cls y.catchType cT ∧ s.WarmedH (vm₁.noted g.method.cls y.catchType (.cls cT)) ∧ (∃ k, vm₁.classes[cT]? = some k) := by
    intro y nm vm₁ hW hlk
    obtain ⟨cT, hcT, hcl⟩ := Cond.classLink_spec hown hlk e.platform hpl
    obtain ⟨dk, _, _, kt, hd, _, _, _, _, hkt, _, hopen⟩ := hcl.here
    obtain ⟨kt', hkt', -⟩ := hW.alike.2.2 _ _ hkt
    exact ⟨cT, hcT, hW.classLinks hcl, hW.noted hd hopen (State.rightAt_cls hcl), kt', hkt'⟩
  obtain ⟨kC, hkC⟩ := Vm.classAt_of_findClass hC
  intro pre
  induction pre with
  | nil =>
    intro vm₁ hW _
    obtain ⟨cT, h1, h2, h3, h4⟩ := st ent C vm₁ hW hent.2.2
    cases hC.symm.trans h1
    obtain ⟨k', hk', -⟩ := hW.alike.2.2 _ _ hkC
    refine ⟨_, h3, fun Q E d acts => ?_⟩
    rw [List.nil_append, wx_go (S := S.setVm vm₁) hent.1 hent.2.1 h2 hcell (VmData.ne_statics_of hobj) ⟨k', hk'⟩ h4, if_pos (va_asg _ _)]
    exact Iff.rfl
  | cons y t ih =>
    intro vm₁ hW hpre
    obtain ⟨q1, q2, nm, q3, cc, tt, f1, f2, f3⟩ := hpre y List.mem_cons_self
    obtain ⟨cT, h1, h2, h3, h4⟩ := st y nm vm₁ hW q3
    cases hC.symm.trans f1
    cases h1.symm.trans f2
    obtain ⟨k', hk', -⟩ := hW.alike.2.2 _ _ hkC
    obtain ⟨vm', hW', hQ⟩ := ih _ h3 (fun z hz => hpre z (List.mem_cons_of_mem _ hz))
    refine ⟨vm', hW', fun Q E d acts => ?_⟩
    have hno : ¬ (S.setVm vm₁).vm.assignable cell.cls tt = true := by
      show ¬ vm₁.assignable cell.cls tt = true
      rw [hW.alike.assignable, f3]
      decide
    rw [List.cons_append, wx_go (S := S.setVm vm₁) q1 q2 h2 hcell (VmData.ne_statics_of hobj) ⟨k', hk'⟩ h4, if_neg hno]
    exact hQ Q E d acts
theorem wx_step {S : State} {x : Addr} {g : JFrame} {r : List Frame} {pc : Nat} {vm' : Vm} (hfind : ∀ (Q : Handler → Pre) (E : CtlPost) (d : Bool) (acts : List Action), wp (findHandler g x) Q E e d acts S ↔ Q (.found pc) d acts (S.setVm vm')) :
    (stepThrowing e S x (.java g :: r)).Is ((S.setVm vm').setFrames (.java { g with pc := pc, stack := [.ref x] } :: r)) [] := by
  simp only [stepThrowing, searchFrame, vmDo]
  generalize hr : Sem.go _ e false [] S = res
  obtain ⟨as, rfl, ha⟩ := Sem.eq_ok_of hr (a := Handler.found pc) (s' := S.setVm vm') (acts' := []) (by simp [hfind _ _ _ _])
  exact ⟨rfl, ha⟩
/-- the exception x of kind k is caught by the entry ent -/
theorem wx_catch {own : String} (hown : s.vm.findClass own = some m.cls) {k x z pc : Nat} {ls : Array Slot} {st : List Value} (hE : wx_E k x z s H) (pre : List ExceptionTableEntry) (ent : ExceptionTableEntry) (rest : List ExceptionTableEntry) (hsplit : c.exceptionTable.toList = pre ++ ent :: rest)
    (hpre : ∀ y ∈ pre, covers y pc = true ∧ y.catchType ≠ 0 ∧ ∃ nm, (Cond.classLink own y.catchType nm).before args s = true ∧ va_Nc (wx_N k) nm s) (hent : covers ent pc = true ∧ ent.catchType ≠ 0 ∧ (Cond.classLink own ent.catchType (wx_N k)).before args s = true)
    (kk : W p l e R s m args below meth c H locs cells slots Q (F0 m ent.handlerPc ls [.ref x])) : wx_T p l e R s m args below meth c H locs cells slots Q (F0 m pc ls st) x := by
  intro T hT X
  have hpl : e.platform.magicAccessors = ({} : Platform).magicAccessors := by rw [X.admits.platform]
  obtain ⟨-, cell, h1, h2, h3⟩ := hE
  obtain ⟨vm', hW', hQ⟩ := wx_find (e := e) (S := (T.setTop (F0 m pc ls st)).pushFrame (.throwing x)) (g := F0 m pc ls st) rfl hpl hown (x := x) (cell := cell) (by rw [Stand.throwing_heap, hT]; exact h1) h2 h3 ent rest hent pre T.vm X.warmed hpre
  have hfind : ∀ (Q : Handler → Pre) (E : CtlPost) (d : Bool) (acts : List Action), wp (findHandler (F0 m pc ls st) x) Q E e d acts ((T.setTop (F0 m pc ls st)).pushFrame (.throwing x)) ↔ Q (.found ent.handlerPc) d acts (((T.setTop (F0 m pc ls st)).pushFrame (.throwing x)).setVm vm') := by
    intro Q E d acts
    rw [W.findHandler_eq (meth := meth) (code := c) (by rw [Stand.throwing_vm]; exact X.method') X.code, hsplit]
    exact hQ Q E d acts
  have X' := X.noted hW'
  obtain ⟨t, a1, b1⟩ := kk (T.setVm vm') hT X'
  refine ⟨t, ?_, b1⟩
  have h : At T (F0 m pc ls st).method c below := X.here
  obtain ⟨hgo, hw⟩ := h.throwing x
  refine Steps.head hgo hw ?_
  rw [stepThread_throwing (frames_entered h.top _), (wx_step hfind).1]
  obtain ⟨g₀, hr⟩ := X.frames_eq
  have hr' : (T.setVm vm').frames = .java g₀ :: below := hr
  rw [State.setTop_of_frames _ hr'] at a1
  rw [hr, List.tail_cons]
  have e1 : (((T.setTop (F0 m pc ls st)).pushFrame (.throwing x)).setVm vm').setFrames (.java { F0 m pc ls st with pc := ent.handlerPc, stack := [.ref x] } :: below) = (T.setVm vm').setFrames (.java (F0 m ent.handlerPc ls [.ref x]) :: below) := by
    have e2 : ∀ (U : State) (F G : List Frame), ((U.setFrames F).setVm vm').setFrames G = (U.setVm vm').setFrames G := fun U F G => by
      rw [show (U.setFrames F).setVm vm' = (U.setVm vm').setFrames F from rfl, State.setFrames_setFrames]
    rw [State.pushFrame, e2, State.setTop_of_frames _ hr, e2]
  rw [e1]
  exact a1
end WXC
end
section
def svTxl : List (Nat × String) := [(132, "the volume is down"), (142, "no such block"), (145, "no such word"), (147, "too few copy blocks are free"), (167, "the power is cut"), (56, "no place is empty"), (137, "no snapshot in that place"), (105, "the volume is up")]
def svTx (U : State) : Prop := (∀ t ∈ svTxl, ∃ q, vk_R R_S t.1 t.2 q U) ∧ wx_Bs U
theorem svTx.warm {s U : State} (hW : s.WarmedH U.vm) (h : svTx s) : svTx U := ⟨fun t ht => by
  obtain ⟨q, hq⟩ := h.1 t ht
  exact ⟨q, hq.warm hW⟩, h.2.moved hW.alike⟩
theorem svTx.same {s U : State} (hv : U.vm = s.vm) (h : svTx s) : svTx U := ⟨fun t ht => by
  obtain ⟨q, hq⟩ := h.1 t ht
  exact ⟨q, hq.same hv⟩, h.2.moved (by rw [hv]; exact Vm.Alike.refl s.vm)⟩
def svPreX (D : va_G) (cA : Nat → ClassId) (h : Nat → Nat) (u : SV) (sz : Nat) (U : State) : Prop := svPre D cA h u sz U ∧ wx_Z (svA cA h u sz) U U.heap ∧ svTx U
theorem svPreX.blind {D : va_G} {cA : Nat → ClassId} {h : Nat → Nat} {u : SV} {sz : Nat} {U : State} (q : svPreX D cA h u sz U) (g : JFrame) (mk : MethodId) (a : Array Value) : svPreX D cA h u sz (U.calling g mk a) := ⟨q.1.blind g mk a, wx_Z.moved (u := U) (U := U.calling g mk a) (Vm.Alike.refl U.vm) q.2.1, svTx.same (s := U) (U := U.calling g mk a) rfl q.2.2⟩
abbrev svX (l : Launch) (D : va_G) (cA : Nat → ClassId) (h : Nat → Nat) (u : SV) (sz : Nat) (y : MethodName) (hd : Cond) (rm : Room) (avs : List Value) (post : Option Value → SV → Prop) (pt : Nat → SV → Prop) : Prop := wx_Met l y (hd :: wG) rm (va_Pc (.ref (h 0) :: avs) (svPreX D cA h u sz)) (wx_Q post pt (svAt D cA (svA cA h u sz) h) (svA cA h u sz)) 1 6 (svA cA h u sz)
/-- beside gC: what throwing stands on -/
def gX (l : Launch) (c : Code) (s : State) (A : Nat → Prop) : Prop := l.stackTraces = false ∧ c.exceptionTable.toList = [] ∧ wx_Z A s s.heap ∧ svTx s
section Xsv
variable {p : Program} {l : Launch} {e : Env} {R : Room} {s : State} {m : MethodId} {args : Array Value} {below : List Frame} {meth : Method} {c : Code} {H : Heap} {locs : List Loc} {cells slots : Nat} {Q : State → Prop}
variable {cc bytes : ByteArray} {nL maxL n index pc sz : Nat} {ls : Array Slot} {avs rest st0 : List Value} {D : va_G} {cA : Nat → ClassId} {A : Nat → Prop} {h : Nat → Nat} {u : SV} {y : MethodName} {ret : Option FieldType} {rm : Room} {own : String}
theorem sv_x {post : Option Value → SV → Prop} {pt : Nat → SV → Prop} (hlt : l.stackTraces = false) (hy : plainName y.cls = true) (hys : y.cls = R_S) (hlen : (lg_sl (.ref (h 0) :: avs)).length ≤ maxL) (body : ∀ (p : Program) (e : Env) (s : State) (m : MethodId) (args : Array Value) (below : List Frame) (meth : Method) (c : Code), gC p s m args meth c cc maxL R_S → gX l c s (svA cA h u sz) → meth.sig.returnType = ret → s.heap.size = sz → svI D cA (svA cA h u sz) s h u s.heap [] → ∀ ls : Array Slot, lv_has ls maxL (lv_args 0 (.ref (h 0) :: avs)) → W p l e rm s m args below meth c s.heap [] 0 0 (wx_MQ below (wx_Q post pt (svAt D cA (svA cA h u sz) h) (svA cA h u sz)) args s 1 6 (svA cA h u sz)) (F0 m 0 ls [])) : svX l D cA h u sz y (.code y cc maxL ret) rm avs post pt := by
  refine wx_ofW (cc := cc) (maxL := maxL) (ret := ret) hy rfl ?_
  intro p e s m args below meth c s₁ B hml hno hv
  obtain ⟨rfl, ⟨hsz, hP, hK, hD0⟩, hZ, hTx⟩ := hv
  subst hsz
  have hts := atoms_spec (ws := .code y cc maxL ret :: wG) B.pre
  have hl := lv_entry (.ref (h 0) :: avs) (n := maxL) hlen
  rw [lg_entry_eq]
  exact body p e s m _ below meth c ⟨B.exec, B.bytes, hml, by rw [← hys]; exact findClass_of_methodNamed B.named, fun w hw => hts w (List.mem_cons_of_mem _ hw), B.notSynchronized⟩ ⟨hlt, hno, hZ, hTx⟩ B.returns rfl ⟨hK, hP, hD0.self, va_S.rf, fun q hq => Or.inr hq⟩ _ hl
theorem sv_xri {post : Option Value → SV → Prop} {pt : Nat → SV → Prop} {v : Int32} (C : gC p s m args meth c cc nL own) (hr : meth.sig.returnType = some .int) (I : svI D cA A s h u H locs) (hp : post (some (.int v)) u) (hdg : decode cc pc = .ok (.ireturn, 1)) : W p l e R s m args below meth c H locs 0 0 (wx_MQ below (wx_Q post pt (svAt D cA A h) A) args s 1 6 A) (F0 m pc ls [.int v]) :=
  wx_mono (fun t ht => wx_MQ.of t ht) (W.iret (v := v) C.1 C.2.1 hr (fun t ht hW => ⟨Or.inl ⟨some (.int v), u, rfl, hp, by rw [ht]; exact I.2.1, va_K.moved hW.alike I.1, I.2.2.1⟩, I.2.2.2.1.F ht⟩) (fun q hq => I.2.2.2.1.2.2 q hq) hdg C.2.2.2.2.2)
theorem sv_xrz {post : Option Value → SV → Prop} {pt : Nat → SV → Prop} {b : Bool} (C : gC p s m args meth c cc nL own) (hr : meth.sig.returnType = some .boolean) (I : svI D cA A s h u H locs) (hp : post (some (.int (bI b))) u) (hdg : decode cc pc = .ok (.ireturn, 1)) : W p l e R s m args below meth c H locs 0 0 (wx_MQ below (wx_Q post pt (svAt D cA A h) A) args s 1 6 A) (F0 m pc ls [.int (bI b)]) :=
  wx_mono (fun t ht => wx_MQ.of t ht) (W.zret (v := bI b) C.1 C.2.1 hr (bI_narrow b) (fun t ht hW => ⟨Or.inl ⟨some (.int (bI b)), u, rfl, hp, by rw [ht]; exact I.2.1, va_K.moved hW.alike I.1, I.2.2.1⟩, I.2.2.2.1.F ht⟩) (fun q hq => I.2.2.2.1.2.2 q hq) hdg C.2.2.2.2.2)
theorem sv_xrv {post : Option Value → SV → Prop} {pt : Nat → SV → Prop} (C : gC p s m args meth c cc nL own) (hr : meth.sig.returnType = none) (I : svI D cA A s h u H locs) (hp : post none u) (hdg : decode cc pc = .ok (.return_, 1)) : W p l e R s m args below meth c H locs 0 0 (wx_MQ below (wx_Q post pt (svAt D cA A h) A) args s 1 6 A) (F0 m pc ls []) :=
  wx_mono (fun t ht => wx_MQ.of t ht) (W.vret C.1 C.2.1 hr (fun t ht hW => ⟨Or.inl ⟨none, u, rfl, hp, by rw [ht]; exact I.2.1, va_K.moved hW.alike I.1, I.2.2.1⟩, I.2.2.2.1.F ht⟩) (fun q hq => I.2.2.2.1.2.2 q hq) hdg C.2.2.2.2.2)
/-- what was thrown below goes on, out of this method -/
theorem sv_out {post : Option Value → SV → Prop} {pt : Nat → SV → Prop} {k x : Nat} {g : JFrame} (C : gC p s m args meth c cc nL own) (X : gX l c s A) (I : svI D cA A s h u H locs) (hE : wx_E k x s.heap.size s H) (hp : pt k u) (hg : g.method = m) (hgl : g.locked = none) (hge : g.entered = []) (hc : cells ≤ 1) (hs : slots ≤ 6) : wx_T p l e R s m args below meth c H locs cells slots (wx_MQ below (wx_Q post pt (svAt D cA A h) A) args s 1 6 A) g x :=
  wx_out X.2.1 C.2.2.2.2.2 hg hgl hge (fun t ht hW => ⟨Or.inr ⟨k, x, u, rfl, ⟨hE.1, by
    obtain ⟨ce, h1, h2, h3⟩ := hE.2
    exact ⟨ce, by rw [ht]; exact h1, h2, by rw [hW.alike.findClass]; exact h3⟩⟩, hp, by rw [ht]; exact I.2.1, va_K.moved hW.alike I.1, I.2.2.1⟩, I.2.2.2.1.F ht⟩) (fun q hq => I.2.2.2.1.2.2 q hq) hc hs
theorem svI.preX (I : svI D cA A s h u H locs) (X : gX l c s A) {U : State} (hU : U.heap = H) (hW : s.WarmedH U.vm) : svPreX D cA h u H.size U := ⟨I.pre hU hW, by
  rw [hU]
  exact ((X.2.2.1.moved hW.alike).kept I.2.2.2.1.2.1).narrow I.free, X.2.2.2.warm hW⟩
/-- a call of a method that may throw: what it throws leaves this method too -/
theorem sv_xc {post : Option Value → SV → Prop} {pt : Nat → SV → Prop} {post' : Option Value → SV → Prop} {pt' : Nat → SV → Prop} (C : gC p s m args meth c cc nL own) (X : gX l c s A) (I : svI D cA A s h u H locs) (hM : svX l D cA h u H.size y (.code y bytes maxL ret) rm avs post' pt') (k : lkV own index R_S y bytes maxL ret n) (hrc : rm.cells = 1) (hrs : rm.slots = 6) (hR : rm.frames + 1 ≤ R.frames ∧ 8 + (maxL + 11) + rm.locals ≤ R.locals) (hcl : 1 ≤ R.cells ∧ 6 ≤ R.slots) (hn : avs.length = n) (hl : ls.size = nL) (hst : st0 = avs.reverse ++ .ref (h 0) :: rest) (hrest : (rest.map fun v => v.category).sum ≤ 8) (hdg : decode cc pc = .ok (.invokevirtual index, 3))
    (kt : ∀ (k : Nat) (u' : SV), pt' k u' → pt k u') (kk : ∀ (v : Option Value) (u' : SV) (H1 : Heap) (locs1 : List Loc), post' v u' → svI D cA A s h u' H1 locs1 → W p l e R s m args below meth c H1 locs1 0 0 (wx_MQ below (wx_Q post pt (svAt D cA A h) A) args s 1 6 A) (F0 m (pc + 3) ls (v.toList ++ rest))) : W p l e R s m args below meth c H locs 0 0 (wx_MQ below (wx_Q post pt (svAt D cA A h) A) args s 1 6 A) (F0 m pc ls st0) := by
  have cw := k.cw (R := R) (rm := rm) (args := args) (s := s) C.2.2.2.2.1 hR
  rw [hrc, hrs] at cw
  refine wx_call (wx_runV (As := avs) (rest := rest) ⟨C.1, C.2.1, C.2.2.1, C.2.2.2.1, C.2.2.2.2.1⟩ hM cw ⟨fun a U g mk q => ⟨q.1, q.2.blind g mk a⟩, I.recv, fun U hU hW => ⟨rfl, I.preX X hU hW⟩⟩ rfl hn hl hst (lv_room hrest) hdg ⟨by omega, by omega⟩) I.2.2.2.1 (fun q _ hq => I.free q hq) (fun q hq => I.free q hq) (fun v u' t H1 locs1 ht hvm hw hB hk hS => ?_) (fun k' x u' t H1 locs1 ht hvm hE hw hB hk hS => ?_)
  · exact kk v u' H1 locs1 hw (I.back ht hvm hB hS)
  · exact sv_out C X (I.back ht hvm hB hS) hE (kt k' u' hw) rfl rfl rfl (by omega) (by omega)
theorem sv_thr {post : Option Value → SV → Prop} {pt : Nat → SV → Prop} {kd i0 i1 i2 ix : Nat} {rx : ByteArray} {tx : String} {names : List String} (C : gC p s m args meth c cc ls.size R_S) (X : gX l c s A) (I : svI D cA A s h u H locs) (hfX : Bundle.fit (wx_N kd) = true) (hfn : ∀ n ∈ names, Bundle.fit n = true) (hr : decode rx 0 = .ok (.aload_n 0, 1) ∧ decode rx 1 = .ok (.aload_n 1, 1) ∧ decode rx 2 = .ok (.invokespecial ix, 3) ∧ decode rx 5 = .ok (.return_, 1)) (hwd : ∀ w ∈ Bundle.ownAtomsX R_S i2 (wx_N kd) ix rx names, w ∉ wx_four → (w ∈ wG ∧ (w.onTables && w.keeps) = true) ∨ w ∈ wx_B) (hcl : Cond.classLink R_S i0 (wx_N kd) ∈ wG) (hini : Cond.initialized (wx_N kd) ∈ wG) (hins : Cond.instantiable (wx_N kd) 6 ∈ wG) (htx : (i1, tx) ∈ svTxl)
    (hd0 : decode cc pc = .ok (.new i0, 3)) (hd3 : decode cc (pc + 3) = .ok (.dup, 1)) (hd4 : decode cc (pc + 3 + 1) = .ok (.ldc i1, 2)) (hd6 : decode cc (pc + 3 + 1 + 2) = .ok (.invokespecial i2, 3)) (hd9 : decode cc (pc + 3 + 1 + 2 + 3) = .ok (.athrow, 1))
    (hfr : names.length + 3 < R.frames) (hlo : 1 + (rest.map fun v => v.category).sum + (13 * (names.length + 1) + 42) ≤ R.locals) (hc1 : 1 ≤ R.cells) (hs1 : 6 ≤ R.slots) (hp : pt kd u) : W p l e R s m args below meth c H locs 0 0 (wx_MQ below (wx_Q post pt (svAt D cA A h) A) args s 1 6 A) (F0 m pc ls rest) := by
  obtain ⟨q, hR⟩ := X.2.2.2.1 _ htx
  refine wx_throw (A := A) (tx := tx) (q := q) C.1 C.2.1 C.2.2.1 X.1 C.2.2.2.1 hfX hfn hr (fun w hw h4 => (hwd w hw h4).imp (fun q => ⟨q.2, C.2.2.2.2.1 w q.1⟩) id) X.2.2.2.2 (C.2.2.2.2.1 _ hcl) (C.2.2.2.2.1 _ hini) (C.2.2.2.2.1 _ hins) X.2.2.1 hR I.2.2.2.1 X.2.1 C.2.2.2.2.2 hd0 hd3 hd4 hd6 hd9 hfr hlo (by omega) (by omega) (by omega) (by omega) (fun U x hW hH hz hE => ?_) (fun q hq => I.2.2.2.1.2.2 q hq)
  refine ⟨Or.inr ⟨kd, x, u, rfl, ⟨Nat.le_trans I.2.2.2.1.1 hE.1, hE.2⟩, hp, ?_, va_K.moved hW.alike I.1, I.2.2.1⟩, ?_, fun a h1 h2 => ?_⟩
  · exact I.2.1.kept (fun k q' hq => hH _ ((I.2.1 k q' hq).lt))
  · exact Nat.le_trans I.2.2.2.1.1 hz
  · rw [hH a (Nat.lt_of_lt_of_le h1 I.2.2.2.1.1)]
    exact I.2.2.2.1.2.1 a h1 h2
end Xsv
end
section
/-! ===== the class as functions of its state; an answer is Except.ok, an exception of kind k is Except.error k ===== -/
def ixI (x : Int32) (n : Nat) : Option Nat := if x < 0 ∨ nI n ≤ x then none else some x.toNatClampNeg
theorem ixI_nI {j n : Nat} (hj : j < n) (hn : n < 2 ^ 31) : ixI (nI j) n = some j := by
  unfold ixI
  have h1 : ¬ nI j < 0 := nI_pos (Nat.lt_trans hj hn)
  have h2 : ¬ nI n ≤ nI j := nI_ge hj hn
  rw [if_neg (by intro h; rcases h with h | h; exact h1 h; exact h2 h), nI_clamp (Nat.lt_trans hj hn)]
theorem ixI_lo {x : Int32} {n : Nat} (h : x < 0) : ixI x n = none := if_pos (Or.inl h)
theorem ixI_hi {x : Int32} {n : Nat} (h : nI n ≤ x) : ixI x n = none := if_pos (Or.inr h)
theorem ixI_of {x : Int32} {n : Nat} (hn : n < 2 ^ 31) (h1 : ¬ x < 0) (h2 : ¬ nI n ≤ x) : ∃ j, j < n ∧ x = nI j := by
  rcases pk_ix x hn with h | h | h
  · exact absurd h h1
  · exact absurd h h2
  · exact h
theorem ixI_some {x : Int32} {n j : Nat} (hn : n < 2 ^ 31) (h : ixI x n = some j) : j < n ∧ x = nI j := by
  by_cases h1 : x < 0
  · rw [ixI_lo h1] at h; cases h
  · by_cases h2 : nI n ≤ x
    · rw [ixI_hi h2] at h; cases h
    · obtain ⟨k, hk, rfl⟩ := ixI_of hn h1 h2
      rw [ixI_nI hk hn] at h
      cases h
      exact ⟨hk, rfl⟩
def cHas (st : Nat → Int32) (x : Int32) : Bool := match ixI x 3 with
  | none => false
  | some k => decide (st k ≠ 0)
theorem cHas_n (st : Nat → Int32) {k : Nat} (hk : k < 3) : cHas st (nI k) = decide (st k ≠ 0) := by
  unfold cHas
  rw [ixI_nI hk (by decide)]
theorem cHas_none {st : Nat → Int32} {x : Int32} (h : ixI x 3 = none) : cHas st x = false := by
  unfold cHas
  rw [h]
def cFree (ts st : Nat → Int32) (c : Nat) : Bool := (List.range 3).all fun j => decide (ts c ≠ st j)
def cTag (ts tb st : Nat → Int32) (s b c : Nat) : Bool := decide (ts c = st s ∧ tb c = nI b)
def cFind (ts tb st : Nat → Int32) (s b : Nat) : Option Nat := if st s = 0 then none else fst (cTag ts tb st s b) 9 0
def cWord (bw cw ts tb st : Nat → Int32) (s b i : Nat) : Int32 := match cFind ts tb st s b with
  | none => bw (b * 4 + i)
  | some c => cw (c * 4 + i)
def cDiff (bw cw ts tb st : Nat → Int32) (s b : Nat) : Bool := ! (List.range 4).all fun i => decide (cWord bw cw ts tb st s b i = bw (b * 4 + i))
def cShares (ts tb st : Nat → Int32) (b s : Nat) : Bool := decide (st s ≠ 0) && (cFind ts tb st s b).isNone
def cNS (ts tb st : Nat → Int32) (b : Nat) : Nat := cnt (cShares ts tb st b) 3
def cNF (ts st : Nat → Int32) : Nat := cnt (cFree ts st) 9
def cLF (ts st : Nat → Int32) : Option Nat := fst (cFree ts st) 9 0
def cLE (st : Nat → Int32) : Option Nat := fst (fun s => decide (st s = 0)) 3 0
def sm (f : Nat → Nat) : Nat → Nat
  | 0 => 0
  | n + 1 => sm f n + f n
def cNM (ts tb st : Nat → Int32) (s : Nat) : Nat := sm (fun b => if (cFind ts tb st s b).isSome then cNS ts tb st b else 0) 6
def cPl (st : Nat → Int32) : Nat := sm (fun s => if st s = 0 then 0 else 2 ^ s) 3
def cCh (bw cw ts tb st : Nat → Int32) (s : Nat) : Nat := cnt (cDiff bw cw ts tb st s) 6
/-! programs over the class's state -/
abbrev CM (ρ : Type) : Type := SV → Except Nat ρ × SV
def cOk {ρ : Type} (r : ρ) : CM ρ := fun σ => (.ok r, σ)
def cErr {ρ : Type} (k : Nat) : CM ρ := fun σ => (.error k, σ)
def cB {ρ τ : Type} (m : CM ρ) (f : ρ → CM τ) : CM τ := fun σ => match m σ with
  | (.ok r, σ') => f r σ'
  | (.error k, σ') => (.error k, σ')
theorem cB_ok {ρ τ : Type} {m : CM ρ} {f : ρ → CM τ} {σ σ' : SV} {r : ρ} (h : m σ = (.ok r, σ')) : cB m f σ = f r σ' := by
  unfold cB
  rw [h]
theorem cB_err {ρ τ : Type} {m : CM ρ} {f : ρ → CM τ} {σ σ' : SV} {k : Nat} (h : m σ = (.error k, σ')) : cB m f σ = (.error k, σ') := by
  unfold cB
  rw [h]
def cFor (f : Nat → CM Unit) : Nat → Nat → CM Unit
  | 0, _ => cOk ()
  | n + 1, k => cB (f k) (fun _ => cFor f n (k + 1))
def cSum (f : Nat → CM Nat) : Nat → Nat → Nat → CM Nat
  | 0, _, a => cOk a
  | n + 1, k, a => cB (f k) (fun d => cSum f n (k + 1) (a + d))
def cTick : CM Unit := fun σ => match σ with
  | (bw, cw, ts, tb, st, ro, mr, la, fu, dn, wr) => match fu with
    | none => (.ok (), (bw, cw, ts, tb, st, ro, mr, la, none, dn, wr + 1))
    | some 0 => (.error 0, (bw, cw, ts, tb, st, ro, mr, la, none, true, wr))
    | some (k + 1) => (.ok (), (bw, cw, ts, tb, st, ro, mr, la, some k, dn, wr + 1))
def cPutB (b i : Nat) (w : Int32) : CM Unit := cB cTick fun _ σ => match σ with
  | (bw, cw, ts, tb, st, ro, mr, la, fu, dn, wr) => (.ok (), (upd bw (b * 4 + i) w, cw, ts, tb, st, ro, mr, la, fu, dn, wr))
def cPutC (c i : Nat) (w : Int32) : CM Unit := cB cTick fun _ σ => match σ with
  | (bw, cw, ts, tb, st, ro, mr, la, fu, dn, wr) => (.ok (), (bw, upd cw (c * 4 + i) w, ts, tb, st, ro, mr, la, fu, dn, wr))
def cPutT (c : Nat) (x y : Int32) : CM Unit := cB cTick fun _ σ => match σ with
  | (bw, cw, ts, tb, st, ro, mr, la, fu, dn, wr) => (.ok (), (bw, cw, upd ts c x, upd tb c y, st, ro, mr, la, fu, dn, wr))
def cPutS (s : Nat) (x : Int32) : CM Unit := cB cTick fun _ σ => match σ with
  | (bw, cw, ts, tb, st, ro, mr, la, fu, dn, wr) => (.ok (), (bw, cw, ts, tb, upd st s x, ro, mr, la, fu, dn, wr))
def cPutR (v : Nat) : CM Unit := cB cTick fun _ σ => match σ with
  | (bw, cw, ts, tb, st, _, mr, la, fu, dn, wr) => (.ok (), (bw, cw, ts, tb, st, v, mr, la, fu, dn, wr))
def cPutM (v : Nat) : CM Unit := cB cTick fun _ σ => match σ with
  | (bw, cw, ts, tb, st, ro, _, la, fu, dn, wr) => (.ok (), (bw, cw, ts, tb, st, ro, v, la, fu, dn, wr))
def cCopy (s b : Nat) (rep : Option Nat) (w : Int32) : CM Unit := fun σ => match σ with
  | (bw, cw, ts, tb, st, ro, mr, la, fu, dn, wr) => match cLF ts st with
    | none => (.ok (), (bw, cw, ts, tb, st, ro, mr, la, fu, dn, wr))
    | some c => cB (cFor (fun i => cPutC c i (if rep = some i then w else bw (b * 4 + i))) 4 0) (fun _ => cPutT c (st s) (nI b)) (bw, cw, ts, tb, st, ro, mr, la, fu, dn, wr)
def cCopyIf (b s : Nat) : CM Nat := fun σ => match σ with
  | (bw, cw, ts, tb, st, ro, mr, la, fu, dn, wr) => if cShares ts tb st b s then cB (cCopy s b none 0) (fun _ => cOk 1) (bw, cw, ts, tb, st, ro, mr, la, fu, dn, wr) else (.ok 0, (bw, cw, ts, tb, st, ro, mr, la, fu, dn, wr))
def cCopies (b : Nat) : CM Nat := cSum (cCopyIf b) 3 0 0
def cBack (b c : Nat) : CM Unit := cFor (fun i σ => match σ with
  | (bw, cw, ts, tb, st, ro, mr, la, fu, dn, wr) => cPutB b i (cw (c * 4 + i)) (bw, cw, ts, tb, st, ro, mr, la, fu, dn, wr)) 4 0
def cMerge1 (s b : Nat) : CM Nat := fun σ => match σ with
  | (bw, cw, ts, tb, st, ro, mr, la, fu, dn, wr) => match cFind ts tb st s b with
    | none => (.ok 0, (bw, cw, ts, tb, st, ro, mr, la, fu, dn, wr))
    | some c => cB (cCopies b) (fun _ => cB (cBack b c) (fun _ => cB (cPutM (b + 1)) (fun _ => cOk 1))) (bw, cw, ts, tb, st, ro, mr, la, fu, dn, wr)
def cMerge (s : Nat) : CM Nat := fun σ => match σ with
  | (bw, cw, ts, tb, st, ro, mr, la, fu, dn, wr) => cB (cSum (cMerge1 s) (6 - mr) mr 0) (fun n => cB (cPutR 0) (fun _ => cOk n)) (bw, cw, ts, tb, st, ro, mr, la, fu, dn, wr)
def cUp : CM Unit := fun σ => match σ with
  | (bw, cw, ts, tb, st, ro, mr, la, fu, dn, wr) => if dn then (.error 0, (bw, cw, ts, tb, st, ro, mr, la, fu, dn, wr)) else (.ok (), (bw, cw, ts, tb, st, ro, mr, la, fu, dn, wr))
def cReqS (x : Int32) : CM Unit := fun σ => match σ with
  | (bw, cw, ts, tb, st, ro, mr, la, fu, dn, wr) => if cHas st x then (.ok (), (bw, cw, ts, tb, st, ro, mr, la, fu, dn, wr)) else (.error 3, (bw, cw, ts, tb, st, ro, mr, la, fu, dn, wr))
def cReqB (x : Int32) : CM Unit := fun σ => if (ixI x 6).isSome then (.ok (), σ) else (.error 1, σ)
def cReqW (x i : Int32) : CM Unit := cB (cReqB x) fun _ σ => if (ixI i 4).isSome then (.ok (), σ) else (.error 1, σ)
def cReqF (n : Nat) : CM Unit := fun σ => match σ with
  | (bw, cw, ts, tb, st, ro, mr, la, fu, dn, wr) => if cNF ts st < n then (.error 2, (bw, cw, ts, tb, st, ro, mr, la, fu, dn, wr)) else (.ok (), (bw, cw, ts, tb, st, ro, mr, la, fu, dn, wr))
/-- the number behind an int that has been found in range -/
def cN (x : Int32) : Nat := x.toNatClampNeg
theorem cN_nI {k : Nat} (h : k < 2 ^ 31) : cN (nI k) = k := nI_clamp h
def cWrite (b i w : Int32) : CM Nat := cB cUp fun _ => cB (cReqW b i) fun _ σ => match σ with
  | (bw, cw, ts, tb, st, ro, mr, la, fu, dn, wr) => cB (cReqF (cNS ts tb st (cN b))) (fun _ => cB (cCopies (cN b)) fun n => cB (cPutB (cN b) (cN i) w) fun _ => cOk n) (bw, cw, ts, tb, st, ro, mr, la, fu, dn, wr)
def cRead (b i : Int32) : CM Int32 := cB cUp fun _ => cB (cReqW b i) fun _ σ => match σ with
  | (bw, cw, ts, tb, st, ro, mr, la, fu, dn, wr) => (.ok (bw (cN b * 4 + cN i)), (bw, cw, ts, tb, st, ro, mr, la, fu, dn, wr))
def cSnap : CM Nat := cB cUp fun _ σ => match σ with
  | (bw, cw, ts, tb, st, ro, mr, la, fu, dn, wr) => match cLE st with
    | none => (.error 2, (bw, cw, ts, tb, st, ro, mr, la, fu, dn, wr))
    | some s => cB (cPutS s (nI (la + 1))) (fun _ σ' => match σ' with
      | (bw, cw, ts, tb, st, ro, mr, la, fu, dn, wr) => (.ok s, (bw, cw, ts, tb, st, ro, mr, la + 1, fu, dn, wr))) (bw, cw, ts, tb, st, ro, mr, la, fu, dn, wr)
def cDrop (s : Int32) : CM Unit := cB cUp fun _ => cB (cReqS s) fun _ => cPutS (cN s) 0
def cReadS (s b i : Int32) : CM Int32 := cB cUp fun _ => cB (cReqS s) fun _ => cB (cReqW b i) fun _ σ => match σ with
  | (bw, cw, ts, tb, st, ro, mr, la, fu, dn, wr) => (.ok (cWord bw cw ts tb st (cN s) (cN b) (cN i)), (bw, cw, ts, tb, st, ro, mr, la, fu, dn, wr))
def cWriteS (s b i w : Int32) : CM Bool := cB cUp fun _ => cB (cReqS s) fun _ => cB (cReqW b i) fun _ σ => match σ with
  | (bw, cw, ts, tb, st, ro, mr, la, fu, dn, wr) => match cFind ts tb st (cN s) (cN b) with
    | some c => cB (cPutC c (cN i) w) (fun _ => cOk false) (bw, cw, ts, tb, st, ro, mr, la, fu, dn, wr)
    | none => cB (cReqF 1) (fun _ => cB (cCopy (cN s) (cN b) (some (cN i)) w) fun _ => cOk true) (bw, cw, ts, tb, st, ro, mr, la, fu, dn, wr)
def cRoll (s : Int32) : CM Nat := cB cUp fun _ => cB (cReqS s) fun _ σ => match σ with
  | (bw, cw, ts, tb, st, ro, mr, la, fu, dn, wr) => cB (cReqF (cNM ts tb st (cN s))) (fun _ => cB (cPutM 0) fun _ => cB (cPutR (1 + cN s)) fun _ => cMerge (cN s)) (bw, cw, ts, tb, st, ro, mr, la, fu, dn, wr)
def cFuse (n : Int32) : SV → Bool × SV := fun σ => match σ with
  | (bw, cw, ts, tb, st, ro, mr, la, fu, dn, wr) => if dn ∨ n < -1 then (false, (bw, cw, ts, tb, st, ro, mr, la, fu, dn, wr)) else (true, (bw, cw, ts, tb, st, ro, mr, la, (if n < 0 then none else some n.toNatClampNeg), dn, wr))
def cRec : CM Nat := fun σ => match σ with
  | (bw, cw, ts, tb, st, ro, mr, la, fu, dn, wr) => if dn then (match ro with
    | 0 => (.ok 0, (bw, cw, ts, tb, st, 0, mr, la, fu, false, wr))
    | r + 1 => cMerge r (bw, cw, ts, tb, st, r + 1, mr, la, fu, false, wr)) else (.error 2, (bw, cw, ts, tb, st, ro, mr, la, fu, dn, wr))
def cUsed : CM Nat := cB cUp fun _ σ => match σ with
  | (bw, cw, ts, tb, st, ro, mr, la, fu, dn, wr) => (.ok (9 - cNF ts st), (bw, cw, ts, tb, st, ro, mr, la, fu, dn, wr))
def cCopyOf (s b : Int32) : CM (Option Nat) := cB cUp fun _ => cB (cReqS s) fun _ => cB (cReqB b) fun _ σ => match σ with
  | (bw, cw, ts, tb, st, ro, mr, la, fu, dn, wr) => (.ok (cFind ts tb st (cN s) (cN b)), (bw, cw, ts, tb, st, ro, mr, la, fu, dn, wr))
def cPlaces : CM Nat := cB cUp fun _ σ => match σ with
  | (bw, cw, ts, tb, st, ro, mr, la, fu, dn, wr) => (.ok (cPl st), (bw, cw, ts, tb, st, ro, mr, la, fu, dn, wr))
def cChanged (s : Int32) : CM Nat := cB cUp fun _ => cB (cReqS s) fun _ σ => match σ with
  | (bw, cw, ts, tb, st, ro, mr, la, fu, dn, wr) => (.ok (cCh bw cw ts tb st (cN s)), (bw, cw, ts, tb, st, ro, mr, la, fu, dn, wr))
def cClear : SV → SV := fun _ => (fun _ => 0, fun _ => 0, fun _ => -1, fun _ => 0, fun _ => 0, 0, 0, 0, none, false, 0)
end
section
/-! ===== the reference as functions of its state ===== -/
def mUsed (th : Nat → Bool) (ow : Nat → Nat) : Nat := cnt (fun k => th (k / 6) && decide (0 < ow k)) 18
def mTkn (th : Nat → Bool) (ow : Nat → Nat) (c : Nat) : Bool := (List.range 18).any fun k => th (k / 6) && decide (ow k = c)
theorem mTkn_iff {th : Nat → Bool} {ow : Nat → Nat} {c : Nat} : mTkn th ow c = true ↔ ∃ k, k < 18 ∧ th (k / 6) = true ∧ ow k = c := by
  simp [mTkn]
def mLow (th : Nat → Bool) (ow : Nat → Nat) : Nat := (fst (fun c => ! mTkn th ow c) 10 1).getD 0
def mIsS (th : Nat → Bool) (but : Option Nat) (ow : Nat → Nat) (b s : Nat) : Bool := th s && decide (some s ≠ but) && decide (ow (6 * s + b) = 0)
def mShr (th : Nat → Bool) (ow : Nat → Nat) (b : Nat) (but : Option Nat) : Nat := cnt (mIsS th but ow b) 3
def mPartL (th : Nat → Bool) (b : Nat) (but : Option Nat) : Nat → Nat → Nat → (Nat → Nat) → (Nat → Nat)
  | 0, _, _, ow => ow
  | n + 1, s, left, ow => if left = 0 then ow else if mIsS th but ow b s then mPartL th b but n (s + 1) (left - 1) (va_up ow (6 * s + b) (mLow th ow)) else mPartL th b but n (s + 1) left ow
def mPart (th : Nat → Bool) (ow : Nat → Nat) (b : Nat) (but : Option Nat) (many : Nat) : Nat → Nat := mPartL th b but 3 0 many ow
def mHas (ow : Nat → Nat) (s b : Nat) : Bool := decide (0 < ow (6 * s + b))
def mWF (th : Nat → Bool) (ow : Nat → Nat) (s : Nat) : Nat → Nat → Nat
  | 0, _ => 0
  | n + 1, b => (if mHas ow s b then 5 * mShr th ow b (some s) + 5 else 0) + mWF th ow s n (b + 1)
/-- lasts(w): the answer, and fuse, count, down behind it -/
def mLast (fu : Option Nat) (ct : Nat) (dn : Bool) (w : Nat) : Bool × Option Nat × Nat × Bool := match fu with
  | none => (true, none, ct + w, dn)
  | some k => if w ≤ k then (true, some (k - w), ct + w, dn) else (false, some k, ct + k, true)
def mVol (vo wo : Nat → Int32) (s b : Nat) : Nat → Nat → (Nat → Int32)
  | 0, _ => vo
  | n + 1, i => mVol (upd vo (4 * b + i) (wo (24 * s + 4 * b + i))) wo s b n (i + 1)
end
section
/-! ===== finding, counting: pure rows ===== -/
theorem fst_intro {p : Nat → Bool} : ∀ {n k c : Nat}, k ≤ c → c < k + n → p c = true → (∀ j, k ≤ j → j < c → p j = false) → fst p n k = some c := by
  intro n
  induction n with
  | zero => intro k c h1 h2; omega
  | succ n ih =>
    intro k c h1 h2 h3 h4
    unfold fst
    by_cases hk : k = c
    · subst hk; rw [if_pos h3]
    · rw [h4 k (Nat.le_refl _) (by omega)]
      exact ih (by omega) (by omega) h3 (fun j g1 g2 => h4 j (by omega) g2)
theorem fst_nil {p : Nat → Bool} : ∀ {n k : Nat}, (∀ j, k ≤ j → j < k + n → p j = false) → fst p n k = none := by
  intro n
  induction n with
  | zero => intro k _; rfl
  | succ n ih =>
    intro k h
    unfold fst
    rw [h k (Nat.le_refl _) (by omega)]
    exact ih (fun j g1 g2 => h j (by omega) (by omega))
theorem cnt_congr {p q : Nat → Bool} : ∀ {n : Nat}, (∀ j, j < n → p j = q j) → cnt p n = cnt q n := by
  intro n
  induction n with
  | zero => intro _; rfl
  | succ n ih =>
    intro h
    unfold cnt
    rw [ih (fun j hj => h j (by omega)), h n (by omega)]
theorem cnt_zero {p : Nat → Bool} : ∀ {n : Nat}, (∀ j, j < n → p j = false) → cnt p n = 0 := by
  intro n
  induction n with
  | zero => intro _; rfl
  | succ n ih =>
    intro h
    unfold cnt
    rw [ih (fun j hj => h j (by omega)), h n (by omega)]
    rfl
theorem cnt_one {p : Nat → Bool} : ∀ {n c : Nat}, c < n → p c = true → (∀ j, j < n → p j = true → j = c) → cnt p n = 1 := by
  intro n
  induction n with
  | zero => intro c h; omega
  | succ n ih =>
    intro c hc hp hu
    unfold cnt
    by_cases hn : p n = true
    · have e := hu n (by omega) hn
      subst e
      rw [if_pos hn, cnt_zero (fun j hj => by
        cases h : p j
        · rfl
        · have := hu j (by omega) h
          omega)]
    · rw [if_neg hn]
      have hcn : c ≠ n := fun e => hn (e ▸ hp)
      rw [ih (c := c) (by omega) hp (fun j hj h => hu j (by omega) h)]
theorem cnt_not (p : Nat → Bool) : ∀ n : Nat, cnt p n + cnt (fun j => ! p j) n = n := by
  intro n
  induction n with
  | zero => rfl
  | succ n ih =>
    unfold cnt
    cases p n <;> simp <;> omega
theorem sm_add (f g : Nat → Nat) : ∀ n : Nat, sm (fun j => f j + g j) n = sm f n + sm g n := by
  intro n
  induction n with
  | zero => rfl
  | succ n ih =>
    unfold sm
    rw [ih]
    omega
theorem sm_congr {f g : Nat → Nat} : ∀ {n : Nat}, (∀ j, j < n → f j = g j) → sm f n = sm g n := by
  intro n
  induction n with
  | zero => intro _; rfl
  | succ n ih =>
    intro h
    unfold sm
    rw [ih (fun j hj => h j (by omega)), h n (by omega)]
theorem sm_zero : ∀ n : Nat, sm (fun _ => 0) n = 0 := by
  intro n
  induction n with
  | zero => rfl
  | succ n ih => unfold sm; rw [ih]
theorem sm_swap (f : Nat → Nat → Nat) (n : Nat) : ∀ k : Nat, sm (fun i => sm (f i) k) n = sm (fun j => sm (fun i => f i j) n) k := by
  intro k
  induction k with
  | zero => exact sm_zero n
  | succ k ih =>
    show sm (fun i => sm (f i) k + f i k) n = sm (fun j => sm (fun i => f i j) n) k + sm (fun i => f i k) n
    rw [sm_add, ih]
theorem cnt_sm (p : Nat → Bool) : ∀ n : Nat, cnt p n = sm (fun j => if p j then 1 else 0) n := by
  intro n
  induction n with
  | zero => rfl
  | succ n ih => unfold cnt sm; rw [ih]
/-! ===== what holds of the class's state between calls ===== -/
def iSt (la : Nat) (st : Nat → Int32) : Prop := ∀ s, s < 3 → st s = 0 ∨ ∃ k, 1 ≤ k ∧ k ≤ la ∧ st s = nI k
def iTs (la : Nat) (ts : Nat → Int32) : Prop := ∀ c, c < 9 → ts c = -1 ∨ ∃ k, 1 ≤ k ∧ k ≤ la ∧ ts c = nI k
def iTb (tb : Nat → Int32) : Prop := ∀ c, c < 9 → ∃ b, b < 6 ∧ tb c = nI b
def iDs (st : Nat → Int32) : Prop := ∀ s, s < 3 → ∀ s', s' < 3 → st s ≠ 0 → st s = st s' → s = s'
def iUn (ts tb st : Nat → Int32) : Prop := ∀ s, s < 3 → st s ≠ 0 → ∀ c, c < 9 → ∀ c', c' < 9 → ts c = st s → ts c' = st s → tb c = tb c' → c = c'
def iAll (la : Nat) (ts tb st : Nat → Int32) : Prop := la < 2 ^ 30 ∧ iSt la st ∧ iTs la ts ∧ iTb tb ∧ iDs st ∧ iUn ts tb st
theorem nI_ne {a b : Nat} (ha : a < 2 ^ 31) (hb : b < 2 ^ 31) (h : a ≠ b) : nI a ≠ nI b := fun e => h ((nI_eq ha hb).mp e)
theorem i_ts0 {la : Nat} {ts : Nat → Int32} (hl : la < 2 ^ 30) (h : iTs la ts) {c : Nat} (hc : c < 9) : ts c ≠ 0 := by
  rcases h c hc with e | ⟨k, h1, h2, e⟩
  · rw [e]; decide
  · rw [e]
    exact nI_ne (b := 0) (by omega) (by decide) (by omega)
theorem find_some {ts tb st : Nat → Int32} {s b c : Nat} (h : cFind ts tb st s b = some c) : st s ≠ 0 ∧ c < 9 ∧ ts c = st s ∧ tb c = nI b := by
  unfold cFind at h
  by_cases h0 : st s = 0
  · rw [if_pos h0] at h; cases h
  · rw [if_neg h0] at h
    obtain ⟨-, h2, h3, -⟩ := fst_some h
    simp only [cTag, decide_eq_true_eq] at h3
    exact ⟨h0, by omega, h3.1, h3.2⟩
theorem find_none {ts tb st : Nat → Int32} {s b : Nat} (h : cFind ts tb st s b = none) (h0 : st s ≠ 0) {c : Nat} (hc : c < 9) : ¬ (ts c = st s ∧ tb c = nI b) := by
  unfold cFind at h
  rw [if_neg h0] at h
  have := fst_none h c (by omega) (by omega)
  simpa [cTag] using this
theorem find_is {la : Nat} {ts tb st : Nat → Int32} (hI : iAll la ts tb st) {s b c : Nat} (hs : s < 3) (h0 : st s ≠ 0) (hc : c < 9) (h1 : ts c = st s) (h2 : tb c = nI b) : cFind ts tb st s b = some c := by
  cases h : cFind ts tb st s b with
  | none => exact absurd ⟨h1, h2⟩ (find_none h h0 hc)
  | some c' =>
    obtain ⟨-, g2, g3, g4⟩ := find_some h
    rw [hI.2.2.2.2.2 s hs h0 c hc c' g2 h1 g3 (h2.trans g4.symm)]
theorem free_iff {ts st : Nat → Int32} {c : Nat} : cFree ts st c = true ↔ ∀ s, s < 3 → ts c ≠ st s := by
  simp [cFree]
theorem nfree_iff {la : Nat} {ts tb st : Nat → Int32} (hI : iAll la ts tb st) {c : Nat} (hc : c < 9) : cFree ts st c = false ↔ ∃ s b, s < 3 ∧ b < 6 ∧ st s ≠ 0 ∧ cFind ts tb st s b = some c := by
  constructor
  · intro h
    have h1 : ¬ ∀ s, s < 3 → ts c ≠ st s := fun z => by rw [free_iff.mpr z] at h; cases h
    obtain ⟨s, hs⟩ := Classical.not_forall.mp h1
    obtain ⟨hs3, he⟩ := Classical.not_imp.mp hs
    have he : ts c = st s := Classical.not_not.mp he
    have h0 : st s ≠ 0 := by rw [← he]; exact i_ts0 hI.1 hI.2.2.1 hc
    obtain ⟨b, hb, e⟩ := hI.2.2.2.1 c hc
    exact ⟨s, b, hs3, hb, h0, find_is hI hs3 h0 hc he e⟩
  · rintro ⟨s, b, hs, -, h0, hf⟩
    obtain ⟨-, -, h1, -⟩ := find_some hf
    cases h : cFree ts st c
    · rfl
    · exact absurd h1 (free_iff.mp h s hs)
/-- the reference's places and copies are the class's -/
def rOw (ts tb st : Nat → Int32) (th : Nat → Bool) (ow : Nat → Nat) : Prop := (∀ s, s < 3 → th s = decide (st s ≠ 0)) ∧ ∀ s, s < 3 → st s ≠ 0 → ∀ b, b < 6 → ow (6 * s + b) = (match cFind ts tb st s b with
  | none => 0
  | some c => c + 1)
theorem tkn_iff {la : Nat} {ts tb st : Nat → Int32} {th : Nat → Bool} {ow : Nat → Nat} (hI : iAll la ts tb st) (hO : rOw ts tb st th ow) {c : Nat} (hc : c < 9) : mTkn th ow (c + 1) = ! cFree ts st c := by
  have key : mTkn th ow (c + 1) = true ↔ cFree ts st c = false := by
    rw [nfree_iff hI hc]
    constructor
    · intro h
      obtain ⟨k, hk8, ht, ho⟩ := mTkn_iff.mp h
      have hs : k / 6 < 3 := by omega
      have hb : k % 6 < 6 := by omega
      have ek : 6 * (k / 6) + k % 6 = k := by omega
      rw [hO.1 _ hs] at ht
      have h0 : st (k / 6) ≠ 0 := by simpa using ht
      have h2 := hO.2 _ hs h0 _ hb
      rw [ek, ho] at h2
      refine ⟨k / 6, k % 6, hs, hb, h0, ?_⟩
      cases hf : cFind ts tb st (k / 6) (k % 6) with
      | none => rw [hf] at h2; simp at h2
      | some c' => rw [hf] at h2; simp at h2; rw [h2]
    · rintro ⟨s, b, hs, hb, h0, hf⟩
      have h2 := hO.2 s hs h0 b hb
      rw [hf] at h2
      have e1 : (6 * s + b) / 6 = s := by omega
      exact mTkn_iff.mpr ⟨6 * s + b, by omega, by rw [e1, hO.1 s hs]; simpa using h0, h2⟩
  cases h : cFree ts st c
  · rw [h] at key; simp at key; rw [key]; rfl
  · rw [h] at key; simp at key; rw [key]; rfl
theorem low_is {la : Nat} {ts tb st : Nat → Int32} {th : Nat → Bool} {ow : Nat → Nat} (hI : iAll la ts tb st) (hO : rOw ts tb st th ow) {c : Nat} (h : cLF ts st = some c) : mLow th ow = c + 1 := by
  obtain ⟨-, h2, h3, h4⟩ := fst_some (show fst (cFree ts st) 9 0 = some c from h)
  have h5 : fst (fun c => ! mTkn th ow c) 10 1 = some (c + 1) := by
    refine fst_intro (by omega) (by omega) ?_ ?_
    · show (! mTkn th ow (c + 1)) = true
      rw [tkn_iff hI hO (by omega), h3]
      rfl
    · intro j g1 g2
      obtain ⟨j', rfl⟩ : ∃ j', j = j' + 1 := ⟨j - 1, by omega⟩
      show (! mTkn th ow (j' + 1)) = false
      rw [tkn_iff hI hO (by omega), h4 j' (by omega) (by omega)]
      rfl
  unfold mLow
  rw [h5]
  rfl
theorem own_le {ts tb st : Nat → Int32} {th : Nat → Bool} {ow : Nat → Nat} (hO : rOw ts tb st th ow) {k : Nat} (hk : k < 18) (ht : th (k / 6) = true) : ow k ≤ 9 := by
  have hs : k / 6 < 3 := by omega
  have ek : 6 * (k / 6) + k % 6 = k := by omega
  rw [hO.1 _ hs] at ht
  have h2 := hO.2 _ hs (by simpa using ht) (k % 6) (by omega)
  rw [ek] at h2
  rw [h2]
  cases hf : cFind ts tb st (k / 6) (k % 6) with
  | none => simp
  | some c =>
    obtain ⟨-, g, -⟩ := find_some hf
    show c + 1 ≤ 9
    omega
theorem used_is {la : Nat} {ts tb st : Nat → Int32} {th : Nat → Bool} {ow : Nat → Nat} (hI : iAll la ts tb st) (hO : rOw ts tb st th ow) : mUsed th ow + cNF ts st = 9 := by
  have h1 : mUsed th ow = cnt (fun c => ! cFree ts st c) 9 := by
    unfold mUsed
    rw [cnt_sm, cnt_sm]
    have hrow : ∀ k, k < 18 → (if (th (k / 6) && decide (0 < ow k)) = true then 1 else 0) = sm (fun c => if (th (k / 6) && decide (ow k = c + 1)) = true then 1 else 0) 9 := by
      intro k hk
      rw [← cnt_sm (fun c => th (k / 6) && decide (ow k = c + 1)) 9]
      cases ht : th (k / 6)
      · rw [cnt_zero (fun j _ => by simp)]; simp
      · by_cases h0 : 0 < ow k
        · have h9 := own_le hO hk ht
          rw [cnt_one (c := ow k - 1) (by omega) (by simp; omega) (fun j _ hj => by simp at hj; omega)]
          simp [h0]
        · rw [cnt_zero (fun j _ => by simp; omega)]
          simp [h0]
    rw [sm_congr hrow, sm_swap]
    refine sm_congr fun c hc => ?_
    rw [← cnt_sm (fun k => th (k / 6) && decide (ow k = c + 1)) 18]
    cases hf : cFree ts st c
    · obtain ⟨s, b, hs, hb, h0, hfd⟩ := (nfree_iff hI hc).mp hf
      have h2 := hO.2 s hs h0 b hb
      rw [hfd] at h2
      have e1 : (6 * s + b) / 6 = s := by omega
      rw [cnt_one (c := 6 * s + b) (by omega) (by simp [e1, hO.1 s hs, h0, h2]) ?_]
      · rfl
      · intro k hk hkk
        simp only [Bool.and_eq_true, decide_eq_true_eq] at hkk
        have hs' : k / 6 < 3 := by omega
        have ek : 6 * (k / 6) + k % 6 = k := by omega
        have ht := hkk.1
        rw [hO.1 _ hs'] at ht
        have h0' : st (k / 6) ≠ 0 := by simpa using ht
        have h3 := hO.2 _ hs' h0' (k % 6) (by omega)
        rw [ek, hkk.2] at h3
        cases hg : cFind ts tb st (k / 6) (k % 6) with
        | none => rw [hg] at h3; simp at h3
        | some c' =>
          rw [hg] at h3
          have : c' = c := by simpa using h3.symm
          subst this
          obtain ⟨-, -, g3, g4⟩ := find_some hg
          obtain ⟨-, -, g5, g6⟩ := find_some hfd
          have es := hI.2.2.2.2.1 s hs (k / 6) hs' h0 (g5.symm.trans g3)
          have eb : b = k % 6 := (nI_eq (by omega) (by omega)).mp (g6.symm.trans g4)
          omega
    · rw [cnt_zero (fun k hk => ?_)]
      · rfl
      · cases hx : (th (k / 6) && decide (ow k = c + 1))
        · rfl
        · exfalso
          have h5 := tkn_iff hI hO hc
          rw [hf] at h5
          simp only [Bool.and_eq_true, decide_eq_true_eq] at hx
          have h7 : mTkn th ow (c + 1) = true := mTkn_iff.mpr ⟨k, hk, hx⟩
          rw [h7] at h5
          cases h5
  have h2 := cnt_not (cFree ts st) 9
  unfold cNF
  omega
end
section
/-! ===== what the class's writes come to, with a fuse and without ===== -/
/-- the fuse lasts for n writes; what is left of it -/
def fL (fu : Option Nat) (n : Nat) : Prop := ∀ k, fu = some k → n ≤ k
def fT (fu : Option Nat) (n : Nat) : Option Nat := fu.map (fun k => k - n)
def cC (f : Nat → Int32) (c : Nat) (g : Nat → Int32) : Nat → Int32 := upd (upd (upd (upd f (c * 4 + 0) (g 0)) (c * 4 + 1) (g 1)) (c * 4 + 2) (g 2)) (c * 4 + 3) (g 3)
theorem cC_in {f g : Nat → Int32} {c i : Nat} (hi : i < 4) : cC f c g (c * 4 + i) = g i := by
  rcases (show i = 0 ∨ i = 1 ∨ i = 2 ∨ i = 3 by omega) with rfl | rfl | rfl | rfl <;> simp [cC, upd]
theorem cC_out {f g : Nat → Int32} {c j : Nat} (h : j < c * 4 ∨ c * 4 + 4 ≤ j) : cC f c g j = f j := by
  unfold cC upd
  rw [if_neg (by omega), if_neg (by omega), if_neg (by omega), if_neg (by omega)]
theorem fL_some {k n : Nat} (h : fL (some k) n) : n ≤ k := h k rfl
theorem fT_T (fu : Option Nat) (a b : Nat) : fT (fT fu a) b = fT fu (a + b) := by
  cases fu with
  | none => rfl
  | some k => simp [fT]; omega
theorem fL_T {fu : Option Nat} {a b : Nat} (h : fL fu (a + b)) : fL fu a ∧ fL (fT fu a) b := by
  refine ⟨fun k e => by have := h k e; omega, fun k e => ?_⟩
  cases fu with
  | none => cases e
  | some j =>
    have := h j rfl
    simp [fT] at e
    omega
theorem fT_0 (fu : Option Nat) : fT fu 0 = fu := by cases fu <;> simp [fT]
section CL
variable {bw cw ts tb st : Nat → Int32} {ro mr la : Nat} {fu : Option Nat} {dn : Bool} {wr : Nat}
theorem tick_ok (h : fL fu 1) : cTick (bw, cw, ts, tb, st, ro, mr, la, fu, dn, wr) = (.ok (), (bw, cw, ts, tb, st, ro, mr, la, fT fu 1, dn, wr + 1)) := by
  cases fu with
  | none => rfl
  | some k =>
    obtain ⟨j, rfl⟩ : ∃ j, k = j + 1 := ⟨k - 1, by have := fL_some h; omega⟩
    rfl
theorem copy_ok {s b c : Nat} {rep : Option Nat} {w : Int32} (hc : cLF ts st = some c) (h : fL fu 5) :
    cCopy s b rep w (bw, cw, ts, tb, st, ro, mr, la, fu, dn, wr) = (.ok (), (bw, cC cw c (fun i => if rep = some i then w else bw (b * 4 + i)), upd ts c (st s), upd tb c (nI b), st, ro, mr, la, fT fu 5, dn, wr + 5)) := by
  cases fu with
  | none => simp [cCopy, hc, cFor, cPutC, cPutT, cB, cTick, fT, cC, cOk]
  | some k =>
    obtain ⟨j, rfl⟩ : ∃ j, k = j + 5 := ⟨k - 5, by have := fL_some h; omega⟩
    simp [cCopy, hc, cFor, cPutC, cPutT, cB, cTick, fT, cC, cOk]
theorem copy_cut {s b c k : Nat} {rep : Option Nat} {w : Int32} (hc : cLF ts st = some c) (hk : k < 5) :
    ∃ cw', (∀ j, j < c * 4 ∨ c * 4 + 4 ≤ j → cw' j = cw j) ∧ cCopy s b rep w (bw, cw, ts, tb, st, ro, mr, la, some k, dn, wr) = (.error 0, (bw, cw', ts, tb, st, ro, mr, la, none, true, wr + k)) := by
  rcases (show k = 0 ∨ k = 1 ∨ k = 2 ∨ k = 3 ∨ k = 4 by omega) with rfl | rfl | rfl | rfl | rfl
  · exact ⟨cw, fun _ _ => rfl, by simp [cCopy, hc, cFor, cPutC, cPutT, cB, cTick, cOk]⟩
  · refine ⟨upd cw (c * 4 + 0) (if rep = some 0 then w else bw (b * 4 + 0)), fun j hj => ?_, by simp [cCopy, hc, cFor, cPutC, cPutT, cB, cTick, cOk]⟩
    unfold upd
    rw [if_neg (by omega)]
  · refine ⟨upd (upd cw (c * 4 + 0) (if rep = some 0 then w else bw (b * 4 + 0))) (c * 4 + 1) (if rep = some 1 then w else bw (b * 4 + 1)), fun j hj => ?_, by simp [cCopy, hc, cFor, cPutC, cPutT, cB, cTick, cOk]⟩
    unfold upd
    rw [if_neg (by omega), if_neg (by omega)]
  · refine ⟨upd (upd (upd cw (c * 4 + 0) (if rep = some 0 then w else bw (b * 4 + 0))) (c * 4 + 1) (if rep = some 1 then w else bw (b * 4 + 1))) (c * 4 + 2) (if rep = some 2 then w else bw (b * 4 + 2)), fun j hj => ?_, by simp [cCopy, hc, cFor, cPutC, cPutT, cB, cTick, cOk]⟩
    unfold upd
    rw [if_neg (by omega), if_neg (by omega), if_neg (by omega)]
  · refine ⟨cC cw c (fun i => if rep = some i then w else bw (b * 4 + i)), fun j hj => cC_out hj, by simp [cCopy, hc, cFor, cPutC, cPutT, cB, cTick, cOk, cC]⟩
theorem back_ok {b c : Nat} (h : fL fu 4) : cBack b c (bw, cw, ts, tb, st, ro, mr, la, fu, dn, wr) = (.ok (), (cC bw b (fun i => cw (c * 4 + i)), cw, ts, tb, st, ro, mr, la, fT fu 4, dn, wr + 4)) := by
  cases fu with
  | none => simp [cBack, cFor, cPutB, cB, cTick, fT, cC, cOk]
  | some k =>
    obtain ⟨j, rfl⟩ : ∃ j, k = j + 4 := ⟨k - 4, by have := fL_some h; omega⟩
    simp [cBack, cFor, cPutB, cB, cTick, fT, cC, cOk]
theorem back_cut {b c k : Nat} (hk : k < 4) : ∃ bw', (∀ j, j < b * 4 ∨ b * 4 + 4 ≤ j → bw' j = bw j) ∧ cBack b c (bw, cw, ts, tb, st, ro, mr, la, some k, dn, wr) = (.error 0, (bw', cw, ts, tb, st, ro, mr, la, none, true, wr + k)) := by
  rcases (show k = 0 ∨ k = 1 ∨ k = 2 ∨ k = 3 by omega) with rfl | rfl | rfl | rfl
  · exact ⟨bw, fun _ _ => rfl, by simp [cBack, cFor, cPutB, cB, cTick, cOk]⟩
  · refine ⟨upd bw (b * 4 + 0) (cw (c * 4 + 0)), fun j hj => ?_, by simp [cBack, cFor, cPutB, cB, cTick, cOk]⟩
    unfold upd
    rw [if_neg (by omega)]
  · refine ⟨upd (upd bw (b * 4 + 0) (cw (c * 4 + 0))) (b * 4 + 1) (cw (c * 4 + 1)), fun j hj => ?_, by simp [cBack, cFor, cPutB, cB, cTick, cOk]⟩
    unfold upd
    rw [if_neg (by omega), if_neg (by omega)]
  · refine ⟨upd (upd (upd bw (b * 4 + 0) (cw (c * 4 + 0))) (b * 4 + 1) (cw (c * 4 + 1))) (b * 4 + 2) (cw (c * 4 + 2)), fun j hj => ?_, by simp [cBack, cFor, cPutB, cB, cTick, cOk]⟩
    unfold upd
    rw [if_neg (by omega), if_neg (by omega), if_neg (by omega)]
end CL
theorem fst_congr {p q : Nat → Bool} : ∀ {n k : Nat}, (∀ j, k ≤ j → j < k + n → p j = q j) → fst p n k = fst q n k := by
  intro n
  induction n with
  | zero => intro k _; rfl
  | succ n ih =>
    intro k h
    unfold fst
    rw [h k (Nat.le_refl _) (by omega), ih (fun j g1 g2 => h j (by omega) (by omega))]
/-- the words that places read -/
def rWo (bw cw ts tb st wo : Nat → Int32) : Prop := ∀ s, s < 3 → st s ≠ 0 → ∀ b, b < 6 → ∀ i, i < 4 → wo (24 * s + 4 * b + i) = cWord bw cw ts tb st s b i
def rB (bw cw ts tb st : Nat → Int32) (la : Nat) (wo : Nat → Int32) (th : Nat → Bool) (ow : Nat → Nat) : Prop := iAll la ts tb st ∧ rOw ts tb st th ow ∧ rWo bw cw ts tb st wo
section CP
variable {bw cw ts tb st wo : Nat → Int32} {la : Nat} {th : Nat → Bool} {ow : Nat → Nat}
/-- a new tag at a free copy block c: of place s, block b, which s shared -/
theorem tag_find {s b c : Nat} (hI : iAll la ts tb st) (hs : s < 3) (h0 : st s ≠ 0) (hb : b < 6) (hc : c < 9) (hf : cFree ts st c = true) (hn : cFind ts tb st s b = none) :
    cFind (upd ts c (st s)) (upd tb c (nI b)) st s b = some c ∧ ∀ s', s' < 3 → ∀ b', b' < 6 → (s' ≠ s ∨ b' ≠ b) → cFind (upd ts c (st s)) (upd tb c (nI b)) st s' b' = cFind ts tb st s' b' := by
  have hfr := free_iff.mp hf
  constructor
  · unfold cFind
    rw [if_neg h0]
    refine fst_intro (by omega) (by omega) ?_ ?_
    · simp [cTag, upd]
    · intro j g1 g2
      have := find_none hn h0 (c := j) (by omega)
      simp only [cTag, decide_eq_false_iff_not]
      unfold upd
      rw [if_neg (by omega), if_neg (by omega)]
      exact this
  · intro s' hs' b' hb' hne
    unfold cFind
    by_cases h0' : st s' = 0
    · rw [if_pos h0', if_pos h0']
    · rw [if_neg h0', if_neg h0']
      refine fst_congr fun j g1 g2 => ?_
      unfold cTag
      by_cases hj : j = c
      · subst hj
        have e1 : ¬ (ts j = st s' ∧ tb j = nI b') := fun z => hfr s' hs' z.1
        have e2 : ¬ (upd ts j (st s) j = st s' ∧ upd tb j (nI b) j = nI b') := by
          simp only [upd, if_true]
          rintro ⟨z1, z2⟩
          have es := hI.2.2.2.2.1 s hs s' hs' h0 z1
          have eb := (nI_eq (a := b) (b := b') (by omega) (by omega)).mp z2
          rcases hne with h | h
          · exact h es.symm
          · exact h eb.symm
        simp [e1, e2]
      · simp [upd, hj]
theorem tag_all {s b c : Nat} (hI : iAll la ts tb st) (hs : s < 3) (h0 : st s ≠ 0) (hb : b < 6) (hc : c < 9) (hf : cFree ts st c = true) (hn : cFind ts tb st s b = none) : iAll la (upd ts c (st s)) (upd tb c (nI b)) st := by
  have hfr := free_iff.mp hf
  obtain ⟨h1, h2, h3, h4, h5, h6⟩ := hI
  refine ⟨h1, h2, fun j hj => ?_, fun j hj => ?_, h5, fun s' hs' h0' j hj j' hj' e1 e2 e3 => ?_⟩
  · by_cases e : j = c
    · subst e
      rcases h2 s hs with z | ⟨k, g1, g2, g3⟩
      · exact absurd z h0
      · exact Or.inr ⟨k, g1, g2, by simp [upd, g3]⟩
    · simp only [upd, if_neg e]
      exact h3 j hj
  · by_cases e : j = c
    · subst e
      exact ⟨b, hb, by simp [upd]⟩
    · simp only [upd, if_neg e]
      exact h4 j hj
  · by_cases z1 : j = c <;> by_cases z2 : j' = c
    · omega
    · subst z1
      simp only [upd, if_true, if_neg z2] at e1 e2 e3
      have es := h5 s hs s' hs' h0 e1
      subst es
      exact absurd ⟨e2, e3.symm⟩ (find_none hn h0 hj')
    · subst z2
      simp only [upd, if_true, if_neg z1] at e1 e2 e3
      have es := h5 s hs s' hs' h0 e2
      subst es
      exact absurd ⟨e1, e3⟩ (find_none hn h0 hj)
    · simp only [upd, if_neg z1, if_neg z2] at e1 e2 e3
      exact h6 s' hs' h0' j hj j' hj' e1 e2 e3
theorem tag_free {s c : Nat} (hs : s < 3) (hc : c < 9) (hf : cFree ts st c = true) (b : Nat) : cNF (upd ts c (st s)) st + 1 = cNF ts st := by
  have h1 : ∀ j, cFree (upd ts c (st s)) st j = (cFree ts st j && ! decide (j = c)) := by
    intro j
    by_cases e : j = c
    · subst e
      have : cFree (upd ts j (st s)) st j = false := by
        cases z : cFree (upd ts j (st s)) st j
        · rfl
        · exact absurd (by simp [upd]) (free_iff.mp z s hs)
      rw [this]; simp
    · have : cFree (upd ts c (st s)) st j = cFree ts st j := by simp [cFree, upd, e]
      rw [this]; simp [e]
  have h2 : ∀ n, cnt (fun j => cFree ts st j && ! decide (j = c)) n + (if c < n then 1 else 0) = cnt (cFree ts st) n := by
    intro n
    induction n with
    | zero => rfl
    | succ n ih =>
      unfold cnt
      by_cases e : n = c
      · subst e
        rw [hf]
        simp at ih ⊢
        omega
      · have e2 : (c < n + 1) ↔ (c < n) := by omega
        simp only [e2]
        have e3 : (decide (n = c)) = false := by simp [e]
        rw [e3]
        simp only [Bool.not_false, Bool.and_true]
        omega
  have h3 := h2 9
  rw [if_pos hc] at h3
  unfold cNF
  rw [cnt_congr (fun j _ => h1 j)]
  exact h3
/-- one copy, made whole: the class's state goes with the reference's -/
theorem copy_rel {s b c : Nat} {g wo' : Nat → Int32} (hB : rB bw cw ts tb st la wo th ow) (hs : s < 3) (h0 : st s ≠ 0) (hb : b < 6) (hc : cLF ts st = some c) (hn : cFind ts tb st s b = none)
    (hg : ∀ i, i < 4 → wo' (24 * s + 4 * b + i) = g i) (hw : ∀ j, j < 24 * s + 4 * b ∨ 24 * s + 4 * b + 4 ≤ j → wo' j = wo j) :
    rB bw (cC cw c g) (upd ts c (st s)) (upd tb c (nI b)) st la wo' th (va_up ow (6 * s + b) (mLow th ow)) := by
  obtain ⟨hI, hO, hW⟩ := hB
  obtain ⟨-, c9, hf, -⟩ := fst_some (show fst (cFree ts st) 9 0 = some c from hc)
  have c9 : c < 9 := by omega
  obtain ⟨hF1, hF2⟩ := tag_find hI hs h0 hb c9 hf hn
  refine ⟨tag_all hI hs h0 hb c9 hf hn, ⟨hO.1, fun s' hs' h0' b' hb' => ?_⟩, fun s' hs' h0' b' hb' i hi => ?_⟩
  · rw [low_is hI hO hc]
    by_cases e : s' = s ∧ b' = b
    · obtain ⟨rfl, rfl⟩ := e
      rw [hF1, va_up_self]
    · rw [va_up_ne _ _ (by omega), hF2 s' hs' b' hb' (by omega)]
      exact hO.2 s' hs' h0' b' hb'
  · unfold cWord
    by_cases e : s' = s ∧ b' = b
    · obtain ⟨rfl, rfl⟩ := e
      rw [hF1]
      show _ = cC cw c g (c * 4 + i)
      rw [cC_in hi, hg i hi]
    · rw [hF2 s' hs' b' hb' (by omega), hw _ (by omega), hW s' hs' h0' b' hb' i hi]
      unfold cWord
      cases hx : cFind ts tb st s' b' with
      | none => rfl
      | some c' =>
        obtain ⟨-, g2, g3, -⟩ := find_some hx
        have hne : c' ≠ c := fun z => by
          subst z
          exact absurd g3 (free_iff.mp hf s' hs')
        show cw (c' * 4 + i) = cC cw c g (c' * 4 + i)
        rw [cC_out (by omega)]
/-- a copy that was cut: nobody sees it -/
theorem cut_rel {c : Nat} {cw' : Nat → Int32} (hB : rB bw cw ts tb st la wo th ow) (hc : cLF ts st = some c) (hw : ∀ j, j < c * 4 ∨ c * 4 + 4 ≤ j → cw' j = cw j) : rB bw cw' ts tb st la wo th ow := by
  obtain ⟨hI, hO, hW⟩ := hB
  obtain ⟨-, -, hf, -⟩ := fst_some (show fst (cFree ts st) 9 0 = some c from hc)
  refine ⟨hI, hO, fun s' hs' h0' b' hb' i hi => ?_⟩
  rw [hW s' hs' h0' b' hb' i hi]
  unfold cWord
  cases hx : cFind ts tb st s' b' with
  | none => rfl
  | some c' =>
    obtain ⟨-, g2, g3, -⟩ := find_some hx
    have hne : c' ≠ c := fun z => by
      subst z
      exact absurd g3 (free_iff.mp hf s' hs')
    show cw (c' * 4 + i) = cw' (c' * 4 + i)
    rw [hw _ (by omega)]
end CP
end
section
/-! ===== copies for all sharers of a block ===== -/
def cntR (p : Nat → Bool) : Nat → Nat → Nat
  | 0, _ => 0
  | n + 1, s => (if p s then 1 else 0) + cntR p n (s + 1)
theorem cnt3 (p : Nat → Bool) : cnt p 3 = cntR p 3 0 := by
  simp only [cnt, cntR, Nat.zero_add, Nat.reduceAdd]
  omega
theorem cntR_congr {p q : Nat → Bool} : ∀ {n s : Nat}, (∀ j, s ≤ j → j < s + n → p j = q j) → cntR p n s = cntR q n s := by
  intro n
  induction n with
  | zero => intro s _; rfl
  | succ n ih =>
    intro s h
    unfold cntR
    rw [h s (Nat.le_refl _) (by omega), ih (fun j g1 g2 => h j (by omega) (by omega))]
theorem mPartL_0 (th : Nat → Bool) (b : Nat) (but : Option Nat) (n s : Nat) (ow : Nat → Nat) : mPartL th b but n s 0 ow = ow := by
  cases n with
  | zero => rfl
  | succ n => simp [mPartL]
theorem lf_some {ts st : Nat → Int32} (h : 0 < cNF ts st) : ∃ c, cLF ts st = some c := by
  cases e : cLF ts st with
  | some c => exact ⟨c, rfl⟩
  | none =>
    have h1 := fst_none (show fst (cFree ts st) 9 0 = none from e)
    have h2 : cNF ts st = 0 := cnt_zero (fun j hj => h1 j (by omega) (by omega))
    omega
/-- what copies for the block b leave as it was -/
def kFind (b : Nat) (ts tb ts' tb' st : Nat → Int32) : Prop := ∀ s, s < 3 → ∀ b', b' < 6 → (b' ≠ b ∨ cFind ts tb st s b' ≠ none) → cFind ts' tb' st s b' = cFind ts tb st s b'
theorem kFind.rf {b : Nat} {ts tb st : Nat → Int32} : kFind b ts tb ts tb st := fun _ _ _ _ _ => rfl
theorem kFind.tr {b : Nat} {ts tb ts1 tb1 ts2 tb2 st : Nat → Int32} (h1 : kFind b ts tb ts1 tb1 st) (h2 : kFind b ts1 tb1 ts2 tb2 st) : kFind b ts tb ts2 tb2 st := fun s hs b' hb' h => by
  have e1 := h1 s hs b' hb' h
  rw [h2 s hs b' hb' (by rw [e1]; exact h), e1]
theorem shares_iff {ts tb st : Nat → Int32} {b s : Nat} : cShares ts tb st b s = true ↔ st s ≠ 0 ∧ cFind ts tb st s b = none := by
  simp [cShares]
set_option maxHeartbeats 1000000 in
theorem copies_run {b : Nat} {but : Option Nat} {st : Nat → Int32} {la : Nat} {wo : Nat → Int32} {th : Nat → Bool} (hb : b < 6) : ∀ (n s acc : Nat) (bw cw ts tb : Nat → Int32) (ro mr : Nat) (fu : Option Nat) (dn : Bool) (wr : Nat) (ow : Nat → Nat), s + n = 3 → rB bw cw ts tb st la wo th ow → (∀ s', s' < 3 → mIsS th but ow b s' = cShares ts tb st b s') → cntR (cShares ts tb st b) n s ≤ cNF ts st →
    (fL fu (5 * cntR (cShares ts tb st b) n s) → ∃ (cw' ts' tb' : Nat → Int32) (ow' : Nat → Nat), cSum (cCopyIf b) n s acc (bw, cw, ts, tb, st, ro, mr, la, fu, dn, wr) = (.ok (acc + cntR (cShares ts tb st b) n s), (bw, cw', ts', tb', st, ro, mr, la, fT fu (5 * cntR (cShares ts tb st b) n s), dn, wr + 5 * cntR (cShares ts tb st b) n s)) ∧
      (∀ left, cntR (cShares ts tb st b) n s ≤ left → mPartL th b but n s left ow = ow') ∧ rB bw cw' ts' tb' st la wo th ow' ∧ kFind b ts tb ts' tb' st ∧ (∀ s', s ≤ s' → s' < 3 → cShares ts' tb' st b s' = false) ∧ (∀ s', s' < s → cShares ts' tb' st b s' = cShares ts tb st b s') ∧ cNF ts' st + cntR (cShares ts tb st b) n s = cNF ts st) ∧
    (∀ k, fu = some k → k < 5 * cntR (cShares ts tb st b) n s → ∃ (cw' ts' tb' : Nat → Int32) (ow' : Nat → Nat), cSum (cCopyIf b) n s acc (bw, cw, ts, tb, st, ro, mr, la, fu, dn, wr) = (.error 0, (bw, cw', ts', tb', st, ro, mr, la, none, true, wr + k)) ∧
      mPartL th b but n s (k / 5) ow = ow' ∧ rB bw cw' ts' tb' st la wo th ow' ∧ kFind b ts tb ts' tb' st ∧ cNF ts' st + k / 5 = cNF ts st ∧ cntR (cShares ts' tb' st b) n s + k / 5 = cntR (cShares ts tb st b) n s ∧ (∀ s', s' < s → cShares ts' tb' st b s' = cShares ts tb st b s')) := by
  intro n
  induction n with
  | zero =>
    intro s acc bw cw ts tb ro mr fu dn wr ow hsn hB hm hN
    refine ⟨fun _ => ⟨cw, ts, tb, ow, ?_, fun _ _ => rfl, hB, kFind.rf, fun s' h1 h2 => by omega, fun _ _ => rfl, by simp [cntR]⟩, fun k _ h => by simp [cntR] at h⟩
    simp [cSum, cOk, cntR, fT_0]
  | succ n ih =>
    intro s acc bw cw ts tb ro mr fu dn wr ow hsn hB hm hN
    have hs : s < 3 := by omega
    by_cases hsh : cShares ts tb st b s = true
    · obtain ⟨h0, hn⟩ := shares_iff.mp hsh
      have eN : cntR (cShares ts tb st b) (n + 1) s = 1 + cntR (cShares ts tb st b) n (s + 1) := by
        show (if cShares ts tb st b s = true then 1 else 0) + _ = _
        rw [if_pos hsh]
      rw [eN] at hN ⊢
      obtain ⟨c, hc⟩ := lf_some (ts := ts) (st := st) (by omega)
      obtain ⟨-, c9, hf, -⟩ := fst_some (show fst (cFree ts st) 9 0 = some c from hc)
      have c9 : c < 9 := by omega
      obtain ⟨hF1, hF2⟩ := tag_find hB.1 hs h0 hb c9 hf hn
      have hmS : mIsS th but ow b s = true := by rw [hm s hs]; exact hsh
      have hsum : ∀ σ, cSum (cCopyIf b) (n + 1) s acc σ = cB (cCopyIf b s) (fun d => cSum (cCopyIf b) n (s + 1) (acc + d)) σ := fun _ => rfl
      have hif : cCopyIf b s (bw, cw, ts, tb, st, ro, mr, la, fu, dn, wr) = cB (cCopy s b none 0) (fun _ => cOk 1) (bw, cw, ts, tb, st, ro, mr, la, fu, dn, wr) := by
        show (if cShares ts tb st b s = true then _ else _) = _
        rw [if_pos hsh]
      by_cases h5 : fL fu 5
      · -- the copy is made whole
        have hcp := copy_ok (bw := bw) (cw := cw) (tb := tb) (ro := ro) (mr := mr) (la := la) (dn := dn) (wr := wr) (s := s) (b := b) (rep := none) (w := 0) hc h5
        have hone : cCopyIf b s (bw, cw, ts, tb, st, ro, mr, la, fu, dn, wr) = (.ok 1, (bw, cC cw c (fun i => if (none : Option Nat) = some i then 0 else bw (b * 4 + i)), upd ts c (st s), upd tb c (nI b), st, ro, mr, la, fT fu 5, dn, wr + 5)) := by
          rw [hif, cB_ok hcp]; rfl
        have hB1 : rB bw (cC cw c (fun i => if (none : Option Nat) = some i then 0 else bw (b * 4 + i))) (upd ts c (st s)) (upd tb c (nI b)) st la wo th (va_up ow (6 * s + b) (mLow th ow)) := by
          refine copy_rel hB hs h0 hb hc hn (fun i hi => ?_) (fun _ _ => rfl)
          rw [hB.2.2 s hs h0 b hb i hi]
          unfold cWord
          rw [hn]
          simp
        have hlow := low_is hB.1 hB.2.1 hc
        have hsh1 : ∀ s', s' < 3 → s' ≠ s → cShares (upd ts c (st s)) (upd tb c (nI b)) st b s' = cShares ts tb st b s' := by
          intro s' hs' hne
          unfold cShares
          rw [hF2 s' hs' b hb (Or.inl hne)]
        have hshs : cShares (upd ts c (st s)) (upd tb c (nI b)) st b s = false := by
          unfold cShares
          rw [hF1]
          simp
        have hm1 : ∀ s', s' < 3 → mIsS th but (va_up ow (6 * s + b) (mLow th ow)) b s' = cShares (upd ts c (st s)) (upd tb c (nI b)) st b s' := by
          intro s' hs'
          by_cases e : s' = s
          · subst e
            rw [hshs]
            unfold mIsS
            rw [va_up_self, hlow]
            simp
          · rw [hsh1 s' hs' e, ← hm s' hs']
            unfold mIsS
            rw [va_up_ne _ _ (by omega)]
        have eR : cntR (cShares (upd ts c (st s)) (upd tb c (nI b)) st b) n (s + 1) = cntR (cShares ts tb st b) n (s + 1) := cntR_congr (fun j g1 g2 => hsh1 j (by omega) (by omega))
        have eF := tag_free (ts := ts) (st := st) hs c9 hf b
        obtain ⟨ih1, ih2⟩ := ih (s + 1) (acc + 1) bw _ _ _ ro mr (fT fu 5) dn (wr + 5) _ (by omega) hB1 hm1 (by rw [eR]; omega)
        rw [eR] at ih1 ih2
        have hk1 : kFind b ts tb (upd ts c (st s)) (upd tb c (nI b)) st := fun s' hs' b' hb' h => hF2 s' hs' b' hb' (by
          by_cases e : b' = b
          · subst e
            refine Or.inl (fun z => ?_)
            subst z
            rcases h with h | h
            · exact h rfl
            · exact h hn
          · exact Or.inr e)
        refine ⟨fun hL => ?_, fun k hk hlt => ?_⟩
        · obtain ⟨cw', ts', tb', ow', r1, r2, r3, r4, r5, r6, r7⟩ := ih1 (fL_T (a := 5) (by rw [show 5 + 5 * cntR (cShares ts tb st b) n (s + 1) = 5 * (1 + cntR (cShares ts tb st b) n (s + 1)) by omega]; exact hL)).2
          refine ⟨cw', ts', tb', ow', ?_, fun left hl => ?_, r3, hk1.tr r4, fun s' g1 g2 => ?_, fun s' g => ?_, by omega⟩
          · rw [hsum, cB_ok hone]
            show cSum (cCopyIf b) n (s + 1) (acc + 1) _ = _
            rw [r1, fT_T, show 5 + 5 * cntR (cShares ts tb st b) n (s + 1) = 5 * (1 + cntR (cShares ts tb st b) n (s + 1)) by omega, show acc + 1 + cntR (cShares ts tb st b) n (s + 1) = acc + (1 + cntR (cShares ts tb st b) n (s + 1)) by omega, show wr + 5 + 5 * cntR (cShares ts tb st b) n (s + 1) = wr + 5 * (1 + cntR (cShares ts tb st b) n (s + 1)) by omega]
          · have : left ≠ 0 := by omega
            show (if left = 0 then ow else if mIsS th but ow b s = true then mPartL th b but n (s + 1) (left - 1) (va_up ow (6 * s + b) (mLow th ow)) else mPartL th b but n (s + 1) left ow) = ow'
            rw [if_neg this, if_pos hmS]
            exact r2 (left - 1) (by omega)
          · by_cases e : s' = s
            · subst e
              rw [r6 s' (by omega), hshs]
            · exact r5 s' (by omega) g2
          · rw [r6 s' (by omega), hsh1 s' (by omega) (by omega)]
        · subst hk
          have hk5 : 5 ≤ k := fL_some h5
          obtain ⟨cw', ts', tb', ow', r1, r2, r3, r4, r5, r6, r7⟩ := ih2 (k - 5) rfl (by omega)
          refine ⟨cw', ts', tb', ow', ?_, ?_, r3, hk1.tr r4, by omega, ?_, fun s' g => ?_⟩
          · rw [hsum, cB_ok hone]
            show cSum (cCopyIf b) n (s + 1) (acc + 1) _ = _
            rw [r1, show wr + 5 + (k - 5) = wr + k by omega]
          · show (if k / 5 = 0 then ow else if mIsS th but ow b s = true then mPartL th b but n (s + 1) (k / 5 - 1) (va_up ow (6 * s + b) (mLow th ow)) else mPartL th b but n (s + 1) (k / 5) ow) = ow'
            rw [if_neg (by omega), if_pos hmS, show k / 5 - 1 = (k - 5) / 5 by omega]
            exact r2
          · show (if cShares ts' tb' st b s = true then 1 else 0) + _ + _ = _
            rw [r7 s (by omega), hshs]
            simp only [Bool.false_eq_true, if_false]
            omega
          · rw [r7 s' (by omega), hsh1 s' (by omega) (by omega)]
      · -- the copy is cut
        obtain ⟨k, rfl, hk⟩ : ∃ k, fu = some k ∧ k < 5 := by
          cases fu with
          | none => exact absurd (fun k e => by cases e) h5
          | some k =>
            refine ⟨k, rfl, ?_⟩
            rcases Nat.lt_or_ge k 5 with h | h
            · exact h
            · exact absurd (fun j e => by cases e; exact h) h5
        refine ⟨fun hL => ?_, fun k' e hlt => ?_⟩
        · have := fL_some hL
          omega
        · cases e
          obtain ⟨cw', hw, hcut⟩ := copy_cut (bw := bw) (cw := cw) (tb := tb) (ro := ro) (mr := mr) (la := la) (dn := dn) (wr := wr) (s := s) (b := b) (rep := none) (w := 0) hc hk
          refine ⟨cw', ts, tb, ow, ?_, ?_, cut_rel hB hc hw, kFind.rf, by omega, by show cntR _ (n + 1) s + _ = _; rw [eN]; omega, fun _ _ => rfl⟩
          · rw [hsum]
            exact cB_err (by rw [hif]; exact cB_err hcut)
          · rw [show k / 5 = 0 by omega]
            exact mPartL_0 _ _ _ _ _ _
    · have hsh : cShares ts tb st b s = false := by simpa using hsh
      have eN : cntR (cShares ts tb st b) (n + 1) s = cntR (cShares ts tb st b) n (s + 1) := by
        show (if cShares ts tb st b s = true then 1 else 0) + _ = _
        rw [hsh]
        simp
      rw [eN] at hN ⊢
      have hmS : mIsS th but ow b s = false := by rw [hm s hs]; exact hsh
      have hone : cCopyIf b s (bw, cw, ts, tb, st, ro, mr, la, fu, dn, wr) = (.ok 0, (bw, cw, ts, tb, st, ro, mr, la, fu, dn, wr)) := by
        show (if cShares ts tb st b s = true then _ else _) = _
        rw [hsh]
        rfl
      have hsum : cSum (cCopyIf b) (n + 1) s acc (bw, cw, ts, tb, st, ro, mr, la, fu, dn, wr) = cSum (cCopyIf b) n (s + 1) acc (bw, cw, ts, tb, st, ro, mr, la, fu, dn, wr) := by
        show cB (cCopyIf b s) (fun d => cSum (cCopyIf b) n (s + 1) (acc + d)) _ = _
        rw [cB_ok hone]
        rfl
      have hpart : ∀ left, mPartL th b but (n + 1) s left ow = mPartL th b but n (s + 1) left ow := by
        intro left
        show (if left = 0 then ow else if mIsS th but ow b s = true then _ else mPartL th b but n (s + 1) left ow) = _
        by_cases e : left = 0
        · subst e
          rw [if_pos rfl, mPartL_0]
        · rw [if_neg e, hmS]
          rfl
      obtain ⟨ih1, ih2⟩ := ih (s + 1) acc bw cw ts tb ro mr fu dn wr ow (by omega) hB hm hN
      refine ⟨fun hL => ?_, fun k hk hlt => ?_⟩
      · obtain ⟨cw', ts', tb', ow', r1, r2, r3, r4, r5, r6, r7⟩ := ih1 hL
        refine ⟨cw', ts', tb', ow', by rw [hsum]; exact r1, fun left hl => by rw [hpart]; exact r2 left hl, r3, r4, fun s' g1 g2 => ?_, fun s' g => r6 s' (by omega), r7⟩
        by_cases e : s' = s
        · subst e
          rw [r6 s' (by omega)]
          exact hsh
        · exact r5 s' (by omega) g2
      · obtain ⟨cw', ts', tb', ow', r1, r2, r3, r4, r5, r6, r7⟩ := ih2 k hk hlt
        refine ⟨cw', ts', tb', ow', by rw [hsum]; exact r1, by rw [hpart]; exact r2, r3, r4, r5, ?_, fun s' g => r7 s' (by omega)⟩
        show (if cShares ts' tb' st b s = true then 1 else 0) + _ + _ = _
        rw [r7 s (by omega), hsh]
        simp only [Bool.false_eq_true, if_false]
        omega
end
section
/-! ===== merging ===== -/
def rV (bw vo : Nat → Int32) : Prop := ∀ j, j < 24 → vo j = bw j
theorem mVol_in {vo wo : Nat → Int32} {s b i : Nat} (hi : i < 4) : mVol vo wo s b 4 0 (4 * b + i) = wo (24 * s + 4 * b + i) := by
  rcases (show i = 0 ∨ i = 1 ∨ i = 2 ∨ i = 3 by omega) with rfl | rfl | rfl | rfl <;> simp [mVol, upd]
theorem mVol_out {vo wo : Nat → Int32} {s b j : Nat} (h : j < 4 * b ∨ 4 * b + 4 ≤ j) : mVol vo wo s b 4 0 j = vo j := by
  simp only [mVol, upd]
  rw [if_neg (by omega), if_neg (by omega), if_neg (by omega), if_neg (by omega)]
theorem m_is_none {ts tb st : Nat → Int32} {th : Nat → Bool} {ow : Nat → Nat} (hO : rOw ts tb st th ow) {b s : Nat} (hb : b < 6) (hs : s < 3) : mIsS th none ow b s = cShares ts tb st b s := by
  unfold mIsS cShares
  rw [hO.1 s hs]
  by_cases h0 : st s = 0
  · simp [h0]
  · rw [hO.2 s hs h0 b hb]
    cases cFind ts tb st s b <;> simp [h0]
theorem m_is_some {ts tb st : Nat → Int32} {th : Nat → Bool} {ow : Nat → Nat} (hO : rOw ts tb st th ow) {b s s0 c : Nat} (hb : b < 6) (hs : s < 3) (hf : cFind ts tb st s0 b = some c) : mIsS th (some s0) ow b s = cShares ts tb st b s := by
  rw [← m_is_none hO hb hs]
  by_cases e : s = s0
  · subst e
    rw [m_is_none hO hb hs]
    unfold cShares mIsS
    rw [hf]
    simp
  · unfold mIsS
    have e1 : (some s = some s0) = False := by simp [e]
    simp [e]
theorem ns_R (ts tb st : Nat → Int32) (b : Nat) : cNS ts tb st b = cntR (cShares ts tb st b) 3 0 := cnt3 _
section MG
variable {bw cw ts tb st wo vo : Nat → Int32} {la ro mr : Nat} {fu : Option Nat} {dn : Bool} {wr : Nat} {th : Nat → Bool} {ow : Nat → Nat}
/-- block b is put back where no place shares it -/
theorem back_rel {b : Nat} {bw' : Nat → Int32} (hB : rB bw cw ts tb st la wo th ow) (hsh : ∀ s, s < 3 → cShares ts tb st b s = false) (hw : ∀ j, j < b * 4 ∨ b * 4 + 4 ≤ j → bw' j = bw j) : rB bw' cw ts tb st la wo th ow := by
  refine ⟨hB.1, hB.2.1, fun s hs h0 b' hb' i hi => ?_⟩
  rw [hB.2.2 s hs h0 b' hb' i hi]
  unfold cWord
  cases hx : cFind ts tb st s b' with
  | some c => rfl
  | none =>
    have hne : b' ≠ b := fun e => by
      subst e
      have := hsh s hs
      unfold cShares at this
      rw [hx] at this
      simp [h0] at this
    show bw (b' * 4 + i) = bw' (b' * 4 + i)
    rw [hw _ (by omega)]
theorem merge1_ok {s b c : Nat} (hB : rB bw cw ts tb st la wo th ow) (hs : s < 3) (hb : b < 6) (hf : cFind ts tb st s b = some c) (hN : cNS ts tb st b ≤ cNF ts st) (hL : fL fu (5 * cNS ts tb st b + 5)) (hV : ∀ j, j < 24 → (j < 4 * b ∨ 4 * b + 4 ≤ j) → vo j = bw j) :
    ∃ (bw' cw' ts' tb' : Nat → Int32), cMerge1 s b (bw, cw, ts, tb, st, ro, mr, la, fu, dn, wr) = (.ok 1, (bw', cw', ts', tb', st, ro, b + 1, la, fT fu (5 * cNS ts tb st b + 5), dn, wr + (5 * cNS ts tb st b + 5))) ∧
      rB bw' cw' ts' tb' st la wo th (mPart th ow b (some s) 3) ∧ rV bw' (mVol vo wo s b 4 0) ∧ kFind b ts tb ts' tb' st ∧ cNF ts' st + cNS ts tb st b = cNF ts st := by
  have hN3 : cntR (cShares ts tb st b) 3 0 ≤ 3 := by
    rw [← cnt3]; exact cnt_le _ 3
  rw [ns_R] at hN hL ⊢
  obtain ⟨hL1, hL2⟩ := fL_T hL
  obtain ⟨hL3, hL4⟩ := fL_T (a := 4) (b := 1) hL2
  obtain ⟨cw', ts', tb', ow', r1, r2, r3, r4, r5, r6, r7⟩ := (copies_run (but := some s) (wo := wo) (th := th) hb 3 0 0 bw cw ts tb ro mr fu dn wr ow rfl hB (fun s' hs' => m_is_some hB.2.1 hb hs' hf) hN).1 hL1
  have hf' : cFind ts' tb' st s b = some c := by rw [r4 s hs b hb (Or.inr (by rw [hf]; exact fun z => by cases z)), hf]
  have hsh : ∀ s', s' < 3 → cShares ts' tb' st b s' = false := fun s' hs' => r5 s' (Nat.zero_le _) hs'
  have eow : mPart th ow b (some s) 3 = ow' := r2 3 hN3
  refine ⟨cC bw b (fun i => cw' (c * 4 + i)), cw', ts', tb', ?_, ?_, fun j hj => ?_, r4, r7⟩
  · show (match cFind ts tb st s b with
      | none => (Except.ok 0, (bw, cw, ts, tb, st, ro, mr, la, fu, dn, wr))
      | some c => cB (cCopies b) (fun _ => cB (cBack b c) (fun _ => cB (cPutM (b + 1)) (fun _ => cOk 1))) (bw, cw, ts, tb, st, ro, mr, la, fu, dn, wr)) = _
    rw [hf]
    show cB (cCopies b) (fun _ => cB (cBack b c) (fun _ => cB (cPutM (b + 1)) (fun _ => cOk 1))) (bw, cw, ts, tb, st, ro, mr, la, fu, dn, wr) = _
    rw [cB_ok (show cCopies b (bw, cw, ts, tb, st, ro, mr, la, fu, dn, wr) = _ from r1), cB_ok (back_ok hL3)]
    have hp : cPutM (b + 1) (cC bw b (fun i => cw' (c * 4 + i)), cw', ts', tb', st, ro, mr, la, fT (fT fu (5 * cntR (cShares ts tb st b) 3 0)) 4, dn, wr + 5 * cntR (cShares ts tb st b) 3 0 + 4) = (.ok (), (cC bw b (fun i => cw' (c * 4 + i)), cw', ts', tb', st, ro, b + 1, la, fT fu (5 * cntR (cShares ts tb st b) 3 0 + 5), dn, wr + (5 * cntR (cShares ts tb st b) 3 0 + 5))) := by
      unfold cPutM
      rw [cB_ok (tick_ok hL4)]
      rw [fT_T, fT_T]
      rfl
    rw [cB_ok hp]
    rfl
  · rw [eow]
    exact back_rel r3 hsh (fun j hj => cC_out hj)
  · have ej : 4 * (j / 4) + j % 4 = j := by omega
    by_cases e : j / 4 = b
    · have h1 : mVol vo wo s b 4 0 j = wo (24 * s + 4 * b + j % 4) := by
        have := mVol_in (vo := vo) (wo := wo) (s := s) (b := b) (i := j % 4) (by omega)
        rw [show 4 * b + j % 4 = j by omega] at this
        exact this
      have h2 : cC bw b (fun i => cw' (c * 4 + i)) j = cw' (c * 4 + j % 4) := by
        have := cC_in (f := bw) (g := fun i => cw' (c * 4 + i)) (c := b) (i := j % 4) (by omega)
        rw [show b * 4 + j % 4 = j by omega] at this
        exact this
      rw [h1, h2, r3.2.2 s hs (find_some hf).1 b hb (j % 4) (by omega)]
      unfold cWord
      rw [hf']
    · rw [mVol_out (by omega), cC_out (by omega)]
      exact hV j hj (by omega)
theorem merge1_cut {s b c k : Nat} (hB : rB bw cw ts tb st la wo th ow) (hs : s < 3) (hb : b < 6) (hf : cFind ts tb st s b = some c) (hN : cNS ts tb st b ≤ cNF ts st) (hk : k < 5 * cNS ts tb st b + 5) (hV : ∀ j, j < 24 → (j < 4 * b ∨ 4 * b + 4 ≤ j) → vo j = bw j) :
    ∃ (bw' cw' ts' tb' : Nat → Int32) (d : Nat), cMerge1 s b (bw, cw, ts, tb, st, ro, mr, la, some k, dn, wr) = (.error 0, (bw', cw', ts', tb', st, ro, mr, la, none, true, wr + k)) ∧ d = (if k / 5 < cNS ts tb st b then k / 5 else cNS ts tb st b) ∧
      rB bw' cw' ts' tb' st la wo th (mPart th ow b (some s) d) ∧ (∀ j, j < 24 → (j < 4 * b ∨ 4 * b + 4 ≤ j) → vo j = bw' j) ∧ kFind b ts tb ts' tb' st ∧ cNF ts' st + d = cNF ts st ∧ cNS ts' tb' st b + d = cNS ts tb st b := by
  have hN3 : cntR (cShares ts tb st b) 3 0 ≤ 3 := by
    rw [← cnt3]; exact cnt_le _ 3
  rw [ns_R] at hN hk ⊢
  have hmerge : ∀ fu', cMerge1 s b (bw, cw, ts, tb, st, ro, mr, la, fu', dn, wr) = cB (cCopies b) (fun _ => cB (cBack b c) (fun _ => cB (cPutM (b + 1)) (fun _ => cOk 1))) (bw, cw, ts, tb, st, ro, mr, la, fu', dn, wr) := by
    intro fu'
    show (match cFind ts tb st s b with
      | none => (Except.ok 0, (bw, cw, ts, tb, st, ro, mr, la, fu', dn, wr))
      | some c => cB (cCopies b) (fun _ => cB (cBack b c) (fun _ => cB (cPutM (b + 1)) (fun _ => cOk 1))) (bw, cw, ts, tb, st, ro, mr, la, fu', dn, wr)) = _
    rw [hf]
  have hrun := copies_run (but := some s) (wo := wo) (th := th) hb 3 0 0 bw cw ts tb ro mr (some k) dn wr ow rfl hB (fun s' hs' => m_is_some hB.2.1 hb hs' hf) hN
  rcases Nat.lt_or_ge k (5 * cntR (cShares ts tb st b) 3 0) with h5 | h5
  · obtain ⟨cw', ts', tb', ow', r1, r2, r3, r4, r5, r6, r7⟩ := hrun.2 k rfl h5
    refine ⟨bw, cw', ts', tb', k / 5, ?_, (if_pos (by omega)).symm, ?_, hV, r4, r5, ?_⟩
    · rw [hmerge]
      exact cB_err (show cCopies b (bw, cw, ts, tb, st, ro, mr, la, some k, dn, wr) = _ from r1)
    · rw [show mPart th ow b (some s) (k / 5) = ow' from r2]
      exact r3
    · rw [ns_R]; exact r6
  · obtain ⟨cw', ts', tb', ow', r1, r2, r3, r4, r5, r6, r7⟩ := hrun.1 (fun j e => by cases e; exact h5)
    have hsh : ∀ s', s' < 3 → cShares ts' tb' st b s' = false := fun s' hs' => r5 s' (Nat.zero_le _) hs'
    have hns : cNS ts' tb' st b = 0 := cnt_zero (fun j hj => hsh j hj)
    have e0 : cCopies b (bw, cw, ts, tb, st, ro, mr, la, some k, dn, wr) = (.ok (0 + cntR (cShares ts tb st b) 3 0), (bw, cw', ts', tb', st, ro, mr, la, some (k - 5 * cntR (cShares ts tb st b) 3 0), dn, wr + 5 * cntR (cShares ts tb st b) 3 0)) := r1
    have hd : cntR (cShares ts tb st b) 3 0 = (if k / 5 < cntR (cShares ts tb st b) 3 0 then k / 5 else cntR (cShares ts tb st b) 3 0) := by
      rw [if_neg (by omega)]
    rcases Nat.lt_or_ge (k - 5 * cntR (cShares ts tb st b) 3 0) 4 with h4 | h4
    · obtain ⟨bw', hw, hcut⟩ := back_cut (bw := bw) (cw := cw') (ts := ts') (tb := tb') (st := st) (ro := ro) (mr := mr) (la := la) (dn := dn) (wr := wr + 5 * cntR (cShares ts tb st b) 3 0) (b := b) (c := c) h4
      refine ⟨bw', cw', ts', tb', cntR (cShares ts tb st b) 3 0, ?_, hd, ?_, fun j hj h => ?_, r4, r7, by rw [hns]; omega⟩
      · rw [hmerge, cB_ok e0, cB_err hcut, show wr + 5 * cntR (cShares ts tb st b) 3 0 + (k - 5 * cntR (cShares ts tb st b) 3 0) = wr + k by omega]
      · rw [show mPart th ow b (some s) (cntR (cShares ts tb st b) 3 0) = ow' from r2 _ (Nat.le_refl _)]
        exact back_rel r3 hsh hw
      · rw [hw j (by omega)]
        exact hV j hj h
    · have e4 : k - 5 * cntR (cShares ts tb st b) 3 0 = 4 := by omega
      rw [e4] at e0
      have hb4 := back_ok (bw := bw) (cw := cw') (ts := ts') (tb := tb') (st := st) (ro := ro) (mr := mr) (la := la) (fu := some 4) (dn := dn) (wr := wr + 5 * cntR (cShares ts tb st b) 3 0) (b := b) (c := c) (fun j e => by cases e; exact Nat.le_refl _)
      have hp : cPutM (b + 1) (cC bw b (fun i => cw' (c * 4 + i)), cw', ts', tb', st, ro, mr, la, fT (some 4) 4, dn, wr + 5 * cntR (cShares ts tb st b) 3 0 + 4) = (.error 0, (cC bw b (fun i => cw' (c * 4 + i)), cw', ts', tb', st, ro, mr, la, none, true, wr + 5 * cntR (cShares ts tb st b) 3 0 + 4)) := rfl
      refine ⟨cC bw b (fun i => cw' (c * 4 + i)), cw', ts', tb', cntR (cShares ts tb st b) 3 0, ?_, hd, ?_, fun j hj h => ?_, r4, r7, by rw [hns]; omega⟩
      · rw [hmerge, cB_ok e0, cB_ok hb4, cB_err hp, show wr + 5 * cntR (cShares ts tb st b) 3 0 + 4 = wr + k by omega]
      · rw [show mPart th ow b (some s) (cntR (cShares ts tb st b) 3 0) = ow' from r2 _ (Nat.le_refl _)]
        exact back_rel r3 hsh (fun j hj => cC_out hj)
      · rw [cC_out (by omega)]
        exact hV j hj h
end MG
/-- copies that merging still needs; writes that it takes -/
def nd (ts tb st : Nat → Int32) (s : Nat) : Nat → Nat → Nat
  | 0, _ => 0
  | n + 1, b => (if (cFind ts tb st s b).isSome then cNS ts tb st b else 0) + nd ts tb st s n (b + 1)
def wf (ts tb st : Nat → Int32) (s : Nat) : Nat → Nat → Nat
  | 0, _ => 0
  | n + 1, b => (if (cFind ts tb st s b).isSome then 5 * cNS ts tb st b + 5 else 0) + wf ts tb st s n (b + 1)
/-- words of the volume that differ: they lie in the block at which merging stands -/
def dV (ts tb st : Nat → Int32) (s b : Nat) (bw vo : Nat → Int32) : Prop := ∀ j, j < 24 → vo j ≠ bw j → b ≤ j / 4 ∧ cFind ts tb st s (j / 4) ≠ none ∧ ∀ b', b ≤ b' → b' < j / 4 → cFind ts tb st s b' = none
theorem kFind.ns {b : Nat} {ts tb ts' tb' st : Nat → Int32} (h : kFind b ts tb ts' tb' st) {b' : Nat} (hb' : b' < 6) (hne : b' ≠ b) : cNS ts' tb' st b' = cNS ts tb st b' := by
  refine cnt_congr fun s hs => ?_
  unfold cShares
  rw [h s hs b' hb' (Or.inl hne)]
theorem kFind.nd {b : Nat} {ts tb ts' tb' st : Nat → Int32} (h : kFind b ts tb ts' tb' st) {s : Nat} (hs : s < 3) : ∀ {n b' : Nat}, b' + n = 6 → b < b' → nd ts' tb' st s n b' = nd ts tb st s n b' ∧ wf ts' tb' st s n b' = wf ts tb st s n b' := by
  intro n
  induction n with
  | zero => intro b' _ _; exact ⟨rfl, rfl⟩
  | succ n ih =>
    intro b' h1 h2
    obtain ⟨i1, i2⟩ := ih (b' := b' + 1) (by omega) (by omega)
    have e1 := h s hs b' (by omega) (Or.inl (by omega))
    have e2 := h.ns (b' := b') (by omega) (by omega)
    constructor
    · show (if (cFind ts' tb' st s b').isSome then cNS ts' tb' st b' else 0) + _ = _
      rw [e1, e2, i1]; rfl
    · show (if (cFind ts' tb' st s b').isSome then 5 * cNS ts' tb' st b' + 5 else 0) + _ = _
      rw [e1, e2, i2]; rfl
/-- the reference's restoring from block b on -/
def mRest (th : Nat → Bool) (wo : Nat → Int32) (s : Nat) : Nat → Nat → Nat → (Nat → Int32) → (Nat → Nat) → Nat × (Nat → Int32) × (Nat → Nat)
  | 0, _, a, vo, ow => (a, vo, ow)
  | n + 1, b, a, vo, ow => if mHas ow s b then mRest th wo s n (b + 1) (a + 1) (mVol vo wo s b 4 0) (mPart th ow b (some s) 3) else mRest th wo s n (b + 1) a vo ow
def mCutL (th : Nat → Bool) (wo : Nat → Int32) (s : Nat) : Nat → Nat → Nat → Nat → (Nat → Int32) → (Nat → Nat) → Nat × (Nat → Int32) × (Nat → Nat)
  | 0, _, _, mr, vo, ow => (mr, vo, ow)
  | n + 1, b, left, mr, vo, ow => if mHas ow s b then (if 5 * mShr th ow b (some s) + 5 ≤ left then mCutL th wo s n (b + 1) (left - 5 * mShr th ow b (some s) - 5) (b + 1) (mVol vo wo s b 4 0) (mPart th ow b (some s) 3)
      else (mr, vo, mPart th ow b (some s) (if left / 5 < mShr th ow b (some s) then left / 5 else mShr th ow b (some s)))) else mCutL th wo s n (b + 1) left mr vo ow
theorem has_is {ts tb st : Nat → Int32} {th : Nat → Bool} {ow : Nat → Nat} (hO : rOw ts tb st th ow) {s b : Nat} (hs : s < 3) (h0 : st s ≠ 0) (hb : b < 6) : mHas ow s b = (cFind ts tb st s b).isSome := by
  unfold mHas
  rw [hO.2 s hs h0 b hb]
  cases cFind ts tb st s b <;> simp
theorem shr_is {ts tb st : Nat → Int32} {th : Nat → Bool} {ow : Nat → Nat} (hO : rOw ts tb st th ow) {s b c : Nat} (hb : b < 6) (hf : cFind ts tb st s b = some c) : mShr th ow b (some s) = cNS ts tb st b := cnt_congr (fun _ hj => m_is_some hO hb hj hf)
set_option maxHeartbeats 1000000 in
theorem merges_ok {s : Nat} {st : Nat → Int32} {la : Nat} {wo : Nat → Int32} {th : Nat → Bool} (hs : s < 3) (h0 : st s ≠ 0) : ∀ (n b acc : Nat) (bw cw ts tb vo : Nat → Int32) (ro mr : Nat) (fu : Option Nat) (dn : Bool) (wr : Nat) (ow : Nat → Nat), b + n = 6 → mr ≤ b → (∀ b', mr ≤ b' → b' < b → cFind ts tb st s b' = none) → rB bw cw ts tb st la wo th ow → dV ts tb st s b bw vo → nd ts tb st s n b ≤ cNF ts st → fL fu (wf ts tb st s n b) →
    ∃ (bw' cw' ts' tb' vo' : Nat → Int32) (mr' acc' : Nat) (ow' : Nat → Nat), cSum (cMerge1 s) n b acc (bw, cw, ts, tb, st, ro, mr, la, fu, dn, wr) = (.ok acc', (bw', cw', ts', tb', st, ro, mr', la, fT fu (wf ts tb st s n b), dn, wr + wf ts tb st s n b)) ∧ mRest th wo s n b acc vo ow = (acc', vo', ow') ∧ rB bw' cw' ts' tb' st la wo th ow' ∧ rV bw' vo' ∧
      mr' ≤ 6 ∧ (∀ b', mr' ≤ b' → b' < 6 → cFind ts' tb' st s b' = none) ∧ (∀ k, fu = some k → mCutL th wo s n b k mr vo ow = (mr', vo', ow')) := by
  intro n
  induction n with
  | zero =>
    intro b acc bw cw ts tb vo ro mr fu dn wr ow hbn hmk hno hB hV hN hL
    refine ⟨bw, cw, ts, tb, vo, mr, acc, ow, by simp [cSum, cOk, wf, fT_0], rfl, hB, fun j hj => ?_, by omega, fun b' h1 h2 => hno b' h1 (by omega), fun _ _ => rfl⟩
    by_cases e : vo j = bw j
    · exact e
    · have := (hV j hj e).1
      omega
  | succ n ih =>
    intro b acc bw cw ts tb vo ro mr fu dn wr ow hbn hmk hno hB hV hN hL
    have hb : b < 6 := by omega
    have hsum : ∀ σ, cSum (cMerge1 s) (n + 1) b acc σ = cB (cMerge1 s b) (fun d => cSum (cMerge1 s) n (b + 1) (acc + d)) σ := fun _ => rfl
    have hhas := has_is hB.2.1 hs h0 hb
    cases hf : cFind ts tb st s b with
    | none =>
      have en : nd ts tb st s (n + 1) b = nd ts tb st s n (b + 1) := by
        show (if (cFind ts tb st s b).isSome then _ else 0) + _ = _
        rw [hf]; simp
      have ew : wf ts tb st s (n + 1) b = wf ts tb st s n (b + 1) := by
        show (if (cFind ts tb st s b).isSome then _ else 0) + _ = _
        rw [hf]; simp
      rw [en] at hN
      rw [ew] at hL ⊢
      have hone : cMerge1 s b (bw, cw, ts, tb, st, ro, mr, la, fu, dn, wr) = (.ok 0, (bw, cw, ts, tb, st, ro, mr, la, fu, dn, wr)) := by
        show (match cFind ts tb st s b with
          | none => (Except.ok 0, (bw, cw, ts, tb, st, ro, mr, la, fu, dn, wr))
          | some c => _) = _
        rw [hf]
      have hV' : dV ts tb st s (b + 1) bw vo := fun j hj hne => by
        obtain ⟨g1, g2, g3⟩ := hV j hj hne
        refine ⟨?_, g2, fun b' h1 h2 => g3 b' (by omega) h2⟩
        have : j / 4 ≠ b := fun e => g2 (by rw [e]; exact hf)
        omega
      obtain ⟨bw', cw', ts', tb', vo', mr', acc', ow', r1, r2, r3, r4, r5, r6, r7⟩ := ih (b + 1) acc bw cw ts tb vo ro mr fu dn wr ow (by omega) (by omega) (fun b' h1 h2 => by
        by_cases e : b' = b
        · rw [e]; exact hf
        · exact hno b' h1 (by omega)) hB hV' hN hL
      refine ⟨bw', cw', ts', tb', vo', mr', acc', ow', ?_, ?_, r3, r4, r5, r6, fun k hk => ?_⟩
      · rw [hsum, cB_ok hone]
        exact r1
      · show (if mHas ow s b = true then _ else mRest th wo s n (b + 1) acc vo ow) = _
        rw [hhas, hf]
        exact r2
      · show (if mHas ow s b = true then _ else mCutL th wo s n (b + 1) k mr vo ow) = _
        rw [hhas, hf]
        exact r7 k hk
    | some c =>
      have en : nd ts tb st s (n + 1) b = cNS ts tb st b + nd ts tb st s n (b + 1) := by
        show (if (cFind ts tb st s b).isSome then _ else 0) + _ = _
        rw [hf]; simp
      have ew : wf ts tb st s (n + 1) b = (5 * cNS ts tb st b + 5) + wf ts tb st s n (b + 1) := by
        show (if (cFind ts tb st s b).isSome then _ else 0) + _ = _
        rw [hf]; simp
      rw [en] at hN
      rw [ew] at hL ⊢
      obtain ⟨hL1, hL2⟩ := fL_T hL
      have eS := shr_is hB.2.1 hb hf
      have hVb : ∀ j, j < 24 → (j < 4 * b ∨ 4 * b + 4 ≤ j) → vo j = bw j := fun j hj h => by
        by_cases e : vo j = bw j
        · exact e
        · obtain ⟨g1, g2, g3⟩ := hV j hj e
          have : b < j / 4 := by omega
          rw [g3 b (Nat.le_refl _) this] at hf
          cases hf
      obtain ⟨bw1, cw1, ts1, tb1, r1, r2, r3, r4, r5⟩ := merge1_ok (vo := vo) (ro := ro) (mr := mr) (dn := dn) (wr := wr) hB hs hb hf (by omega) hL1 hVb
      obtain ⟨k1, k2⟩ := r4.nd hs (n := n) (b' := b + 1) (by omega) (by omega)
      obtain ⟨bw', cw', ts', tb', vo', mr', acc', ow', q1, q2, q3, q4, q5, q6, q7⟩ := ih (b + 1) (acc + 1) bw1 cw1 ts1 tb1 (mVol vo wo s b 4 0) ro (b + 1) (fT fu (5 * cNS ts tb st b + 5)) dn (wr + (5 * cNS ts tb st b + 5)) _ (by omega) (Nat.le_refl _) (fun b' h1 h2 => by omega) r2 (fun j hj hne => absurd (r3 j hj) hne) (by rw [k1]; omega) (by rw [k2]; exact hL2)
      rw [k2] at q1
      refine ⟨bw', cw', ts', tb', vo', mr', acc', ow', ?_, ?_, q3, q4, q5, q6, fun k hk => ?_⟩
      · rw [hsum, cB_ok r1]
        show cSum (cMerge1 s) n (b + 1) (acc + 1) _ = _
        rw [q1, fT_T, show wr + (5 * cNS ts tb st b + 5) + wf ts tb st s n (b + 1) = wr + (5 * cNS ts tb st b + 5 + wf ts tb st s n (b + 1)) by omega]
      · show (if mHas ow s b = true then mRest th wo s n (b + 1) (acc + 1) (mVol vo wo s b 4 0) (mPart th ow b (some s) 3) else _) = _
        rw [hhas, hf]
        exact q2
      · subst hk
        have hge := fL_some hL1
        show (if mHas ow s b = true then (if 5 * mShr th ow b (some s) + 5 ≤ k then mCutL th wo s n (b + 1) (k - 5 * mShr th ow b (some s) - 5) (b + 1) (mVol vo wo s b 4 0) (mPart th ow b (some s) 3) else _) else _) = _
        rw [hhas, hf, eS]
        simp only [Option.isSome_some, if_true]
        rw [if_pos hge, show k - 5 * cNS ts tb st b - 5 = k - (5 * cNS ts tb st b + 5) by omega]
        exact q7 _ rfl
set_option maxHeartbeats 1000000 in
theorem merges_cut {s : Nat} {st : Nat → Int32} {la : Nat} {wo : Nat → Int32} {th : Nat → Bool} (hs : s < 3) (h0 : st s ≠ 0) : ∀ (n b acc k : Nat) (bw cw ts tb vo : Nat → Int32) (ro mr : Nat) (dn : Bool) (wr : Nat) (ow : Nat → Nat), b + n = 6 → mr ≤ b → (∀ b', mr ≤ b' → b' < b → cFind ts tb st s b' = none) → rB bw cw ts tb st la wo th ow → rV bw vo → nd ts tb st s n b ≤ cNF ts st → k < wf ts tb st s n b →
    ∃ (bw' cw' ts' tb' vo' : Nat → Int32) (mr' : Nat) (ow' : Nat → Nat), cSum (cMerge1 s) n b acc (bw, cw, ts, tb, st, ro, mr, la, some k, dn, wr) = (.error 0, (bw', cw', ts', tb', st, ro, mr', la, none, true, wr + k)) ∧ mCutL th wo s n b k mr vo ow = (mr', vo', ow') ∧ rB bw' cw' ts' tb' st la wo th ow' ∧ mr' ≤ 6 ∧ dV ts' tb' st s mr' bw' vo' ∧ nd ts' tb' st s (6 - mr') mr' ≤ cNF ts' st := by
  intro n
  induction n with
  | zero =>
    intro b acc k bw cw ts tb vo ro mr dn wr ow hbn hmk hno hB hV hN hk
    simp [wf] at hk
  | succ n ih =>
    intro b acc k bw cw ts tb vo ro mr dn wr ow hbn hmk hno hB hV hN hk
    have hb : b < 6 := by omega
    have hsum : ∀ σ, cSum (cMerge1 s) (n + 1) b acc σ = cB (cMerge1 s b) (fun d => cSum (cMerge1 s) n (b + 1) (acc + d)) σ := fun _ => rfl
    have hhas := has_is hB.2.1 hs h0 hb
    cases hf : cFind ts tb st s b with
    | none =>
      have en : nd ts tb st s (n + 1) b = nd ts tb st s n (b + 1) := by
        show (if (cFind ts tb st s b).isSome then _ else 0) + _ = _
        rw [hf]; simp
      have ew : wf ts tb st s (n + 1) b = wf ts tb st s n (b + 1) := by
        show (if (cFind ts tb st s b).isSome then _ else 0) + _ = _
        rw [hf]; simp
      rw [en] at hN
      rw [ew] at hk
      have hone : cMerge1 s b (bw, cw, ts, tb, st, ro, mr, la, some k, dn, wr) = (.ok 0, (bw, cw, ts, tb, st, ro, mr, la, some k, dn, wr)) := by
        show (match cFind ts tb st s b with
          | none => (Except.ok 0, (bw, cw, ts, tb, st, ro, mr, la, some k, dn, wr))
          | some c => _) = _
        rw [hf]
      obtain ⟨bw', cw', ts', tb', vo', mr', ow', r1, r2, r3, r4, r5, r6⟩ := ih (b + 1) acc k bw cw ts tb vo ro mr dn wr ow (by omega) (by omega) (fun b' h1 h2 => by
        by_cases e : b' = b
        · rw [e]; exact hf
        · exact hno b' h1 (by omega)) hB hV hN hk
      refine ⟨bw', cw', ts', tb', vo', mr', ow', ?_, ?_, r3, r4, r5, r6⟩
      · rw [hsum, cB_ok hone]
        exact r1
      · show (if mHas ow s b = true then _ else mCutL th wo s n (b + 1) k mr vo ow) = _
        rw [hhas, hf]
        exact r2
    | some c =>
      have en : nd ts tb st s (n + 1) b = cNS ts tb st b + nd ts tb st s n (b + 1) := by
        show (if (cFind ts tb st s b).isSome then _ else 0) + _ = _
        rw [hf]; simp
      have ew : wf ts tb st s (n + 1) b = (5 * cNS ts tb st b + 5) + wf ts tb st s n (b + 1) := by
        show (if (cFind ts tb st s b).isSome then _ else 0) + _ = _
        rw [hf]; simp
      rw [en] at hN
      rw [ew] at hk
      have eS := shr_is hB.2.1 hb hf
      have hmc : mCutL th wo s (n + 1) b k mr vo ow = (if 5 * cNS ts tb st b + 5 ≤ k then mCutL th wo s n (b + 1) (k - 5 * cNS ts tb st b - 5) (b + 1) (mVol vo wo s b 4 0) (mPart th ow b (some s) 3) else (mr, vo, mPart th ow b (some s) (if k / 5 < cNS ts tb st b then k / 5 else cNS ts tb st b))) := by
        show (if mHas ow s b = true then _ else _) = _
        rw [hhas, hf, eS]
        rfl
      rcases Nat.lt_or_ge k (5 * cNS ts tb st b + 5) with hlt | hge
      · obtain ⟨bw', cw', ts', tb', d, r1, rd, r2, r3, r4, r5, r6⟩ := merge1_cut (vo := vo) (ro := ro) (mr := mr) (dn := dn) (wr := wr) hB hs hb hf (by omega) hlt (fun j hj _ => hV j hj)
        refine ⟨bw', cw', ts', tb', vo, mr, _, ?_, by rw [hmc, if_neg (by omega), ← rd], r2, by omega, fun j hj hne => ?_, ?_⟩
        · rw [hsum]
          exact cB_err r1
        · have ej : j / 4 = b := by
            rcases Nat.lt_or_ge j (4 * b) with z | z
            · exact absurd (r3 j hj (Or.inl z)) hne
            · rcases Nat.lt_or_ge j (4 * b + 4) with z2 | z2
              · omega
              · exact absurd (r3 j hj (Or.inr z2)) hne
          rw [ej]
          have hnn : cFind ts tb st s b ≠ none := by rw [hf]; exact fun z => by cases z
          refine ⟨hmk, by rw [r4 s hs b hb (Or.inr hnn)]; exact hnn, fun b' h1 h2 => ?_⟩
          rw [r4 s hs b' (by omega) (Or.inl (by omega))]
          exact hno b' h1 h2
        · obtain ⟨k1, k2⟩ := r4.nd hs (n := n) (b' := b + 1) (by omega) (by omega)
          have hnd : ∀ (m b0 : Nat), b0 + m = b → mr ≤ b0 → nd ts' tb' st s (m + (n + 1)) b0 = nd ts' tb' st s (n + 1) b := by
            intro m
            induction m with
            | zero => intro b0 e _; rw [show b0 = b by omega, Nat.zero_add]
            | succ m ihm =>
              intro b0 e hm0
              rw [show m + 1 + (n + 1) = (m + (n + 1)) + 1 by omega]
              show (if (cFind ts' tb' st s b0).isSome then _ else 0) + nd ts' tb' st s (m + (n + 1)) (b0 + 1) = _
              rw [r4 s hs b0 (by omega) (Or.inl (by omega)), hno b0 hm0 (by omega), ihm (b0 + 1) (by omega) (by omega)]
              simp
          have e1 := hnd (b - mr) mr (by omega) (Nat.le_refl _)
          rw [show b - mr + (n + 1) = 6 - mr by omega] at e1
          rw [e1]
          show (if (cFind ts' tb' st s b).isSome then cNS ts' tb' st b else 0) + nd ts' tb' st s n (b + 1) ≤ _
          rw [r4 s hs b hb (Or.inr (by rw [hf]; exact fun z => by cases z)), hf, k1]
          simp only [Option.isSome_some, if_true]
          omega
      · obtain ⟨bw1, cw1, ts1, tb1, r1, r2, r3, r4, r5⟩ := merge1_ok (vo := vo) (ro := ro) (mr := mr) (fu := some k) (dn := dn) (wr := wr) hB hs hb hf (by omega) (fun j e => by cases e; exact hge) (fun j hj _ => hV j hj)
        obtain ⟨k1, k2⟩ := r4.nd hs (n := n) (b' := b + 1) (by omega) (by omega)
        obtain ⟨bw', cw', ts', tb', vo', mr', ow', q1, q2, q3, q4, q5, q6⟩ := ih (b + 1) (acc + 1) (k - (5 * cNS ts tb st b + 5)) bw1 cw1 ts1 tb1 (mVol vo wo s b 4 0) ro (b + 1) dn (wr + (5 * cNS ts tb st b + 5)) _ (by omega) (Nat.le_refl _) (fun b' h1 h2 => by omega) r2 r3 (by rw [k1]; omega) (by rw [k2]; omega)
        refine ⟨bw', cw', ts', tb', vo', mr', ow', ?_, ?_, q3, q4, q5, q6⟩
        · rw [hsum, cB_ok r1]
          show cSum (cMerge1 s) n (b + 1) (acc + 1) (bw1, cw1, ts1, tb1, st, ro, b + 1, la, some (k - (5 * cNS ts tb st b + 5)), dn, wr + (5 * cNS ts tb st b + 5)) = _
          rw [q1, show wr + (5 * cNS ts tb st b + 5) + (k - (5 * cNS ts tb st b + 5)) = wr + k by omega]
        · rw [hmc, if_pos hge, show k - 5 * cNS ts tb st b - 5 = k - (5 * cNS ts tb st b + 5) by omega]
          exact q2
end
section
/-! ===== the reference's calls: the answer (a natural, or an int), and the state behind it; the state's first part is the code ===== -/
def mWrite (b i w : Int32) : SM → Nat × SM := fun A => match A with
  | (_, dn, fu, ct, vo, wo, th, ow, ba, mr) => if dn then (0, (3, dn, fu, ct, vo, wo, th, ow, ba, mr)) else match ixI b 6, ixI i 4 with
    | some b, some i => if 9 - mUsed th ow < mShr th ow b none then (0, (2, dn, fu, ct, vo, wo, th, ow, ba, mr)) else match mLast fu ct dn (5 * mShr th ow b none + 1) with
      | (true, fu', ct', dn') => (mShr th ow b none, (0, dn', fu', ct', upd vo (4 * b + i) w, wo, th, mPart th ow b none (mShr th ow b none), ba, mr))
      | (false, fu', ct', dn') => (0, (3, dn', none, ct', vo, wo, th, mPart th ow b none (fu'.getD 0 / 5), ba, mr))
    | _, _ => (0, (1, dn, fu, ct, vo, wo, th, ow, ba, mr))
def mRead (b i : Int32) : SM → Int32 × SM := fun A => match A with
  | (_, dn, fu, ct, vo, wo, th, ow, ba, mr) => if dn then (0, (2, dn, fu, ct, vo, wo, th, ow, ba, mr)) else match ixI b 6, ixI i 4 with
    | some b, some i => (vo (4 * b + i), (0, dn, fu, ct, vo, wo, th, ow, ba, mr))
    | _, _ => (0, (1, dn, fu, ct, vo, wo, th, ow, ba, mr))
def mLE (th : Nat → Bool) : Nat := if th 0 then (if th 1 then (if th 2 then 3 else 2) else 1) else 0
def fillO (ow : Nat → Nat) (a n : Nat) : Nat → Nat := fun k => if a ≤ k ∧ k < a + n then 0 else ow k
def fillW (wo vo : Nat → Int32) (a n : Nat) : Nat → Int32 := fun k => if a ≤ k ∧ k < a + n then vo (k - a) else wo k
def mSnap : SM → Nat × SM := fun A => match A with
  | (_, dn, fu, ct, vo, wo, th, ow, ba, mr) => if dn then (0, (2, dn, fu, ct, vo, wo, th, ow, ba, mr)) else if mLE th = 3 then (0, (1, dn, fu, ct, vo, wo, th, ow, ba, mr)) else match mLast fu ct dn 1 with
    | (true, fu', ct', dn') => (mLE th, (0, dn', fu', ct', vo, fillW wo vo (24 * mLE th) 24, va_up th (mLE th) true, fillO ow (6 * mLE th) 6, ba, mr))
    | (false, _, ct', dn') => (0, (2, dn', none, ct', vo, wo, th, ow, ba, mr))
def mHasS (th : Nat → Bool) (s : Int32) : Option Nat := match ixI s 3 with
  | some k => if th k then some k else none
  | none => none
def mDrop (s : Int32) : SM → SM := fun A => match A with
  | (_, dn, fu, ct, vo, wo, th, ow, ba, mr) => if dn then (2, dn, fu, ct, vo, wo, th, ow, ba, mr) else match mHasS th s with
    | none => (1, dn, fu, ct, vo, wo, th, ow, ba, mr)
    | some s => match mLast fu ct dn 1 with
      | (true, fu', ct', dn') => (0, dn', fu', ct', vo, wo, va_up th s false, ow, ba, mr)
      | (false, _, ct', dn') => (2, dn', none, ct', vo, wo, th, ow, ba, mr)
def mReadS (s b i : Int32) : SM → Int32 × SM := fun A => match A with
  | (_, dn, fu, ct, vo, wo, th, ow, ba, mr) => if dn then (0, (3, dn, fu, ct, vo, wo, th, ow, ba, mr)) else match mHasS th s with
    | none => (0, (1, dn, fu, ct, vo, wo, th, ow, ba, mr))
    | some s => match ixI b 6, ixI i 4 with
      | some b, some i => (wo (24 * s + 4 * b + i), (0, dn, fu, ct, vo, wo, th, ow, ba, mr))
      | _, _ => (0, (2, dn, fu, ct, vo, wo, th, ow, ba, mr))
def mWriteS (s b i w : Int32) : SM → Bool × SM := fun A => match A with
  | (_, dn, fu, ct, vo, wo, th, ow, ba, mr) => if dn then (false, (4, dn, fu, ct, vo, wo, th, ow, ba, mr)) else match mHasS th s with
    | none => (false, (1, dn, fu, ct, vo, wo, th, ow, ba, mr))
    | some s => match ixI b 6, ixI i 4 with
      | some b, some i => if ow (6 * s + b) = 0 ∧ mUsed th ow = 9 then (false, (3, dn, fu, ct, vo, wo, th, ow, ba, mr)) else match mLast fu ct dn (if ow (6 * s + b) = 0 then 5 else 1) with
        | (true, fu', ct', dn') => (decide (ow (6 * s + b) = 0), (0, dn', fu', ct', vo, upd wo (24 * s + 4 * b + i) w, th, va_up ow (6 * s + b) (if ow (6 * s + b) = 0 then mLow th ow else ow (6 * s + b)), ba, mr))
        | (false, _, ct', dn') => (false, (4, dn', none, ct', vo, wo, th, ow, ba, mr))
      | _, _ => (false, (2, dn, fu, ct, vo, wo, th, ow, ba, mr))
def mNeed (th : Nat → Bool) (ow : Nat → Nat) (s : Nat) : Nat := sm (fun b => if mHas ow s b then mShr th ow b (some s) else 0) 6
def mRoll (s : Int32) : SM → Nat × SM := fun A => match A with
  | (_, dn, fu, ct, vo, wo, th, ow, ba, mr) => if dn then (0, (3, dn, fu, ct, vo, wo, th, ow, ba, mr)) else match mHasS th s with
    | none => (0, (1, dn, fu, ct, vo, wo, th, ow, ba, mr))
    | some s => if 9 - mUsed th ow < mNeed th ow s then (0, (2, dn, fu, ct, vo, wo, th, ow, ba, mr)) else match mLast fu ct dn (3 + mWF th ow s 6 0) with
      | (true, fu', ct', dn') => match mRest th wo s 6 0 0 vo ow with
        | (n, vo', ow') => (n, (0, dn', fu', ct', vo', wo, th, ow', ba, mr))
      | (false, fu', ct', dn') => if fu'.getD 0 < 2 then (0, (3, dn', none, ct', vo, wo, th, ow, ba, mr)) else match mCutL th wo s 6 0 (fu'.getD 0 - 2) 0 vo ow with
        | (mr', vo', ow') => (0, (3, dn', none, ct', vo', wo, th, ow', 1 + s, mr'))
def mRec : SM → Nat × SM := fun A => match A with
  | (_, dn, fu, ct, vo, wo, th, ow, ba, mr) => if dn then (match ba with
    | 0 => (0, (0, false, fu, ct, vo, wo, th, ow, 0, mr))
    | s + 1 => match mRest th wo s (6 - mr) mr 0 vo ow with
      | (n, vo', ow') => (n, (0, false, fu, ct + mWF th ow s (6 - mr) mr + 1, vo', wo, th, ow', 0, mr))) else (0, (1, dn, fu, ct, vo, wo, th, ow, ba, mr))
def mFuse (n : Int32) : SM → Bool × SM := fun A => match A with
  | (_, dn, fu, ct, vo, wo, th, ow, ba, mr) => if n < -1 ∨ dn = true then (false, (0, dn, fu, ct, vo, wo, th, ow, ba, mr)) else (true, (0, dn, (if n < 0 then none else some n.toNatClampNeg), ct, vo, wo, th, ow, ba, mr))
def mUsedC : SM → Nat × SM := fun A => match A with
  | (_, dn, fu, ct, vo, wo, th, ow, ba, mr) => if dn then (0, (1, dn, fu, ct, vo, wo, th, ow, ba, mr)) else (mUsed th ow, (0, dn, fu, ct, vo, wo, th, ow, ba, mr))
def mCopyOf (s b : Int32) : SM → Option Nat × SM := fun A => match A with
  | (_, dn, fu, ct, vo, wo, th, ow, ba, mr) => if dn then (some 0, (3, dn, fu, ct, vo, wo, th, ow, ba, mr)) else match mHasS th s with
    | none => (some 0, (1, dn, fu, ct, vo, wo, th, ow, ba, mr))
    | some s => match ixI b 6 with
      | some b => ((match ow (6 * s + b) with
        | 0 => none
        | c + 1 => some c), (0, dn, fu, ct, vo, wo, th, ow, ba, mr))
      | none => (some 0, (2, dn, fu, ct, vo, wo, th, ow, ba, mr))
def mPlaces : SM → Nat × SM := fun A => match A with
  | (_, dn, fu, ct, vo, wo, th, ow, ba, mr) => if dn then (0, (1, dn, fu, ct, vo, wo, th, ow, ba, mr)) else ((if th 0 then 1 else 0) + (if th 1 then 2 else 0) + (if th 2 then 4 else 0), (0, dn, fu, ct, vo, wo, th, ow, ba, mr))
def mSame (vo wo : Nat → Int32) (s b : Nat) : Bool := (List.range 4).all fun i => decide (wo (24 * s + 4 * b + i) = vo (4 * b + i))
def mChanged (s : Int32) : SM → Nat × SM := fun A => match A with
  | (_, dn, fu, ct, vo, wo, th, ow, ba, mr) => if dn then (0, (2, dn, fu, ct, vo, wo, th, ow, ba, mr)) else match mHasS th s with
    | none => (0, (1, dn, fu, ct, vo, wo, th, ow, ba, mr))
    | some s => (cnt (fun b => ! mSame vo wo s b) 6, (0, dn, fu, ct, vo, wo, th, ow, ba, mr))
/-! ===== what ties the two between calls ===== -/
def Rel (N : Nat) (σ : SV) (A : SM) : Prop := match σ, A with
  | (bw, cw, ts, tb, st, ro, mr, la, fu, dn, wr), (_, dn', fu', ct, vo, wo, th, ow, ba, mr') =>
    dn' = dn ∧ fu' = fu ∧ ct = wr ∧ (∀ k, fu = some k → k < 2 ^ 31) ∧ la ≤ N ∧ rB bw cw ts tb st la wo th ow ∧ ba = ro ∧ (dn = false → ro = 0) ∧ (ro = 0 → rV bw vo) ∧ (dn = true → fu = none) ∧
      (∀ r, ro = r + 1 → r < 3 ∧ st r ≠ 0 ∧ mr' = mr ∧ mr ≤ 6 ∧ dV ts tb st r mr bw vo ∧ nd ts tb st r (6 - mr) mr ≤ cNF ts st)
end
section
/-! ===== call by call: class and reference go together ===== -/
theorem mLast_ok {fu : Option Nat} {ct w : Nat} {dn : Bool} (h : fL fu w) : mLast fu ct dn w = (true, fT fu w, ct + w, dn) := by
  cases fu with
  | none => rfl
  | some k =>
    show (if w ≤ k then _ else _) = _
    rw [if_pos (fL_some h)]
    rfl
theorem mLast_no {k ct w : Nat} {dn : Bool} (h : k < w) : mLast (some k) ct dn w = (false, some k, ct + k, true) := by
  show (if w ≤ k then _ else _) = _
  rw [if_neg (by omega)]
theorem fL_or (fu : Option Nat) (w : Nat) : fL fu w ∨ ∃ k, fu = some k ∧ k < w := by
  cases fu with
  | none => exact Or.inl (fun k e => by cases e)
  | some k =>
    rcases Nat.lt_or_ge k w with h | h
    · exact Or.inr ⟨k, rfl, h⟩
    · exact Or.inl (fun j e => by cases e; exact h)
theorem fT_lt {fu : Option Nat} {w : Nat} (h : ∀ k, fu = some k → k < 2 ^ 31) : ∀ k, fT fu w = some k → k < 2 ^ 31 := by
  intro k e
  cases fu with
  | none => cases e
  | some j =>
    have := h j rfl
    simp [fT] at e
    omega
theorem ns_none {ts tb st : Nat → Int32} {th : Nat → Bool} {ow : Nat → Nat} (hO : rOw ts tb st th ow) {b : Nat} (hb : b < 6) : mShr th ow b none = cNS ts tb st b := cnt_congr (fun _ hj => m_is_none hO hb hj)
theorem up_ok {bw cw ts tb st : Nat → Int32} {ro mr la : Nat} {fu : Option Nat} {wr : Nat} : cUp (bw, cw, ts, tb, st, ro, mr, la, fu, false, wr) = (.ok (), (bw, cw, ts, tb, st, ro, mr, la, fu, false, wr)) := rfl
theorem up_no {bw cw ts tb st : Nat → Int32} {ro mr la : Nat} {fu : Option Nat} {wr : Nat} : cUp (bw, cw, ts, tb, st, ro, mr, la, fu, true, wr) = (.error 0, (bw, cw, ts, tb, st, ro, mr, la, fu, true, wr)) := rfl
theorem reqW_ok {b i : Int32} {b' i' : Nat} (h1 : ixI b 6 = some b') (h2 : ixI i 4 = some i') (σ : SV) : cReqW b i σ = (.ok (), σ) := by
  unfold cReqW
  rw [cB_ok (show cReqB b σ = (.ok (), σ) by unfold cReqB; rw [h1]; rfl)]
  simp only [h2]
  rfl
theorem reqW_no {b i : Int32} (h : ixI b 6 = none ∨ ixI i 4 = none) (σ : SV) : cReqW b i σ = (.error 1, σ) := by
  unfold cReqW
  cases hb : ixI b 6 with
  | none => exact cB_err (by unfold cReqB; rw [hb]; rfl)
  | some b' =>
    rw [cB_ok (show cReqB b σ = (.ok (), σ) by unfold cReqB; rw [hb]; rfl)]
    rcases h with h | h
    · rw [hb] at h; cases h
    · simp only [h]; rfl
theorem cN_of {x : Int32} {n j : Nat} (hn : n < 2 ^ 31) (h : ixI x n = some j) : cN x = j ∧ j < n := by
  obtain ⟨h1, h2⟩ := ixI_some hn h
  rw [h2]
  exact ⟨cN_nI (by omega), h1⟩
/-- both sides of an int answer: r from the class is a from the reference; codes by kc -/
def Agree {ρ τ : Type} (N : Nat) (kc : Nat → Nat) (eqv : ρ → τ → Prop) (c : Except Nat ρ × SV) (m : τ × SM) : Prop := match c with
  | (.ok r, σ) => m.2.1 = 0 ∧ eqv r m.1 ∧ Rel N σ m.2
  | (.error k, σ) => m.2.1 = kc k ∧ 0 < kc k ∧ Rel N σ m.2
def kcW (k : Nat) : Nat := match k with
  | 0 => 3
  | k => k
set_option maxHeartbeats 2000000 in
theorem op_write {N : Nat} {σ : SV} {A : SM} (hR : Rel N σ A) (b i w : Int32) : Agree N kcW (fun r a => a = r) (cWrite b i w σ) (mWrite b i w A) := by
  obtain ⟨bw, cw, ts, tb, st, ro, mr, la, fu, dn, wr⟩ := σ
  obtain ⟨co, dn', fu', ct, vo, wo, th, ow, ba, mr'⟩ := A
  obtain ⟨rfl, rfl, rfl, hfu, hla, hB, rfl, h1, h2, h3, h4⟩ := hR
  unfold cWrite
  cases dn' with
  | true =>
    rw [cB_err up_no]
    exact ⟨rfl, by decide, rfl, rfl, rfl, hfu, hla, hB, rfl, h1, h2, h3, h4⟩
  | false =>
    have hro : ba = 0 := h1 rfl
    subst hro
    rw [cB_ok up_ok]
    by_cases hix : ixI b 6 = none ∨ ixI i 4 = none
    · rw [cB_err (reqW_no hix _)]
      have hm : mWrite b i w (co, false, fu', ct, vo, wo, th, ow, 0, mr') = (0, (1, false, fu', ct, vo, wo, th, ow, 0, mr')) := by
        simp only [mWrite, Bool.false_eq_true, if_false]
        rcases hix with h | h
        · rw [h]
        · rw [h]; cases ixI b 6 <;> rfl
      rw [hm]
      exact ⟨rfl, by decide, rfl, rfl, rfl, hfu, hla, hB, rfl, h1, h2, h3, h4⟩
    · obtain ⟨b', hb⟩ : ∃ b', ixI b 6 = some b' := by
        cases h : ixI b 6 with
        | none => exact absurd (Or.inl h) hix
        | some x => exact ⟨x, rfl⟩
      obtain ⟨i', hi⟩ : ∃ i', ixI i 4 = some i' := by
        cases h : ixI i 4 with
        | none => exact absurd (Or.inr h) hix
        | some x => exact ⟨x, rfl⟩
      obtain ⟨eb, hb6⟩ := cN_of (by decide) hb
      obtain ⟨ei, hi4⟩ := cN_of (by decide) hi
      rw [cB_ok (reqW_ok hb hi _)]
      show Agree N kcW _ (cB (cReqF (cNS ts tb st (cN b))) (fun _ => cB (cCopies (cN b)) fun n => cB (cPutB (cN b) (cN i) w) fun _ => cOk n) (bw, cw, ts, tb, st, 0, mr, la, fu', false, ct)) _
      rw [eb, ei]
      have eS := ns_none hB.2.1 hb6
      have eU := used_is hB.1 hB.2.1
      have hm : mWrite b i w (co, false, fu', ct, vo, wo, th, ow, 0, mr') = (if cNF ts st < cNS ts tb st b' then (0, (2, false, fu', ct, vo, wo, th, ow, 0, mr')) else match mLast fu' ct false (5 * cNS ts tb st b' + 1) with
          | (true, fu', ct', dn') => (cNS ts tb st b', (0, dn', fu', ct', upd vo (4 * b' + i') w, wo, th, mPart th ow b' none (cNS ts tb st b'), 0, mr'))
          | (false, fu', ct', dn') => (0, (3, dn', none, ct', vo, wo, th, mPart th ow b' none (fu'.getD 0 / 5), 0, mr'))) := by
        simp only [mWrite, Bool.false_eq_true, if_false, hb, hi, eS]
        rw [show 9 - mUsed th ow = cNF ts st by omega]
        rfl
      rw [hm]
      by_cases hfree : cNF ts st < cNS ts tb st b'
      · rw [if_pos hfree, cB_err (show cReqF (cNS ts tb st b') (bw, cw, ts, tb, st, 0, mr, la, fu', false, ct) = (.error 2, _) from if_pos hfree)]
        exact ⟨rfl, by decide, rfl, rfl, rfl, hfu, hla, hB, rfl, h1, h2, h3, h4⟩
      · rw [if_neg hfree, cB_ok (show cReqF (cNS ts tb st b') (bw, cw, ts, tb, st, 0, mr, la, fu', false, ct) = (.ok (), _) from if_neg hfree)]
        have hrun := copies_run (but := none) (wo := wo) (th := th) hb6 3 0 0 bw cw ts tb 0 mr fu' false ct ow rfl hB (fun s' hs' => m_is_none hB.2.1 hb6 hs') (by rw [← ns_R]; omega)
        rw [← ns_R] at hrun
        rcases fL_or fu' (5 * cNS ts tb st b' + 1) with hL | ⟨k, rfl, hk⟩
        · obtain ⟨hL1, hL2⟩ := fL_T hL
          obtain ⟨cw', ts', tb', ow', r1, r2, r3, r4, r5, r6, r7⟩ := hrun.1 hL1
          have hsh : ∀ s', s' < 3 → cShares ts' tb' st b' s' = false := fun s' hs' => r5 s' (Nat.zero_le _) hs'
          rw [mLast_ok hL, cB_ok (show cCopies b' (bw, cw, ts, tb, st, 0, mr, la, fu', false, ct) = _ from r1)]
          have hp : cPutB b' i' w (bw, cw', ts', tb', st, 0, mr, la, fT fu' (5 * cNS ts tb st b'), false, ct + 5 * cNS ts tb st b') = (.ok (), (upd bw (b' * 4 + i') w, cw', ts', tb', st, 0, mr, la, fT fu' (5 * cNS ts tb st b' + 1), false, ct + (5 * cNS ts tb st b' + 1))) := by
            unfold cPutB
            rw [cB_ok (tick_ok hL2), fT_T]
            rfl
          rw [cB_ok hp]
          refine ⟨rfl, by simp, rfl, rfl, rfl, fT_lt hfu, hla, ?_, rfl, fun _ => rfl, fun _ j hj => ?_, fun h => (by cases h), fun r h => (by cases h)⟩
          · rw [show mPart th ow b' none (cNS ts tb st b') = ow' from r2 _ (Nat.le_refl _)]
            refine back_rel r3 hsh (fun j hj => ?_)
            unfold upd
            rw [if_neg (by omega)]
          · have := h2 rfl j hj
            unfold upd
            rw [show 4 * b' + i' = b' * 4 + i' by omega, this]
        · rw [mLast_no hk]
          rcases Nat.lt_or_ge k (5 * cNS ts tb st b') with h5 | h5
          · obtain ⟨cw', ts', tb', ow', r1, r2, r3, r4, r5, r6, r7⟩ := hrun.2 k rfl h5
            rw [cB_err (show cCopies b' (bw, cw, ts, tb, st, 0, mr, la, some k, false, ct) = _ from r1)]
            refine ⟨rfl, by decide, rfl, rfl, rfl, fun k e => (by cases e), hla, ?_, rfl, fun h => (by cases h), h2, fun _ => rfl, fun r h => (by cases h)⟩
            rw [show mPart th ow b' none ((some k).getD 0 / 5) = ow' from r2]
            exact r3
          · obtain ⟨cw', ts', tb', ow', r1, r2, r3, r4, r5, r6, r7⟩ := hrun.1 (fun j e => by cases e; exact h5)
            have ek : k = 5 * cNS ts tb st b' := by omega
            rw [cB_ok (show cCopies b' (bw, cw, ts, tb, st, 0, mr, la, some k, false, ct) = _ from r1)]
            have hp : cPutB b' i' w (bw, cw', ts', tb', st, 0, mr, la, fT (some k) (5 * cNS ts tb st b'), false, ct + 5 * cNS ts tb st b') = (.error 0, (bw, cw', ts', tb', st, 0, mr, la, none, true, ct + 5 * cNS ts tb st b')) := by
              rw [ek]
              unfold cPutB
              refine cB_err ?_
              simp [fT, cTick]
            rw [cB_err hp]
            refine ⟨rfl, by decide, rfl, rfl, by rw [ek], fun k e => (by cases e), hla, ?_, rfl, fun h => (by cases h), h2, fun _ => rfl, fun r h => (by cases h)⟩
            rw [show (some k).getD 0 / 5 = cNS ts tb st b' by simp; omega, show mPart th ow b' none (cNS ts tb st b') = ow' from r2 _ (Nat.le_refl _)]
            exact r3
end
section
def kcR (k : Nat) : Nat := match k with
  | 0 => 2
  | k => k
theorem op_read {N : Nat} {σ : SV} {A : SM} (hR : Rel N σ A) (b i : Int32) : Agree N kcR (fun r a => a = r) (cRead b i σ) (mRead b i A) := by
  obtain ⟨bw, cw, ts, tb, st, ro, mr, la, fu, dn, wr⟩ := σ
  obtain ⟨co, dn', fu', ct, vo, wo, th, ow, ba, mr'⟩ := A
  obtain ⟨rfl, rfl, rfl, hfu, hla, hB, rfl, h1, h2, h3, h4⟩ := hR
  unfold cRead
  cases dn' with
  | true =>
    rw [cB_err up_no]
    exact ⟨rfl, by decide, rfl, rfl, rfl, hfu, hla, hB, rfl, h1, h2, h3, h4⟩
  | false =>
    rw [cB_ok up_ok]
    cases hb : ixI b 6 with
    | none =>
      rw [cB_err (reqW_no (Or.inl hb) _)]
      simp only [mRead, Bool.false_eq_true, if_false, hb]
      exact ⟨rfl, by decide, rfl, rfl, rfl, hfu, hla, hB, rfl, h1, h2, h3, h4⟩
    | some b' =>
      cases hi : ixI i 4 with
      | none =>
        rw [cB_err (reqW_no (Or.inr hi) _)]
        simp only [mRead, Bool.false_eq_true, if_false, hb, hi]
        exact ⟨rfl, by decide, rfl, rfl, rfl, hfu, hla, hB, rfl, h1, h2, h3, h4⟩
      | some i' =>
        obtain ⟨eb, hb6⟩ := cN_of (by decide) hb
        obtain ⟨ei, hi4⟩ := cN_of (by decide) hi
        rw [cB_ok (reqW_ok hb hi _)]
        simp only [mRead, Bool.false_eq_true, if_false, hb, hi]
        refine ⟨rfl, ?_, rfl, rfl, rfl, hfu, hla, hB, rfl, h1, h2, h3, h4⟩
        show vo (4 * b' + i') = bw (cN b * 4 + cN i)
        rw [eb, ei, h2 (h1 rfl) _ (by omega), show 4 * b' + i' = b' * 4 + i' by omega]
theorem has_S {ts tb st : Nat → Int32} {th : Nat → Bool} {ow : Nat → Nat} (hO : rOw ts tb st th ow) (s : Int32) : (mHasS th s = none ∧ cHas st s = false) ∨ ∃ k, mHasS th s = some k ∧ cHas st s = true ∧ k < 3 ∧ s = nI k ∧ cN s = k ∧ st k ≠ 0 ∧ th k = true := by
  unfold mHasS cHas
  cases hs : ixI s 3 with
  | none => exact Or.inl ⟨rfl, rfl⟩
  | some k =>
    obtain ⟨h1, h2⟩ := ixI_some (by decide) hs
    obtain ⟨h3, -⟩ := cN_of (by decide) hs
    simp only
    rw [hO.1 k h1]
    by_cases h0 : st k = 0
    · left; simp [h0]
    · right
      refine ⟨k, by simp [h0], by simp [h0], h1, h2, h3, h0, by rw [hO.1 k h1]; simp [h0]⟩
theorem reqS_ok {bw cw ts tb st : Nat → Int32} {ro mr la : Nat} {fu : Option Nat} {dn : Bool} {wr : Nat} {s : Int32} (h : cHas st s = true) : cReqS s (bw, cw, ts, tb, st, ro, mr, la, fu, dn, wr) = (.ok (), (bw, cw, ts, tb, st, ro, mr, la, fu, dn, wr)) := if_pos h
theorem reqS_no {bw cw ts tb st : Nat → Int32} {ro mr la : Nat} {fu : Option Nat} {dn : Bool} {wr : Nat} {s : Int32} (h : cHas st s = false) : cReqS s (bw, cw, ts, tb, st, ro, mr, la, fu, dn, wr) = (.error 3, (bw, cw, ts, tb, st, ro, mr, la, fu, dn, wr)) := if_neg (by rw [h]; decide)
def kcRS (k : Nat) : Nat := match k with
  | 0 => 3
  | 1 => 2
  | _ => 1
theorem op_readS {N : Nat} {σ : SV} {A : SM} (hR : Rel N σ A) (s b i : Int32) : Agree N kcRS (fun r a => a = r) (cReadS s b i σ) (mReadS s b i A) := by
  obtain ⟨bw, cw, ts, tb, st, ro, mr, la, fu, dn, wr⟩ := σ
  obtain ⟨co, dn', fu', ct, vo, wo, th, ow, ba, mr'⟩ := A
  obtain ⟨rfl, rfl, rfl, hfu, hla, hB, rfl, h1, h2, h3, h4⟩ := hR
  unfold cReadS
  cases dn' with
  | true =>
    rw [cB_err up_no]
    exact ⟨rfl, by decide, rfl, rfl, rfl, hfu, hla, hB, rfl, h1, h2, h3, h4⟩
  | false =>
    rw [cB_ok up_ok]
    rcases has_S hB.2.1 s with ⟨e1, e2⟩ | ⟨k, e1, e2, k3, rfl, ek, k0, kt⟩
    · rw [cB_err (reqS_no e2)]
      simp only [mReadS, Bool.false_eq_true, if_false, e1]
      exact ⟨rfl, by decide, rfl, rfl, rfl, hfu, hla, hB, rfl, h1, h2, h3, h4⟩
    · rw [cB_ok (reqS_ok e2)]
      cases hb : ixI b 6 with
      | none =>
        rw [cB_err (reqW_no (Or.inl hb) _)]
        simp only [mReadS, Bool.false_eq_true, if_false, e1, hb]
        exact ⟨rfl, by decide, rfl, rfl, rfl, hfu, hla, hB, rfl, h1, h2, h3, h4⟩
      | some b' =>
        cases hi : ixI i 4 with
        | none =>
          rw [cB_err (reqW_no (Or.inr hi) _)]
          simp only [mReadS, Bool.false_eq_true, if_false, e1, hb, hi]
          exact ⟨rfl, by decide, rfl, rfl, rfl, hfu, hla, hB, rfl, h1, h2, h3, h4⟩
        | some i' =>
          obtain ⟨eb, hb6⟩ := cN_of (by decide) hb
          obtain ⟨ei, hi4⟩ := cN_of (by decide) hi
          rw [cB_ok (reqW_ok hb hi _)]
          simp only [mReadS, Bool.false_eq_true, if_false, e1, hb, hi]
          refine ⟨rfl, ?_, rfl, rfl, rfl, hfu, hla, hB, rfl, h1, h2, h3, h4⟩
          show wo (24 * k + 4 * b' + i') = cWord bw cw ts tb st (cN (nI k)) (cN b) (cN i)
          rw [ek, eb, ei, hB.2.2 k k3 k0 b' hb6 i' hi4]
theorem le_is {ts tb st : Nat → Int32} {th : Nat → Bool} {ow : Nat → Nat} (hO : rOw ts tb st th ow) : (cLE st = none ∧ mLE th = 3) ∨ ∃ s, s < 3 ∧ cLE st = some s ∧ mLE th = s ∧ st s = 0 := by
  have t0 := hO.1 0 (by decide)
  have t1 := hO.1 1 (by decide)
  have t2 := hO.1 2 (by decide)
  unfold mLE
  rw [t0, t1, t2]
  by_cases h0 : st 0 = 0
  · right; exact ⟨0, by decide, by simp [cLE, fst, h0], by simp [h0], h0⟩
  · by_cases h1 : st 1 = 0
    · right; exact ⟨1, by decide, by simp [cLE, fst, h0, h1], by simp [h0, h1], h1⟩
    · by_cases h2 : st 2 = 0
      · right; exact ⟨2, by decide, by simp [cLE, fst, h0, h1, h2], by simp [h0, h1, h2], h2⟩
      · left; exact ⟨by simp [cLE, fst, h0, h1, h2], by simp [h0, h1, h2]⟩
theorem find_st {ts tb st st' : Nat → Int32} {s b : Nat} (h : st' s = st s) : cFind ts tb st' s b = cFind ts tb st s b := by
  unfold cFind
  rw [h]
  by_cases h0 : st s = 0
  · rw [if_pos h0, if_pos h0]
  · rw [if_neg h0, if_neg h0]
    refine fst_congr fun j _ _ => ?_
    unfold cTag
    rw [h]
theorem fillW_in {wo vo : Nat → Int32} {a n k : Nat} (h : k < n) : fillW wo vo a n (a + k) = vo k := by
  unfold fillW
  rw [if_pos ⟨by omega, by omega⟩]
  congr 1
  omega
theorem fillW_out {wo vo : Nat → Int32} {a n k : Nat} (h : k < a ∨ a + n ≤ k) : fillW wo vo a n k = wo k := if_neg (by omega)
theorem fillO_in {ow : Nat → Nat} {a n k : Nat} (h : k < n) : fillO ow a n (a + k) = 0 := if_pos ⟨by omega, by omega⟩
theorem fillO_out {ow : Nat → Nat} {a n k : Nat} (h : k < a ∨ a + n ≤ k) : fillO ow a n k = ow k := if_neg (by omega)
def kcS (k : Nat) : Nat := match k with
  | 0 => 2
  | _ => 1
set_option maxHeartbeats 1000000 in
theorem op_snap {N : Nat} {σ : SV} {A : SM} (hR : Rel N σ A) (hN : N + 1 < 2 ^ 30) : Agree (N + 1) kcS (fun r a => a = r) (cSnap σ) (mSnap A) := by
  obtain ⟨bw, cw, ts, tb, st, ro, mr, la, fu, dn, wr⟩ := σ
  obtain ⟨co, dn', fu', ct, vo, wo, th, ow, ba, mr'⟩ := A
  obtain ⟨rfl, rfl, rfl, hfu, hla, hB, rfl, h1, h2, h3, h4⟩ := hR
  unfold cSnap
  cases dn' with
  | true =>
    rw [cB_err up_no]
    exact ⟨rfl, by decide, rfl, rfl, rfl, hfu, by omega, hB, rfl, h1, h2, h3, h4⟩
  | false =>
    have hro : ba = 0 := h1 rfl
    subst hro
    rw [cB_ok up_ok]
    rcases le_is hB.2.1 with ⟨e1, e2⟩ | ⟨s, hs, e1, e2, hst⟩
    · simp only [mSnap, Bool.false_eq_true, if_false, e1, e2, if_true]
      exact ⟨rfl, by decide, rfl, rfl, rfl, hfu, by omega, hB, rfl, h1, h2, h3, h4⟩
    · have ne3 : ¬ s = 3 := by omega
      simp only [mSnap, Bool.false_eq_true, if_false, e1, e2, ne3]
      rcases fL_or fu' 1 with hL | ⟨k, rfl, hk⟩
      · rw [mLast_ok hL]
        have hp : cPutS s (nI (la + 1)) (bw, cw, ts, tb, st, 0, mr, la, fu', false, ct) = (.ok (), (bw, cw, ts, tb, upd st s (nI (la + 1)), 0, mr, la, fT fu' 1, false, ct + 1)) := by
          unfold cPutS
          rw [cB_ok (tick_ok hL)]
        rw [cB_ok hp]
        show Agree (N + 1) kcS (fun r a => a = r) (.ok s, (bw, cw, ts, tb, upd st s (nI (la + 1)), 0, mr, la + 1, fT fu' 1, false, ct + 1)) _
        obtain ⟨hI, hO, hW⟩ := hB
        obtain ⟨i1, i2, i3, i4, i5, i6⟩ := id hI
        have hnew : ∀ k, k ≤ la → nI (la + 1) ≠ nI k := fun k hk => nI_ne (by omega) (by omega) (by omega)
        have hn0 : nI (la + 1) ≠ 0 := nI_ne (b := 0) (by omega) (by decide) (by omega)
        have hts : ∀ c, c < 9 → ts c ≠ nI (la + 1) := fun c hc e => by
          rcases i3 c hc with z | ⟨k, -, g2, z⟩
          · rw [z] at e
            have := congrArg Int32.toInt e
            rw [nI_toInt (by omega)] at this
            have e2 : (-1 : Int32).toInt = -1 := by decide
            rw [e2] at this
            omega
          · exact hnew k g2 (e.symm.trans z)
        have hs' : ∀ s', s' < 3 → s' ≠ s → upd st s (nI (la + 1)) s' = st s' := fun s' _ h => by unfold upd; rw [if_neg h]
        have hss : upd st s (nI (la + 1)) s = nI (la + 1) := by simp [upd]
        have hfs : ∀ b, cFind ts tb (upd st s (nI (la + 1))) s b = none := fun b => by
          unfold cFind
          rw [hss, if_neg hn0]
          refine fst_nil fun j _ hj => ?_
          unfold cTag
          rw [hss]
          simp [hts j (by omega)]
        refine ⟨rfl, rfl, rfl, rfl, rfl, fT_lt hfu, by omega, ⟨⟨by omega, fun s' hs3 => ?_, fun c hc => ?_, i4, fun a ha b hb h0 e => ?_, fun a ha h0 c hc c' hc' g1 g2 g3 => ?_⟩, ⟨fun a ha => ?_, fun a ha h0 b hb => ?_⟩, fun a ha h0 b hb i hi => ?_⟩, rfl, fun _ => rfl, h2, fun h => (by cases h), fun r h => (by cases h)⟩
        · by_cases e : s' = s
          · subst e; exact Or.inr ⟨la + 1, by omega, by omega, hss⟩
          · rw [hs' s' hs3 e]
            rcases i2 s' hs3 with z | ⟨k, z1, z2, z3⟩
            · exact Or.inl z
            · exact Or.inr ⟨k, z1, by omega, z3⟩
        · rcases i3 c hc with z | ⟨k, z1, z2, z3⟩
          · exact Or.inl z
          · exact Or.inr ⟨k, z1, by omega, z3⟩
        · have hold : ∀ a, a < 3 → a ≠ s → st a ≠ nI (la + 1) := fun a ha _ z => by
            rcases i2 a ha with y | ⟨k, -, y2, y3⟩
            · rw [y] at z; exact hn0 z.symm
            · exact hnew k y2 (z.symm.trans y3)
          by_cases ea : a = s <;> by_cases eb : b = s
          · omega
          · subst ea
            rw [hss, hs' b hb eb] at e
            exact absurd e.symm (hold b hb eb)
          · subst eb
            rw [hss, hs' a ha ea] at e
            exact absurd e (hold a ha ea)
          · rw [hs' a ha ea] at h0 e
            rw [hs' b hb eb] at e
            exact i5 a ha b hb h0 e
        · by_cases ea : a = s
          · subst ea
            rw [hss] at g1
            exact absurd g1 (hts c hc)
          · rw [hs' a ha ea] at h0 g1 g2
            exact i6 a ha h0 c hc c' hc' g1 g2 g3
        · by_cases ea : a = s
          · subst ea
            rw [va_up_self, hss]
            simp [hn0]
          · rw [va_up_ne _ _ ea, hs' a ha ea]
            exact hO.1 a ha
        · by_cases ea : a = s
          · subst ea
            rw [hfs, fillO_in (by omega)]
          · rw [find_st (hs' a ha ea), fillO_out (by omega)]
            rw [hs' a ha ea] at h0
            exact hO.2 a ha h0 b hb
        · by_cases ea : a = s
          · subst ea
            unfold cWord
            rw [hfs]
            have := fillW_in (wo := wo) (vo := vo) (a := 24 * a) (n := 24) (k := 4 * b + i) (by omega)
            rw [show 24 * a + (4 * b + i) = 24 * a + 4 * b + i by omega] at this
            rw [this, h2 rfl _ (by omega), show 4 * b + i = b * 4 + i by omega]
          · rw [fillW_out (by omega)]
            rw [hs' a ha ea] at h0
            rw [hW a ha h0 b hb i hi]
            unfold cWord
            rw [find_st (hs' a ha ea)]
      · have hk0 : k = 0 := by omega
        subst hk0
        rw [mLast_no (by decide)]
        have hp : cPutS s (nI (la + 1)) (bw, cw, ts, tb, st, 0, mr, la, some 0, false, ct) = (.error 0, (bw, cw, ts, tb, st, 0, mr, la, none, true, ct)) := rfl
        rw [cB_err hp]
        exact ⟨rfl, by decide, rfl, rfl, rfl, fun k e => (by cases e), by omega, hB, rfl, fun h => (by cases h), h2, fun _ => rfl, fun r h => (by cases h)⟩
def kcD (k : Nat) : Nat := match k with
  | 0 => 2
  | _ => 1
set_option maxHeartbeats 1000000 in
theorem op_drop {N : Nat} {σ : SV} {A : SM} (hR : Rel N σ A) (s : Int32) : Agree N kcD (fun _ _ => True) (cDrop s σ) ((), mDrop s A) := by
  obtain ⟨bw, cw, ts, tb, st, ro, mr, la, fu, dn, wr⟩ := σ
  obtain ⟨co, dn', fu', ct, vo, wo, th, ow, ba, mr'⟩ := A
  obtain ⟨rfl, rfl, rfl, hfu, hla, hB, rfl, h1, h2, h3, h4⟩ := hR
  unfold cDrop
  cases dn' with
  | true =>
    rw [cB_err up_no]
    exact ⟨rfl, by decide, rfl, rfl, rfl, hfu, hla, hB, rfl, h1, h2, h3, h4⟩
  | false =>
    have hro : ba = 0 := h1 rfl
    subst hro
    rw [cB_ok up_ok]
    rcases has_S hB.2.1 s with ⟨e1, e2⟩ | ⟨k, e1, e2, k3, rfl, ek, k0, kt⟩
    · rw [cB_err (reqS_no e2)]
      simp only [mDrop, Bool.false_eq_true, if_false, e1]
      exact ⟨rfl, by decide, rfl, rfl, rfl, hfu, hla, hB, rfl, h1, h2, h3, h4⟩
    · rw [cB_ok (reqS_ok e2), ek]
      simp only [mDrop, Bool.false_eq_true, if_false, e1]
      rcases fL_or fu' 1 with hL | ⟨j, rfl, hj⟩
      · rw [mLast_ok hL]
        have hp : cPutS k 0 (bw, cw, ts, tb, st, 0, mr, la, fu', false, ct) = (.ok (), (bw, cw, ts, tb, upd st k 0, 0, mr, la, fT fu' 1, false, ct + 1)) := by
          unfold cPutS
          rw [cB_ok (tick_ok hL)]
        rw [hp]
        obtain ⟨⟨i1, i2, i3, i4, i5, i6⟩, hO, hW⟩ := hB
        have hs' : ∀ s', s' ≠ k → upd st k 0 s' = st s' := fun s' h => by unfold upd; rw [if_neg h]
        have hss : upd st k 0 k = 0 := by simp [upd]
        have hne : ∀ a, upd st k 0 a ≠ 0 → a ≠ k := fun a h e => h (by rw [e]; exact hss)
        refine ⟨rfl, trivial, rfl, rfl, rfl, fT_lt hfu, hla, ⟨⟨i1, fun a ha => ?_, i3, i4, fun a ha b hb h0 e => ?_, fun a ha h0 c hc c' hc' g1 g2 g3 => ?_⟩, ⟨fun a ha => ?_, fun a ha h0 b hb => ?_⟩, fun a ha h0 b hb i hi => ?_⟩, rfl, fun _ => rfl, h2, fun h => (by cases h), fun r h => (by cases h)⟩
        · by_cases e : a = k
          · subst e; exact Or.inl hss
          · rw [hs' a e]; exact i2 a ha
        · have ea := hne a h0
          rw [hs' a ea] at h0 e
          by_cases eb : b = k
          · subst eb; rw [hss] at e; exact absurd e h0
          · rw [hs' b eb] at e; exact i5 a ha b hb h0 e
        · have ea := hne a h0
          rw [hs' a ea] at h0 g1 g2
          exact i6 a ha h0 c hc c' hc' g1 g2 g3
        · by_cases e : a = k
          · subst e; rw [va_up_self, hss]; simp
          · rw [va_up_ne _ _ e, hs' a e]; exact hO.1 a ha
        · have ea := hne a h0
          rw [find_st (hs' a ea)]
          rw [hs' a ea] at h0
          exact hO.2 a ha h0 b hb
        · have ea := hne a h0
          unfold cWord
          rw [find_st (hs' a ea)]
          rw [hs' a ea] at h0
          exact hW a ha h0 b hb i hi
      · have hk0 : j = 0 := by omega
        subst hk0
        rw [mLast_no (by decide)]
        have hp : cPutS k 0 (bw, cw, ts, tb, st, 0, mr, la, some 0, false, ct) = (.error 0, (bw, cw, ts, tb, st, 0, mr, la, none, true, ct)) := rfl
        rw [hp]
        exact ⟨rfl, by decide, rfl, rfl, rfl, fun k e => (by cases e), hla, hB, rfl, fun h => (by cases h), h2, fun _ => rfl, fun r h => (by cases h)⟩
end
section
def kcWS (k : Nat) : Nat := match k with
  | 0 => 4
  | 1 => 2
  | 2 => 3
  | _ => 1
theorem va_up_same {α : Type} (f : Nat → α) (k : Nat) : va_up f k (f k) = f := by
  funext j
  unfold va_up
  by_cases h : j = k
  · rw [if_pos h, h]
  · rw [if_neg h]
set_option maxHeartbeats 2000000 in
theorem op_writeS {N : Nat} {σ : SV} {A : SM} (hR : Rel N σ A) (s b i w : Int32) : Agree N kcWS (fun r a => a = r) (cWriteS s b i w σ) (mWriteS s b i w A) := by
  obtain ⟨bw, cw, ts, tb, st, ro, mr, la, fu, dn, wr⟩ := σ
  obtain ⟨co, dn', fu', ct, vo, wo, th, ow, ba, mr'⟩ := A
  obtain ⟨rfl, rfl, rfl, hfu, hla, hB, rfl, h1, h2, h3, h4⟩ := hR
  unfold cWriteS
  cases dn' with
  | true =>
    rw [cB_err up_no]
    exact ⟨rfl, by decide, rfl, rfl, rfl, hfu, hla, hB, rfl, h1, h2, h3, h4⟩
  | false =>
    have hro : ba = 0 := h1 rfl
    subst hro
    rw [cB_ok up_ok]
    rcases has_S hB.2.1 s with ⟨e1, e2⟩ | ⟨k, e1, e2, k3, rfl, ek, k0, kt⟩
    · rw [cB_err (reqS_no e2)]
      simp only [mWriteS, Bool.false_eq_true, if_false, e1]
      exact ⟨rfl, by decide, rfl, rfl, rfl, hfu, hla, hB, rfl, h1, h2, h3, h4⟩
    · rw [cB_ok (reqS_ok e2)]
      cases hb : ixI b 6 with
      | none =>
        rw [cB_err (reqW_no (Or.inl hb) _)]
        simp only [mWriteS, Bool.false_eq_true, if_false, e1, hb]
        exact ⟨rfl, by decide, rfl, rfl, rfl, hfu, hla, hB, rfl, h1, h2, h3, h4⟩
      | some b' =>
        cases hi : ixI i 4 with
        | none =>
          rw [cB_err (reqW_no (Or.inr hi) _)]
          simp only [mWriteS, Bool.false_eq_true, if_false, e1, hb, hi]
          exact ⟨rfl, by decide, rfl, rfl, rfl, hfu, hla, hB, rfl, h1, h2, h3, h4⟩
        | some i' =>
          obtain ⟨eb, hb6⟩ := cN_of (by decide) hb
          obtain ⟨ei, hi4⟩ := cN_of (by decide) hi
          rw [cB_ok (reqW_ok hb hi _)]
          simp only [mWriteS, Bool.false_eq_true, if_false, e1, hb, hi, eb, ei, ek]
          have eO := hB.2.1.2 k k3 k0 b' hb6
          cases hf : cFind ts tb st k b' with
          | some c =>
            rw [hf] at eO
            have eO : ow (6 * k + b') = c + 1 := eO
            have n0 : ¬ ow (6 * k + b') = 0 := by omega
            simp only [n0, false_and, if_false]
            obtain ⟨-, c9, f3, f4⟩ := find_some hf
            rcases fL_or fu' 1 with hL | ⟨j, rfl, hj⟩
            · rw [mLast_ok hL]
              have hp : cPutC c i' w (bw, cw, ts, tb, st, 0, mr, la, fu', false, ct) = (.ok (), (bw, upd cw (c * 4 + i') w, ts, tb, st, 0, mr, la, fT fu' 1, false, ct + 1)) := by
                unfold cPutC
                rw [cB_ok (tick_ok hL)]
              rw [cB_ok hp]
              refine ⟨rfl, by simp [n0, cOk], rfl, rfl, rfl, fT_lt hfu, hla, ⟨hB.1, ?_, fun a ha h0 b2 hb2 i2 hi2 => ?_⟩, rfl, fun _ => rfl, h2, fun h => (by cases h), fun r h => (by cases h)⟩
              · rw [va_up_same]; exact hB.2.1
              · unfold cWord
                by_cases e : a = k ∧ b2 = b'
                · obtain ⟨rfl, rfl⟩ := e
                  rw [hf]
                  show upd wo (24 * a + 4 * b2 + i') w (24 * a + 4 * b2 + i2) = upd cw (c * 4 + i') w (c * 4 + i2)
                  by_cases ei2 : i2 = i'
                  · subst ei2; simp [upd]
                  · have hw := hB.2.2 a ha h0 b2 hb2 i2 hi2
                    unfold cWord at hw
                    rw [hf] at hw
                    unfold upd
                    rw [if_neg (by omega), if_neg (by omega)]
                    exact hw
                · have hw := hB.2.2 a ha h0 b2 hb2 i2 hi2
                  unfold cWord at hw
                  have e1 : upd wo (24 * k + 4 * b' + i') w (24 * a + 4 * b2 + i2) = wo (24 * a + 4 * b2 + i2) := by
                    unfold upd
                    rw [if_neg (by omega)]
                  rw [e1, hw]
                  cases hx : cFind ts tb st a b2 with
                  | none => rfl
                  | some c' =>
                    obtain ⟨-, g2, g3, g4⟩ := find_some hx
                    have hne : c' ≠ c := fun z => by
                      subst z
                      have es := hB.1.2.2.2.2.1 a ha k k3 h0 (g3.symm.trans f3)
                      have eb2 := (nI_eq (a := b2) (b := b') (by omega) (by omega)).mp (g4.symm.trans f4)
                      exact e ⟨es, eb2⟩
                    show cw (c' * 4 + i2) = upd cw (c * 4 + i') w (c' * 4 + i2)
                    unfold upd
                    rw [if_neg (by omega)]
            · have hk0 : j = 0 := by omega
              subst hk0
              rw [mLast_no (by decide)]
              have hp : cPutC c i' w (bw, cw, ts, tb, st, 0, mr, la, some 0, false, ct) = (.error 0, (bw, cw, ts, tb, st, 0, mr, la, none, true, ct)) := rfl
              rw [cB_err hp]
              exact ⟨rfl, by decide, rfl, rfl, rfl, fun k e => (by cases e), hla, hB, rfl, fun h => (by cases h), h2, fun _ => rfl, fun r h => (by cases h)⟩
          | none =>
            rw [hf] at eO
            have eO : ow (6 * k + b') = 0 := eO
            have eU := used_is hB.1 hB.2.1
            simp only [eO, true_and, if_true]
            by_cases hfree : cNF ts st < 1
            · rw [if_pos (by omega), cB_err (show cReqF 1 (bw, cw, ts, tb, st, 0, mr, la, fu', false, ct) = (.error 2, _) from if_pos hfree)]
              exact ⟨rfl, by decide, rfl, rfl, rfl, hfu, hla, hB, rfl, h1, h2, h3, h4⟩
            · rw [if_neg (by omega), cB_ok (show cReqF 1 (bw, cw, ts, tb, st, 0, mr, la, fu', false, ct) = (.ok (), _) from if_neg hfree)]
              obtain ⟨c, hc⟩ := lf_some (ts := ts) (st := st) (by omega)
              rcases fL_or fu' 5 with hL | ⟨j, rfl, hj⟩
              · rw [mLast_ok hL, cB_ok (copy_ok hc hL)]
                refine ⟨rfl, by simp [cOk], rfl, rfl, rfl, fT_lt hfu, hla, ?_, rfl, fun _ => rfl, h2, fun h => (by cases h), fun r h => (by cases h)⟩
                refine copy_rel hB k3 k0 hb6 hc hf (fun i2 hi2 => ?_) (fun j hj => ?_)
                · by_cases ei2 : i2 = i'
                  · subst ei2; simp [upd]
                  · have hw := hB.2.2 k k3 k0 b' hb6 i2 hi2
                    unfold cWord at hw
                    rw [hf] at hw
                    have e1 : ¬ (some i' = some i2) := fun z => ei2 (Option.some.inj z).symm
                    rw [if_neg e1]
                    unfold upd
                    rw [if_neg (by omega)]
                    exact hw
                · unfold upd
                  rw [if_neg (by omega)]
              · rw [mLast_no hj]
                obtain ⟨cw', hw, hcut⟩ := copy_cut (bw := bw) (cw := cw) (tb := tb) (ro := 0) (mr := mr) (la := la) (dn := false) (wr := ct) (s := k) (b := b') (rep := some i') (w := w) hc hj
                rw [cB_err hcut]
                exact ⟨rfl, by decide, rfl, rfl, rfl, fun k e => (by cases e), hla, cut_rel hB hc hw, rfl, fun h => (by cases h), h2, fun _ => rfl, fun r h => (by cases h)⟩
theorem wf_is {ts tb st : Nat → Int32} {th : Nat → Bool} {ow : Nat → Nat} (hO : rOw ts tb st th ow) {s : Nat} (hs : s < 3) (h0 : st s ≠ 0) : ∀ {n b : Nat}, b + n ≤ 6 → mWF th ow s n b = wf ts tb st s n b := by
  intro n
  induction n with
  | zero => intro b _; rfl
  | succ n ih =>
    intro b h
    show (if mHas ow s b then _ else 0) + mWF th ow s n (b + 1) = (if (cFind ts tb st s b).isSome then _ else 0) + wf ts tb st s n (b + 1)
    rw [ih (by omega), has_is hO hs h0 (by omega)]
    cases hf : cFind ts tb st s b with
    | none => rfl
    | some c => rw [shr_is hO (by omega) hf]
theorem need_is {ts tb st : Nat → Int32} {th : Nat → Bool} {ow : Nat → Nat} (hO : rOw ts tb st th ow) {s : Nat} (hs : s < 3) (h0 : st s ≠ 0) : mNeed th ow s = cNM ts tb st s := by
  refine sm_congr fun b hb => ?_
  rw [has_is hO hs h0 hb]
  cases hf : cFind ts tb st s b with
  | none => rfl
  | some c => rw [shr_is hO hb hf]
theorem nm_nd (ts tb st : Nat → Int32) (s : Nat) : cNM ts tb st s = nd ts tb st s 6 0 := by
  simp only [cNM, sm, nd, Nat.zero_add, Nat.reduceAdd]
  omega
def kcRo (k : Nat) : Nat := match k with
  | 0 => 3
  | 2 => 2
  | _ => 1
theorem nd_none {ts tb st : Nat → Int32} {s : Nat} : ∀ {n b : Nat}, b + n ≤ 6 → (∀ b', b ≤ b' → b' < 6 → cFind ts tb st s b' = none) → nd ts tb st s n b = 0 := by
  intro n
  induction n with
  | zero => intro b _ _; rfl
  | succ n ih =>
    intro b h1 h2
    show (if (cFind ts tb st s b).isSome then _ else 0) + nd ts tb st s n (b + 1) = 0
    rw [h2 b (Nat.le_refl _) (by omega), ih (by omega) (fun b' g1 g2 => h2 b' (by omega) g2)]
    rfl
set_option maxHeartbeats 2000000 in
theorem op_roll {N : Nat} {σ : SV} {A : SM} (hR : Rel N σ A) (s : Int32) : Agree N kcRo (fun r a => a = r) (cRoll s σ) (mRoll s A) := by
  obtain ⟨bw, cw, ts, tb, st, ro, mr, la, fu, dn, wr⟩ := σ
  obtain ⟨co, dn', fu', ct, vo, wo, th, ow, ba, mr'⟩ := A
  obtain ⟨rfl, rfl, rfl, hfu, hla, hB, rfl, h1, h2, h3, h4⟩ := hR
  unfold cRoll
  cases dn' with
  | true =>
    rw [cB_err up_no]
    exact ⟨rfl, by decide, rfl, rfl, rfl, hfu, hla, hB, rfl, h1, h2, h3, h4⟩
  | false =>
    have hro : ba = 0 := h1 rfl
    subst hro
    rw [cB_ok up_ok]
    rcases has_S hB.2.1 s with ⟨e1, e2⟩ | ⟨k, e1, e2, k3, rfl, ek, k0, kt⟩
    · rw [cB_err (reqS_no e2)]
      simp only [mRoll, Bool.false_eq_true, if_false, e1]
      exact ⟨rfl, by decide, rfl, rfl, rfl, hfu, hla, hB, rfl, h1, h2, h3, h4⟩
    · rw [cB_ok (reqS_ok e2)]
      have eN := need_is hB.2.1 k3 k0
      have eW := wf_is hB.2.1 k3 k0 (n := 6) (b := 0) (by decide)
      have eU := used_is hB.1 hB.2.1
      simp only [mRoll, Bool.false_eq_true, if_false, e1, eN, eW, ek]
      rw [show 9 - mUsed th ow = cNF ts st by omega]
      by_cases hfree : cNF ts st < cNM ts tb st k
      · rw [if_pos hfree, cB_err (show cReqF (cNM ts tb st k) (bw, cw, ts, tb, st, 0, mr, la, fu', false, ct) = (.error 2, _) from if_pos hfree)]
        exact ⟨rfl, by decide, rfl, rfl, rfl, hfu, hla, hB, rfl, h1, h2, h3, h4⟩
      · rw [if_neg hfree, cB_ok (show cReqF (cNM ts tb st k) (bw, cw, ts, tb, st, 0, mr, la, fu', false, ct) = (.ok (), _) from if_neg hfree)]
        have hnd : nd ts tb st k 6 0 ≤ cNF ts st := by rw [← nm_nd]; omega
        have hV := h2 rfl
        have hdV : dV ts tb st k 0 bw vo := fun j hj hne => absurd (hV j hj) hne
        have hpM : ∀ {f : Option Nat}, fL f 1 → cPutM 0 (bw, cw, ts, tb, st, 0, mr, la, f, false, ct) = (.ok (), (bw, cw, ts, tb, st, 0, 0, la, fT f 1, false, ct + 1)) := fun h => by
          unfold cPutM
          rw [cB_ok (tick_ok h)]
        have hpR : ∀ {f : Option Nat}, fL f 1 → cPutR (1 + k) (bw, cw, ts, tb, st, 0, 0, la, f, false, ct + 1) = (.ok (), (bw, cw, ts, tb, st, 1 + k, 0, la, fT f 1, false, ct + 1 + 1)) := fun h => by
          unfold cPutR
          rw [cB_ok (tick_ok h)]
        rcases fL_or fu' (3 + wf ts tb st k 6 0) with hL | ⟨j, rfl, hj⟩
        · rw [mLast_ok hL]
          obtain ⟨l1, l2⟩ := fL_T (a := 1) (b := 2 + wf ts tb st k 6 0) (by rw [show 1 + (2 + wf ts tb st k 6 0) = 3 + wf ts tb st k 6 0 by omega]; exact hL)
          obtain ⟨l3, l4⟩ := fL_T (a := 1) (b := 1 + wf ts tb st k 6 0) (by rw [show 1 + (1 + wf ts tb st k 6 0) = 2 + wf ts tb st k 6 0 by omega]; exact l2)
          obtain ⟨l5, l6⟩ := fL_T (a := wf ts tb st k 6 0) (b := 1) (by rw [show wf ts tb st k 6 0 + 1 = 1 + wf ts tb st k 6 0 by omega]; exact l4)
          obtain ⟨bw', cw', ts', tb', vo', mr2, acc', ow', r1, r2, r3, r4, r5, r6, r7⟩ := merges_ok (wo := wo) (th := th) k3 k0 6 0 0 bw cw ts tb vo (1 + k) 0 (fT (fT fu' 1) 1) false (ct + 1 + 1) ow rfl (Nat.le_refl _) (fun b' z1 z2 => by omega) hB hdV hnd l5
          rw [r2, cB_ok (hpM l1), cB_ok (hpR l3)]
          have hm : cMerge k (bw, cw, ts, tb, st, 1 + k, 0, la, fT (fT fu' 1) 1, false, ct + 1 + 1) = (.ok acc', (bw', cw', ts', tb', st, 0, mr2, la, fT fu' (3 + wf ts tb st k 6 0), false, ct + (3 + wf ts tb st k 6 0))) := by
            show cB (cSum (cMerge1 k) 6 0 0) (fun n => cB (cPutR 0) (fun _ => cOk n)) _ = _
            rw [cB_ok r1]
            have hpr : cPutR 0 (bw', cw', ts', tb', st, 1 + k, mr2, la, fT (fT (fT fu' 1) 1) (wf ts tb st k 6 0), false, ct + 1 + 1 + wf ts tb st k 6 0) = (.ok (), (bw', cw', ts', tb', st, 0, mr2, la, fT (fT (fT (fT fu' 1) 1) (wf ts tb st k 6 0)) 1, false, ct + 1 + 1 + wf ts tb st k 6 0 + 1)) := by
              unfold cPutR
              rw [cB_ok (tick_ok l6)]
            rw [cB_ok hpr]
            simp only [fT_T, cOk]
            rw [show 1 + 1 + wf ts tb st k 6 0 + 1 = 3 + wf ts tb st k 6 0 by omega, show ct + 1 + 1 + wf ts tb st k 6 0 + 1 = ct + (3 + wf ts tb st k 6 0) by omega]
          rw [hm]
          exact ⟨rfl, rfl, rfl, rfl, rfl, fT_lt hfu, hla, r3, rfl, fun _ => rfl, fun _ => r4, fun h => (by cases h), fun r h => (by cases h)⟩
        · rw [mLast_no hj]
          rcases (show j = 0 ∨ j = 1 ∨ 2 ≤ j by omega) with rfl | rfl | hj2
          · rw [cB_err (show cPutM 0 (bw, cw, ts, tb, st, 0, mr, la, some 0, false, ct) = (.error 0, (bw, cw, ts, tb, st, 0, mr, la, none, true, ct)) from rfl)]
            exact ⟨rfl, by decide, rfl, rfl, rfl, fun k e => (by cases e), hla, hB, rfl, fun h => (by cases h), h2, fun _ => rfl, fun r h => (by cases h)⟩
          · rw [cB_ok (hpM (f := some 1) (fun j e => by cases e; exact Nat.le_refl _)), cB_err (show cPutR (1 + k) (bw, cw, ts, tb, st, 0, 0, la, fT (some 1) 1, false, ct + 1) = (.error 0, (bw, cw, ts, tb, st, 0, 0, la, none, true, ct + 1)) from rfl)]
            exact ⟨rfl, by decide, rfl, rfl, rfl, fun k e => (by cases e), hla, hB, rfl, fun h => (by cases h), h2, fun _ => rfl, fun r h => (by cases h)⟩
          · have hg : ¬ (some j).getD 0 < 2 := by simp; omega
            rw [cB_ok (hpM (f := some j) (fun i e => by cases e; omega)), cB_ok (hpR (f := fT (some j) 1) (fun i e => by simp [fT] at e; omega))]
            simp only [hg, if_false]
            have ef : fT (fT (some j) 1) 1 = some (j - 2) := by simp [fT]; omega
            rw [ef]
            show Agree N kcRo _ (cB (cSum (cMerge1 k) 6 0 0) (fun n => cB (cPutR 0) (fun _ => cOk n)) (bw, cw, ts, tb, st, 1 + k, 0, la, some (j - 2), false, ct + 1 + 1)) _
            rcases Nat.lt_or_ge (j - 2) (wf ts tb st k 6 0) with hlt | hge
            · obtain ⟨bw', cw', ts', tb', vo', mr2, ow', r1, r2, r3, r4, r5, r6⟩ := merges_cut (wo := wo) (th := th) k3 k0 6 0 0 (j - 2) bw cw ts tb vo (1 + k) 0 false (ct + 1 + 1) ow rfl (Nat.le_refl _) (fun b' z1 z2 => by omega) hB hV hnd hlt
              rw [cB_err r1]
              have r2' : mCutL th wo k 6 0 ((some j).getD 0 - 2) 0 vo ow = (mr2, vo', ow') := r2
              rw [r2']
              refine ⟨rfl, by decide, rfl, rfl, ?_, fun k e => (by cases e), hla, r3, by omega, fun h => (by cases h), fun h => by omega, fun _ => rfl, fun r h => ?_⟩
              · show ct + j = ct + 1 + 1 + (j - 2)
                omega
              · obtain rfl : r = k := by omega
                exact ⟨k3, k0, rfl, r4, r5, r6⟩
            · obtain ⟨bw', cw', ts', tb', vo', mr2, acc', ow', r1, r2, r3, r4, r5, r6, r7⟩ := merges_ok (wo := wo) (th := th) k3 k0 6 0 0 bw cw ts tb vo (1 + k) 0 (some (j - 2)) false (ct + 1 + 1) ow rfl (Nat.le_refl _) (fun b' z1 z2 => by omega) hB hdV hnd (fun i e => by cases e; exact hge)
              have e0 : j - 2 = wf ts tb st k 6 0 := by omega
              rw [cB_ok r1]
              have r2' : mCutL th wo k 6 0 ((some j).getD 0 - 2) 0 vo ow = (mr2, vo', ow') := r7 (j - 2) rfl
              rw [r2']
              have hp : cPutR 0 (bw', cw', ts', tb', st, 1 + k, mr2, la, fT (some (j - 2)) (wf ts tb st k 6 0), false, ct + 1 + 1 + wf ts tb st k 6 0) = (.error 0, (bw', cw', ts', tb', st, 1 + k, mr2, la, none, true, ct + 1 + 1 + wf ts tb st k 6 0)) := by
                rw [e0]
                unfold cPutR
                refine cB_err ?_
                simp [fT, cTick]
              rw [cB_err hp]
              refine ⟨rfl, by decide, rfl, rfl, ?_, fun k e => (by cases e), hla, r3, by omega, fun h => (by cases h), fun h => by omega, fun _ => rfl, fun r h => ?_⟩
              · show ct + j = ct + 1 + 1 + wf ts tb st k 6 0
                omega
              · obtain rfl : r = k := by omega
                exact ⟨k3, k0, rfl, r5, fun i hi hne => absurd (r4 i hi) hne, by rw [nd_none (by omega) r6]; omega⟩
def kcX (k : Nat) : Nat := match k with
  | _ => 1
set_option maxHeartbeats 1000000 in
theorem op_rec {N : Nat} {σ : SV} {A : SM} (hR : Rel N σ A) : Agree N kcX (fun r a => a = r) (cRec σ) (mRec A) := by
  obtain ⟨bw, cw, ts, tb, st, ro, mr, la, fu, dn, wr⟩ := σ
  obtain ⟨co, dn', fu', ct, vo, wo, th, ow, ba, mr'⟩ := A
  obtain ⟨rfl, rfl, rfl, hfu, hla, hB, rfl, h1, h2, h3, h4⟩ := hR
  cases dn' with
  | false => exact ⟨rfl, by decide, rfl, rfl, rfl, hfu, hla, hB, rfl, h1, h2, h3, h4⟩
  | true =>
    have ef := h3 rfl
    subst ef
    cases ba with
    | zero => exact ⟨rfl, rfl, rfl, rfl, rfl, hfu, hla, hB, rfl, fun _ => rfl, h2, fun h => (by cases h), fun r h => (by cases h)⟩
    | succ r =>
      obtain ⟨k3, k0, rfl, m6, hdV, hnd⟩ := h4 r rfl
      obtain ⟨bw', cw', ts', tb', vo', mr2, acc', ow', r1, r2, r3, r4, r5, r6, r7⟩ := merges_ok (wo := wo) (th := th) k3 k0 (6 - mr') mr' 0 bw cw ts tb vo (r + 1) mr' none false ct ow (by omega) (Nat.le_refl _) (fun b' z1 z2 => by omega) hB hdV hnd (fun i e => by cases e)
      have eW := wf_is hB.2.1 k3 k0 (n := 6 - mr') (b := mr') (by omega)
      have hc : cRec (bw, cw, ts, tb, st, r + 1, mr', la, none, true, ct) = (.ok acc', (bw', cw', ts', tb', st, 0, mr2, la, none, false, ct + wf ts tb st r (6 - mr') mr' + 1)) := by
        show cB (cSum (cMerge1 r) (6 - mr') mr' 0) (fun n => cB (cPutR 0) (fun _ => cOk n)) (bw, cw, ts, tb, st, r + 1, mr', la, none, false, ct) = _
        rw [cB_ok r1]
        rfl
      rw [hc]
      simp only [mRec, if_true, r2, eW]
      exact ⟨rfl, rfl, rfl, rfl, rfl, fun k e => (by cases e), hla, r3, rfl, fun _ => rfl, fun _ => r4, fun h => (by cases h), fun r h => (by cases h)⟩
theorem op_fuse {N : Nat} {σ : SV} {A : SM} (hR : Rel N σ A) (n : Int32) : (mFuse n A).1 = (cFuse n σ).1 ∧ Rel N (cFuse n σ).2 (mFuse n A).2 := by
  obtain ⟨bw, cw, ts, tb, st, ro, mr, la, fu, dn, wr⟩ := σ
  obtain ⟨co, dn', fu', ct, vo, wo, th, ow, ba, mr'⟩ := A
  obtain ⟨rfl, rfl, rfl, hfu, hla, hB, rfl, h1, h2, h3, h4⟩ := hR
  unfold mFuse cFuse
  by_cases h : dn' = true ∨ n < -1
  · have h' : n < -1 ∨ dn' = true := h.symm
    simp only [h, h', if_true]
    exact ⟨trivial, rfl, rfl, rfl, hfu, hla, hB, rfl, h1, h2, h3, h4⟩
  · have h' : ¬ (n < -1 ∨ dn' = true) := fun z => h z.symm
    simp only [h, h', if_false]
    refine ⟨trivial, rfl, rfl, rfl, fun k e => ?_, hla, hB, rfl, h1, h2, fun z => absurd (Or.inl z) h, h4⟩
    by_cases hn : n < 0
    · rw [if_pos hn] at e; cases e
    · rw [if_neg hn] at e
      obtain ⟨j, hj, rfl⟩ := nI_of hn
      rw [nI_clamp hj] at e
      cases e
      exact hj
theorem op_used {N : Nat} {σ : SV} {A : SM} (hR : Rel N σ A) : Agree N kcX (fun r a => a = r) (cUsed σ) (mUsedC A) := by
  obtain ⟨bw, cw, ts, tb, st, ro, mr, la, fu, dn, wr⟩ := σ
  obtain ⟨co, dn', fu', ct, vo, wo, th, ow, ba, mr'⟩ := A
  obtain ⟨rfl, rfl, rfl, hfu, hla, hB, rfl, h1, h2, h3, h4⟩ := hR
  unfold cUsed
  cases dn' with
  | true =>
    rw [cB_err up_no]
    exact ⟨rfl, by decide, rfl, rfl, rfl, hfu, hla, hB, rfl, h1, h2, h3, h4⟩
  | false =>
    rw [cB_ok up_ok]
    have eU := used_is hB.1 hB.2.1
    refine ⟨rfl, ?_, rfl, rfl, rfl, hfu, hla, hB, rfl, h1, h2, h3, h4⟩
    show mUsed th ow = 9 - cNF ts st
    omega
theorem op_copyOf {N : Nat} {σ : SV} {A : SM} (hR : Rel N σ A) (s b : Int32) : Agree N kcRS (fun r a => a = r) (cCopyOf s b σ) (mCopyOf s b A) := by
  obtain ⟨bw, cw, ts, tb, st, ro, mr, la, fu, dn, wr⟩ := σ
  obtain ⟨co, dn', fu', ct, vo, wo, th, ow, ba, mr'⟩ := A
  obtain ⟨rfl, rfl, rfl, hfu, hla, hB, rfl, h1, h2, h3, h4⟩ := hR
  unfold cCopyOf
  cases dn' with
  | true =>
    rw [cB_err up_no]
    exact ⟨rfl, by decide, rfl, rfl, rfl, hfu, hla, hB, rfl, h1, h2, h3, h4⟩
  | false =>
    rw [cB_ok up_ok]
    rcases has_S hB.2.1 s with ⟨e1, e2⟩ | ⟨k, e1, e2, k3, rfl, ek, k0, kt⟩
    · rw [cB_err (reqS_no e2)]
      simp only [mCopyOf, Bool.false_eq_true, if_false, e1]
      exact ⟨rfl, by decide, rfl, rfl, rfl, hfu, hla, hB, rfl, h1, h2, h3, h4⟩
    · rw [cB_ok (reqS_ok e2)]
      cases hb : ixI b 6 with
      | none =>
        rw [cB_err (show cReqB b (bw, cw, ts, tb, st, ba, mr, la, fu', false, ct) = (.error 1, _) by unfold cReqB; rw [hb]; rfl)]
        simp only [mCopyOf, Bool.false_eq_true, if_false, e1, hb]
        exact ⟨rfl, by decide, rfl, rfl, rfl, hfu, hla, hB, rfl, h1, h2, h3, h4⟩
      | some b' =>
        obtain ⟨eb, hb6⟩ := cN_of (by decide) hb
        rw [cB_ok (show cReqB b (bw, cw, ts, tb, st, ba, mr, la, fu', false, ct) = (.ok (), _) by unfold cReqB; rw [hb]; rfl)]
        simp only [mCopyOf, Bool.false_eq_true, if_false, e1, hb]
        refine ⟨rfl, ?_, rfl, rfl, rfl, hfu, hla, hB, rfl, h1, h2, h3, h4⟩
        have eO := hB.2.1.2 k k3 k0 b' hb6
        show _ = cFind ts tb st (cN (nI k)) (cN b)
        rw [ek, eb, eO]
        cases cFind ts tb st k b' <;> rfl
theorem op_places {N : Nat} {σ : SV} {A : SM} (hR : Rel N σ A) : Agree N kcX (fun r a => a = r) (cPlaces σ) (mPlaces A) := by
  obtain ⟨bw, cw, ts, tb, st, ro, mr, la, fu, dn, wr⟩ := σ
  obtain ⟨co, dn', fu', ct, vo, wo, th, ow, ba, mr'⟩ := A
  obtain ⟨rfl, rfl, rfl, hfu, hla, hB, rfl, h1, h2, h3, h4⟩ := hR
  unfold cPlaces
  cases dn' with
  | true =>
    rw [cB_err up_no]
    exact ⟨rfl, by decide, rfl, rfl, rfl, hfu, hla, hB, rfl, h1, h2, h3, h4⟩
  | false =>
    rw [cB_ok up_ok]
    refine ⟨rfl, ?_, rfl, rfl, rfl, hfu, hla, hB, rfl, h1, h2, h3, h4⟩
    have t0 := hB.2.1.1 0 (by decide)
    have t1 := hB.2.1.1 1 (by decide)
    have t2 := hB.2.1.1 2 (by decide)
    show (if th 0 then 1 else 0) + (if th 1 then 2 else 0) + (if th 2 then 4 else 0) = cPl st
    rw [t0, t1, t2]
    unfold cPl sm sm sm sm
    by_cases g0 : st 0 = 0 <;> by_cases g1 : st 1 = 0 <;> by_cases g2 : st 2 = 0 <;> simp [g0, g1, g2]
theorem all4 {f g : Nat → Bool} (h : ∀ i, i < 4 → f i = g i) : (List.range 4).all f = (List.range 4).all g := by
  show (f 0 && (f 1 && (f 2 && (f 3 && true)))) = (g 0 && (g 1 && (g 2 && (g 3 && true))))
  rw [h 0 (by decide), h 1 (by decide), h 2 (by decide), h 3 (by decide)]
def kcC (k : Nat) : Nat := match k with
  | 0 => 2
  | _ => 1
theorem op_changed {N : Nat} {σ : SV} {A : SM} (hR : Rel N σ A) (s : Int32) : Agree N kcC (fun r a => a = r) (cChanged s σ) (mChanged s A) := by
  obtain ⟨bw, cw, ts, tb, st, ro, mr, la, fu, dn, wr⟩ := σ
  obtain ⟨co, dn', fu', ct, vo, wo, th, ow, ba, mr'⟩ := A
  obtain ⟨rfl, rfl, rfl, hfu, hla, hB, rfl, h1, h2, h3, h4⟩ := hR
  unfold cChanged
  cases dn' with
  | true =>
    rw [cB_err up_no]
    exact ⟨rfl, by decide, rfl, rfl, rfl, hfu, hla, hB, rfl, h1, h2, h3, h4⟩
  | false =>
    rw [cB_ok up_ok]
    rcases has_S hB.2.1 s with ⟨e1, e2⟩ | ⟨k, e1, e2, k3, rfl, ek, k0, kt⟩
    · rw [cB_err (reqS_no e2)]
      simp only [mChanged, Bool.false_eq_true, if_false, e1]
      exact ⟨rfl, by decide, rfl, rfl, rfl, hfu, hla, hB, rfl, h1, h2, h3, h4⟩
    · rw [cB_ok (reqS_ok e2)]
      simp only [mChanged, Bool.false_eq_true, if_false, e1]
      refine ⟨rfl, ?_, rfl, rfl, rfl, hfu, hla, hB, rfl, h1, h2, h3, h4⟩
      show cnt (fun b => ! mSame vo wo k b) 6 = cCh bw cw ts tb st (cN (nI k))
      rw [ek]
      refine cnt_congr fun b hb => ?_
      unfold mSame cDiff
      have hV := h2 (h1 rfl)
      rw [all4 (fun i hi => show decide (wo (24 * k + 4 * b + i) = vo (4 * b + i)) = decide (cWord bw cw ts tb st k b i = bw (b * 4 + i)) by rw [hB.2.2 k k3 k0 b hb i hi, hV _ (by omega), show 4 * b + i = b * 4 + i by omega])]
end
section
/-! ===== small rows for the walks of the class ===== -/
def rmL (d : Nat) : Room := { frames := 6 + d, cells := 0, slots := 0, locals := 90 + 30 * d }
def rmX (d : Nat) : Room := { frames := 6 + d, cells := 1, slots := 6, locals := 90 + 30 * d }
theorem oI_n {i : Nat} {o : Option Nat} (hi : i < 2 ^ 31) (ho : ∀ j, o = some j → j < 2 ^ 31) : nI i = oI o ↔ o = some i := by
  cases o with
  | none =>
    constructor
    · intro h
      have h1 : nI i = -1 := h
      have := congrArg Int32.toInt h1
      rw [nI_toInt hi] at this
      have e2 : (-1 : Int32).toInt = -1 := by decide
      rw [e2] at this
      omega
    · intro h; cases h
  | some j =>
    constructor
    · intro h
      rw [(nI_eq hi (ho j rfl)).mp h]
    · intro h
      cases h
      rfl
theorem oI_none {o : Option Nat} (ho : ∀ j, o = some j → j < 2 ^ 31) : oI o = oI none ↔ o = none := by
  cases o with
  | none => exact ⟨fun _ => rfl, fun _ => rfl⟩
  | some j =>
    constructor
    · intro h
      have := (oI_n (o := none) (ho j rfl) (fun _ e => by cases e)).mp h
      cases this
    · intro h; cases h
theorem cLF_lt {ts st : Nat → Int32} {c : Nat} (h : cLF ts st = some c) : c < 9 := by
  have := (fst_some (show fst (cFree ts st) 9 0 = some c from h)).2.1
  omega
theorem cLE_lt {st : Nat → Int32} {c : Nat} (h : cLE st = some c) : c < 3 := by
  have := (fst_some (show fst (fun s => decide (st s = 0)) 3 0 = some c from h)).2.1
  omega
theorem cFind_lt {ts tb st : Nat → Int32} {s b c : Nat} (h : cFind ts tb st s b = some c) : c < 9 := (find_some h).2.1
theorem fst_z (p : Nat → Bool) (k : Nat) : fst p 0 k = none := rfl
theorem fst_y {p : Nat → Bool} {n k : Nat} (h : p k = true) : fst p (n + 1) k = some k := by unfold fst; rw [if_pos h]
theorem fst_s {p : Nat → Bool} {n k : Nat} (h : p k = false) : fst p (n + 1) k = fst p n (k + 1) := by
  show (if p k = true then some k else fst p n (k + 1)) = _
  rw [h]; rfl
theorem cnt_y {p : Nat → Bool} {n : Nat} (h : p n = true) : cnt p (n + 1) = cnt p n + 1 := by
  show cnt p n + (if p n = true then 1 else 0) = _
  rw [if_pos h]
theorem cnt_s {p : Nat → Bool} {n : Nat} (h : p n = false) : cnt p (n + 1) = cnt p n := by
  show cnt p n + (if p n = true then 1 else 0) = _
  rw [h]; rfl
/-! loops of programs -/
theorem cFor_ok {f : Nat → CM Unit} {n k : Nat} {σ σ' : SV} (h : f k σ = (.ok (), σ')) : cFor f (n + 1) k σ = cFor f n (k + 1) σ' := cB_ok h
theorem cFor_err {f : Nat → CM Unit} {n k e : Nat} {σ σ' : SV} (h : f k σ = (.error e, σ')) : cFor f (n + 1) k σ = (.error e, σ') := cB_err h
theorem cSum_ok {f : Nat → CM Nat} {n k a d : Nat} {σ σ' : SV} (h : f k σ = (.ok d, σ')) : cSum f (n + 1) k a σ = cSum f n (k + 1) (a + d) σ' := cB_ok h
theorem cSum_err {f : Nat → CM Nat} {n k a e : Nat} {σ σ' : SV} (h : f k σ = (.error e, σ')) : cSum f (n + 1) k a σ = (.error e, σ') := cB_err h
theorem cB_eq {ρ τ : Type} {m m' : CM ρ} {f : ρ → CM τ} {σ σ' : SV} (h : m σ = m' σ') : cB m f σ = cB m' f σ' := by
  unfold cB
  rw [h]
/-! what a put leaves -/
section PUT
variable {bw cw ts tb st : Nat → Int32} {ro mr la : Nat} {fu : Option Nat} {dn : Bool} {wr : Nat} {u' : SV}
theorem tick_inv (h : cTick (bw, cw, ts, tb, st, ro, mr, la, fu, dn, wr) = (.ok (), u')) : ∃ fu', u' = (bw, cw, ts, tb, st, ro, mr, la, fu', dn, wr + 1) ∧ (∀ k, fu' = some k → ∃ j, fu = some j ∧ k ≤ j) := by
  cases fu with
  | none => cases h; exact ⟨none, rfl, fun k e => by cases e⟩
  | some k =>
    cases k with
    | zero => cases h
    | succ k => cases h; exact ⟨some k, rfl, fun j e => by cases e; exact ⟨_, rfl, by omega⟩⟩
theorem putC_inv {c i : Nat} {w : Int32} (h : cPutC c i w (bw, cw, ts, tb, st, ro, mr, la, fu, dn, wr) = (.ok (), u')) : ∃ fu', u' = (bw, upd cw (c * 4 + i) w, ts, tb, st, ro, mr, la, fu', dn, wr + 1) := by
  unfold cPutC at h
  cases ht : cTick (bw, cw, ts, tb, st, ro, mr, la, fu, dn, wr) with
  | mk r u1 =>
    cases r with
    | error e => rw [cB_err ht] at h; cases h
    | ok r =>
      obtain ⟨fu', rfl, -⟩ := tick_inv ht
      rw [cB_ok ht] at h
      cases h
      exact ⟨fu', rfl⟩
theorem putS_inv {s : Nat} {w : Int32} (h : cPutS s w (bw, cw, ts, tb, st, ro, mr, la, fu, dn, wr) = (.ok (), u')) : ∃ fu', u' = (bw, cw, ts, tb, upd st s w, ro, mr, la, fu', dn, wr + 1) := by
  unfold cPutS at h
  cases ht : cTick (bw, cw, ts, tb, st, ro, mr, la, fu, dn, wr) with
  | mk r u1 =>
    cases r with
    | error e => rw [cB_err ht] at h; cases h
    | ok r =>
      obtain ⟨fu', rfl, -⟩ := tick_inv ht
      rw [cB_ok ht] at h
      cases h
      exact ⟨fu', rfl⟩
theorem putM_inv {v : Nat} (h : cPutM v (bw, cw, ts, tb, st, ro, mr, la, fu, dn, wr) = (.ok (), u')) : ∃ fu', u' = (bw, cw, ts, tb, st, ro, v, la, fu', dn, wr + 1) := by
  unfold cPutM at h
  cases ht : cTick (bw, cw, ts, tb, st, ro, mr, la, fu, dn, wr) with
  | mk r u1 =>
    cases r with
    | error e => rw [cB_err ht] at h; cases h
    | ok r =>
      obtain ⟨fu', rfl, -⟩ := tick_inv ht
      rw [cB_ok ht] at h
      cases h
      exact ⟨fu', rfl⟩
theorem putR_inv {v : Nat} (h : cPutR v (bw, cw, ts, tb, st, ro, mr, la, fu, dn, wr) = (.ok (), u')) : ∃ fu', u' = (bw, cw, ts, tb, st, v, mr, la, fu', dn, wr + 1) := by
  unfold cPutR at h
  cases ht : cTick (bw, cw, ts, tb, st, ro, mr, la, fu, dn, wr) with
  | mk r u1 =>
    cases r with
    | error e => rw [cB_err ht] at h; cases h
    | ok r =>
      obtain ⟨fu', rfl, -⟩ := tick_inv ht
      rw [cB_ok ht] at h
      cases h
      exact ⟨fu', rfl⟩
theorem cCopy_none {s b : Nat} {rep : Option Nat} {w : Int32} (h : cLF ts st = none) : cCopy s b rep w (bw, cw, ts, tb, st, ro, mr, la, fu, dn, wr) = (.ok (), (bw, cw, ts, tb, st, ro, mr, la, fu, dn, wr)) := by
  simp only [cCopy, h]
theorem cCopy_some {s b c : Nat} {rep : Option Nat} {w : Int32} (h : cLF ts st = some c) : cCopy s b rep w (bw, cw, ts, tb, st, ro, mr, la, fu, dn, wr) = cB (cFor (fun i => cPutC c i (if rep = some i then w else bw (b * 4 + i))) 4 0) (fun _ => cPutT c (st s) (nI b)) (bw, cw, ts, tb, st, ro, mr, la, fu, dn, wr) := by
  simp only [cCopy, h]
theorem cCopyIf_no {b s : Nat} (h : cShares ts tb st b s = false) : cCopyIf b s (bw, cw, ts, tb, st, ro, mr, la, fu, dn, wr) = (.ok 0, (bw, cw, ts, tb, st, ro, mr, la, fu, dn, wr)) := by
  simp [cCopyIf, h]
theorem cCopyIf_yes {b s : Nat} (h : cShares ts tb st b s = true) : cCopyIf b s (bw, cw, ts, tb, st, ro, mr, la, fu, dn, wr) = cB (cCopy s b none 0) (fun _ => cOk 1) (bw, cw, ts, tb, st, ro, mr, la, fu, dn, wr) := by
  simp [cCopyIf, h]
theorem cMerge1_none {s b : Nat} (h : cFind ts tb st s b = none) : cMerge1 s b (bw, cw, ts, tb, st, ro, mr, la, fu, dn, wr) = (.ok 0, (bw, cw, ts, tb, st, ro, mr, la, fu, dn, wr)) := by
  simp only [cMerge1, h]
theorem cMerge1_some {s b c : Nat} (h : cFind ts tb st s b = some c) : cMerge1 s b (bw, cw, ts, tb, st, ro, mr, la, fu, dn, wr) = cB (cCopies b) (fun _ => cB (cBack b c) (fun _ => cB (cPutM (b + 1)) (fun _ => cOk 1))) (bw, cw, ts, tb, st, ro, mr, la, fu, dn, wr) := by
  simp only [cMerge1, h]
end PUT
/-- the fuse is a number of Java's -/
def fB (u : SV) : Prop := match u with
  | (_, _, _, _, _, _, _, _, fu, _, _) => ∀ k, fu = some k → k < 2 ^ 31
section INV2
variable {bw cw ts tb st : Nat → Int32} {ro mr la : Nat} {fu : Option Nat} {dn : Bool} {wr : Nat} {u' : SV}
theorem putB_inv {b i : Nat} {w : Int32} (h : cPutB b i w (bw, cw, ts, tb, st, ro, mr, la, fu, dn, wr) = (.ok (), u')) : ∃ fu', u' = (upd bw (b * 4 + i) w, cw, ts, tb, st, ro, mr, la, fu', dn, wr + 1) := by
  unfold cPutB at h
  cases ht : cTick (bw, cw, ts, tb, st, ro, mr, la, fu, dn, wr) with
  | mk r u1 =>
    cases r with
    | error e => rw [cB_err ht] at h; cases h
    | ok r =>
      obtain ⟨fu', rfl, -⟩ := tick_inv ht
      rw [cB_ok ht] at h
      cases h
      exact ⟨fu', rfl⟩
theorem up_inv (h : cUp (bw, cw, ts, tb, st, ro, mr, la, fu, dn, wr) = (.ok (), u')) : u' = (bw, cw, ts, tb, st, ro, mr, la, fu, dn, wr) ∧ dn = false := by
  cases dn with
  | true => cases h
  | false => cases h; exact ⟨rfl, rfl⟩
theorem reqS_inv {x : Int32} (h : cReqS x (bw, cw, ts, tb, st, ro, mr, la, fu, dn, wr) = (.ok (), u')) : u' = (bw, cw, ts, tb, st, ro, mr, la, fu, dn, wr) ∧ cHas st x = true := by
  cases hx : cHas st x with
  | false => rw [reqS_no hx] at h; cases h
  | true => rw [reqS_ok hx] at h; cases h; exact ⟨rfl, rfl⟩
theorem reqB_inv {x : Int32} {u : SV} (h : cReqB x u = (.ok (), u')) : u' = u ∧ ∃ k, k < 6 ∧ x = nI k := by
  unfold cReqB at h
  cases hx : ixI x 6 with
  | none => rw [hx] at h; cases h
  | some k => rw [hx] at h; cases h; exact ⟨rfl, k, ixI_some (by decide) hx⟩
theorem reqB_yes {k : Nat} (hk : k < 6) (u : SV) : cReqB (nI k) u = (.ok (), u) := by
  unfold cReqB
  rw [ixI_nI hk (by decide)]
  rfl
theorem reqB_no {x : Int32} (h : ixI x 6 = none) (u : SV) : cReqB x u = (.error 1, u) := by
  unfold cReqB
  rw [h]
  rfl
theorem reqW_inv {x y : Int32} {u : SV} (h : cReqW x y u = (.ok (), u')) : u' = u ∧ (∃ k, k < 6 ∧ x = nI k) ∧ ∃ i, i < 4 ∧ y = nI i := by
  cases hx : ixI x 6 with
  | none => rw [reqW_no (Or.inl hx)] at h; cases h
  | some k =>
    cases hy : ixI y 4 with
    | none => rw [reqW_no (Or.inr hy)] at h; cases h
    | some i => rw [reqW_ok hx hy] at h; cases h; exact ⟨rfl, ⟨k, ixI_some (by decide) hx⟩, i, ixI_some (by decide) hy⟩
theorem reqF_inv {n : Nat} (h : cReqF n (bw, cw, ts, tb, st, ro, mr, la, fu, dn, wr) = (.ok (), u')) : u' = (bw, cw, ts, tb, st, ro, mr, la, fu, dn, wr) ∧ n ≤ cNF ts st := by
  by_cases hx : cNF ts st < n
  · rw [show cReqF n (bw, cw, ts, tb, st, ro, mr, la, fu, dn, wr) = (.error 2, _) from if_pos hx] at h; cases h
  · rw [show cReqF n (bw, cw, ts, tb, st, ro, mr, la, fu, dn, wr) = (.ok (), _) from if_neg hx] at h; cases h; exact ⟨rfl, by omega⟩
end INV2
def exN : List String := ["java/lang/RuntimeException", "java/lang/Exception"]
theorem cFor_z {τ : Type} {f : Nat → CM Unit} {k : Nat} {g : Unit → CM τ} {σ : SV} : cB (cFor f 0 k) g σ = g () σ := rfl
theorem cSum_z {τ : Type} {f : Nat → CM Nat} {k a : Nat} {g : Nat → CM τ} {σ : SV} : cB (cSum f 0 k a) g σ = g a σ := rfl
/-- one word of a block put back -/
def cBk (b c i : Nat) : CM Unit := fun σ => match σ with
  | (bw, cw, ts, tb, st, ro, mr, la, fu, dn, wr) => cPutB b i (cw (c * 4 + i)) (bw, cw, ts, tb, st, ro, mr, la, fu, dn, wr)
theorem cBack_eq (b c : Nat) : cBack b c = cFor (cBk b c) 4 0 := rfl
theorem has_ix {st : Nat → Int32} {x : Int32} (h : cHas st x = true) : ∃ k, k < 3 ∧ x = nI k := by
  cases hx : ixI x 3 with
  | none => rw [cHas_none hx] at h; cases h
  | some k => exact ⟨k, ixI_some (by decide) hx⟩
theorem sm_bound {f : Nat → Nat} {B : Nat} (h : ∀ k, f k ≤ B) : ∀ n, sm f n ≤ n * B := by
  intro n
  induction n with
  | zero => exact Nat.zero_le _
  | succ n ih =>
    show sm f n + f n ≤ (n + 1) * B
    have := h n
    rw [Nat.add_mul, Nat.one_mul]
    omega
theorem cNS_le (ts tb st : Nat → Int32) (b : Nat) : cNS ts tb st b ≤ 3 := cnt_le _ 3
theorem cNM_le (ts tb st : Nat → Int32) (s : Nat) : cNM ts tb st s ≤ 18 := by
  refine Nat.le_trans (sm_bound (B := 3) (fun k => ?_) 6) (by decide)
  show (if _ then _ else _) ≤ 3
  split
  · exact cNS_le _ _ _ _
  · exact Nat.zero_le _
theorem sh_pow {i : Nat} (hi : i < 3) : nI 1 <<< (nI i &&& 31) = nI (2 ^ i) := by
  have : i = 0 ∨ i = 1 ∨ i = 2 := by omega
  rcases this with rfl | rfl | rfl <;> decide
theorem fuse_cases {x : Int32} (h : ¬ x < oI none) : x = oI none ∨ ∃ k, k < 2 ^ 31 ∧ x = nI k := by
  have h1 : ¬ x < -1 := h
  by_cases h0 : x < 0
  · left
    show x = -1
    have e1 := Int32.lt_iff_toInt_lt.mp h0
    have e2 : ¬ x.toInt < (-1 : Int32).toInt := fun z => h1 (Int32.lt_iff_toInt_lt.mpr z)
    have e3 : (-1 : Int32).toInt = -1 := by decide
    have e4 : (0 : Int32).toInt = 0 := by decide
    rw [e3] at e2
    rw [e4] at e1
    exact Int32.toInt_inj.mp (by rw [e3]; omega)
  · right
    have e1 : ¬ x.toInt < (0 : Int32).toInt := fun z => h0 (Int32.lt_iff_toInt_lt.mpr z)
    have e4 : (0 : Int32).toInt = 0 := by decide
    rw [e4] at e1
    have e5 := Int32.toInt_lt x
    refine ⟨x.toInt.toNat, by omega, ?_⟩
    refine Int32.toInt_inj.mp ?_
    rw [nI_toInt (by omega)]
    omega
section FUS
variable {bw cw ts tb st : Nat → Int32} {ro mr la : Nat} {fu : Option Nat} {dn : Bool} {wr : Nat} {u' : SV}
theorem cFuse_no {x : Int32} (h : dn = true ∨ x < -1) : cFuse x (bw, cw, ts, tb, st, ro, mr, la, fu, dn, wr) = (false, (bw, cw, ts, tb, st, ro, mr, la, fu, dn, wr)) := if_pos h
theorem cFuse_off (h : dn = false) : cFuse (oI none) (bw, cw, ts, tb, st, ro, mr, la, fu, dn, wr) = (true, (bw, cw, ts, tb, st, ro, mr, la, none, dn, wr)) := by
  subst h
  rfl
theorem cFuse_k (h : dn = false) {k : Nat} (hk : k < 2 ^ 31) : cFuse (nI k) (bw, cw, ts, tb, st, ro, mr, la, fu, dn, wr) = (true, (bw, cw, ts, tb, st, ro, mr, la, some k, dn, wr)) := by
  have h1 : ¬ nI k < 0 := nI_pos hk
  have h2 : ¬ nI k < -1 := fun z => h1 (Int32.lt_trans z (by decide))
  subst h
  show (if (false = true ∨ nI k < -1) then _ else _) = _
  rw [if_neg (fun z => z.elim (fun z => by cases z) h2), if_neg h1, nI_clamp hk]
end FUS
/-- as a new volume is -/
def sv0 (u : SV) : Prop := match u with
  | (bw, cw, ts, tb, st, ro, mr, la, fu, dn, wr) => (∀ k, k < 24 → bw k = nI 0) ∧ (∀ k, k < 36 → cw k = nI 0) ∧ (∀ k, k < 9 → ts k = oI none) ∧ (∀ k, k < 9 → tb k = nI 0) ∧ (∀ k, k < 3 → st k = nI 0) ∧ ro = 0 ∧ mr = 0 ∧ la = 0 ∧ fu = none ∧ dn = false ∧ wr = 0
theorem upd_pre {f : Nat → Int32} {i : Nat} {x : Int32} (h : ∀ k, k < i → f k = x) : ∀ k, k < i + 1 → upd f i x k = x := by
  intro k hk
  unfold upd
  split
  · rfl
  · exact h k (by omega)
end
section
theorem lk_S25 : lkV R_S 25 R_S y_S_clearAll b_S_clearAll 2 none 0 := ⟨wg_i (by decide +kernel), wg_i (by decide +kernel), wg_i (by decide +kernel), wg_i (by decide +kernel), wg_i (by decide +kernel), by decide +kernel⟩
theorem lk_S28 : lkV R_S 28 R_S y_S_requireUp b_S_requireUp 1 none 0 := ⟨wg_i (by decide +kernel), wg_i (by decide +kernel), wg_i (by decide +kernel), wg_i (by decide +kernel), wg_i (by decide +kernel), by decide +kernel⟩
theorem lk_S31 : lkV R_S 31 R_S y_S_requireWord b_S_requireWord 3 none 2 := ⟨wg_i (by decide +kernel), wg_i (by decide +kernel), wg_i (by decide +kernel), wg_i (by decide +kernel), wg_i (by decide +kernel), by decide +kernel⟩
theorem lk_S35 : lkV R_S 35 R_S y_S_countSharers b_S_countSharers 4 (some .int) 1 := ⟨wg_i (by decide +kernel), wg_i (by decide +kernel), wg_i (by decide +kernel), wg_i (by decide +kernel), wg_i (by decide +kernel), by decide +kernel⟩
theorem lk_S39 : lkV R_S 39 R_S y_S_requireFree b_S_requireFree 2 none 1 := ⟨wg_i (by decide +kernel), wg_i (by decide +kernel), wg_i (by decide +kernel), wg_i (by decide +kernel), wg_i (by decide +kernel), by decide +kernel⟩
theorem lk_S43 : lkV R_S 43 R_S y_S_copyForSharers b_S_copyForSharers 4 (some .int) 1 := ⟨wg_i (by decide +kernel), wg_i (by decide +kernel), wg_i (by decide +kernel), wg_i (by decide +kernel), wg_i (by decide +kernel), by decide +kernel⟩
theorem lk_S46 : lkV R_S 46 R_S y_S_putBlockWord b_S_putBlockWord 4 none 3 := ⟨wg_i (by decide +kernel), wg_i (by decide +kernel), wg_i (by decide +kernel), wg_i (by decide +kernel), wg_i (by decide +kernel), by decide +kernel⟩
theorem lk_S50 : lkV R_S 50 R_S y_S_lowestEmptyPlace b_S_lowestEmptyPlace 2 (some .int) 0 := ⟨wg_i (by decide +kernel), wg_i (by decide +kernel), wg_i (by decide +kernel), wg_i (by decide +kernel), wg_i (by decide +kernel), by decide +kernel⟩
theorem lk_S65 : lkV R_S 65 R_S y_S_putStamp b_S_putStamp 3 none 2 := ⟨wg_i (by decide +kernel), wg_i (by decide +kernel), wg_i (by decide +kernel), wg_i (by decide +kernel), wg_i (by decide +kernel), by decide +kernel⟩
theorem lk_S68 : lkV R_S 68 R_S y_S_requireSnapshot b_S_requireSnapshot 2 none 1 := ⟨wg_i (by decide +kernel), wg_i (by decide +kernel), wg_i (by decide +kernel), wg_i (by decide +kernel), wg_i (by decide +kernel), by decide +kernel⟩
theorem lk_S71 : lkV R_S 71 R_S y_S_snapshotWord b_S_snapshotWord 5 (some .int) 3 := ⟨wg_i (by decide +kernel), wg_i (by decide +kernel), wg_i (by decide +kernel), wg_i (by decide +kernel), wg_i (by decide +kernel), by decide +kernel⟩
theorem lk_S75 : lkV R_S 75 R_S y_S_findCopy b_S_findCopy 4 (some .int) 2 := ⟨wg_i (by decide +kernel), wg_i (by decide +kernel), wg_i (by decide +kernel), wg_i (by decide +kernel), wg_i (by decide +kernel), by decide +kernel⟩
theorem lk_S79 : lkV R_S 79 R_S y_S_putCopyWord b_S_putCopyWord 4 none 3 := ⟨wg_i (by decide +kernel), wg_i (by decide +kernel), wg_i (by decide +kernel), wg_i (by decide +kernel), wg_i (by decide +kernel), by decide +kernel⟩
theorem lk_S82 : lkV R_S 82 R_S y_S_copyBlock b_S_copyBlock 7 none 4 := ⟨wg_i (by decide +kernel), wg_i (by decide +kernel), wg_i (by decide +kernel), wg_i (by decide +kernel), wg_i (by decide +kernel), by decide +kernel⟩
theorem lk_S86 : lkV R_S 86 R_S y_S_countCopiesToMerge b_S_countCopiesToMerge 4 (some .int) 1 := ⟨wg_i (by decide +kernel), wg_i (by decide +kernel), wg_i (by decide +kernel), wg_i (by decide +kernel), wg_i (by decide +kernel), by decide +kernel⟩
theorem lk_S89 : lkV R_S 89 R_S y_S_putMark b_S_putMark 2 none 1 := ⟨wg_i (by decide +kernel), wg_i (by decide +kernel), wg_i (by decide +kernel), wg_i (by decide +kernel), wg_i (by decide +kernel), by decide +kernel⟩
theorem lk_S92 : lkV R_S 92 R_S y_S_putRoll b_S_putRoll 2 none 1 := ⟨wg_i (by decide +kernel), wg_i (by decide +kernel), wg_i (by decide +kernel), wg_i (by decide +kernel), wg_i (by decide +kernel), by decide +kernel⟩
theorem lk_S95 : lkV R_S 95 R_S y_S_mergeFromMark b_S_mergeFromMark 5 (some .int) 1 := ⟨wg_i (by decide +kernel), wg_i (by decide +kernel), wg_i (by decide +kernel), wg_i (by decide +kernel), wg_i (by decide +kernel), by decide +kernel⟩
theorem lk_S113 : lkV R_S 113 R_S y_S_countFree b_S_countFree 3 (some .int) 0 := ⟨wg_i (by decide +kernel), wg_i (by decide +kernel), wg_i (by decide +kernel), wg_i (by decide +kernel), wg_i (by decide +kernel), by decide +kernel⟩
theorem lk_S116 : lkV R_S 116 R_S y_S_requireBlock b_S_requireBlock 2 none 1 := ⟨wg_i (by decide +kernel), wg_i (by decide +kernel), wg_i (by decide +kernel), wg_i (by decide +kernel), wg_i (by decide +kernel), by decide +kernel⟩
theorem lk_S119 : lkV R_S 119 R_S y_S_hasSnapshot b_S_hasSnapshot 2 (some .boolean) 1 := ⟨wg_i (by decide +kernel), wg_i (by decide +kernel), wg_i (by decide +kernel), wg_i (by decide +kernel), wg_i (by decide +kernel), by decide +kernel⟩
theorem lk_S123 : lkV R_S 123 R_S y_S_differs b_S_differs 4 (some .boolean) 2 := ⟨wg_i (by decide +kernel), wg_i (by decide +kernel), wg_i (by decide +kernel), wg_i (by decide +kernel), wg_i (by decide +kernel), by decide +kernel⟩
theorem lk_S149 : lkV R_S 149 R_S y_S_isFree b_S_isFree 3 (some .boolean) 1 := ⟨wg_i (by decide +kernel), wg_i (by decide +kernel), wg_i (by decide +kernel), wg_i (by decide +kernel), wg_i (by decide +kernel), by decide +kernel⟩
theorem lk_S152 : lkV R_S 152 R_S y_S_shares b_S_shares 3 (some .boolean) 2 := ⟨wg_i (by decide +kernel), wg_i (by decide +kernel), wg_i (by decide +kernel), wg_i (by decide +kernel), wg_i (by decide +kernel), by decide +kernel⟩
theorem lk_S155 : lkV R_S 155 R_S y_S_lowestFree b_S_lowestFree 2 (some .int) 0 := ⟨wg_i (by decide +kernel), wg_i (by decide +kernel), wg_i (by decide +kernel), wg_i (by decide +kernel), wg_i (by decide +kernel), by decide +kernel⟩
theorem lk_S158 : lkV R_S 158 R_S y_S_putTag b_S_putTag 4 none 3 := ⟨wg_i (by decide +kernel), wg_i (by decide +kernel), wg_i (by decide +kernel), wg_i (by decide +kernel), wg_i (by decide +kernel), by decide +kernel⟩
theorem lk_S161 : lkV R_S 161 R_S y_S_putBlockBack b_S_putBlockBack 4 none 2 := ⟨wg_i (by decide +kernel), wg_i (by decide +kernel), wg_i (by decide +kernel), wg_i (by decide +kernel), wg_i (by decide +kernel), by decide +kernel⟩
theorem lk_S164 : lkV R_S 164 R_S y_S_countWrite b_S_countWrite 1 none 0 := ⟨wg_i (by decide +kernel), wg_i (by decide +kernel), wg_i (by decide +kernel), wg_i (by decide +kernel), wg_i (by decide +kernel), by decide +kernel⟩
end
section
set_option maxHeartbeats 4000000 in
set_option maxRecDepth 100000 in
/-- R_S.hasSnapshot -/
theorem c_S_hasSnapshot (l : Launch) (D : va_G) (cA : Nat → ClassId) (h : Nat → Nat) (sz : Nat) (bw : (Nat → Int32)) (cw : (Nat → Int32)) (ts : (Nat → Int32)) (tb : (Nat → Int32)) (st : (Nat → Int32)) (ro : Nat) (mr : Nat) (la : Nat) (fu : Option Nat) (dn : Bool) (wr : Nat) (x : Int32) : svMi l D cA h (bw, cw, ts, tb, st, ro, mr, la, fu, dn, wr) sz y_S_hasSnapshot (.code y_S_hasSnapshot b_S_hasSnapshot 2 (some .boolean)) (rmL 0) [.int x] (fun r u' => r = bI (cHas st x) ∧ u' = (bw, cw, ts, tb, st, ro, mr, la, fu, dn, wr)) := by
  refine sv_mi (by decide) rfl (Nat.le_of_ble_eq_true rfl) ?_
  intro p e s m args below meth c C hr hsz I ls hl
  generalize svA cA h (bw, cw, ts, tb, st, ro, mr, la, fu, dn, wr) sz = A at I ⊢
  have hl : lv_has ls 2 [(0, .ref (h 0)), (1, .int x)] := hl
  refine lv_iload_n C.1 C.2.1 d_S_hasSnapshot_0 rfl (lv_at hl 1 rfl) ?_
  refine lv_if_lt (x := x) (tgt := 22) C.1 C.2.1 d_S_hasSnapshot_1 (by decide) (fun q1 => ?_) (fun q1 => ?_)
  · refine lv_iconst (v := nI 0) C.1 C.2.1 d_S_hasSnapshot_22 (by decide) ?_
    exact sv_rz (b := false) C hr I ⟨congrArg bI (by first | exact (cHas_none (ixI_lo q1)).symm | exact (cHas_none (ixI_hi q6)).symm | (rw [cHas_n _ hk]; simp [q15])), rfl⟩ d_S_hasSnapshot_23
  · refine lv_iload_n C.1 C.2.1 d_S_hasSnapshot_4 rfl (lv_at hl 1 rfl) ?_
    refine lv_iconst (v := nI 3) C.1 C.2.1 d_S_hasSnapshot_5 (by decide) ?_
    refine lv_icmp_ge (x := x) (y := nI 3) (tgt := 22) C.1 C.2.1 d_S_hasSnapshot_6 (by decide) (fun q6 => ?_) (fun q6 => ?_)
    · refine lv_iconst (v := nI 0) C.1 C.2.1 d_S_hasSnapshot_22 (by decide) ?_
      exact sv_rz (b := false) C hr I ⟨congrArg bI (by first | exact (cHas_none (ixI_lo q1)).symm | exact (cHas_none (ixI_hi q6)).symm | (rw [cHas_n _ hk]; simp [q15])), rfl⟩ d_S_hasSnapshot_23
    · obtain ⟨k, hk, rfl⟩ := ixI_of (n := 3) (by decide) q1 q6
      refine lv_aload_n C.1 C.2.1 d_S_hasSnapshot_9 rfl (lv_at hl 0 rfl) ?_
      refine sv_g4 C I d_S_hasSnapshot_10 ?_
      refine lv_iload_n C.1 C.2.1 d_S_hasSnapshot_13 rfl (lv_at hl 1 rfl) ?_
      refine sv_l5 C I (k := k) (by omega) d_S_hasSnapshot_14 ?_
      refine lv_if_eq (x := (st k)) (tgt := 22) C.1 C.2.1 d_S_hasSnapshot_15 (by decide) (fun q15 => ?_) (fun q15 => ?_)
      · refine lv_iconst (v := nI 0) C.1 C.2.1 d_S_hasSnapshot_22 (by decide) ?_
        exact sv_rz (b := false) C hr I ⟨congrArg bI (by first | exact (cHas_none (ixI_lo q1)).symm | exact (cHas_none (ixI_hi q6)).symm | (rw [cHas_n _ hk]; simp [q15])), rfl⟩ d_S_hasSnapshot_23
      · refine lv_iconst (v := nI 1) C.1 C.2.1 d_S_hasSnapshot_18 (by decide) ?_
        refine lv_goto (tgt := 23) C.1 C.2.1 d_S_hasSnapshot_19 (by decide) ?_
        exact sv_rz (b := true) C hr I ⟨congrArg bI (by first | exact (cHas_none (ixI_lo q1)).symm | exact (cHas_none (ixI_hi q6)).symm | (rw [cHas_n _ hk]; simp [q15])), rfl⟩ d_S_hasSnapshot_23
set_option maxHeartbeats 4000000 in
set_option maxRecDepth 100000 in
theorem lp_S_lowestEmptyPlace_2 {p : Program} {l : Launch} {e : Env} {s : State} {m : MethodId} {args : Array Value} {below : List Frame} {meth : Method} {c : Code} {D : va_G} {cA : Nat → ClassId} {A : Nat → Prop} {h : Nat → Nat} {bw : (Nat → Int32)} {cw : (Nat → Int32)} {ts : (Nat → Int32)} {tb : (Nat → Int32)} {st : (Nat → Int32)} {ro : Nat} {mr : Nat} {la : Nat} {fu : Option Nat} {dn : Bool} {wr : Nat} (C : gC p s m args meth c b_S_lowestEmptyPlace 2 R_S) (hr : meth.sig.returnType = (some .int))    : ∀ (fuel : Nat) (i : Nat), 3 - i < fuel → i ≤ 3 → cLE st = fst (fun s => decide (st s = 0)) (3 - i) i → ∀ (H : Heap) (locs : List Loc), svI D cA A s h (bw, cw, ts, tb, st, ro, mr, la, fu, dn, wr) H locs → ∀ (ls : Array Slot), lv_has ls 2 [(0, .ref (h 0)), (1, .int (nI i))] → W p l e (rmL 1) s m args below meth c H locs 0 0 (MQ below (va_Qi (fun r u' => r = oI (cLE st) ∧ u' = (bw, cw, ts, tb, st, ro, mr, la, fu, dn, wr)) (svAt D cA A h) A) args s 0 0 A) (F0 m 2 ls []) := by
  intro fuel
  induction fuel with
  | zero =>
    intro _ hfuel
    exact absurd hfuel (Nat.not_lt_zero _)
  | succ fuel ih =>
    intro i hfuel hi hf H locs I ls hl
    refine lv_iload_n C.1 C.2.1 d_S_lowestEmptyPlace_2 rfl (lv_at hl 1 rfl) ?_
    refine lv_iconst (v := nI 3) C.1 C.2.1 d_S_lowestEmptyPlace_3 (by decide) ?_
    refine n_icmp_ge C.1 C.2.1 (a := i) (b := 3) (tgt := 23) (by omega) (by omega) d_S_lowestEmptyPlace_4 (by decide) (fun q4 => ?_) (fun q4 => ?_)
    · refine lv_iconst (v := oI none) C.1 C.2.1 d_S_lowestEmptyPlace_23 (by decide) ?_
      exact sv_ri (v := oI none) C hr I ⟨show oI none = _ from congrArg oI (by rw [hf, show 3 - i = 0 by omega]; rfl), rfl⟩ d_S_lowestEmptyPlace_24
    · refine lv_aload_n C.1 C.2.1 d_S_lowestEmptyPlace_7 rfl (lv_at hl 0 rfl) ?_
      refine lv_iload_n C.1 C.2.1 d_S_lowestEmptyPlace_8 rfl (lv_at hl 1 rfl) ?_
      refine sv_ci C I (c_S_hasSnapshot l D cA h _ bw cw ts tb st ro mr la fu dn wr (nI i)) lk_S119 rfl rfl ⟨by decide, by decide⟩ ⟨Nat.zero_le _, Nat.zero_le _⟩ rfl hl.1 (rest := []) rfl (Nat.le_of_ble_eq_true rfl) d_S_lowestEmptyPlace_9 (fun r u' H locs w9 I => ?_)
      obtain ⟨rfl, rfl⟩ := w9
      refine n_ifne (b := cHas st (nI i)) (tgt := 17) C.1 C.2.1 d_S_lowestEmptyPlace_12 (by decide) (fun q12 => ?_) (fun q12 => ?_)
      · refine lv_iinc (v := nI (i + 1)) (lv' := [(1, .int (nI (i + 1))), (0, .ref (h 0))]) C.1 C.2.1 d_S_lowestEmptyPlace_17 hl (k := 1) rfl (by rw [show nI (i + 1) = nI i + nI 1 from (nI_add _ _).symm]; rfl) (by decide) rfl (fun ls hl => ?_)
        refine lv_goto (tgt := 2) C.1 C.2.1 d_S_lowestEmptyPlace_20 (by decide) ?_
        exact ih (i + 1) (by omega) (by omega) (by rw [hf, show 3 - i = (3 - (i + 1)) + 1 by omega]; exact fst_s (by rw [cHas_n _ (by omega)] at q12; simpa using q12)) _ _ I ls (lv_sub hl [1, 0] rfl)
      · refine lv_iload_n C.1 C.2.1 d_S_lowestEmptyPlace_15 rfl (lv_at hl 1 rfl) ?_
        exact sv_ri (v := nI i) C hr I ⟨show oI (some i) = _ from congrArg oI (by rw [hf, show 3 - i = (2 - i) + 1 by omega]; exact (fst_y (by rw [cHas_n _ (by omega)] at q12; simpa using q12)).symm), rfl⟩ d_S_lowestEmptyPlace_16
set_option maxHeartbeats 4000000 in
set_option maxRecDepth 100000 in
/-- R_S.lowestEmptyPlace -/
theorem c_S_lowestEmptyPlace (l : Launch) (D : va_G) (cA : Nat → ClassId) (h : Nat → Nat) (sz : Nat) (bw : (Nat → Int32)) (cw : (Nat → Int32)) (ts : (Nat → Int32)) (tb : (Nat → Int32)) (st : (Nat → Int32)) (ro : Nat) (mr : Nat) (la : Nat) (fu : Option Nat) (dn : Bool) (wr : Nat)  : svMi l D cA h (bw, cw, ts, tb, st, ro, mr, la, fu, dn, wr) sz y_S_lowestEmptyPlace (.code y_S_lowestEmptyPlace b_S_lowestEmptyPlace 2 (some .int)) (rmL 1) [] (fun r u' => r = oI (cLE st) ∧ u' = (bw, cw, ts, tb, st, ro, mr, la, fu, dn, wr)) := by
  refine sv_mi (by decide) rfl (Nat.le_of_ble_eq_true rfl) ?_
  intro p e s m args below meth c C hr hsz I ls hl
  generalize svA cA h (bw, cw, ts, tb, st, ro, mr, la, fu, dn, wr) sz = A at I ⊢
  have hl : lv_has ls 2 [(0, .ref (h 0))] := hl
  refine lv_iconst (v := nI 0) C.1 C.2.1 d_S_lowestEmptyPlace_0 (by decide) ?_
  refine lv_istore_n (lv' := [(1, .int (nI 0)), (0, .ref (h 0))]) C.1 C.2.1 d_S_lowestEmptyPlace_1 rfl hl (by decide) rfl (fun ls hl => ?_)
  exact lp_S_lowestEmptyPlace_2 C hr   _ 0 (Nat.lt_succ_self _) (by omega) rfl _ _ I ls (lv_sub hl [1, 0] rfl)
set_option maxHeartbeats 4000000 in
set_option maxRecDepth 100000 in
theorem lp_S_isFree_2 {p : Program} {l : Launch} {e : Env} {s : State} {m : MethodId} {args : Array Value} {below : List Frame} {meth : Method} {c : Code} {D : va_G} {cA : Nat → ClassId} {A : Nat → Prop} {h : Nat → Nat} {bw : (Nat → Int32)} {cw : (Nat → Int32)} {ts : (Nat → Int32)} {tb : (Nat → Int32)} {st : (Nat → Int32)} {ro : Nat} {mr : Nat} {la : Nat} {fu : Option Nat} {dn : Bool} {wr : Nat} (C : gC p s m args meth c b_S_isFree 3 R_S) (hr : meth.sig.returnType = (some .boolean)) (k0 : Nat) (hk0 : k0 < 9)   : ∀ (fuel : Nat) (i : Nat), 3 - i < fuel → i ≤ 3 → (∀ j, j < i → ts k0 ≠ st j) → ∀ (H : Heap) (locs : List Loc), svI D cA A s h (bw, cw, ts, tb, st, ro, mr, la, fu, dn, wr) H locs → ∀ (ls : Array Slot), lv_has ls 3 [(0, .ref (h 0)), (1, .int (nI k0)), (2, .int (nI i))] → W p l e (rmL 0) s m args below meth c H locs 0 0 (MQ below (va_Qi (fun r u' => r = bI (cFree ts st k0) ∧ u' = (bw, cw, ts, tb, st, ro, mr, la, fu, dn, wr)) (svAt D cA A h) A) args s 0 0 A) (F0 m 2 ls []) := by
  intro fuel
  induction fuel with
  | zero =>
    intro _ hfuel
    exact absurd hfuel (Nat.not_lt_zero _)
  | succ fuel ih =>
    intro i hfuel hi hj H locs I ls hl
    refine lv_iload_n C.1 C.2.1 d_S_isFree_2 rfl (lv_at hl 2 rfl) ?_
    refine lv_iconst (v := nI 3) C.1 C.2.1 d_S_isFree_3 (by decide) ?_
    refine n_icmp_ge C.1 C.2.1 (a := i) (b := 3) (tgt := 30) (by omega) (by omega) d_S_isFree_4 (by decide) (fun q4 => ?_) (fun q4 => ?_)
    · refine lv_iconst (v := nI 1) C.1 C.2.1 d_S_isFree_30 (by decide) ?_
      exact sv_rz (b := true) C hr I ⟨congrArg bI (free_iff.mpr (fun s hs => hj s (by omega))).symm, rfl⟩ d_S_isFree_31
    · refine lv_aload_n C.1 C.2.1 d_S_isFree_7 rfl (lv_at hl 0 rfl) ?_
      refine sv_g2 C I d_S_isFree_8 ?_
      refine lv_iload_n C.1 C.2.1 d_S_isFree_11 rfl (lv_at hl 1 rfl) ?_
      refine sv_l3 C I (k := k0) (by omega) d_S_isFree_12 ?_
      refine lv_aload_n C.1 C.2.1 d_S_isFree_13 rfl (lv_at hl 0 rfl) ?_
      refine sv_g4 C I d_S_isFree_14 ?_
      refine lv_iload_n C.1 C.2.1 d_S_isFree_17 rfl (lv_at hl 2 rfl) ?_
      refine sv_l5 C I (k := i) (by omega) d_S_isFree_18 ?_
      refine lv_icmp_ne (x := (ts k0)) (y := (st i)) (tgt := 24) C.1 C.2.1 d_S_isFree_19 (by decide) (fun q19 => ?_) (fun q19 => ?_)
      · refine lv_iinc (v := nI (i + 1)) (lv' := [(2, .int (nI (i + 1))), (0, .ref (h 0)), (1, .int (nI k0))]) C.1 C.2.1 d_S_isFree_24 hl (k := 2) rfl (by rw [show nI (i + 1) = nI i + nI 1 from (nI_add _ _).symm]; rfl) (by decide) rfl (fun ls hl => ?_)
        refine lv_goto (tgt := 2) C.1 C.2.1 d_S_isFree_27 (by decide) ?_
        exact ih (i + 1) (by omega) (by omega) (fun j hj2 => by rcases Nat.lt_or_ge j i with g | g; exact hj j g; rw [show j = i by omega]; exact q19) _ _ I ls (lv_sub hl [1, 2, 0] rfl)
      · refine lv_iconst (v := nI 0) C.1 C.2.1 d_S_isFree_22 (by decide) ?_
        exact sv_rz (b := false) C hr I ⟨congrArg bI (by symm; cases hx : cFree ts st k0; rfl; exact absurd q19 (free_iff.mp hx i (by omega))), rfl⟩ d_S_isFree_23
set_option maxHeartbeats 4000000 in
set_option maxRecDepth 100000 in
/-- R_S.isFree -/
theorem c_S_isFree (l : Launch) (D : va_G) (cA : Nat → ClassId) (h : Nat → Nat) (sz : Nat) (bw : (Nat → Int32)) (cw : (Nat → Int32)) (ts : (Nat → Int32)) (tb : (Nat → Int32)) (st : (Nat → Int32)) (ro : Nat) (mr : Nat) (la : Nat) (fu : Option Nat) (dn : Bool) (wr : Nat) (k0 : Nat) (hk0 : k0 < 9) : svMi l D cA h (bw, cw, ts, tb, st, ro, mr, la, fu, dn, wr) sz y_S_isFree (.code y_S_isFree b_S_isFree 3 (some .boolean)) (rmL 0) [.int (nI k0)] (fun r u' => r = bI (cFree ts st k0) ∧ u' = (bw, cw, ts, tb, st, ro, mr, la, fu, dn, wr)) := by
  refine sv_mi (by decide) rfl (Nat.le_of_ble_eq_true rfl) ?_
  intro p e s m args below meth c C hr hsz I ls hl
  generalize svA cA h (bw, cw, ts, tb, st, ro, mr, la, fu, dn, wr) sz = A at I ⊢
  have hl : lv_has ls 3 [(0, .ref (h 0)), (1, .int (nI k0))] := hl
  refine lv_iconst (v := nI 0) C.1 C.2.1 d_S_isFree_0 (by decide) ?_
  refine lv_istore_n (lv' := [(2, .int (nI 0)), (0, .ref (h 0)), (1, .int (nI k0))]) C.1 C.2.1 d_S_isFree_1 rfl hl (by decide) rfl (fun ls hl => ?_)
  exact lp_S_isFree_2 C hr k0 hk0  _ 0 (Nat.lt_succ_self _) (by omega) (fun j hj => absurd hj (Nat.not_lt_zero j)) _ _ I ls (lv_sub hl [1, 2, 0] rfl)
set_option maxHeartbeats 4000000 in
set_option maxRecDepth 100000 in
theorem lp_S_countFree_4 {p : Program} {l : Launch} {e : Env} {s : State} {m : MethodId} {args : Array Value} {below : List Frame} {meth : Method} {c : Code} {D : va_G} {cA : Nat → ClassId} {A : Nat → Prop} {h : Nat → Nat} {bw : (Nat → Int32)} {cw : (Nat → Int32)} {ts : (Nat → Int32)} {tb : (Nat → Int32)} {st : (Nat → Int32)} {ro : Nat} {mr : Nat} {la : Nat} {fu : Option Nat} {dn : Bool} {wr : Nat} (C : gC p s m args meth c b_S_countFree 3 R_S) (hr : meth.sig.returnType = (some .int))    : ∀ (fuel : Nat) (i : Nat) (a : Nat), 9 - i < fuel → i ≤ 9 → a = cnt (cFree ts st) i → ∀ (H : Heap) (locs : List Loc), svI D cA A s h (bw, cw, ts, tb, st, ro, mr, la, fu, dn, wr) H locs → ∀ (ls : Array Slot), lv_has ls 3 [(0, .ref (h 0)), (1, .int (nI a)), (2, .int (nI i))] → W p l e (rmL 1) s m args below meth c H locs 0 0 (MQ below (va_Qi (fun r u' => r = nI (cNF ts st) ∧ u' = (bw, cw, ts, tb, st, ro, mr, la, fu, dn, wr)) (svAt D cA A h) A) args s 0 0 A) (F0 m 4 ls []) := by
  intro fuel
  induction fuel with
  | zero =>
    intro _ _ hfuel
    exact absurd hfuel (Nat.not_lt_zero _)
  | succ fuel ih =>
    intro i a hfuel hi ha H locs I ls hl
    subst ha
    have hc9 := cnt_le (cFree ts st) i
    refine lv_iload_n C.1 C.2.1 d_S_countFree_4 rfl (lv_at hl 2 rfl) ?_
    refine lv_bipush (v := nI 9) C.1 C.2.1 d_S_countFree_5 (by decide) ?_
    refine n_icmp_ge C.1 C.2.1 (a := i) (b := 9) (tgt := 27) (by omega) (by omega) d_S_countFree_7 (by decide) (fun q7 => ?_) (fun q7 => ?_)
    · refine lv_iload_n C.1 C.2.1 d_S_countFree_27 rfl (lv_at hl 1 rfl) ?_
      exact sv_ri (v := nI (cnt (cFree ts st) i)) C hr I ⟨congrArg nI (by rw [show i = 9 by omega]; rfl), rfl⟩ d_S_countFree_28
    · refine lv_aload_n C.1 C.2.1 d_S_countFree_10 rfl (lv_at hl 0 rfl) ?_
      refine lv_iload_n C.1 C.2.1 d_S_countFree_11 rfl (lv_at hl 2 rfl) ?_
      refine sv_ci C I (c_S_isFree l D cA h _ bw cw ts tb st ro mr la fu dn wr i (by omega)) lk_S149 rfl rfl ⟨by decide, by decide⟩ ⟨Nat.zero_le _, Nat.zero_le _⟩ rfl hl.1 (rest := []) rfl (Nat.le_of_ble_eq_true rfl) d_S_countFree_12 (fun r u' H locs w12 I => ?_)
      obtain ⟨rfl, rfl⟩ := w12
      refine n_ifeq (b := cFree ts st i) (tgt := 21) C.1 C.2.1 d_S_countFree_15 (by decide) (fun q15 => ?_) (fun q15 => ?_)
      · refine lv_iinc (v := nI (i + 1)) (lv' := [(2, .int (nI (i + 1))), (0, .ref (h 0)), (1, .int (nI (cnt (cFree ts st) i)))]) C.1 C.2.1 d_S_countFree_21 hl (k := 2) rfl (by rw [show nI (i + 1) = nI i + nI 1 from (nI_add _ _).symm]; rfl) (by decide) rfl (fun ls hl => ?_)
        refine lv_goto (tgt := 4) C.1 C.2.1 d_S_countFree_24 (by decide) ?_
        exact ih (i + 1) (cnt (cFree ts st) i) (by omega) (by omega) (by first | exact (cnt_y q15).symm | exact (cnt_s q15).symm) _ _ I ls (lv_sub hl [1, 2, 0] rfl)
      · refine lv_iinc (v := nI (cnt (cFree ts st) i + 1)) (lv' := [(1, .int (nI (cnt (cFree ts st) i + 1))), (0, .ref (h 0)), (2, .int (nI i))]) C.1 C.2.1 d_S_countFree_18 hl (k := 1) rfl (by rw [show nI (cnt (cFree ts st) i + 1) = nI (cnt (cFree ts st) i) + nI 1 from (nI_add _ _).symm]; rfl) (by decide) rfl (fun ls hl => ?_)
        refine lv_iinc (v := nI (i + 1)) (lv' := [(2, .int (nI (i + 1))), (1, .int (nI (cnt (cFree ts st) i + 1))), (0, .ref (h 0))]) C.1 C.2.1 d_S_countFree_21 hl (k := 2) rfl (by rw [show nI (i + 1) = nI i + nI 1 from (nI_add _ _).symm]; rfl) (by decide) rfl (fun ls hl => ?_)
        refine lv_goto (tgt := 4) C.1 C.2.1 d_S_countFree_24 (by decide) ?_
        exact ih (i + 1) (cnt (cFree ts st) i + 1) (by omega) (by omega) (by first | exact (cnt_y q15).symm | exact (cnt_s q15).symm) _ _ I ls (lv_sub hl [2, 1, 0] rfl)
set_option maxHeartbeats 4000000 in
set_option maxRecDepth 100000 in
/-- R_S.countFree -/
theorem c_S_countFree (l : Launch) (D : va_G) (cA : Nat → ClassId) (h : Nat → Nat) (sz : Nat) (bw : (Nat → Int32)) (cw : (Nat → Int32)) (ts : (Nat → Int32)) (tb : (Nat → Int32)) (st : (Nat → Int32)) (ro : Nat) (mr : Nat) (la : Nat) (fu : Option Nat) (dn : Bool) (wr : Nat)  : svMi l D cA h (bw, cw, ts, tb, st, ro, mr, la, fu, dn, wr) sz y_S_countFree (.code y_S_countFree b_S_countFree 3 (some .int)) (rmL 1) [] (fun r u' => r = nI (cNF ts st) ∧ u' = (bw, cw, ts, tb, st, ro, mr, la, fu, dn, wr)) := by
  refine sv_mi (by decide) rfl (Nat.le_of_ble_eq_true rfl) ?_
  intro p e s m args below meth c C hr hsz I ls hl
  generalize svA cA h (bw, cw, ts, tb, st, ro, mr, la, fu, dn, wr) sz = A at I ⊢
  have hl : lv_has ls 3 [(0, .ref (h 0))] := hl
  refine lv_iconst (v := nI 0) C.1 C.2.1 d_S_countFree_0 (by decide) ?_
  refine lv_istore_n (lv' := [(1, .int (nI 0)), (0, .ref (h 0))]) C.1 C.2.1 d_S_countFree_1 rfl hl (by decide) rfl (fun ls hl => ?_)
  refine lv_iconst (v := nI 0) C.1 C.2.1 d_S_countFree_2 (by decide) ?_
  refine lv_istore_n (lv' := [(2, .int (nI 0)), (1, .int (nI 0)), (0, .ref (h 0))]) C.1 C.2.1 d_S_countFree_3 rfl hl (by decide) rfl (fun ls hl => ?_)
  exact lp_S_countFree_4 C hr   _ 0 0 (Nat.lt_succ_self _) (by omega) rfl _ _ I ls (lv_sub hl [2, 1, 0] rfl)
set_option maxHeartbeats 4000000 in
set_option maxRecDepth 100000 in
theorem lp_S_lowestFree_2 {p : Program} {l : Launch} {e : Env} {s : State} {m : MethodId} {args : Array Value} {below : List Frame} {meth : Method} {c : Code} {D : va_G} {cA : Nat → ClassId} {A : Nat → Prop} {h : Nat → Nat} {bw : (Nat → Int32)} {cw : (Nat → Int32)} {ts : (Nat → Int32)} {tb : (Nat → Int32)} {st : (Nat → Int32)} {ro : Nat} {mr : Nat} {la : Nat} {fu : Option Nat} {dn : Bool} {wr : Nat} (C : gC p s m args meth c b_S_lowestFree 2 R_S) (hr : meth.sig.returnType = (some .int))    : ∀ (fuel : Nat) (i : Nat), 9 - i < fuel → i ≤ 9 → cLF ts st = fst (cFree ts st) (9 - i) i → ∀ (H : Heap) (locs : List Loc), svI D cA A s h (bw, cw, ts, tb, st, ro, mr, la, fu, dn, wr) H locs → ∀ (ls : Array Slot), lv_has ls 2 [(0, .ref (h 0)), (1, .int (nI i))] → W p l e (rmL 1) s m args below meth c H locs 0 0 (MQ below (va_Qi (fun r u' => r = oI (cLF ts st) ∧ u' = (bw, cw, ts, tb, st, ro, mr, la, fu, dn, wr)) (svAt D cA A h) A) args s 0 0 A) (F0 m 2 ls []) := by
  intro fuel
  induction fuel with
  | zero =>
    intro _ hfuel
    exact absurd hfuel (Nat.not_lt_zero _)
  | succ fuel ih =>
    intro i hfuel hi hf H locs I ls hl
    refine lv_iload_n C.1 C.2.1 d_S_lowestFree_2 rfl (lv_at hl 1 rfl) ?_
    refine lv_bipush (v := nI 9) C.1 C.2.1 d_S_lowestFree_3 (by decide) ?_
    refine n_icmp_ge C.1 C.2.1 (a := i) (b := 9) (tgt := 24) (by omega) (by omega) d_S_lowestFree_5 (by decide) (fun q5 => ?_) (fun q5 => ?_)
    · refine lv_iconst (v := oI none) C.1 C.2.1 d_S_lowestFree_24 (by decide) ?_
      exact sv_ri (v := oI none) C hr I ⟨show oI none = _ from congrArg oI (by rw [hf, show 9 - i = 0 by omega]; rfl), rfl⟩ d_S_lowestFree_25
    · refine lv_aload_n C.1 C.2.1 d_S_lowestFree_8 rfl (lv_at hl 0 rfl) ?_
      refine lv_iload_n C.1 C.2.1 d_S_lowestFree_9 rfl (lv_at hl 1 rfl) ?_
      refine sv_ci C I (c_S_isFree l D cA h _ bw cw ts tb st ro mr la fu dn wr i (by omega)) lk_S149 rfl rfl ⟨by decide, by decide⟩ ⟨Nat.zero_le _, Nat.zero_le _⟩ rfl hl.1 (rest := []) rfl (Nat.le_of_ble_eq_true rfl) d_S_lowestFree_10 (fun r u' H locs w10 I => ?_)
      obtain ⟨rfl, rfl⟩ := w10
      refine n_ifeq (b := cFree ts st i) (tgt := 18) C.1 C.2.1 d_S_lowestFree_13 (by decide) (fun q13 => ?_) (fun q13 => ?_)
      · refine lv_iinc (v := nI (i + 1)) (lv' := [(1, .int (nI (i + 1))), (0, .ref (h 0))]) C.1 C.2.1 d_S_lowestFree_18 hl (k := 1) rfl (by rw [show nI (i + 1) = nI i + nI 1 from (nI_add _ _).symm]; rfl) (by decide) rfl (fun ls hl => ?_)
        refine lv_goto (tgt := 2) C.1 C.2.1 d_S_lowestFree_21 (by decide) ?_
        exact ih (i + 1) (by omega) (by omega) (by rw [hf, show 9 - i = (9 - (i + 1)) + 1 by omega]; exact fst_s q13) _ _ I ls (lv_sub hl [1, 0] rfl)
      · refine lv_iload_n C.1 C.2.1 d_S_lowestFree_16 rfl (lv_at hl 1 rfl) ?_
        exact sv_ri (v := nI i) C hr I ⟨show oI (some i) = _ from congrArg oI (by rw [hf, show 9 - i = (8 - i) + 1 by omega]; exact (fst_y q13).symm), rfl⟩ d_S_lowestFree_17
set_option maxHeartbeats 4000000 in
set_option maxRecDepth 100000 in
/-- R_S.lowestFree -/
theorem c_S_lowestFree (l : Launch) (D : va_G) (cA : Nat → ClassId) (h : Nat → Nat) (sz : Nat) (bw : (Nat → Int32)) (cw : (Nat → Int32)) (ts : (Nat → Int32)) (tb : (Nat → Int32)) (st : (Nat → Int32)) (ro : Nat) (mr : Nat) (la : Nat) (fu : Option Nat) (dn : Bool) (wr : Nat)  : svMi l D cA h (bw, cw, ts, tb, st, ro, mr, la, fu, dn, wr) sz y_S_lowestFree (.code y_S_lowestFree b_S_lowestFree 2 (some .int)) (rmL 1) [] (fun r u' => r = oI (cLF ts st) ∧ u' = (bw, cw, ts, tb, st, ro, mr, la, fu, dn, wr)) := by
  refine sv_mi (by decide) rfl (Nat.le_of_ble_eq_true rfl) ?_
  intro p e s m args below meth c C hr hsz I ls hl
  generalize svA cA h (bw, cw, ts, tb, st, ro, mr, la, fu, dn, wr) sz = A at I ⊢
  have hl : lv_has ls 2 [(0, .ref (h 0))] := hl
  refine lv_iconst (v := nI 0) C.1 C.2.1 d_S_lowestFree_0 (by decide) ?_
  refine lv_istore_n (lv' := [(1, .int (nI 0)), (0, .ref (h 0))]) C.1 C.2.1 d_S_lowestFree_1 rfl hl (by decide) rfl (fun ls hl => ?_)
  exact lp_S_lowestFree_2 C hr   _ 0 (Nat.lt_succ_self _) (by omega) rfl _ _ I ls (lv_sub hl [1, 0] rfl)
set_option maxHeartbeats 4000000 in
set_option maxRecDepth 100000 in
theorem lp_S_findCopy_12 {p : Program} {l : Launch} {e : Env} {s : State} {m : MethodId} {args : Array Value} {below : List Frame} {meth : Method} {c : Code} {D : va_G} {cA : Nat → ClassId} {A : Nat → Prop} {h : Nat → Nat} {bw : (Nat → Int32)} {cw : (Nat → Int32)} {ts : (Nat → Int32)} {tb : (Nat → Int32)} {st : (Nat → Int32)} {ro : Nat} {mr : Nat} {la : Nat} {fu : Option Nat} {dn : Bool} {wr : Nat} (C : gC p s m args meth c b_S_findCopy 4 R_S) (hr : meth.sig.returnType = (some .int)) (s0 b0 : Nat) (hs0 : s0 < 3) (hb0 : b0 < 6)   : ∀ (fuel : Nat) (i : Nat), 9 - i < fuel → i ≤ 9 → cFind ts tb st s0 b0 = fst (cTag ts tb st s0 b0) (9 - i) i → ∀ (H : Heap) (locs : List Loc), svI D cA A s h (bw, cw, ts, tb, st, ro, mr, la, fu, dn, wr) H locs → ∀ (ls : Array Slot), lv_has ls 4 [(0, .ref (h 0)), (1, .int (nI s0)), (2, .int (nI b0)), (3, .int (nI i))] → W p l e (rmL 1) s m args below meth c H locs 0 0 (MQ below (va_Qi (fun r u' => r = oI (cFind ts tb st s0 b0) ∧ u' = (bw, cw, ts, tb, st, ro, mr, la, fu, dn, wr)) (svAt D cA A h) A) args s 0 0 A) (F0 m 12 ls []) := by
  intro fuel
  induction fuel with
  | zero =>
    intro _ hfuel
    exact absurd hfuel (Nat.not_lt_zero _)
  | succ fuel ih =>
    intro i hfuel hi hf H locs I ls hl
    refine lv_iload_n C.1 C.2.1 d_S_findCopy_12 rfl (lv_at hl 3 rfl) ?_
    refine lv_bipush (v := nI 9) C.1 C.2.1 d_S_findCopy_13 (by decide) ?_
    refine n_icmp_ge C.1 C.2.1 (a := i) (b := 9) (tgt := 51) (by omega) (by omega) d_S_findCopy_15 (by decide) (fun q15 => ?_) (fun q15 => ?_)
    · refine lv_iconst (v := oI none) C.1 C.2.1 d_S_findCopy_51 (by decide) ?_
      exact sv_ri (v := oI none) C hr I ⟨show oI none = _ from congrArg oI (by rw [hf, show 9 - i = 0 by omega]; rfl), rfl⟩ d_S_findCopy_52
    · refine lv_aload_n C.1 C.2.1 d_S_findCopy_18 rfl (lv_at hl 0 rfl) ?_
      refine sv_g2 C I d_S_findCopy_19 ?_
      refine lv_iload_n C.1 C.2.1 d_S_findCopy_22 rfl (lv_at hl 3 rfl) ?_
      refine sv_l3 C I (k := i) (by omega) d_S_findCopy_23 ?_
      refine lv_aload_n C.1 C.2.1 d_S_findCopy_24 rfl (lv_at hl 0 rfl) ?_
      refine sv_g4 C I d_S_findCopy_25 ?_
      refine lv_iload_n C.1 C.2.1 d_S_findCopy_28 rfl (lv_at hl 1 rfl) ?_
      refine sv_l5 C I (k := s0) (by omega) d_S_findCopy_29 ?_
      refine lv_icmp_ne (x := (ts i)) (y := (st s0)) (tgt := 45) C.1 C.2.1 d_S_findCopy_30 (by decide) (fun q30 => ?_) (fun q30 => ?_)
      · refine lv_iinc (v := nI (i + 1)) (lv' := [(3, .int (nI (i + 1))), (0, .ref (h 0)), (1, .int (nI s0)), (2, .int (nI b0))]) C.1 C.2.1 d_S_findCopy_45 hl (k := 3) rfl (by rw [show nI (i + 1) = nI i + nI 1 from (nI_add _ _).symm]; rfl) (by decide) rfl (fun ls hl => ?_)
        refine lv_goto (tgt := 12) C.1 C.2.1 d_S_findCopy_48 (by decide) ?_
        exact ih (i + 1) (by omega) (by omega) (by rw [hf, show 9 - i = (9 - (i + 1)) + 1 by omega]; exact fst_s (by first | (simp [cTag, q40]; done) | (simp [cTag, q30]; done))) _ _ I ls (lv_sub hl [1, 2, 3, 0] rfl)
      · refine lv_aload_n C.1 C.2.1 d_S_findCopy_33 rfl (lv_at hl 0 rfl) ?_
        refine sv_g3 C I d_S_findCopy_34 ?_
        refine lv_iload_n C.1 C.2.1 d_S_findCopy_37 rfl (lv_at hl 3 rfl) ?_
        refine sv_l4 C I (k := i) (by omega) d_S_findCopy_38 ?_
        refine lv_iload_n C.1 C.2.1 d_S_findCopy_39 rfl (lv_at hl 2 rfl) ?_
        refine lv_icmp_ne (x := (tb i)) (y := nI b0) (tgt := 45) C.1 C.2.1 d_S_findCopy_40 (by decide) (fun q40 => ?_) (fun q40 => ?_)
        · refine lv_iinc (v := nI (i + 1)) (lv' := [(3, .int (nI (i + 1))), (0, .ref (h 0)), (1, .int (nI s0)), (2, .int (nI b0))]) C.1 C.2.1 d_S_findCopy_45 hl (k := 3) rfl (by rw [show nI (i + 1) = nI i + nI 1 from (nI_add _ _).symm]; rfl) (by decide) rfl (fun ls hl => ?_)
          refine lv_goto (tgt := 12) C.1 C.2.1 d_S_findCopy_48 (by decide) ?_
          exact ih (i + 1) (by omega) (by omega) (by rw [hf, show 9 - i = (9 - (i + 1)) + 1 by omega]; exact fst_s (by first | (simp [cTag, q40]; done) | (simp [cTag, q30]; done))) _ _ I ls (lv_sub hl [1, 2, 3, 0] rfl)
        · refine lv_iload_n C.1 C.2.1 d_S_findCopy_43 rfl (lv_at hl 3 rfl) ?_
          exact sv_ri (v := nI i) C hr I ⟨show oI (some i) = _ from congrArg oI (by rw [hf, show 9 - i = (8 - i) + 1 by omega]; exact (fst_y (by simp [cTag, q30, q40])).symm), rfl⟩ d_S_findCopy_44
set_option maxHeartbeats 4000000 in
set_option maxRecDepth 100000 in
/-- R_S.findCopy -/
theorem c_S_findCopy (l : Launch) (D : va_G) (cA : Nat → ClassId) (h : Nat → Nat) (sz : Nat) (bw : (Nat → Int32)) (cw : (Nat → Int32)) (ts : (Nat → Int32)) (tb : (Nat → Int32)) (st : (Nat → Int32)) (ro : Nat) (mr : Nat) (la : Nat) (fu : Option Nat) (dn : Bool) (wr : Nat) (s0 b0 : Nat) (hs0 : s0 < 3) (hb0 : b0 < 6) : svMi l D cA h (bw, cw, ts, tb, st, ro, mr, la, fu, dn, wr) sz y_S_findCopy (.code y_S_findCopy b_S_findCopy 4 (some .int)) (rmL 1) [.int (nI s0), .int (nI b0)] (fun r u' => r = oI (cFind ts tb st s0 b0) ∧ u' = (bw, cw, ts, tb, st, ro, mr, la, fu, dn, wr)) := by
  refine sv_mi (by decide) rfl (Nat.le_of_ble_eq_true rfl) ?_
  intro p e s m args below meth c C hr hsz I ls hl
  generalize svA cA h (bw, cw, ts, tb, st, ro, mr, la, fu, dn, wr) sz = A at I ⊢
  have hl : lv_has ls 4 [(0, .ref (h 0)), (1, .int (nI s0)), (2, .int (nI b0))] := hl
  refine lv_aload_n C.1 C.2.1 d_S_findCopy_0 rfl (lv_at hl 0 rfl) ?_
  refine lv_iload_n C.1 C.2.1 d_S_findCopy_1 rfl (lv_at hl 1 rfl) ?_
  refine sv_ci C I (c_S_hasSnapshot l D cA h _ bw cw ts tb st ro mr la fu dn wr (nI s0)) lk_S119 rfl rfl ⟨by decide, by decide⟩ ⟨Nat.zero_le _, Nat.zero_le _⟩ rfl hl.1 (rest := []) rfl (Nat.le_of_ble_eq_true rfl) d_S_findCopy_2 (fun r u' H locs w2 I => ?_)
  obtain ⟨rfl, rfl⟩ := w2
  refine n_ifne (b := cHas st (nI s0)) (tgt := 10) C.1 C.2.1 d_S_findCopy_5 (by decide) (fun q5 => ?_) (fun q5 => ?_)
  · have h0 : st s0 ≠ 0 := by rw [cHas_n _ hs0] at q5; simpa using q5
    refine lv_iconst (v := nI 0) C.1 C.2.1 d_S_findCopy_10 (by decide) ?_
    refine lv_istore_n (lv' := [(3, .int (nI 0)), (0, .ref (h 0)), (1, .int (nI s0)), (2, .int (nI b0))]) C.1 C.2.1 d_S_findCopy_11 rfl hl (by decide) rfl (fun ls hl => ?_)
    exact lp_S_findCopy_12 C hr s0 b0 hs0 hb0  _ 0 (Nat.lt_succ_self _) (by omega) (by unfold cFind; rw [if_neg h0]) _ _ I ls (lv_sub hl [1, 2, 3, 0] rfl)
  · refine lv_iconst (v := oI none) C.1 C.2.1 d_S_findCopy_8 (by decide) ?_
    exact sv_ri (v := oI none) C hr I ⟨show oI none = _ from congrArg oI (by rw [cHas_n _ hs0] at q5; unfold cFind; rw [if_pos (by simpa using q5)]), rfl⟩ d_S_findCopy_9
set_option maxHeartbeats 4000000 in
set_option maxRecDepth 100000 in
/-- R_S.snapshotWord -/
theorem c_S_snapshotWord (l : Launch) (D : va_G) (cA : Nat → ClassId) (h : Nat → Nat) (sz : Nat) (bw : (Nat → Int32)) (cw : (Nat → Int32)) (ts : (Nat → Int32)) (tb : (Nat → Int32)) (st : (Nat → Int32)) (ro : Nat) (mr : Nat) (la : Nat) (fu : Option Nat) (dn : Bool) (wr : Nat) (s0 b0 : Nat) (hs0 : s0 < 3) (hb0 : b0 < 6) (i0 : Nat) (hi0 : i0 < 4) : svMi l D cA h (bw, cw, ts, tb, st, ro, mr, la, fu, dn, wr) sz y_S_snapshotWord (.code y_S_snapshotWord b_S_snapshotWord 5 (some .int)) (rmL 2) [.int (nI s0), .int (nI b0), .int (nI i0)] (fun r u' => r = cWord bw cw ts tb st s0 b0 i0 ∧ u' = (bw, cw, ts, tb, st, ro, mr, la, fu, dn, wr)) := by
  refine sv_mi (by decide) rfl (Nat.le_of_ble_eq_true rfl) ?_
  intro p e s m args below meth c C hr hsz I ls hl
  generalize svA cA h (bw, cw, ts, tb, st, ro, mr, la, fu, dn, wr) sz = A at I ⊢
  have hl : lv_has ls 5 [(0, .ref (h 0)), (1, .int (nI s0)), (2, .int (nI b0)), (3, .int (nI i0))] := hl
  refine lv_aload_n C.1 C.2.1 d_S_snapshotWord_0 rfl (lv_at hl 0 rfl) ?_
  refine lv_iload_n C.1 C.2.1 d_S_snapshotWord_1 rfl (lv_at hl 1 rfl) ?_
  refine lv_iload_n C.1 C.2.1 d_S_snapshotWord_2 rfl (lv_at hl 2 rfl) ?_
  refine sv_ci C I (c_S_findCopy l D cA h _ bw cw ts tb st ro mr la fu dn wr s0 b0 (by omega) (by omega)) lk_S75 rfl rfl ⟨by decide, by decide⟩ ⟨Nat.zero_le _, Nat.zero_le _⟩ rfl hl.1 (rest := []) rfl (Nat.le_of_ble_eq_true rfl) d_S_snapshotWord_3 (fun r u' H locs w3 I => ?_)
  obtain ⟨rfl, rfl⟩ := w3
  rcases hc : cFind ts tb st s0 b0 with _ | c
  · refine lv_istore (lv' := [(4, .int (oI none)), (0, .ref (h 0)), (1, .int (nI s0)), (2, .int (nI b0)), (3, .int (nI i0))]) C.1 C.2.1 d_S_snapshotWord_6 hl (by decide) rfl (fun ls hl => ?_)
    refine lv_iload C.1 C.2.1 d_S_snapshotWord_8 (lv_at hl 0 rfl) ?_
    refine lv_iconst (v := oI none) C.1 C.2.1 d_S_snapshotWord_10 (by decide) ?_
    refine lv_icmp_ne (x := oI none) (y := oI none) (tgt := 27) C.1 C.2.1 d_S_snapshotWord_11 (by decide) (fun q11 => absurd rfl q11) (fun q11 => ?_)
    refine lv_aload_n C.1 C.2.1 d_S_snapshotWord_14 rfl (lv_at hl 1 rfl) ?_
    refine sv_g0 C I d_S_snapshotWord_15 ?_
    refine lv_iload_n C.1 C.2.1 d_S_snapshotWord_18 rfl (lv_at hl 3 rfl) ?_
    refine lv_iconst (v := nI 4) C.1 C.2.1 d_S_snapshotWord_19 (by decide) ?_
    refine n_imul C.1 C.2.1 (a := b0) (b := 4) d_S_snapshotWord_20 ?_
    refine lv_iload_n C.1 C.2.1 d_S_snapshotWord_21 rfl (lv_at hl 4 rfl) ?_
    refine n_iadd C.1 C.2.1 (a := b0 * 4) (b := i0) d_S_snapshotWord_22 ?_
    refine sv_l1 C I (k := (b0 * 4) + i0) (by omega) d_S_snapshotWord_23 ?_
    refine lv_goto (tgt := 38) C.1 C.2.1 d_S_snapshotWord_24 (by decide) ?_
    exact sv_ri (v := (bw ((b0 * 4) + i0))) C hr I ⟨(by unfold cWord; rw [hc]), rfl⟩ d_S_snapshotWord_38
  · have hcl := cFind_lt hc
    refine lv_istore (lv' := [(4, .int (nI c)), (0, .ref (h 0)), (1, .int (nI s0)), (2, .int (nI b0)), (3, .int (nI i0))]) C.1 C.2.1 d_S_snapshotWord_6 hl (by decide) rfl (fun ls hl => ?_)
    refine lv_iload C.1 C.2.1 d_S_snapshotWord_8 (lv_at hl 0 rfl) ?_
    refine lv_iconst (v := oI none) C.1 C.2.1 d_S_snapshotWord_10 (by decide) ?_
    refine lv_icmp_ne (x := nI c) (y := oI none) (tgt := 27) C.1 C.2.1 d_S_snapshotWord_11 (by decide) (fun q11 => ?_) (fun q11 => absurd ((oI_n (o := none) (by omega) (fun _ e => by cases e)).mp q11) (fun z => by cases z))
    refine lv_aload_n C.1 C.2.1 d_S_snapshotWord_27 rfl (lv_at hl 1 rfl) ?_
    refine sv_g1 C I d_S_snapshotWord_28 ?_
    refine lv_iload C.1 C.2.1 d_S_snapshotWord_31 (lv_at hl 0 rfl) ?_
    refine lv_iconst (v := nI 4) C.1 C.2.1 d_S_snapshotWord_33 (by decide) ?_
    refine n_imul C.1 C.2.1 (a := c) (b := 4) d_S_snapshotWord_34 ?_
    refine lv_iload_n C.1 C.2.1 d_S_snapshotWord_35 rfl (lv_at hl 4 rfl) ?_
    refine n_iadd C.1 C.2.1 (a := c * 4) (b := i0) d_S_snapshotWord_36 ?_
    refine sv_l2 C I (k := (c * 4) + i0) (by omega) d_S_snapshotWord_37 ?_
    exact sv_ri (v := (cw ((c * 4) + i0))) C hr I ⟨(by unfold cWord; rw [hc]), rfl⟩ d_S_snapshotWord_38
set_option maxHeartbeats 4000000 in
set_option maxRecDepth 100000 in
theorem lp_S_differs_2 {p : Program} {l : Launch} {e : Env} {s : State} {m : MethodId} {args : Array Value} {below : List Frame} {meth : Method} {c : Code} {D : va_G} {cA : Nat → ClassId} {A : Nat → Prop} {h : Nat → Nat} {bw : (Nat → Int32)} {cw : (Nat → Int32)} {ts : (Nat → Int32)} {tb : (Nat → Int32)} {st : (Nat → Int32)} {ro : Nat} {mr : Nat} {la : Nat} {fu : Option Nat} {dn : Bool} {wr : Nat} (C : gC p s m args meth c b_S_differs 4 R_S) (hr : meth.sig.returnType = (some .boolean)) (s0 b0 : Nat) (hs0 : s0 < 3) (hb0 : b0 < 6)   : ∀ (fuel : Nat) (i : Nat), 4 - i < fuel → i ≤ 4 → (∀ j, j < i → cWord bw cw ts tb st s0 b0 j = bw (b0 * 4 + j)) → ∀ (H : Heap) (locs : List Loc), svI D cA A s h (bw, cw, ts, tb, st, ro, mr, la, fu, dn, wr) H locs → ∀ (ls : Array Slot), lv_has ls 4 [(0, .ref (h 0)), (1, .int (nI s0)), (2, .int (nI b0)), (3, .int (nI i))] → W p l e (rmL 3) s m args below meth c H locs 0 0 (MQ below (va_Qi (fun r u' => r = bI (cDiff bw cw ts tb st s0 b0) ∧ u' = (bw, cw, ts, tb, st, ro, mr, la, fu, dn, wr)) (svAt D cA A h) A) args s 0 0 A) (F0 m 2 ls []) := by
  intro fuel
  induction fuel with
  | zero =>
    intro _ hfuel
    exact absurd hfuel (Nat.not_lt_zero _)
  | succ fuel ih =>
    intro i hfuel hi hj H locs I ls hl
    refine lv_iload_n C.1 C.2.1 d_S_differs_2 rfl (lv_at hl 3 rfl) ?_
    refine lv_iconst (v := nI 4) C.1 C.2.1 d_S_differs_3 (by decide) ?_
    refine n_icmp_ge C.1 C.2.1 (a := i) (b := 4) (tgt := 35) (by omega) (by omega) d_S_differs_4 (by decide) (fun q4 => ?_) (fun q4 => ?_)
    · refine lv_iconst (v := nI 0) C.1 C.2.1 d_S_differs_35 (by decide) ?_
      exact sv_rz (b := false) C hr I ⟨congrArg bI (by symm; unfold cDiff; rw [Bool.not_eq_false']; exact List.all_eq_true.mpr (fun j hj2 => by have := List.mem_range.mp hj2; simpa using hj j (by omega))), rfl⟩ d_S_differs_36
    · refine lv_aload_n C.1 C.2.1 d_S_differs_7 rfl (lv_at hl 0 rfl) ?_
      refine lv_iload_n C.1 C.2.1 d_S_differs_8 rfl (lv_at hl 1 rfl) ?_
      refine lv_iload_n C.1 C.2.1 d_S_differs_9 rfl (lv_at hl 2 rfl) ?_
      refine lv_iload_n C.1 C.2.1 d_S_differs_10 rfl (lv_at hl 3 rfl) ?_
      refine sv_ci C I (c_S_snapshotWord l D cA h _ bw cw ts tb st ro mr la fu dn wr s0 b0 (by omega) (by omega) i (by omega)) lk_S71 rfl rfl ⟨by decide, by decide⟩ ⟨Nat.zero_le _, Nat.zero_le _⟩ rfl hl.1 (rest := []) rfl (Nat.le_of_ble_eq_true rfl) d_S_differs_11 (fun r u' H locs w11 I => ?_)
      obtain ⟨rfl, rfl⟩ := w11
      refine lv_aload_n C.1 C.2.1 d_S_differs_14 rfl (lv_at hl 0 rfl) ?_
      refine sv_g0 C I d_S_differs_15 ?_
      refine lv_iload_n C.1 C.2.1 d_S_differs_18 rfl (lv_at hl 2 rfl) ?_
      refine lv_iconst (v := nI 4) C.1 C.2.1 d_S_differs_19 (by decide) ?_
      refine n_imul C.1 C.2.1 (a := b0) (b := 4) d_S_differs_20 ?_
      refine lv_iload_n C.1 C.2.1 d_S_differs_21 rfl (lv_at hl 3 rfl) ?_
      refine n_iadd C.1 C.2.1 (a := b0 * 4) (b := i) d_S_differs_22 ?_
      refine sv_l1 C I (k := (b0 * 4) + i) (by omega) d_S_differs_23 ?_
      refine lv_icmp_eq (x := (cWord bw cw ts tb st s0 b0 i)) (y := (bw ((b0 * 4) + i))) (tgt := 29) C.1 C.2.1 d_S_differs_24 (by decide) (fun q24 => ?_) (fun q24 => ?_)
      · refine lv_iinc (v := nI (i + 1)) (lv' := [(3, .int (nI (i + 1))), (0, .ref (h 0)), (1, .int (nI s0)), (2, .int (nI b0))]) C.1 C.2.1 d_S_differs_29 hl (k := 3) rfl (by rw [show nI (i + 1) = nI i + nI 1 from (nI_add _ _).symm]; rfl) (by decide) rfl (fun ls hl => ?_)
        refine lv_goto (tgt := 2) C.1 C.2.1 d_S_differs_32 (by decide) ?_
        exact ih (i + 1) (by omega) (by omega) (fun j hj2 => by rcases Nat.lt_or_ge j i with g | g; exact hj j g; rw [show j = i by omega]; exact q24) _ _ I ls (lv_sub hl [1, 2, 3, 0] rfl)
      · refine lv_iconst (v := nI 1) C.1 C.2.1 d_S_differs_27 (by decide) ?_
        exact sv_rz (b := true) C hr I ⟨congrArg bI (by symm; unfold cDiff; rw [Bool.not_eq_true']; cases hx : ((List.range 4).all fun i => decide (cWord bw cw ts tb st s0 b0 i = bw (b0 * 4 + i))); rfl; exact absurd (by simpa using List.all_eq_true.mp hx i (List.mem_range.mpr (by omega))) q24), rfl⟩ d_S_differs_28
set_option maxHeartbeats 4000000 in
set_option maxRecDepth 100000 in
/-- R_S.differs -/
theorem c_S_differs (l : Launch) (D : va_G) (cA : Nat → ClassId) (h : Nat → Nat) (sz : Nat) (bw : (Nat → Int32)) (cw : (Nat → Int32)) (ts : (Nat → Int32)) (tb : (Nat → Int32)) (st : (Nat → Int32)) (ro : Nat) (mr : Nat) (la : Nat) (fu : Option Nat) (dn : Bool) (wr : Nat) (s0 b0 : Nat) (hs0 : s0 < 3) (hb0 : b0 < 6) : svMi l D cA h (bw, cw, ts, tb, st, ro, mr, la, fu, dn, wr) sz y_S_differs (.code y_S_differs b_S_differs 4 (some .boolean)) (rmL 3) [.int (nI s0), .int (nI b0)] (fun r u' => r = bI (cDiff bw cw ts tb st s0 b0) ∧ u' = (bw, cw, ts, tb, st, ro, mr, la, fu, dn, wr)) := by
  refine sv_mi (by decide) rfl (Nat.le_of_ble_eq_true rfl) ?_
  intro p e s m args below meth c C hr hsz I ls hl
  generalize svA cA h (bw, cw, ts, tb, st, ro, mr, la, fu, dn, wr) sz = A at I ⊢
  have hl : lv_has ls 4 [(0, .ref (h 0)), (1, .int (nI s0)), (2, .int (nI b0))] := hl
  refine lv_iconst (v := nI 0) C.1 C.2.1 d_S_differs_0 (by decide) ?_
  refine lv_istore_n (lv' := [(3, .int (nI 0)), (0, .ref (h 0)), (1, .int (nI s0)), (2, .int (nI b0))]) C.1 C.2.1 d_S_differs_1 rfl hl (by decide) rfl (fun ls hl => ?_)
  exact lp_S_differs_2 C hr s0 b0 hs0 hb0  _ 0 (Nat.lt_succ_self _) (by omega) (fun j hj => absurd hj (Nat.not_lt_zero j)) _ _ I ls (lv_sub hl [1, 2, 3, 0] rfl)
set_option maxHeartbeats 4000000 in
set_option maxRecDepth 100000 in
/-- R_S.shares -/
theorem c_S_shares (l : Launch) (D : va_G) (cA : Nat → ClassId) (h : Nat → Nat) (sz : Nat) (bw : (Nat → Int32)) (cw : (Nat → Int32)) (ts : (Nat → Int32)) (tb : (Nat → Int32)) (st : (Nat → Int32)) (ro : Nat) (mr : Nat) (la : Nat) (fu : Option Nat) (dn : Bool) (wr : Nat) (s0 b0 : Nat) (hs0 : s0 < 3) (hb0 : b0 < 6) : svMi l D cA h (bw, cw, ts, tb, st, ro, mr, la, fu, dn, wr) sz y_S_shares (.code y_S_shares b_S_shares 3 (some .boolean)) (rmL 2) [.int (nI s0), .int (nI b0)] (fun r u' => r = bI (cShares ts tb st b0 s0) ∧ u' = (bw, cw, ts, tb, st, ro, mr, la, fu, dn, wr)) := by
  refine sv_mi (by decide) rfl (Nat.le_of_ble_eq_true rfl) ?_
  intro p e s m args below meth c C hr hsz I ls hl
  generalize svA cA h (bw, cw, ts, tb, st, ro, mr, la, fu, dn, wr) sz = A at I ⊢
  have hl : lv_has ls 3 [(0, .ref (h 0)), (1, .int (nI s0)), (2, .int (nI b0))] := hl
  refine lv_aload_n C.1 C.2.1 d_S_shares_0 rfl (lv_at hl 0 rfl) ?_
  refine lv_iload_n C.1 C.2.1 d_S_shares_1 rfl (lv_at hl 1 rfl) ?_
  refine sv_ci C I (c_S_hasSnapshot l D cA h _ bw cw ts tb st ro mr la fu dn wr (nI s0)) lk_S119 rfl rfl ⟨by decide, by decide⟩ ⟨Nat.zero_le _, Nat.zero_le _⟩ rfl hl.1 (rest := []) rfl (Nat.le_of_ble_eq_true rfl) d_S_shares_2 (fun r u' H locs w2 I => ?_)
  obtain ⟨rfl, rfl⟩ := w2
  refine n_ifeq (b := cHas st (nI s0)) (tgt := 22) C.1 C.2.1 d_S_shares_5 (by decide) (fun q5 => ?_) (fun q5 => ?_)
  · refine lv_iconst (v := nI 0) C.1 C.2.1 d_S_shares_22 (by decide) ?_
    exact sv_rz (b := false) C hr I ⟨congrArg bI (by rw [cHas_n _ hs0] at q5; unfold cShares; first | (rw [(oI_none (fun j e => Nat.lt_trans (cFind_lt e) (by decide))).mp q15, q5]; rfl) | (rw [q5]; rfl) | (rw [q5]; cases hx : cFind ts tb st s0 b0 with | none => rw [hx] at q15; exact absurd rfl q15 | some c => rfl)), rfl⟩ d_S_shares_23
  · refine lv_aload_n C.1 C.2.1 d_S_shares_8 rfl (lv_at hl 0 rfl) ?_
    refine lv_iload_n C.1 C.2.1 d_S_shares_9 rfl (lv_at hl 1 rfl) ?_
    refine lv_iload_n C.1 C.2.1 d_S_shares_10 rfl (lv_at hl 2 rfl) ?_
    refine sv_ci C I (c_S_findCopy l D cA h _ bw cw ts tb st ro mr la fu dn wr s0 b0 (by omega) (by omega)) lk_S75 rfl rfl ⟨by decide, by decide⟩ ⟨Nat.zero_le _, Nat.zero_le _⟩ rfl hl.1 (rest := []) rfl (Nat.le_of_ble_eq_true rfl) d_S_shares_11 (fun r u' H locs w11 I => ?_)
    obtain ⟨rfl, rfl⟩ := w11
    refine lv_iconst (v := oI none) C.1 C.2.1 d_S_shares_14 (by decide) ?_
    refine lv_icmp_ne (x := oI (cFind ts tb st s0 b0)) (y := oI none) (tgt := 22) C.1 C.2.1 d_S_shares_15 (by decide) (fun q15 => ?_) (fun q15 => ?_)
    · refine lv_iconst (v := nI 0) C.1 C.2.1 d_S_shares_22 (by decide) ?_
      exact sv_rz (b := false) C hr I ⟨congrArg bI (by rw [cHas_n _ hs0] at q5; unfold cShares; first | (rw [(oI_none (fun j e => Nat.lt_trans (cFind_lt e) (by decide))).mp q15, q5]; rfl) | (rw [q5]; rfl) | (rw [q5]; cases hx : cFind ts tb st s0 b0 with | none => rw [hx] at q15; exact absurd rfl q15 | some c => rfl)), rfl⟩ d_S_shares_23
    · refine lv_iconst (v := nI 1) C.1 C.2.1 d_S_shares_18 (by decide) ?_
      refine lv_goto (tgt := 23) C.1 C.2.1 d_S_shares_19 (by decide) ?_
      exact sv_rz (b := true) C hr I ⟨congrArg bI (by rw [cHas_n _ hs0] at q5; unfold cShares; first | (rw [(oI_none (fun j e => Nat.lt_trans (cFind_lt e) (by decide))).mp q15, q5]; rfl) | (rw [q5]; rfl) | (rw [q5]; cases hx : cFind ts tb st s0 b0 with | none => rw [hx] at q15; exact absurd rfl q15 | some c => rfl)), rfl⟩ d_S_shares_23
set_option maxHeartbeats 4000000 in
set_option maxRecDepth 100000 in
theorem lp_S_countSharers_4 {p : Program} {l : Launch} {e : Env} {s : State} {m : MethodId} {args : Array Value} {below : List Frame} {meth : Method} {c : Code} {D : va_G} {cA : Nat → ClassId} {A : Nat → Prop} {h : Nat → Nat} {bw : (Nat → Int32)} {cw : (Nat → Int32)} {ts : (Nat → Int32)} {tb : (Nat → Int32)} {st : (Nat → Int32)} {ro : Nat} {mr : Nat} {la : Nat} {fu : Option Nat} {dn : Bool} {wr : Nat} (C : gC p s m args meth c b_S_countSharers 4 R_S) (hr : meth.sig.returnType = (some .int)) (b0 : Nat) (hb0 : b0 < 6)   : ∀ (fuel : Nat) (i : Nat) (a : Nat), 3 - i < fuel → i ≤ 3 → a = cnt (cShares ts tb st b0) i → ∀ (H : Heap) (locs : List Loc), svI D cA A s h (bw, cw, ts, tb, st, ro, mr, la, fu, dn, wr) H locs → ∀ (ls : Array Slot), lv_has ls 4 [(0, .ref (h 0)), (1, .int (nI b0)), (2, .int (nI a)), (3, .int (nI i))] → W p l e (rmL 3) s m args below meth c H locs 0 0 (MQ below (va_Qi (fun r u' => r = nI (cNS ts tb st b0) ∧ u' = (bw, cw, ts, tb, st, ro, mr, la, fu, dn, wr)) (svAt D cA A h) A) args s 0 0 A) (F0 m 4 ls []) := by
  intro fuel
  induction fuel with
  | zero =>
    intro _ _ hfuel
    exact absurd hfuel (Nat.not_lt_zero _)
  | succ fuel ih =>
    intro i a hfuel hi ha H locs I ls hl
    subst ha
    have hc9 := cnt_le (cShares ts tb st b0) i
    refine lv_iload_n C.1 C.2.1 d_S_countSharers_4 rfl (lv_at hl 3 rfl) ?_
    refine lv_iconst (v := nI 3) C.1 C.2.1 d_S_countSharers_5 (by decide) ?_
    refine n_icmp_ge C.1 C.2.1 (a := i) (b := 3) (tgt := 27) (by omega) (by omega) d_S_countSharers_6 (by decide) (fun q6 => ?_) (fun q6 => ?_)
    · refine lv_iload_n C.1 C.2.1 d_S_countSharers_27 rfl (lv_at hl 2 rfl) ?_
      exact sv_ri (v := nI (cnt (cShares ts tb st b0) i)) C hr I ⟨congrArg nI (by rw [show i = 3 by omega]; rfl), rfl⟩ d_S_countSharers_28
    · refine lv_aload_n C.1 C.2.1 d_S_countSharers_9 rfl (lv_at hl 0 rfl) ?_
      refine lv_iload_n C.1 C.2.1 d_S_countSharers_10 rfl (lv_at hl 3 rfl) ?_
      refine lv_iload_n C.1 C.2.1 d_S_countSharers_11 rfl (lv_at hl 1 rfl) ?_
      refine sv_ci C I (c_S_shares l D cA h _ bw cw ts tb st ro mr la fu dn wr i b0 (by omega) (by omega)) lk_S152 rfl rfl ⟨by decide, by decide⟩ ⟨Nat.zero_le _, Nat.zero_le _⟩ rfl hl.1 (rest := []) rfl (Nat.le_of_ble_eq_true rfl) d_S_countSharers_12 (fun r u' H locs w12 I => ?_)
      obtain ⟨rfl, rfl⟩ := w12
      refine n_ifeq (b := cShares ts tb st b0 i) (tgt := 21) C.1 C.2.1 d_S_countSharers_15 (by decide) (fun q15 => ?_) (fun q15 => ?_)
      · refine lv_iinc (v := nI (i + 1)) (lv' := [(3, .int (nI (i + 1))), (0, .ref (h 0)), (1, .int (nI b0)), (2, .int (nI (cnt (cShares ts tb st b0) i)))]) C.1 C.2.1 d_S_countSharers_21 hl (k := 3) rfl (by rw [show nI (i + 1) = nI i + nI 1 from (nI_add _ _).symm]; rfl) (by decide) rfl (fun ls hl => ?_)
        refine lv_goto (tgt := 4) C.1 C.2.1 d_S_countSharers_24 (by decide) ?_
        exact ih (i + 1) (cnt (cShares ts tb st b0) i) (by omega) (by omega) (by first | exact (cnt_y q15).symm | exact (cnt_s q15).symm) _ _ I ls (lv_sub hl [1, 2, 3, 0] rfl)
      · refine lv_iinc (v := nI (cnt (cShares ts tb st b0) i + 1)) (lv' := [(2, .int (nI (cnt (cShares ts tb st b0) i + 1))), (0, .ref (h 0)), (1, .int (nI b0)), (3, .int (nI i))]) C.1 C.2.1 d_S_countSharers_18 hl (k := 2) rfl (by rw [show nI (cnt (cShares ts tb st b0) i + 1) = nI (cnt (cShares ts tb st b0) i) + nI 1 from (nI_add _ _).symm]; rfl) (by decide) rfl (fun ls hl => ?_)
        refine lv_iinc (v := nI (i + 1)) (lv' := [(3, .int (nI (i + 1))), (2, .int (nI (cnt (cShares ts tb st b0) i + 1))), (0, .ref (h 0)), (1, .int (nI b0))]) C.1 C.2.1 d_S_countSharers_21 hl (k := 3) rfl (by rw [show nI (i + 1) = nI i + nI 1 from (nI_add _ _).symm]; rfl) (by decide) rfl (fun ls hl => ?_)
        refine lv_goto (tgt := 4) C.1 C.2.1 d_S_countSharers_24 (by decide) ?_
        exact ih (i + 1) (cnt (cShares ts tb st b0) i + 1) (by omega) (by omega) (by first | exact (cnt_y q15).symm | exact (cnt_s q15).symm) _ _ I ls (lv_sub hl [2, 3, 1, 0] rfl)
set_option maxHeartbeats 4000000 in
set_option maxRecDepth 100000 in
/-- R_S.countSharers -/
theorem c_S_countSharers (l : Launch) (D : va_G) (cA : Nat → ClassId) (h : Nat → Nat) (sz : Nat) (bw : (Nat → Int32)) (cw : (Nat → Int32)) (ts : (Nat → Int32)) (tb : (Nat → Int32)) (st : (Nat → Int32)) (ro : Nat) (mr : Nat) (la : Nat) (fu : Option Nat) (dn : Bool) (wr : Nat) (b0 : Nat) (hb0 : b0 < 6) : svMi l D cA h (bw, cw, ts, tb, st, ro, mr, la, fu, dn, wr) sz y_S_countSharers (.code y_S_countSharers b_S_countSharers 4 (some .int)) (rmL 3) [.int (nI b0)] (fun r u' => r = nI (cNS ts tb st b0) ∧ u' = (bw, cw, ts, tb, st, ro, mr, la, fu, dn, wr)) := by
  refine sv_mi (by decide) rfl (Nat.le_of_ble_eq_true rfl) ?_
  intro p e s m args below meth c C hr hsz I ls hl
  generalize svA cA h (bw, cw, ts, tb, st, ro, mr, la, fu, dn, wr) sz = A at I ⊢
  have hl : lv_has ls 4 [(0, .ref (h 0)), (1, .int (nI b0))] := hl
  refine lv_iconst (v := nI 0) C.1 C.2.1 d_S_countSharers_0 (by decide) ?_
  refine lv_istore_n (lv' := [(2, .int (nI 0)), (0, .ref (h 0)), (1, .int (nI b0))]) C.1 C.2.1 d_S_countSharers_1 rfl hl (by decide) rfl (fun ls hl => ?_)
  refine lv_iconst (v := nI 0) C.1 C.2.1 d_S_countSharers_2 (by decide) ?_
  refine lv_istore_n (lv' := [(3, .int (nI 0)), (2, .int (nI 0)), (0, .ref (h 0)), (1, .int (nI b0))]) C.1 C.2.1 d_S_countSharers_3 rfl hl (by decide) rfl (fun ls hl => ?_)
  exact lp_S_countSharers_4 C hr b0 hb0  _ 0 0 (Nat.lt_succ_self _) (by omega) rfl _ _ I ls (lv_sub hl [2, 3, 1, 0] rfl)
set_option maxHeartbeats 4000000 in
set_option maxRecDepth 100000 in
theorem lp_S_countCopiesToMerge_4 {p : Program} {l : Launch} {e : Env} {s : State} {m : MethodId} {args : Array Value} {below : List Frame} {meth : Method} {c : Code} {D : va_G} {cA : Nat → ClassId} {A : Nat → Prop} {h : Nat → Nat} {bw : (Nat → Int32)} {cw : (Nat → Int32)} {ts : (Nat → Int32)} {tb : (Nat → Int32)} {st : (Nat → Int32)} {ro : Nat} {mr : Nat} {la : Nat} {fu : Option Nat} {dn : Bool} {wr : Nat} (C : gC p s m args meth c b_S_countCopiesToMerge 4 R_S) (hr : meth.sig.returnType = (some .int)) (s0 : Nat) (hs0 : s0 < 3)   : ∀ (fuel : Nat) (i : Nat) (a : Nat), 6 - i < fuel → i ≤ 6 → a = sm (fun b => if (cFind ts tb st s0 b).isSome then cNS ts tb st b else 0) i → ∀ (H : Heap) (locs : List Loc), svI D cA A s h (bw, cw, ts, tb, st, ro, mr, la, fu, dn, wr) H locs → ∀ (ls : Array Slot), lv_has ls 4 [(0, .ref (h 0)), (1, .int (nI s0)), (2, .int (nI a)), (3, .int (nI i))] → W p l e (rmL 4) s m args below meth c H locs 0 0 (MQ below (va_Qi (fun r u' => r = nI (cNM ts tb st s0) ∧ u' = (bw, cw, ts, tb, st, ro, mr, la, fu, dn, wr)) (svAt D cA A h) A) args s 0 0 A) (F0 m 4 ls []) := by
  intro fuel
  induction fuel with
  | zero =>
    intro _ _ hfuel
    exact absurd hfuel (Nat.not_lt_zero _)
  | succ fuel ih =>
    intro i a hfuel hi ha H locs I ls hl
    subst ha
    refine lv_iload_n C.1 C.2.1 d_S_countCopiesToMerge_4 rfl (lv_at hl 3 rfl) ?_
    refine lv_bipush (v := nI 6) C.1 C.2.1 d_S_countCopiesToMerge_5 (by decide) ?_
    refine n_icmp_ge C.1 C.2.1 (a := i) (b := 6) (tgt := 34) (by omega) (by omega) d_S_countCopiesToMerge_7 (by decide) (fun q7 => ?_) (fun q7 => ?_)
    · refine lv_iload_n C.1 C.2.1 d_S_countCopiesToMerge_34 rfl (lv_at hl 2 rfl) ?_
      exact sv_ri (v := nI (sm (fun b => if (cFind ts tb st s0 b).isSome then cNS ts tb st b else 0) i)) C hr I ⟨congrArg nI (by rw [show i = 6 by omega]; rfl), rfl⟩ d_S_countCopiesToMerge_35
    · refine lv_aload_n C.1 C.2.1 d_S_countCopiesToMerge_10 rfl (lv_at hl 0 rfl) ?_
      refine lv_iload_n C.1 C.2.1 d_S_countCopiesToMerge_11 rfl (lv_at hl 1 rfl) ?_
      refine lv_iload_n C.1 C.2.1 d_S_countCopiesToMerge_12 rfl (lv_at hl 3 rfl) ?_
      refine sv_ci C I (c_S_findCopy l D cA h _ bw cw ts tb st ro mr la fu dn wr s0 i (by omega) (by omega)) lk_S75 rfl rfl ⟨by decide, by decide⟩ ⟨Nat.zero_le _, Nat.zero_le _⟩ rfl hl.1 (rest := []) rfl (Nat.le_of_ble_eq_true rfl) d_S_countCopiesToMerge_13 (fun r u' H locs w13 I => ?_)
      obtain ⟨rfl, rfl⟩ := w13
      refine lv_iconst (v := oI none) C.1 C.2.1 d_S_countCopiesToMerge_16 (by decide) ?_
      refine lv_icmp_eq (x := oI (cFind ts tb st s0 i)) (y := oI none) (tgt := 28) C.1 C.2.1 d_S_countCopiesToMerge_17 (by decide) (fun q17 => ?_) (fun q17 => ?_)
      · refine lv_iinc (v := nI (i + 1)) (lv' := [(3, .int (nI (i + 1))), (0, .ref (h 0)), (1, .int (nI s0)), (2, .int (nI (sm (fun b => if (cFind ts tb st s0 b).isSome then cNS ts tb st b else 0) i)))]) C.1 C.2.1 d_S_countCopiesToMerge_28 hl (k := 3) rfl (by rw [show nI (i + 1) = nI i + nI 1 from (nI_add _ _).symm]; rfl) (by decide) rfl (fun ls hl => ?_)
        refine lv_goto (tgt := 4) C.1 C.2.1 d_S_countCopiesToMerge_31 (by decide) ?_
        exact ih (i + 1) (sm (fun b => if (cFind ts tb st s0 b).isSome then cNS ts tb st b else 0) i) (by omega) (by omega) (by show _ = sm (fun b => if (cFind ts tb st s0 b).isSome then cNS ts tb st b else 0) i + (fun b => if (cFind ts tb st s0 b).isSome then cNS ts tb st b else 0) i; first | (have z := (oI_none (fun j e => Nat.lt_trans (cFind_lt e) (by decide))).mp q17; simp [z]) | (cases hx : cFind ts tb st s0 i with | none => rw [hx] at q17; exact absurd rfl q17 | some c => simp [hx])) _ _ I ls (lv_sub hl [1, 2, 3, 0] rfl)
      · refine lv_iload_n C.1 C.2.1 d_S_countCopiesToMerge_20 rfl (lv_at hl 2 rfl) ?_
        refine lv_aload_n C.1 C.2.1 d_S_countCopiesToMerge_21 rfl (lv_at hl 0 rfl) ?_
        refine lv_iload_n C.1 C.2.1 d_S_countCopiesToMerge_22 rfl (lv_at hl 3 rfl) ?_
        refine sv_ci C I (c_S_countSharers l D cA h _ bw cw ts tb st ro mr la fu dn wr i (by omega)) lk_S35 rfl rfl ⟨by decide, by decide⟩ ⟨Nat.zero_le _, Nat.zero_le _⟩ rfl hl.1 (rest := [.int (nI (sm (fun b => if (cFind ts tb st s0 b).isSome then cNS ts tb st b else 0) i))]) rfl (Nat.le_of_ble_eq_true rfl) d_S_countCopiesToMerge_23 (fun r u' H locs w23 I => ?_)
        obtain ⟨rfl, rfl⟩ := w23
        refine n_iadd C.1 C.2.1 (a := sm (fun b => if (cFind ts tb st s0 b).isSome then cNS ts tb st b else 0) i) (b := cNS ts tb st i) d_S_countCopiesToMerge_26 ?_
        refine lv_istore_n (lv' := [(2, .int (nI ((sm (fun b => if (cFind ts tb st s0 b).isSome then cNS ts tb st b else 0) i) + (cNS ts tb st i)))), (0, .ref (h 0)), (1, .int (nI s0)), (3, .int (nI i))]) C.1 C.2.1 d_S_countCopiesToMerge_27 rfl hl (by decide) rfl (fun ls hl => ?_)
        refine lv_iinc (v := nI (i + 1)) (lv' := [(3, .int (nI (i + 1))), (2, .int (nI ((sm (fun b => if (cFind ts tb st s0 b).isSome then cNS ts tb st b else 0) i) + (cNS ts tb st i)))), (0, .ref (h 0)), (1, .int (nI s0))]) C.1 C.2.1 d_S_countCopiesToMerge_28 hl (k := 3) rfl (by rw [show nI (i + 1) = nI i + nI 1 from (nI_add _ _).symm]; rfl) (by decide) rfl (fun ls hl => ?_)
        refine lv_goto (tgt := 4) C.1 C.2.1 d_S_countCopiesToMerge_31 (by decide) ?_
        exact ih (i + 1) ((sm (fun b => if (cFind ts tb st s0 b).isSome then cNS ts tb st b else 0) i) + (cNS ts tb st i)) (by omega) (by omega) (by show _ = sm (fun b => if (cFind ts tb st s0 b).isSome then cNS ts tb st b else 0) i + (fun b => if (cFind ts tb st s0 b).isSome then cNS ts tb st b else 0) i; first | (have z := (oI_none (fun j e => Nat.lt_trans (cFind_lt e) (by decide))).mp q17; simp [z]) | (cases hx : cFind ts tb st s0 i with | none => rw [hx] at q17; exact absurd rfl q17 | some c => simp [hx])) _ _ I ls (lv_sub hl [2, 3, 1, 0] rfl)
set_option maxHeartbeats 4000000 in
set_option maxRecDepth 100000 in
/-- R_S.countCopiesToMerge -/
theorem c_S_countCopiesToMerge (l : Launch) (D : va_G) (cA : Nat → ClassId) (h : Nat → Nat) (sz : Nat) (bw : (Nat → Int32)) (cw : (Nat → Int32)) (ts : (Nat → Int32)) (tb : (Nat → Int32)) (st : (Nat → Int32)) (ro : Nat) (mr : Nat) (la : Nat) (fu : Option Nat) (dn : Bool) (wr : Nat) (s0 : Nat) (hs0 : s0 < 3) : svMi l D cA h (bw, cw, ts, tb, st, ro, mr, la, fu, dn, wr) sz y_S_countCopiesToMerge (.code y_S_countCopiesToMerge b_S_countCopiesToMerge 4 (some .int)) (rmL 4) [.int (nI s0)] (fun r u' => r = nI (cNM ts tb st s0) ∧ u' = (bw, cw, ts, tb, st, ro, mr, la, fu, dn, wr)) := by
  refine sv_mi (by decide) rfl (Nat.le_of_ble_eq_true rfl) ?_
  intro p e s m args below meth c C hr hsz I ls hl
  generalize svA cA h (bw, cw, ts, tb, st, ro, mr, la, fu, dn, wr) sz = A at I ⊢
  have hl : lv_has ls 4 [(0, .ref (h 0)), (1, .int (nI s0))] := hl
  refine lv_iconst (v := nI 0) C.1 C.2.1 d_S_countCopiesToMerge_0 (by decide) ?_
  refine lv_istore_n (lv' := [(2, .int (nI 0)), (0, .ref (h 0)), (1, .int (nI s0))]) C.1 C.2.1 d_S_countCopiesToMerge_1 rfl hl (by decide) rfl (fun ls hl => ?_)
  refine lv_iconst (v := nI 0) C.1 C.2.1 d_S_countCopiesToMerge_2 (by decide) ?_
  refine lv_istore_n (lv' := [(3, .int (nI 0)), (2, .int (nI 0)), (0, .ref (h 0)), (1, .int (nI s0))]) C.1 C.2.1 d_S_countCopiesToMerge_3 rfl hl (by decide) rfl (fun ls hl => ?_)
  exact lp_S_countCopiesToMerge_4 C hr s0 hs0  _ 0 0 (Nat.lt_succ_self _) (by omega) rfl _ _ I ls (lv_sub hl [2, 3, 1, 0] rfl)
end
section
theorem thr2 : decode Bundle.six 0 = .ok (.aload_n 0, 1) ∧ decode Bundle.six 1 = .ok (.aload_n 1, 1) ∧ decode Bundle.six 2 = .ok (.invokespecial 7, 3) ∧ decode Bundle.six 5 = .ok (.return_, 1) := ⟨by decide +kernel, by decide +kernel, by decide +kernel, by decide +kernel⟩
theorem thw2 : ∀ w ∈ Bundle.ownAtomsX R_S 58 (wx_N 2) 7 Bundle.six exN, w ∉ wx_four → (w ∈ wG ∧ (w.onTables && w.keeps) = true) ∨ w ∈ wx_B := fun w hw h4 => by
  have h := List.all_eq_true.mp (show (Bundle.ownAtomsX R_S 58 (wx_N 2) 7 Bundle.six exN).all (fun w => decide (w ∈ wx_four) || (decide (w ∈ lw_tbl) && wg_ok w) && (w.onTables && w.keeps) || decide (w ∈ wx_B)) = true by decide +kernel) w hw
  rw [Bool.or_eq_true, Bool.or_eq_true, Bool.and_eq_true, decide_eq_true_eq, decide_eq_true_eq] at h
  rcases h with (h | h) | h
  · exact absurd h h4
  · exact Or.inl ⟨wg_i h.1, h.2⟩
  · exact Or.inr h
theorem thc2 : Cond.classLink R_S 54 (wx_N 2) ∈ wG := wg_i (by decide +kernel)
theorem thi2 : Cond.initialized (wx_N 2) ∈ wG := wg_i (by decide +kernel)
theorem thn2 : Cond.instantiable (wx_N 2) 6 ∈ wG := wg_i (by decide +kernel)
theorem thr0 : decode Bundle.six 0 = .ok (.aload_n 0, 1) ∧ decode Bundle.six 1 = .ok (.aload_n 1, 1) ∧ decode Bundle.six 2 = .ok (.invokespecial 7, 3) ∧ decode Bundle.six 5 = .ok (.return_, 1) := ⟨by decide +kernel, by decide +kernel, by decide +kernel, by decide +kernel⟩
theorem thw0 : ∀ w ∈ Bundle.ownAtomsX R_S 134 (wx_N 0) 7 Bundle.six exN, w ∉ wx_four → (w ∈ wG ∧ (w.onTables && w.keeps) = true) ∨ w ∈ wx_B := fun w hw h4 => by
  have h := List.all_eq_true.mp (show (Bundle.ownAtomsX R_S 134 (wx_N 0) 7 Bundle.six exN).all (fun w => decide (w ∈ wx_four) || (decide (w ∈ lw_tbl) && wg_ok w) && (w.onTables && w.keeps) || decide (w ∈ wx_B)) = true by decide +kernel) w hw
  rw [Bool.or_eq_true, Bool.or_eq_true, Bool.and_eq_true, decide_eq_true_eq, decide_eq_true_eq] at h
  rcases h with (h | h) | h
  · exact absurd h h4
  · exact Or.inl ⟨wg_i h.1, h.2⟩
  · exact Or.inr h
theorem thc0 : Cond.classLink R_S 130 (wx_N 0) ∈ wG := wg_i (by decide +kernel)
theorem thi0 : Cond.initialized (wx_N 0) ∈ wG := wg_i (by decide +kernel)
theorem thn0 : Cond.instantiable (wx_N 0) 6 ∈ wG := wg_i (by decide +kernel)
def nse_rx : ByteArray := ⟨#[0x2a, 0x2b, 0xb7, 0x00, 0x0d, 0xb1]⟩
theorem thr3 : decode nse_rx 0 = .ok (.aload_n 0, 1) ∧ decode nse_rx 1 = .ok (.aload_n 1, 1) ∧ decode nse_rx 2 = .ok (.invokespecial 13, 3) ∧ decode nse_rx 5 = .ok (.return_, 1) := ⟨by decide +kernel, by decide +kernel, by decide +kernel, by decide +kernel⟩
theorem thw3 : ∀ w ∈ Bundle.ownAtomsX R_S 139 (wx_N 3) 13 nse_rx exN, w ∉ wx_four → (w ∈ wG ∧ (w.onTables && w.keeps) = true) ∨ w ∈ wx_B := fun w hw h4 => by
  have h := List.all_eq_true.mp (show (Bundle.ownAtomsX R_S 139 (wx_N 3) 13 nse_rx exN).all (fun w => decide (w ∈ wx_four) || (decide (w ∈ lw_tbl) && wg_ok w) && (w.onTables && w.keeps) || decide (w ∈ wx_B)) = true by decide +kernel) w hw
  rw [Bool.or_eq_true, Bool.or_eq_true, Bool.and_eq_true, decide_eq_true_eq, decide_eq_true_eq] at h
  rcases h with (h | h) | h
  · exact absurd h h4
  · exact Or.inl ⟨wg_i h.1, h.2⟩
  · exact Or.inr h
theorem thc3 : Cond.classLink R_S 135 (wx_N 3) ∈ wG := wg_i (by decide +kernel)
theorem thi3 : Cond.initialized (wx_N 3) ∈ wG := wg_i (by decide +kernel)
theorem thn3 : Cond.instantiable (wx_N 3) 6 ∈ wG := wg_i (by decide +kernel)
theorem thr1 : decode Bundle.six 0 = .ok (.aload_n 0, 1) ∧ decode Bundle.six 1 = .ok (.aload_n 1, 1) ∧ decode Bundle.six 2 = .ok (.invokespecial 7, 3) ∧ decode Bundle.six 5 = .ok (.return_, 1) := ⟨by decide +kernel, by decide +kernel, by decide +kernel, by decide +kernel⟩
theorem thw1 : ∀ w ∈ Bundle.ownAtomsX R_S 144 (wx_N 1) 7 Bundle.six exN, w ∉ wx_four → (w ∈ wG ∧ (w.onTables && w.keeps) = true) ∨ w ∈ wx_B := fun w hw h4 => by
  have h := List.all_eq_true.mp (show (Bundle.ownAtomsX R_S 144 (wx_N 1) 7 Bundle.six exN).all (fun w => decide (w ∈ wx_four) || (decide (w ∈ lw_tbl) && wg_ok w) && (w.onTables && w.keeps) || decide (w ∈ wx_B)) = true by decide +kernel) w hw
  rw [Bool.or_eq_true, Bool.or_eq_true, Bool.and_eq_true, decide_eq_true_eq, decide_eq_true_eq] at h
  rcases h with (h | h) | h
  · exact absurd h h4
  · exact Or.inl ⟨wg_i h.1, h.2⟩
  · exact Or.inr h
theorem thc1 : Cond.classLink R_S 140 (wx_N 1) ∈ wG := wg_i (by decide +kernel)
theorem thi1 : Cond.initialized (wx_N 1) ∈ wG := wg_i (by decide +kernel)
theorem thn1 : Cond.instantiable (wx_N 1) 6 ∈ wG := wg_i (by decide +kernel)
end
section
set_option maxHeartbeats 4000000 in
set_option maxRecDepth 100000 in
/-- R_S.countWrite -/
theorem c_S_countWrite (l : Launch) (hlt : l.stackTraces = false) (D : va_G) (cA : Nat → ClassId) (h : Nat → Nat) (sz : Nat) (bw : (Nat → Int32)) (cw : (Nat → Int32)) (ts : (Nat → Int32)) (tb : (Nat → Int32)) (st : (Nat → Int32)) (ro : Nat) (mr : Nat) (la : Nat) (fu : Option Nat) (dn : Bool) (wr : Nat)  (hfu : ∀ k, fu = some k → k < 2 ^ 31) : svX l D cA h (bw, cw, ts, tb, st, ro, mr, la, fu, dn, wr) sz y_S_countWrite (.code y_S_countWrite b_S_countWrite 1 none) (rmX 0) [] (fun v u' => v = none ∧ cTick (bw, cw, ts, tb, st, ro, mr, la, fu, dn, wr) = (.ok (), u') ∧ fB u') (fun k u' => cTick (bw, cw, ts, tb, st, ro, mr, la, fu, dn, wr) = (.error k, u')) := by
  refine sv_x hlt (by decide) rfl (Nat.le_of_ble_eq_true rfl) ?_
  intro p e s m args below meth c C X hr hsz I ls hl
  generalize svA cA h (bw, cw, ts, tb, st, ro, mr, la, fu, dn, wr) sz = A at I X ⊢
  have hl : lv_has ls 1 [(0, .ref (h 0))] := hl
  rcases fu with _ | _ | k
  · refine lv_aload_n C.1 C.2.1 d_S_countWrite_0 rfl (lv_at hl 0 rfl) ?_
    refine sv_g8 C I d_S_countWrite_1 ?_
    refine lv_if_ne (x := oI none) (tgt := 27) C.1 C.2.1 d_S_countWrite_4 (by decide) (fun q4 => ?_) (fun q4 => absurd q4 (by decide))
    refine lv_aload_n C.1 C.2.1 d_S_countWrite_27 rfl (lv_at hl 0 rfl) ?_
    refine sv_g8 C I d_S_countWrite_28 ?_
    refine lv_if_le (x := oI none) (tgt := 44) C.1 C.2.1 d_S_countWrite_31 (by decide) (fun q31 => ?_) (fun q31 => absurd q31 (by decide))
    refine lv_aload_n C.1 C.2.1 d_S_countWrite_44 rfl (lv_at hl 0 rfl) ?_
    refine lv_dup C.1 C.2.1 d_S_countWrite_45 rfl ?_
    refine sv_g10 C I d_S_countWrite_46 ?_
    refine lv_iconst (v := nI 1) C.1 C.2.1 d_S_countWrite_49 (by decide) ?_
    refine n_iadd C.1 C.2.1 (a := wr) (b := 1) d_S_countWrite_50 ?_
    refine sv_p10 C I (wr + 1) rfl d_S_countWrite_51 (fun H locs I => ?_)
    exact sv_xrv C hr I ⟨rfl, rfl, by intro j hj; first | (cases hj; done) | (cases hj; omega)⟩ d_S_countWrite_54
  · refine lv_aload_n C.1 C.2.1 d_S_countWrite_0 rfl (lv_at hl 0 rfl) ?_
    refine sv_g8 C I d_S_countWrite_1 ?_
    refine n_ifz_ne (a := 0) (tgt := 27) C.1 C.2.1 (by omega) d_S_countWrite_4 (by decide) (fun q4 => absurd q4 (by omega)) (fun q4 => ?_)
    refine lv_aload_n C.1 C.2.1 d_S_countWrite_7 rfl (lv_at hl 0 rfl) ?_
    refine lv_iconst (v := oI none) C.1 C.2.1 d_S_countWrite_8 (by decide) ?_
    refine sv_p8 C I none rfl d_S_countWrite_9 (fun H locs I => ?_)
    refine lv_aload_n C.1 C.2.1 d_S_countWrite_12 rfl (lv_at hl 0 rfl) ?_
    refine lv_iconst (v := nI 1) C.1 C.2.1 d_S_countWrite_13 (by decide) ?_
    refine sv_p9 C I true rfl d_S_countWrite_14 (fun H locs I => ?_)
    exact sv_thr (kd := 0) (names := exN) (by rw [hl.1]; exact C) X I (by decide +kernel) (by decide +kernel) thr0 thw0 thc0 thi0 thn0 (tx := "the power is cut") (by decide +kernel) d_S_countWrite_17 d_S_countWrite_20 d_S_countWrite_21 d_S_countWrite_23 d_S_countWrite_26 (by decide) (by decide) (by decide) (by decide) rfl
  · have hk31 : k + 1 < 2 ^ 31 := hfu _ rfl
    refine lv_aload_n C.1 C.2.1 d_S_countWrite_0 rfl (lv_at hl 0 rfl) ?_
    refine sv_g8 C I d_S_countWrite_1 ?_
    refine n_ifz_ne (a := (k + 1)) (tgt := 27) C.1 C.2.1 (by omega) d_S_countWrite_4 (by decide) (fun q4 => ?_) (fun q4 => absurd q4 (by omega))
    refine lv_aload_n C.1 C.2.1 d_S_countWrite_27 rfl (lv_at hl 0 rfl) ?_
    refine sv_g8 C I d_S_countWrite_28 ?_
    refine n_ifz_le (a := (k + 1)) (tgt := 44) C.1 C.2.1 (by omega) d_S_countWrite_31 (by decide) (fun q31 => absurd q31 (by omega)) (fun q31 => ?_)
    refine lv_aload_n C.1 C.2.1 d_S_countWrite_34 rfl (lv_at hl 0 rfl) ?_
    refine lv_dup C.1 C.2.1 d_S_countWrite_35 rfl ?_
    refine sv_g8 C I d_S_countWrite_36 ?_
    refine lv_iconst (v := nI 1) C.1 C.2.1 d_S_countWrite_39 (by decide) ?_
    refine n_isub C.1 C.2.1 (a := (k + 1)) (b := 1) (by omega) d_S_countWrite_40 ?_
    refine sv_p8 C I (some ((k + 1) - 1)) rfl d_S_countWrite_41 (fun H locs I => ?_)
    refine lv_aload_n C.1 C.2.1 d_S_countWrite_44 rfl (lv_at hl 0 rfl) ?_
    refine lv_dup C.1 C.2.1 d_S_countWrite_45 rfl ?_
    refine sv_g10 C I d_S_countWrite_46 ?_
    refine lv_iconst (v := nI 1) C.1 C.2.1 d_S_countWrite_49 (by decide) ?_
    refine n_iadd C.1 C.2.1 (a := wr) (b := 1) d_S_countWrite_50 ?_
    refine sv_p10 C I (wr + 1) rfl d_S_countWrite_51 (fun H locs I => ?_)
    exact sv_xrv C hr I ⟨rfl, rfl, by intro j hj; first | (cases hj; done) | (cases hj; omega)⟩ d_S_countWrite_54
set_option maxHeartbeats 4000000 in
set_option maxRecDepth 100000 in
/-- R_S.putBlockWord -/
theorem c_S_putBlockWord (l : Launch) (hlt : l.stackTraces = false) (D : va_G) (cA : Nat → ClassId) (h : Nat → Nat) (sz : Nat) (bw : (Nat → Int32)) (cw : (Nat → Int32)) (ts : (Nat → Int32)) (tb : (Nat → Int32)) (st : (Nat → Int32)) (ro : Nat) (mr : Nat) (la : Nat) (fu : Option Nat) (dn : Bool) (wr : Nat) (b0 i0 : Nat) (w0 : Int32) (hb0 : b0 < 6) (hi0 : i0 < 4) (hfu : ∀ k, fu = some k → k < 2 ^ 31) : svX l D cA h (bw, cw, ts, tb, st, ro, mr, la, fu, dn, wr) sz y_S_putBlockWord (.code y_S_putBlockWord b_S_putBlockWord 4 none) (rmX 1) [.int (nI b0), .int (nI i0), .int w0] (fun v u' => v = none ∧ cPutB b0 i0 w0 (bw, cw, ts, tb, st, ro, mr, la, fu, dn, wr) = (.ok (), u') ∧ fB u') (fun k u' => cPutB b0 i0 w0 (bw, cw, ts, tb, st, ro, mr, la, fu, dn, wr) = (.error k, u')) := by
  refine sv_x hlt (by decide) rfl (Nat.le_of_ble_eq_true rfl) ?_
  intro p e s m args below meth c C X hr hsz I ls hl
  generalize svA cA h (bw, cw, ts, tb, st, ro, mr, la, fu, dn, wr) sz = A at I X ⊢
  have hl : lv_has ls 4 [(0, .ref (h 0)), (1, .int (nI b0)), (2, .int (nI i0)), (3, .int w0)] := hl
  refine lv_aload_n C.1 C.2.1 d_S_putBlockWord_0 rfl (lv_at hl 0 rfl) ?_
  refine sv_xc C X I (c_S_countWrite l hlt D cA h _ bw cw ts tb st ro mr la fu dn wr hfu) lk_S164 rfl rfl ⟨by decide, by decide⟩ ⟨by decide, by decide⟩ rfl hl.1 (rest := []) rfl (Nat.le_of_ble_eq_true rfl) d_S_putBlockWord_1 (fun k u' w1 => cB_err w1) (fun v u' H locs w1 I => ?_)
  obtain ⟨rfl, w1, hfb⟩ := w1
  obtain ⟨fu1, rfl, -⟩ := tick_inv w1
  refine lv_aload_n C.1 C.2.1 d_S_putBlockWord_4 rfl (lv_at hl 0 rfl) ?_
  refine sv_g0 C I d_S_putBlockWord_5 ?_
  refine lv_iload_n C.1 C.2.1 d_S_putBlockWord_8 rfl (lv_at hl 1 rfl) ?_
  refine lv_iconst (v := nI 4) C.1 C.2.1 d_S_putBlockWord_9 (by decide) ?_
  refine n_imul C.1 C.2.1 (a := b0) (b := 4) d_S_putBlockWord_10 ?_
  refine lv_iload_n C.1 C.2.1 d_S_putBlockWord_11 rfl (lv_at hl 2 rfl) ?_
  refine n_iadd C.1 C.2.1 (a := b0 * 4) (b := i0) d_S_putBlockWord_12 ?_
  refine lv_iload_n C.1 C.2.1 d_S_putBlockWord_13 rfl (lv_at hl 3 rfl) ?_
  refine sv_s1 C I (k := (b0 * 4) + i0) (x := w0) (by omega) d_S_putBlockWord_14 (fun H locs I => ?_)
  exact sv_xrv C hr I ⟨rfl, cB_ok w1, hfb⟩ d_S_putBlockWord_15
set_option maxHeartbeats 4000000 in
set_option maxRecDepth 100000 in
/-- R_S.putCopyWord -/
theorem c_S_putCopyWord (l : Launch) (hlt : l.stackTraces = false) (D : va_G) (cA : Nat → ClassId) (h : Nat → Nat) (sz : Nat) (bw : (Nat → Int32)) (cw : (Nat → Int32)) (ts : (Nat → Int32)) (tb : (Nat → Int32)) (st : (Nat → Int32)) (ro : Nat) (mr : Nat) (la : Nat) (fu : Option Nat) (dn : Bool) (wr : Nat) (c0 i0 : Nat) (w0 : Int32) (hc0 : c0 < 9) (hi0 : i0 < 4) (hfu : ∀ k, fu = some k → k < 2 ^ 31) : svX l D cA h (bw, cw, ts, tb, st, ro, mr, la, fu, dn, wr) sz y_S_putCopyWord (.code y_S_putCopyWord b_S_putCopyWord 4 none) (rmX 1) [.int (nI c0), .int (nI i0), .int w0] (fun v u' => v = none ∧ cPutC c0 i0 w0 (bw, cw, ts, tb, st, ro, mr, la, fu, dn, wr) = (.ok (), u') ∧ fB u') (fun k u' => cPutC c0 i0 w0 (bw, cw, ts, tb, st, ro, mr, la, fu, dn, wr) = (.error k, u')) := by
  refine sv_x hlt (by decide) rfl (Nat.le_of_ble_eq_true rfl) ?_
  intro p e s m args below meth c C X hr hsz I ls hl
  generalize svA cA h (bw, cw, ts, tb, st, ro, mr, la, fu, dn, wr) sz = A at I X ⊢
  have hl : lv_has ls 4 [(0, .ref (h 0)), (1, .int (nI c0)), (2, .int (nI i0)), (3, .int w0)] := hl
  refine lv_aload_n C.1 C.2.1 d_S_putCopyWord_0 rfl (lv_at hl 0 rfl) ?_
  refine sv_xc C X I (c_S_countWrite l hlt D cA h _ bw cw ts tb st ro mr la fu dn wr hfu) lk_S164 rfl rfl ⟨by decide, by decide⟩ ⟨by decide, by decide⟩ rfl hl.1 (rest := []) rfl (Nat.le_of_ble_eq_true rfl) d_S_putCopyWord_1 (fun k u' w1 => cB_err w1) (fun v u' H locs w1 I => ?_)
  obtain ⟨rfl, w1, hfb⟩ := w1
  obtain ⟨fu1, rfl, -⟩ := tick_inv w1
  refine lv_aload_n C.1 C.2.1 d_S_putCopyWord_4 rfl (lv_at hl 0 rfl) ?_
  refine sv_g1 C I d_S_putCopyWord_5 ?_
  refine lv_iload_n C.1 C.2.1 d_S_putCopyWord_8 rfl (lv_at hl 1 rfl) ?_
  refine lv_iconst (v := nI 4) C.1 C.2.1 d_S_putCopyWord_9 (by decide) ?_
  refine n_imul C.1 C.2.1 (a := c0) (b := 4) d_S_putCopyWord_10 ?_
  refine lv_iload_n C.1 C.2.1 d_S_putCopyWord_11 rfl (lv_at hl 2 rfl) ?_
  refine n_iadd C.1 C.2.1 (a := c0 * 4) (b := i0) d_S_putCopyWord_12 ?_
  refine lv_iload_n C.1 C.2.1 d_S_putCopyWord_13 rfl (lv_at hl 3 rfl) ?_
  refine sv_s2 C I (k := (c0 * 4) + i0) (x := w0) (by omega) d_S_putCopyWord_14 (fun H locs I => ?_)
  exact sv_xrv C hr I ⟨rfl, cB_ok w1, hfb⟩ d_S_putCopyWord_15
set_option maxHeartbeats 4000000 in
set_option maxRecDepth 100000 in
/-- R_S.putTag -/
theorem c_S_putTag (l : Launch) (hlt : l.stackTraces = false) (D : va_G) (cA : Nat → ClassId) (h : Nat → Nat) (sz : Nat) (bw : (Nat → Int32)) (cw : (Nat → Int32)) (ts : (Nat → Int32)) (tb : (Nat → Int32)) (st : (Nat → Int32)) (ro : Nat) (mr : Nat) (la : Nat) (fu : Option Nat) (dn : Bool) (wr : Nat) (c0 : Nat) (x0 : Int32) (b0 : Nat) (hc0 : c0 < 9) (hfu : ∀ k, fu = some k → k < 2 ^ 31) : svX l D cA h (bw, cw, ts, tb, st, ro, mr, la, fu, dn, wr) sz y_S_putTag (.code y_S_putTag b_S_putTag 4 none) (rmX 1) [.int (nI c0), .int x0, .int (nI b0)] (fun v u' => v = none ∧ cPutT c0 x0 (nI b0) (bw, cw, ts, tb, st, ro, mr, la, fu, dn, wr) = (.ok (), u') ∧ fB u') (fun k u' => cPutT c0 x0 (nI b0) (bw, cw, ts, tb, st, ro, mr, la, fu, dn, wr) = (.error k, u')) := by
  refine sv_x hlt (by decide) rfl (Nat.le_of_ble_eq_true rfl) ?_
  intro p e s m args below meth c C X hr hsz I ls hl
  generalize svA cA h (bw, cw, ts, tb, st, ro, mr, la, fu, dn, wr) sz = A at I X ⊢
  have hl : lv_has ls 4 [(0, .ref (h 0)), (1, .int (nI c0)), (2, .int x0), (3, .int (nI b0))] := hl
  refine lv_aload_n C.1 C.2.1 d_S_putTag_0 rfl (lv_at hl 0 rfl) ?_
  refine sv_xc C X I (c_S_countWrite l hlt D cA h _ bw cw ts tb st ro mr la fu dn wr hfu) lk_S164 rfl rfl ⟨by decide, by decide⟩ ⟨by decide, by decide⟩ rfl hl.1 (rest := []) rfl (Nat.le_of_ble_eq_true rfl) d_S_putTag_1 (fun k u' w1 => cB_err w1) (fun v u' H locs w1 I => ?_)
  obtain ⟨rfl, w1, hfb⟩ := w1
  obtain ⟨fu1, rfl, -⟩ := tick_inv w1
  refine lv_aload_n C.1 C.2.1 d_S_putTag_4 rfl (lv_at hl 0 rfl) ?_
  refine sv_g2 C I d_S_putTag_5 ?_
  refine lv_iload_n C.1 C.2.1 d_S_putTag_8 rfl (lv_at hl 1 rfl) ?_
  refine lv_iload_n C.1 C.2.1 d_S_putTag_9 rfl (lv_at hl 2 rfl) ?_
  refine sv_s3 C I (k := c0) (x := x0) (by omega) d_S_putTag_10 (fun H locs I => ?_)
  refine lv_aload_n C.1 C.2.1 d_S_putTag_11 rfl (lv_at hl 0 rfl) ?_
  refine sv_g3 C I d_S_putTag_12 ?_
  refine lv_iload_n C.1 C.2.1 d_S_putTag_15 rfl (lv_at hl 1 rfl) ?_
  refine lv_iload_n C.1 C.2.1 d_S_putTag_16 rfl (lv_at hl 3 rfl) ?_
  refine sv_s4 C I (k := c0) (x := nI b0) (by omega) d_S_putTag_17 (fun H locs I => ?_)
  exact sv_xrv C hr I ⟨rfl, cB_ok w1, hfb⟩ d_S_putTag_18
set_option maxHeartbeats 4000000 in
set_option maxRecDepth 100000 in
/-- R_S.putStamp -/
theorem c_S_putStamp (l : Launch) (hlt : l.stackTraces = false) (D : va_G) (cA : Nat → ClassId) (h : Nat → Nat) (sz : Nat) (bw : (Nat → Int32)) (cw : (Nat → Int32)) (ts : (Nat → Int32)) (tb : (Nat → Int32)) (st : (Nat → Int32)) (ro : Nat) (mr : Nat) (la : Nat) (fu : Option Nat) (dn : Bool) (wr : Nat) (s0 : Nat) (x0 : Int32) (hs0 : s0 < 3) (hfu : ∀ k, fu = some k → k < 2 ^ 31) : svX l D cA h (bw, cw, ts, tb, st, ro, mr, la, fu, dn, wr) sz y_S_putStamp (.code y_S_putStamp b_S_putStamp 3 none) (rmX 1) [.int (nI s0), .int x0] (fun v u' => v = none ∧ cPutS s0 x0 (bw, cw, ts, tb, st, ro, mr, la, fu, dn, wr) = (.ok (), u') ∧ fB u') (fun k u' => cPutS s0 x0 (bw, cw, ts, tb, st, ro, mr, la, fu, dn, wr) = (.error k, u')) := by
  refine sv_x hlt (by decide) rfl (Nat.le_of_ble_eq_true rfl) ?_
  intro p e s m args below meth c C X hr hsz I ls hl
  generalize svA cA h (bw, cw, ts, tb, st, ro, mr, la, fu, dn, wr) sz = A at I X ⊢
  have hl : lv_has ls 3 [(0, .ref (h 0)), (1, .int (nI s0)), (2, .int x0)] := hl
  refine lv_aload_n C.1 C.2.1 d_S_putStamp_0 rfl (lv_at hl 0 rfl) ?_
  refine sv_xc C X I (c_S_countWrite l hlt D cA h _ bw cw ts tb st ro mr la fu dn wr hfu) lk_S164 rfl rfl ⟨by decide, by decide⟩ ⟨by decide, by decide⟩ rfl hl.1 (rest := []) rfl (Nat.le_of_ble_eq_true rfl) d_S_putStamp_1 (fun k u' w1 => cB_err w1) (fun v u' H locs w1 I => ?_)
  obtain ⟨rfl, w1, hfb⟩ := w1
  obtain ⟨fu1, rfl, -⟩ := tick_inv w1
  refine lv_aload_n C.1 C.2.1 d_S_putStamp_4 rfl (lv_at hl 0 rfl) ?_
  refine sv_g4 C I d_S_putStamp_5 ?_
  refine lv_iload_n C.1 C.2.1 d_S_putStamp_8 rfl (lv_at hl 1 rfl) ?_
  refine lv_iload_n C.1 C.2.1 d_S_putStamp_9 rfl (lv_at hl 2 rfl) ?_
  refine sv_s5 C I (k := s0) (x := x0) (by omega) d_S_putStamp_10 (fun H locs I => ?_)
  exact sv_xrv C hr I ⟨rfl, cB_ok w1, hfb⟩ d_S_putStamp_11
set_option maxHeartbeats 4000000 in
set_option maxRecDepth 100000 in
/-- R_S.putRoll -/
theorem c_S_putRoll (l : Launch) (hlt : l.stackTraces = false) (D : va_G) (cA : Nat → ClassId) (h : Nat → Nat) (sz : Nat) (bw : (Nat → Int32)) (cw : (Nat → Int32)) (ts : (Nat → Int32)) (tb : (Nat → Int32)) (st : (Nat → Int32)) (ro : Nat) (mr : Nat) (la : Nat) (fu : Option Nat) (dn : Bool) (wr : Nat) (v0 : Nat) (hfu : ∀ k, fu = some k → k < 2 ^ 31) : svX l D cA h (bw, cw, ts, tb, st, ro, mr, la, fu, dn, wr) sz y_S_putRoll (.code y_S_putRoll b_S_putRoll 2 none) (rmX 1) [.int (nI v0)] (fun v u' => v = none ∧ cPutR v0 (bw, cw, ts, tb, st, ro, mr, la, fu, dn, wr) = (.ok (), u') ∧ fB u') (fun k u' => cPutR v0 (bw, cw, ts, tb, st, ro, mr, la, fu, dn, wr) = (.error k, u')) := by
  refine sv_x hlt (by decide) rfl (Nat.le_of_ble_eq_true rfl) ?_
  intro p e s m args below meth c C X hr hsz I ls hl
  generalize svA cA h (bw, cw, ts, tb, st, ro, mr, la, fu, dn, wr) sz = A at I X ⊢
  have hl : lv_has ls 2 [(0, .ref (h 0)), (1, .int (nI v0))] := hl
  refine lv_aload_n C.1 C.2.1 d_S_putRoll_0 rfl (lv_at hl 0 rfl) ?_
  refine sv_xc C X I (c_S_countWrite l hlt D cA h _ bw cw ts tb st ro mr la fu dn wr hfu) lk_S164 rfl rfl ⟨by decide, by decide⟩ ⟨by decide, by decide⟩ rfl hl.1 (rest := []) rfl (Nat.le_of_ble_eq_true rfl) d_S_putRoll_1 (fun k u' w1 => cB_err w1) (fun v u' H locs w1 I => ?_)
  obtain ⟨rfl, w1, hfb⟩ := w1
  obtain ⟨fu1, rfl, -⟩ := tick_inv w1
  refine lv_aload_n C.1 C.2.1 d_S_putRoll_4 rfl (lv_at hl 0 rfl) ?_
  refine lv_iload_n C.1 C.2.1 d_S_putRoll_5 rfl (lv_at hl 1 rfl) ?_
  refine sv_p5 C I v0 rfl d_S_putRoll_6 (fun H locs I => ?_)
  exact sv_xrv C hr I ⟨rfl, cB_ok w1, hfb⟩ d_S_putRoll_9
set_option maxHeartbeats 4000000 in
set_option maxRecDepth 100000 in
/-- R_S.putMark -/
theorem c_S_putMark (l : Launch) (hlt : l.stackTraces = false) (D : va_G) (cA : Nat → ClassId) (h : Nat → Nat) (sz : Nat) (bw : (Nat → Int32)) (cw : (Nat → Int32)) (ts : (Nat → Int32)) (tb : (Nat → Int32)) (st : (Nat → Int32)) (ro : Nat) (mr : Nat) (la : Nat) (fu : Option Nat) (dn : Bool) (wr : Nat) (v0 : Nat) (hfu : ∀ k, fu = some k → k < 2 ^ 31) : svX l D cA h (bw, cw, ts, tb, st, ro, mr, la, fu, dn, wr) sz y_S_putMark (.code y_S_putMark b_S_putMark 2 none) (rmX 1) [.int (nI v0)] (fun v u' => v = none ∧ cPutM v0 (bw, cw, ts, tb, st, ro, mr, la, fu, dn, wr) = (.ok (), u') ∧ fB u') (fun k u' => cPutM v0 (bw, cw, ts, tb, st, ro, mr, la, fu, dn, wr) = (.error k, u')) := by
  refine sv_x hlt (by decide) rfl (Nat.le_of_ble_eq_true rfl) ?_
  intro p e s m args below meth c C X hr hsz I ls hl
  generalize svA cA h (bw, cw, ts, tb, st, ro, mr, la, fu, dn, wr) sz = A at I X ⊢
  have hl : lv_has ls 2 [(0, .ref (h 0)), (1, .int (nI v0))] := hl
  refine lv_aload_n C.1 C.2.1 d_S_putMark_0 rfl (lv_at hl 0 rfl) ?_
  refine sv_xc C X I (c_S_countWrite l hlt D cA h _ bw cw ts tb st ro mr la fu dn wr hfu) lk_S164 rfl rfl ⟨by decide, by decide⟩ ⟨by decide, by decide⟩ rfl hl.1 (rest := []) rfl (Nat.le_of_ble_eq_true rfl) d_S_putMark_1 (fun k u' w1 => cB_err w1) (fun v u' H locs w1 I => ?_)
  obtain ⟨rfl, w1, hfb⟩ := w1
  obtain ⟨fu1, rfl, -⟩ := tick_inv w1
  refine lv_aload_n C.1 C.2.1 d_S_putMark_4 rfl (lv_at hl 0 rfl) ?_
  refine lv_iload_n C.1 C.2.1 d_S_putMark_5 rfl (lv_at hl 1 rfl) ?_
  refine sv_p6 C I v0 rfl d_S_putMark_6 (fun H locs I => ?_)
  exact sv_xrv C hr I ⟨rfl, cB_ok w1, hfb⟩ d_S_putMark_9
set_option maxHeartbeats 4000000 in
set_option maxRecDepth 100000 in
/-- R_S.requireUp -/
theorem c_S_requireUp (l : Launch) (hlt : l.stackTraces = false) (D : va_G) (cA : Nat → ClassId) (h : Nat → Nat) (sz : Nat) (bw : (Nat → Int32)) (cw : (Nat → Int32)) (ts : (Nat → Int32)) (tb : (Nat → Int32)) (st : (Nat → Int32)) (ro : Nat) (mr : Nat) (la : Nat) (fu : Option Nat) (dn : Bool) (wr : Nat)  (hfu : ∀ k, fu = some k → k < 2 ^ 31) : svX l D cA h (bw, cw, ts, tb, st, ro, mr, la, fu, dn, wr) sz y_S_requireUp (.code y_S_requireUp b_S_requireUp 1 none) (rmX 0) [] (fun v u' => v = none ∧ cUp (bw, cw, ts, tb, st, ro, mr, la, fu, dn, wr) = (.ok (), u') ∧ fB u') (fun k u' => cUp (bw, cw, ts, tb, st, ro, mr, la, fu, dn, wr) = (.error k, u')) := by
  refine sv_x hlt (by decide) rfl (Nat.le_of_ble_eq_true rfl) ?_
  intro p e s m args below meth c C X hr hsz I ls hl
  generalize svA cA h (bw, cw, ts, tb, st, ro, mr, la, fu, dn, wr) sz = A at I X ⊢
  have hl : lv_has ls 1 [(0, .ref (h 0))] := hl
  refine lv_aload_n C.1 C.2.1 d_S_requireUp_0 rfl (lv_at hl 0 rfl) ?_
  refine sv_g9 C I d_S_requireUp_1 ?_
  refine n_ifeq (b := dn) (tgt := 17) C.1 C.2.1 d_S_requireUp_4 (by decide) (fun q4 => ?_) (fun q4 => ?_)
  · exact sv_xrv C hr I ⟨rfl, (by subst q4; rfl), hfu⟩ d_S_requireUp_17
  · exact sv_thr (kd := 0) (names := exN) (by rw [hl.1]; exact C) X I (by decide +kernel) (by decide +kernel) thr0 thw0 thc0 thi0 thn0 (tx := "the volume is down") (by decide +kernel) d_S_requireUp_7 d_S_requireUp_10 d_S_requireUp_11 d_S_requireUp_13 d_S_requireUp_16 (by decide) (by decide) (by decide) (by decide) (by subst q4; rfl)
set_option maxHeartbeats 4000000 in
set_option maxRecDepth 100000 in
/-- R_S.requireSnapshot -/
theorem c_S_requireSnapshot (l : Launch) (hlt : l.stackTraces = false) (D : va_G) (cA : Nat → ClassId) (h : Nat → Nat) (sz : Nat) (bw : (Nat → Int32)) (cw : (Nat → Int32)) (ts : (Nat → Int32)) (tb : (Nat → Int32)) (st : (Nat → Int32)) (ro : Nat) (mr : Nat) (la : Nat) (fu : Option Nat) (dn : Bool) (wr : Nat) (x : Int32) (hfu : ∀ k, fu = some k → k < 2 ^ 31) : svX l D cA h (bw, cw, ts, tb, st, ro, mr, la, fu, dn, wr) sz y_S_requireSnapshot (.code y_S_requireSnapshot b_S_requireSnapshot 2 none) (rmX 1) [.int x] (fun v u' => v = none ∧ cReqS x (bw, cw, ts, tb, st, ro, mr, la, fu, dn, wr) = (.ok (), u') ∧ fB u') (fun k u' => cReqS x (bw, cw, ts, tb, st, ro, mr, la, fu, dn, wr) = (.error k, u')) := by
  refine sv_x hlt (by decide) rfl (Nat.le_of_ble_eq_true rfl) ?_
  intro p e s m args below meth c C X hr hsz I ls hl
  generalize svA cA h (bw, cw, ts, tb, st, ro, mr, la, fu, dn, wr) sz = A at I X ⊢
  have hl : lv_has ls 2 [(0, .ref (h 0)), (1, .int x)] := hl
  refine lv_aload_n C.1 C.2.1 d_S_requireSnapshot_0 rfl (lv_at hl 0 rfl) ?_
  refine lv_iload_n C.1 C.2.1 d_S_requireSnapshot_1 rfl (lv_at hl 1 rfl) ?_
  refine sv_ci C I (c_S_hasSnapshot l D cA h _ bw cw ts tb st ro mr la fu dn wr x) lk_S119 rfl rfl ⟨by decide, by decide⟩ ⟨Nat.zero_le _, Nat.zero_le _⟩ rfl hl.1 (rest := []) rfl (Nat.le_of_ble_eq_true rfl) d_S_requireSnapshot_2 (fun r u' H locs w2 I => ?_)
  obtain ⟨rfl, rfl⟩ := w2
  refine n_ifne (b := cHas st x) (tgt := 18) C.1 C.2.1 d_S_requireSnapshot_5 (by decide) (fun q5 => ?_) (fun q5 => ?_)
  · exact sv_xrv C hr I ⟨rfl, reqS_ok q5, hfu⟩ d_S_requireSnapshot_18
  · exact sv_thr (kd := 3) (names := exN) (by rw [hl.1]; exact C) X I (by decide +kernel) (by decide +kernel) thr3 thw3 thc3 thi3 thn3 (tx := "no snapshot in that place") (by decide +kernel) d_S_requireSnapshot_8 d_S_requireSnapshot_11 d_S_requireSnapshot_12 d_S_requireSnapshot_14 d_S_requireSnapshot_17 (by decide) (by decide) (by decide) (by decide) (reqS_no q5)
set_option maxHeartbeats 4000000 in
set_option maxRecDepth 100000 in
/-- R_S.requireBlock -/
theorem c_S_requireBlock (l : Launch) (hlt : l.stackTraces = false) (D : va_G) (cA : Nat → ClassId) (h : Nat → Nat) (sz : Nat) (bw : (Nat → Int32)) (cw : (Nat → Int32)) (ts : (Nat → Int32)) (tb : (Nat → Int32)) (st : (Nat → Int32)) (ro : Nat) (mr : Nat) (la : Nat) (fu : Option Nat) (dn : Bool) (wr : Nat) (x : Int32) (hfu : ∀ k, fu = some k → k < 2 ^ 31) : svX l D cA h (bw, cw, ts, tb, st, ro, mr, la, fu, dn, wr) sz y_S_requireBlock (.code y_S_requireBlock b_S_requireBlock 2 none) (rmX 0) [.int x] (fun v u' => v = none ∧ cReqB x (bw, cw, ts, tb, st, ro, mr, la, fu, dn, wr) = (.ok (), u') ∧ fB u') (fun k u' => cReqB x (bw, cw, ts, tb, st, ro, mr, la, fu, dn, wr) = (.error k, u')) := by
  refine sv_x hlt (by decide) rfl (Nat.le_of_ble_eq_true rfl) ?_
  intro p e s m args below meth c C X hr hsz I ls hl
  generalize svA cA h (bw, cw, ts, tb, st, ro, mr, la, fu, dn, wr) sz = A at I X ⊢
  have hl : lv_has ls 2 [(0, .ref (h 0)), (1, .int x)] := hl
  refine lv_iload_n C.1 C.2.1 d_S_requireBlock_0 rfl (lv_at hl 1 rfl) ?_
  refine lv_if_lt (x := x) (tgt := 10) C.1 C.2.1 d_S_requireBlock_1 (by decide) (fun q1 => ?_) (fun q1 => ?_)
  · exact sv_thr (kd := 1) (names := exN) (by rw [hl.1]; exact C) X I (by decide +kernel) (by decide +kernel) thr1 thw1 thc1 thi1 thn1 (tx := "no such block") (by decide +kernel) d_S_requireBlock_10 d_S_requireBlock_13 d_S_requireBlock_14 d_S_requireBlock_16 d_S_requireBlock_19 (by decide) (by decide) (by decide) (by decide) (by first | exact reqB_no (ixI_lo q1) _ | exact reqB_no (ixI_hi (Int32.not_lt.mp q7)) _)
  · refine lv_iload_n C.1 C.2.1 d_S_requireBlock_4 rfl (lv_at hl 1 rfl) ?_
    refine lv_bipush (v := nI 6) C.1 C.2.1 d_S_requireBlock_5 (by decide) ?_
    refine lv_icmp_lt (x := x) (y := nI 6) (tgt := 20) C.1 C.2.1 d_S_requireBlock_7 (by decide) (fun q7 => ?_) (fun q7 => ?_)
    · exact sv_xrv C hr I ⟨rfl, (by obtain ⟨k, hk, rfl⟩ := ixI_of (n := 6) (by decide) q1 (Int32.not_le.mpr q7); exact reqB_yes hk _), hfu⟩ d_S_requireBlock_20
    · exact sv_thr (kd := 1) (names := exN) (by rw [hl.1]; exact C) X I (by decide +kernel) (by decide +kernel) thr1 thw1 thc1 thi1 thn1 (tx := "no such block") (by decide +kernel) d_S_requireBlock_10 d_S_requireBlock_13 d_S_requireBlock_14 d_S_requireBlock_16 d_S_requireBlock_19 (by decide) (by decide) (by decide) (by decide) (by first | exact reqB_no (ixI_lo q1) _ | exact reqB_no (ixI_hi (Int32.not_lt.mp q7)) _)
set_option maxHeartbeats 4000000 in
set_option maxRecDepth 100000 in
/-- R_S.requireWord -/
theorem c_S_requireWord (l : Launch) (hlt : l.stackTraces = false) (D : va_G) (cA : Nat → ClassId) (h : Nat → Nat) (sz : Nat) (bw : (Nat → Int32)) (cw : (Nat → Int32)) (ts : (Nat → Int32)) (tb : (Nat → Int32)) (st : (Nat → Int32)) (ro : Nat) (mr : Nat) (la : Nat) (fu : Option Nat) (dn : Bool) (wr : Nat) (x y : Int32) (hfu : ∀ k, fu = some k → k < 2 ^ 31) : svX l D cA h (bw, cw, ts, tb, st, ro, mr, la, fu, dn, wr) sz y_S_requireWord (.code y_S_requireWord b_S_requireWord 3 none) (rmX 1) [.int x, .int y] (fun v u' => v = none ∧ cReqW x y (bw, cw, ts, tb, st, ro, mr, la, fu, dn, wr) = (.ok (), u') ∧ fB u') (fun k u' => cReqW x y (bw, cw, ts, tb, st, ro, mr, la, fu, dn, wr) = (.error k, u')) := by
  refine sv_x hlt (by decide) rfl (Nat.le_of_ble_eq_true rfl) ?_
  intro p e s m args below meth c C X hr hsz I ls hl
  generalize svA cA h (bw, cw, ts, tb, st, ro, mr, la, fu, dn, wr) sz = A at I X ⊢
  have hl : lv_has ls 3 [(0, .ref (h 0)), (1, .int x), (2, .int y)] := hl
  refine lv_aload_n C.1 C.2.1 d_S_requireWord_0 rfl (lv_at hl 0 rfl) ?_
  refine lv_iload_n C.1 C.2.1 d_S_requireWord_1 rfl (lv_at hl 1 rfl) ?_
  refine sv_xc C X I (c_S_requireBlock l hlt D cA h _ bw cw ts tb st ro mr la fu dn wr x hfu) lk_S116 rfl rfl ⟨by decide, by decide⟩ ⟨by decide, by decide⟩ rfl hl.1 (rest := []) rfl (Nat.le_of_ble_eq_true rfl) d_S_requireWord_2 (fun k u' w2 => cB_err w2) (fun v u' H locs w2 I => ?_)
  obtain ⟨rfl, w2, hfb⟩ := w2
  obtain ⟨rfl, k, hk, rfl⟩ := reqB_inv w2
  refine lv_iload_n C.1 C.2.1 d_S_requireWord_5 rfl (lv_at hl 2 rfl) ?_
  refine lv_if_lt (x := y) (tgt := 14) C.1 C.2.1 d_S_requireWord_6 (by decide) (fun q6 => ?_) (fun q6 => ?_)
  · exact sv_thr (kd := 1) (names := exN) (by rw [hl.1]; exact C) X I (by decide +kernel) (by decide +kernel) thr1 thw1 thc1 thi1 thn1 (tx := "no such word") (by decide +kernel) d_S_requireWord_14 d_S_requireWord_17 d_S_requireWord_18 d_S_requireWord_20 d_S_requireWord_23 (by decide) (by decide) (by decide) (by decide) (by first | exact reqW_no (Or.inr (ixI_lo q6)) _ | exact reqW_no (Or.inr (ixI_hi (Int32.not_lt.mp q11))) _)
  · refine lv_iload_n C.1 C.2.1 d_S_requireWord_9 rfl (lv_at hl 2 rfl) ?_
    refine lv_iconst (v := nI 4) C.1 C.2.1 d_S_requireWord_10 (by decide) ?_
    refine lv_icmp_lt (x := y) (y := nI 4) (tgt := 24) C.1 C.2.1 d_S_requireWord_11 (by decide) (fun q11 => ?_) (fun q11 => ?_)
    · exact sv_xrv C hr I ⟨rfl, (by obtain ⟨i, hi, rfl⟩ := ixI_of (n := 4) (by decide) q6 (Int32.not_le.mpr q11); exact reqW_ok (ixI_nI hk (by decide)) (ixI_nI hi (by decide)) _), hfu⟩ d_S_requireWord_24
    · exact sv_thr (kd := 1) (names := exN) (by rw [hl.1]; exact C) X I (by decide +kernel) (by decide +kernel) thr1 thw1 thc1 thi1 thn1 (tx := "no such word") (by decide +kernel) d_S_requireWord_14 d_S_requireWord_17 d_S_requireWord_18 d_S_requireWord_20 d_S_requireWord_23 (by decide) (by decide) (by decide) (by decide) (by first | exact reqW_no (Or.inr (ixI_lo q6)) _ | exact reqW_no (Or.inr (ixI_hi (Int32.not_lt.mp q11))) _)
set_option maxHeartbeats 4000000 in
set_option maxRecDepth 100000 in
/-- R_S.requireFree -/
theorem c_S_requireFree (l : Launch) (hlt : l.stackTraces = false) (D : va_G) (cA : Nat → ClassId) (h : Nat → Nat) (sz : Nat) (bw : (Nat → Int32)) (cw : (Nat → Int32)) (ts : (Nat → Int32)) (tb : (Nat → Int32)) (st : (Nat → Int32)) (ro : Nat) (mr : Nat) (la : Nat) (fu : Option Nat) (dn : Bool) (wr : Nat) (n0 : Nat) (hn0 : n0 < 2 ^ 31) (hfu : ∀ k, fu = some k → k < 2 ^ 31) : svX l D cA h (bw, cw, ts, tb, st, ro, mr, la, fu, dn, wr) sz y_S_requireFree (.code y_S_requireFree b_S_requireFree 2 none) (rmX 2) [.int (nI n0)] (fun v u' => v = none ∧ cReqF n0 (bw, cw, ts, tb, st, ro, mr, la, fu, dn, wr) = (.ok (), u') ∧ fB u') (fun k u' => cReqF n0 (bw, cw, ts, tb, st, ro, mr, la, fu, dn, wr) = (.error k, u')) := by
  refine sv_x hlt (by decide) rfl (Nat.le_of_ble_eq_true rfl) ?_
  intro p e s m args below meth c C X hr hsz I ls hl
  generalize svA cA h (bw, cw, ts, tb, st, ro, mr, la, fu, dn, wr) sz = A at I X ⊢
  have hl : lv_has ls 2 [(0, .ref (h 0)), (1, .int (nI n0))] := hl
  have hc9 : cNF ts st ≤ 9 := cnt_le _ 9
  refine lv_aload_n C.1 C.2.1 d_S_requireFree_0 rfl (lv_at hl 0 rfl) ?_
  refine sv_ci C I (c_S_countFree l D cA h _ bw cw ts tb st ro mr la fu dn wr) lk_S113 rfl rfl ⟨by decide, by decide⟩ ⟨Nat.zero_le _, Nat.zero_le _⟩ rfl hl.1 (rest := []) rfl (Nat.le_of_ble_eq_true rfl) d_S_requireFree_1 (fun r u' H locs w1 I => ?_)
  obtain ⟨rfl, rfl⟩ := w1
  refine lv_iload_n C.1 C.2.1 d_S_requireFree_4 rfl (lv_at hl 1 rfl) ?_
  refine n_icmp_ge C.1 C.2.1 (a := cNF ts st) (b := n0) (tgt := 18) (by omega) (by omega) d_S_requireFree_5 (by decide) (fun q5 => ?_) (fun q5 => ?_)
  · exact sv_xrv C hr I ⟨rfl, if_neg (by omega), hfu⟩ d_S_requireFree_18
  · exact sv_thr (kd := 2) (names := exN) (by rw [hl.1]; exact C) X I (by decide +kernel) (by decide +kernel) thr2 thw2 thc2 thi2 thn2 (tx := "too few copy blocks are free") (by decide +kernel) d_S_requireFree_8 d_S_requireFree_11 d_S_requireFree_12 d_S_requireFree_14 d_S_requireFree_17 (by decide) (by decide) (by decide) (by decide) (if_pos q5)
end
section
set_option maxHeartbeats 4000000 in
set_option maxRecDepth 100000 in
theorem lp_S_copyBlock_16 {p : Program} {l : Launch} {e : Env} {s : State} {m : MethodId} {args : Array Value} {below : List Frame} {meth : Method} {c : Code} {D : va_G} {cA : Nat → ClassId} {A : Nat → Prop} {h : Nat → Nat} {bw : (Nat → Int32)} {cw : (Nat → Int32)} {ts : (Nat → Int32)} {tb : (Nat → Int32)} {st : (Nat → Int32)} {ro : Nat} {mr : Nat} {la : Nat} {fu : Option Nat} {dn : Bool} {wr : Nat} (C : gC p s m args meth c b_S_copyBlock 7 R_S) (X : gX l c s A) (hlt : l.stackTraces = false) (hr : meth.sig.returnType = none) (s0 b0 : Nat) (rep0 : Option Nat) (w0 : Int32) (hs0 : s0 < 3) (hb0 : b0 < 6) (hrep : ∀ j, rep0 = some j → j < 4) (hfu : ∀ k, fu = some k → k < 2 ^ 31) (c1 : Nat) (hc1l : c1 < 9)  : ∀ (fuel : Nat) (i : Nat) (cwv : Nat → Int32) (fuv : Option Nat) (wrv : Nat), 4 - i < fuel → i ≤ 4 → cCopy s0 b0 rep0 w0 (bw, cw, ts, tb, st, ro, mr, la, fu, dn, wr) = cB (cFor (fun j => cPutC c1 j (if rep0 = some j then w0 else bw (b0 * 4 + j))) (4 - i) i) (fun _ => cPutT c1 (st s0) (nI b0)) (bw, cwv, ts, tb, st, ro, mr, la, fuv, dn, wrv) → (∀ k, fuv = some k → k < 2 ^ 31) → ∀ (H : Heap) (locs : List Loc), svI D cA A s h (bw, cwv, ts, tb, st, ro, mr, la, fuv, dn, wrv) H locs → ∀ (ls : Array Slot), lv_has ls 7 [(0, .ref (h 0)), (1, .int (nI s0)), (2, .int (nI b0)), (3, .int (oI rep0)), (4, .int w0), (5, .int (nI c1)), (6, .int (nI i))] → W p l e (rmX 2) s m args below meth c H locs 0 0 (wx_MQ below (wx_Q (fun v u' => v = none ∧ cCopy s0 b0 rep0 w0 (bw, cw, ts, tb, st, ro, mr, la, fu, dn, wr) = (.ok (), u') ∧ fB u') (fun k u' => cCopy s0 b0 rep0 w0 (bw, cw, ts, tb, st, ro, mr, la, fu, dn, wr) = (.error k, u')) (svAt D cA A h) A) args s 1 6 A) (F0 m 16 ls []) := by
  intro fuel
  induction fuel with
  | zero =>
    intro _ _ _ _ hfuel
    exact absurd hfuel (Nat.not_lt_zero _)
  | succ fuel ih =>
    intro i cwv fuv wrv hfuel hi hR hfv H locs I ls hl
    refine lv_iload C.1 C.2.1 d_S_copyBlock_16 (lv_at hl 6 rfl) ?_
    refine lv_iconst (v := nI 4) C.1 C.2.1 d_S_copyBlock_18 (by decide) ?_
    refine n_icmp_ge C.1 C.2.1 (a := i) (b := 4) (tgt := 58) (by omega) (by omega) d_S_copyBlock_19 (by decide) (fun q19 => ?_) (fun q19 => ?_)
    · refine lv_aload_n C.1 C.2.1 d_S_copyBlock_58 rfl (lv_at hl 0 rfl) ?_
      refine lv_iload C.1 C.2.1 d_S_copyBlock_59 (lv_at hl 5 rfl) ?_
      refine lv_aload_n C.1 C.2.1 d_S_copyBlock_61 rfl (lv_at hl 0 rfl) ?_
      refine sv_g4 C I d_S_copyBlock_62 ?_
      refine lv_iload_n C.1 C.2.1 d_S_copyBlock_65 rfl (lv_at hl 1 rfl) ?_
      refine sv_l5 C I (k := s0) (by omega) d_S_copyBlock_66 ?_
      refine lv_iload_n C.1 C.2.1 d_S_copyBlock_67 rfl (lv_at hl 2 rfl) ?_
      refine sv_xc C X I (c_S_putTag l hlt D cA h _ bw cwv ts tb st ro mr la fuv dn wrv c1 (st s0) b0 (by omega) hfv) lk_S158 rfl rfl ⟨by decide, by decide⟩ ⟨by decide, by decide⟩ rfl hl.1 (rest := []) rfl (Nat.le_of_ble_eq_true rfl) d_S_copyBlock_68 (fun k u' w68 => hR.trans (by rw [show 4 - i = 0 by omega]; exact cFor_z.trans w68)) (fun v u' H locs w68 I => ?_)
      obtain ⟨rfl, z68, hfb⟩ := w68
      exact sv_xrv C hr I ⟨rfl, hR.trans (by rw [show 4 - i = 0 by omega]; exact cFor_z.trans z68), hfb⟩ d_S_copyBlock_71
    · refine lv_aload_n C.1 C.2.1 d_S_copyBlock_22 rfl (lv_at hl 0 rfl) ?_
      refine lv_iload C.1 C.2.1 d_S_copyBlock_23 (lv_at hl 5 rfl) ?_
      refine lv_iload C.1 C.2.1 d_S_copyBlock_25 (lv_at hl 6 rfl) ?_
      refine lv_iload C.1 C.2.1 d_S_copyBlock_27 (lv_at hl 6 rfl) ?_
      refine lv_iload_n C.1 C.2.1 d_S_copyBlock_29 rfl (lv_at hl 3 rfl) ?_
      refine lv_icmp_ne (x := nI i) (y := oI rep0) (tgt := 38) C.1 C.2.1 d_S_copyBlock_30 (by decide) (fun q30 => ?_) (fun q30 => ?_)
      · have hv : (if rep0 = some i then w0 else bw (b0 * 4 + i)) = bw (b0 * 4 + i) := if_neg (fun z => q30 ((oI_n (by omega) (fun j e => Nat.lt_trans (hrep j e) (by decide))).mpr z))
        refine lv_aload_n C.1 C.2.1 d_S_copyBlock_38 rfl (lv_at hl 0 rfl) ?_
        refine sv_g0 C I d_S_copyBlock_39 ?_
        refine lv_iload_n C.1 C.2.1 d_S_copyBlock_42 rfl (lv_at hl 2 rfl) ?_
        refine lv_iconst (v := nI 4) C.1 C.2.1 d_S_copyBlock_43 (by decide) ?_
        refine n_imul C.1 C.2.1 (a := b0) (b := 4) d_S_copyBlock_44 ?_
        refine lv_iload C.1 C.2.1 d_S_copyBlock_45 (lv_at hl 6 rfl) ?_
        refine n_iadd C.1 C.2.1 (a := b0 * 4) (b := i) d_S_copyBlock_47 ?_
        refine sv_l1 C I (k := (b0 * 4) + i) (by omega) d_S_copyBlock_48 ?_
        refine sv_xc C X I (c_S_putCopyWord l hlt D cA h _ bw cwv ts tb st ro mr la fuv dn wrv c1 i (bw ((b0 * 4) + i)) (by omega) (by omega) hfv) lk_S79 rfl rfl ⟨by decide, by decide⟩ ⟨by decide, by decide⟩ rfl hl.1 (rest := []) rfl (Nat.le_of_ble_eq_true rfl) d_S_copyBlock_49 (fun k u' w49 => hR.trans (by rw [show 4 - i = (3 - i) + 1 by omega]; exact cB_err (cFor_err (by show cPutC c1 i (if rep0 = some i then w0 else bw (b0 * 4 + i)) _ = _; rw [hv]; exact w49)))) (fun v u' H locs w49 I => ?_)
        obtain ⟨rfl, z49, hfb⟩ := w49
        obtain ⟨fu2, rfl⟩ := putC_inv z49
        refine lv_iinc (v := nI (i + 1)) (lv' := [(6, .int (nI (i + 1))), (0, .ref (h 0)), (1, .int (nI s0)), (2, .int (nI b0)), (3, .int (oI rep0)), (4, .int w0), (5, .int (nI c1))]) C.1 C.2.1 d_S_copyBlock_52 hl (k := 6) rfl (by rw [show nI (i + 1) = nI i + nI 1 from (nI_add _ _).symm]; rfl) (by decide) rfl (fun ls hl => ?_)
        refine lv_goto (tgt := 16) C.1 C.2.1 d_S_copyBlock_55 (by decide) ?_
        exact ih (i + 1) (upd cwv (c1 * 4 + i) (bw ((b0 * 4) + i))) fu2 (wrv + 1) (by omega) (by omega) (by rw [hR, show 4 - i = (4 - (i + 1)) + 1 by omega]; exact cB_eq (cFor_ok (by show cPutC c1 i (if rep0 = some i then w0 else bw (b0 * 4 + i)) _ = _; rw [hv]; exact z49))) hfb _ _ I ls (lv_sub hl [1, 2, 3, 4, 5, 6, 0] rfl)
      · have hv : (if rep0 = some i then w0 else bw (b0 * 4 + i)) = w0 := if_pos ((oI_n (by omega) (fun j e => Nat.lt_trans (hrep j e) (by decide))).mp q30)
        refine lv_iload C.1 C.2.1 d_S_copyBlock_33 (lv_at hl 4 rfl) ?_
        refine lv_goto (tgt := 49) C.1 C.2.1 d_S_copyBlock_35 (by decide) ?_
        refine sv_xc C X I (c_S_putCopyWord l hlt D cA h _ bw cwv ts tb st ro mr la fuv dn wrv c1 i w0 (by omega) (by omega) hfv) lk_S79 rfl rfl ⟨by decide, by decide⟩ ⟨by decide, by decide⟩ rfl hl.1 (rest := []) rfl (Nat.le_of_ble_eq_true rfl) d_S_copyBlock_49 (fun k u' w49 => hR.trans (by rw [show 4 - i = (3 - i) + 1 by omega]; exact cB_err (cFor_err (by show cPutC c1 i (if rep0 = some i then w0 else bw (b0 * 4 + i)) _ = _; rw [hv]; exact w49)))) (fun v u' H locs w49 I => ?_)
        obtain ⟨rfl, z49, hfb⟩ := w49
        obtain ⟨fu2, rfl⟩ := putC_inv z49
        refine lv_iinc (v := nI (i + 1)) (lv' := [(6, .int (nI (i + 1))), (0, .ref (h 0)), (1, .int (nI s0)), (2, .int (nI b0)), (3, .int (oI rep0)), (4, .int w0), (5, .int (nI c1))]) C.1 C.2.1 d_S_copyBlock_52 hl (k := 6) rfl (by rw [show nI (i + 1) = nI i + nI 1 from (nI_add _ _).symm]; rfl) (by decide) rfl (fun ls hl => ?_)
        refine lv_goto (tgt := 16) C.1 C.2.1 d_S_copyBlock_55 (by decide) ?_
        exact ih (i + 1) (upd cwv (c1 * 4 + i) w0) fu2 (wrv + 1) (by omega) (by omega) (by rw [hR, show 4 - i = (4 - (i + 1)) + 1 by omega]; exact cB_eq (cFor_ok (by show cPutC c1 i (if rep0 = some i then w0 else bw (b0 * 4 + i)) _ = _; rw [hv]; exact z49))) hfb _ _ I ls (lv_sub hl [1, 2, 3, 4, 5, 6, 0] rfl)
set_option maxHeartbeats 4000000 in
set_option maxRecDepth 100000 in
/-- R_S.copyBlock -/
theorem c_S_copyBlock (l : Launch) (hlt : l.stackTraces = false) (D : va_G) (cA : Nat → ClassId) (h : Nat → Nat) (sz : Nat) (bw : (Nat → Int32)) (cw : (Nat → Int32)) (ts : (Nat → Int32)) (tb : (Nat → Int32)) (st : (Nat → Int32)) (ro : Nat) (mr : Nat) (la : Nat) (fu : Option Nat) (dn : Bool) (wr : Nat) (s0 b0 : Nat) (rep0 : Option Nat) (w0 : Int32) (hs0 : s0 < 3) (hb0 : b0 < 6) (hrep : ∀ j, rep0 = some j → j < 4) (hfu : ∀ k, fu = some k → k < 2 ^ 31) : svX l D cA h (bw, cw, ts, tb, st, ro, mr, la, fu, dn, wr) sz y_S_copyBlock (.code y_S_copyBlock b_S_copyBlock 7 none) (rmX 2) [.int (nI s0), .int (nI b0), .int (oI rep0), .int w0] (fun v u' => v = none ∧ cCopy s0 b0 rep0 w0 (bw, cw, ts, tb, st, ro, mr, la, fu, dn, wr) = (.ok (), u') ∧ fB u') (fun k u' => cCopy s0 b0 rep0 w0 (bw, cw, ts, tb, st, ro, mr, la, fu, dn, wr) = (.error k, u')) := by
  refine sv_x hlt (by decide) rfl (Nat.le_of_ble_eq_true rfl) ?_
  intro p e s m args below meth c C X hr hsz I ls hl
  generalize svA cA h (bw, cw, ts, tb, st, ro, mr, la, fu, dn, wr) sz = A at I X ⊢
  have hl : lv_has ls 7 [(0, .ref (h 0)), (1, .int (nI s0)), (2, .int (nI b0)), (3, .int (oI rep0)), (4, .int w0)] := hl
  refine lv_aload_n C.1 C.2.1 d_S_copyBlock_0 rfl (lv_at hl 0 rfl) ?_
  refine sv_ci C I (c_S_lowestFree l D cA h _ bw cw ts tb st ro mr la fu dn wr) lk_S155 rfl rfl ⟨by decide, by decide⟩ ⟨Nat.zero_le _, Nat.zero_le _⟩ rfl hl.1 (rest := []) rfl (Nat.le_of_ble_eq_true rfl) d_S_copyBlock_1 (fun r u' H locs w1 I => ?_)
  obtain ⟨rfl, rfl⟩ := w1
  rcases hc1 : cLF ts st with _ | c1
  · refine lv_istore (lv' := [(5, .int (oI none)), (0, .ref (h 0)), (1, .int (nI s0)), (2, .int (nI b0)), (3, .int (oI rep0)), (4, .int w0)]) C.1 C.2.1 d_S_copyBlock_4 hl (by decide) rfl (fun ls hl => ?_)
    refine lv_iload C.1 C.2.1 d_S_copyBlock_6 (lv_at hl 0 rfl) ?_
    refine lv_iconst (v := oI none) C.1 C.2.1 d_S_copyBlock_8 (by decide) ?_
    refine lv_icmp_ne (x := oI none) (y := oI none) (tgt := 13) C.1 C.2.1 d_S_copyBlock_9 (by decide) (fun q9 => absurd rfl q9) (fun q9 => ?_)
    exact sv_xrv C hr I ⟨rfl, cCopy_none hc1, hfu⟩ d_S_copyBlock_12
  · have hc1l := cLF_lt hc1
    refine lv_istore (lv' := [(5, .int (nI c1)), (0, .ref (h 0)), (1, .int (nI s0)), (2, .int (nI b0)), (3, .int (oI rep0)), (4, .int w0)]) C.1 C.2.1 d_S_copyBlock_4 hl (by decide) rfl (fun ls hl => ?_)
    refine lv_iload C.1 C.2.1 d_S_copyBlock_6 (lv_at hl 0 rfl) ?_
    refine lv_iconst (v := oI none) C.1 C.2.1 d_S_copyBlock_8 (by decide) ?_
    refine lv_icmp_ne (x := nI c1) (y := oI none) (tgt := 13) C.1 C.2.1 d_S_copyBlock_9 (by decide) (fun q9 => ?_) (fun q9 => absurd ((oI_n (o := none) (by omega) (fun _ e => by cases e)).mp q9) (fun z => by cases z))
    refine lv_iconst (v := nI 0) C.1 C.2.1 d_S_copyBlock_13 (by decide) ?_
    refine lv_istore (lv' := [(6, .int (nI 0)), (5, .int (nI c1)), (0, .ref (h 0)), (1, .int (nI s0)), (2, .int (nI b0)), (3, .int (oI rep0)), (4, .int w0)]) C.1 C.2.1 d_S_copyBlock_14 hl (by decide) rfl (fun ls hl => ?_)
    exact lp_S_copyBlock_16 C X hlt hr s0 b0 rep0 w0 hs0 hb0 hrep hfu c1 hc1l _ 0 cw fu wr (Nat.lt_succ_self _) (by omega) (cCopy_some hc1) hfu _ _ I ls (lv_sub hl [2, 3, 4, 5, 6, 1, 0] rfl)
set_option maxHeartbeats 4000000 in
set_option maxRecDepth 100000 in
theorem lp_S_putBlockBack_2 {p : Program} {l : Launch} {e : Env} {s : State} {m : MethodId} {args : Array Value} {below : List Frame} {meth : Method} {c : Code} {D : va_G} {cA : Nat → ClassId} {A : Nat → Prop} {h : Nat → Nat} {bw : (Nat → Int32)} {cw : (Nat → Int32)} {ts : (Nat → Int32)} {tb : (Nat → Int32)} {st : (Nat → Int32)} {ro : Nat} {mr : Nat} {la : Nat} {fu : Option Nat} {dn : Bool} {wr : Nat} (C : gC p s m args meth c b_S_putBlockBack 4 R_S) (X : gX l c s A) (hlt : l.stackTraces = false) (hr : meth.sig.returnType = none) (b0 c0 : Nat) (hb0 : b0 < 6) (hc0 : c0 < 9) (hfu : ∀ k, fu = some k → k < 2 ^ 31)   : ∀ (fuel : Nat) (i : Nat) (bwv : Nat → Int32) (fuv : Option Nat) (wrv : Nat), 4 - i < fuel → i ≤ 4 → cBack b0 c0 (bw, cw, ts, tb, st, ro, mr, la, fu, dn, wr) = cFor (cBk b0 c0) (4 - i) i (bwv, cw, ts, tb, st, ro, mr, la, fuv, dn, wrv) → (∀ k, fuv = some k → k < 2 ^ 31) → ∀ (H : Heap) (locs : List Loc), svI D cA A s h (bwv, cw, ts, tb, st, ro, mr, la, fuv, dn, wrv) H locs → ∀ (ls : Array Slot), lv_has ls 4 [(0, .ref (h 0)), (1, .int (nI b0)), (2, .int (nI c0)), (3, .int (nI i))] → W p l e (rmX 2) s m args below meth c H locs 0 0 (wx_MQ below (wx_Q (fun v u' => v = none ∧ cBack b0 c0 (bw, cw, ts, tb, st, ro, mr, la, fu, dn, wr) = (.ok (), u') ∧ fB u') (fun k u' => cBack b0 c0 (bw, cw, ts, tb, st, ro, mr, la, fu, dn, wr) = (.error k, u')) (svAt D cA A h) A) args s 1 6 A) (F0 m 2 ls []) := by
  intro fuel
  induction fuel with
  | zero =>
    intro _ _ _ _ hfuel
    exact absurd hfuel (Nat.not_lt_zero _)
  | succ fuel ih =>
    intro i bwv fuv wrv hfuel hi hR hfv H locs I ls hl
    refine lv_iload_n C.1 C.2.1 d_S_putBlockBack_2 rfl (lv_at hl 3 rfl) ?_
    refine lv_iconst (v := nI 4) C.1 C.2.1 d_S_putBlockBack_3 (by decide) ?_
    refine n_icmp_ge C.1 C.2.1 (a := i) (b := 4) (tgt := 29) (by omega) (by omega) d_S_putBlockBack_4 (by decide) (fun q4 => ?_) (fun q4 => ?_)
    · exact sv_xrv C hr I ⟨rfl, hR.trans (by rw [show 4 - i = 0 by omega]; rfl), hfv⟩ d_S_putBlockBack_29
    · refine lv_aload_n C.1 C.2.1 d_S_putBlockBack_7 rfl (lv_at hl 0 rfl) ?_
      refine lv_iload_n C.1 C.2.1 d_S_putBlockBack_8 rfl (lv_at hl 1 rfl) ?_
      refine lv_iload_n C.1 C.2.1 d_S_putBlockBack_9 rfl (lv_at hl 3 rfl) ?_
      refine lv_aload_n C.1 C.2.1 d_S_putBlockBack_10 rfl (lv_at hl 0 rfl) ?_
      refine sv_g1 C I d_S_putBlockBack_11 ?_
      refine lv_iload_n C.1 C.2.1 d_S_putBlockBack_14 rfl (lv_at hl 2 rfl) ?_
      refine lv_iconst (v := nI 4) C.1 C.2.1 d_S_putBlockBack_15 (by decide) ?_
      refine n_imul C.1 C.2.1 (a := c0) (b := 4) d_S_putBlockBack_16 ?_
      refine lv_iload_n C.1 C.2.1 d_S_putBlockBack_17 rfl (lv_at hl 3 rfl) ?_
      refine n_iadd C.1 C.2.1 (a := c0 * 4) (b := i) d_S_putBlockBack_18 ?_
      refine sv_l2 C I (k := (c0 * 4) + i) (by omega) d_S_putBlockBack_19 ?_
      refine sv_xc C X I (c_S_putBlockWord l hlt D cA h _ bwv cw ts tb st ro mr la fuv dn wrv b0 i (cw ((c0 * 4) + i)) (by omega) (by omega) hfv) lk_S46 rfl rfl ⟨by decide, by decide⟩ ⟨by decide, by decide⟩ rfl hl.1 (rest := []) rfl (Nat.le_of_ble_eq_true rfl) d_S_putBlockBack_20 (fun k u' w20 => hR.trans (by rw [show 4 - i = (3 - i) + 1 by omega]; exact cFor_err (f := cBk b0 c0) w20)) (fun v u' H locs w20 I => ?_)
      obtain ⟨rfl, z20, hfb⟩ := w20
      obtain ⟨fu2, rfl⟩ := putB_inv z20
      refine lv_iinc (v := nI (i + 1)) (lv' := [(3, .int (nI (i + 1))), (0, .ref (h 0)), (1, .int (nI b0)), (2, .int (nI c0))]) C.1 C.2.1 d_S_putBlockBack_23 hl (k := 3) rfl (by rw [show nI (i + 1) = nI i + nI 1 from (nI_add _ _).symm]; rfl) (by decide) rfl (fun ls hl => ?_)
      refine lv_goto (tgt := 2) C.1 C.2.1 d_S_putBlockBack_26 (by decide) ?_
      exact ih (i + 1) (upd bwv (b0 * 4 + i) (cw ((c0 * 4) + i))) fu2 (wrv + 1) (by omega) (by omega) (by rw [hR, show 4 - i = (4 - (i + 1)) + 1 by omega]; exact cFor_ok (f := cBk b0 c0) z20) hfb _ _ I ls (lv_sub hl [1, 2, 3, 0] rfl)
set_option maxHeartbeats 4000000 in
set_option maxRecDepth 100000 in
/-- R_S.putBlockBack -/
theorem c_S_putBlockBack (l : Launch) (hlt : l.stackTraces = false) (D : va_G) (cA : Nat → ClassId) (h : Nat → Nat) (sz : Nat) (bw : (Nat → Int32)) (cw : (Nat → Int32)) (ts : (Nat → Int32)) (tb : (Nat → Int32)) (st : (Nat → Int32)) (ro : Nat) (mr : Nat) (la : Nat) (fu : Option Nat) (dn : Bool) (wr : Nat) (b0 c0 : Nat) (hb0 : b0 < 6) (hc0 : c0 < 9) (hfu : ∀ k, fu = some k → k < 2 ^ 31) : svX l D cA h (bw, cw, ts, tb, st, ro, mr, la, fu, dn, wr) sz y_S_putBlockBack (.code y_S_putBlockBack b_S_putBlockBack 4 none) (rmX 2) [.int (nI b0), .int (nI c0)] (fun v u' => v = none ∧ cBack b0 c0 (bw, cw, ts, tb, st, ro, mr, la, fu, dn, wr) = (.ok (), u') ∧ fB u') (fun k u' => cBack b0 c0 (bw, cw, ts, tb, st, ro, mr, la, fu, dn, wr) = (.error k, u')) := by
  refine sv_x hlt (by decide) rfl (Nat.le_of_ble_eq_true rfl) ?_
  intro p e s m args below meth c C X hr hsz I ls hl
  generalize svA cA h (bw, cw, ts, tb, st, ro, mr, la, fu, dn, wr) sz = A at I X ⊢
  have hl : lv_has ls 4 [(0, .ref (h 0)), (1, .int (nI b0)), (2, .int (nI c0))] := hl
  refine lv_iconst (v := nI 0) C.1 C.2.1 d_S_putBlockBack_0 (by decide) ?_
  refine lv_istore_n (lv' := [(3, .int (nI 0)), (0, .ref (h 0)), (1, .int (nI b0)), (2, .int (nI c0))]) C.1 C.2.1 d_S_putBlockBack_1 rfl hl (by decide) rfl (fun ls hl => ?_)
  exact lp_S_putBlockBack_2 C X hlt hr b0 c0 hb0 hc0 hfu  _ 0 bw fu wr (Nat.lt_succ_self _) (by omega) rfl hfu _ _ I ls (lv_sub hl [1, 2, 3, 0] rfl)
set_option maxHeartbeats 4000000 in
set_option maxRecDepth 100000 in
theorem lp_S_copyForSharers_4 {p : Program} {l : Launch} {e : Env} {s : State} {m : MethodId} {args : Array Value} {below : List Frame} {meth : Method} {c : Code} {D : va_G} {cA : Nat → ClassId} {A : Nat → Prop} {h : Nat → Nat} {bw : (Nat → Int32)} {cw : (Nat → Int32)} {ts : (Nat → Int32)} {tb : (Nat → Int32)} {st : (Nat → Int32)} {ro : Nat} {mr : Nat} {la : Nat} {fu : Option Nat} {dn : Bool} {wr : Nat} (C : gC p s m args meth c b_S_copyForSharers 4 R_S) (X : gX l c s A) (hlt : l.stackTraces = false) (hr : meth.sig.returnType = (some .int)) (b0 : Nat) (hb0 : b0 < 6) (hfu : ∀ k, fu = some k → k < 2 ^ 31)   : ∀ (fuel : Nat) (i : Nat) (a : Nat) (bwv : (Nat → Int32)) (cwv : (Nat → Int32)) (tsv : (Nat → Int32)) (tbv : (Nat → Int32)) (stv : (Nat → Int32)) (rov : Nat) (mrv : Nat) (lav : Nat) (fuv : Option Nat) (dnv : Bool) (wrv : Nat), 3 - i < fuel → i ≤ 3 → cCopies b0 (bw, cw, ts, tb, st, ro, mr, la, fu, dn, wr) = cSum (cCopyIf b0) (3 - i) i a (bwv, cwv, tsv, tbv, stv, rov, mrv, lav, fuv, dnv, wrv) → (∀ k, fuv = some k → k < 2 ^ 31) → ∀ (H : Heap) (locs : List Loc), svI D cA A s h (bwv, cwv, tsv, tbv, stv, rov, mrv, lav, fuv, dnv, wrv) H locs → ∀ (ls : Array Slot), lv_has ls 4 [(0, .ref (h 0)), (1, .int (nI b0)), (2, .int (nI a)), (3, .int (nI i))] → W p l e (rmX 3) s m args below meth c H locs 0 0 (wx_MQ below (wx_Q (fun v u' => ∃ r, v = some (.int (nI r)) ∧ cCopies b0 (bw, cw, ts, tb, st, ro, mr, la, fu, dn, wr) = (.ok r, u') ∧ fB u') (fun k u' => cCopies b0 (bw, cw, ts, tb, st, ro, mr, la, fu, dn, wr) = (.error k, u')) (svAt D cA A h) A) args s 1 6 A) (F0 m 4 ls []) := by
  intro fuel
  induction fuel with
  | zero =>
    intro _ _ _ _ _ _ _ _ _ _ _ _ _ hfuel
    exact absurd hfuel (Nat.not_lt_zero _)
  | succ fuel ih =>
    intro i a bwv cwv tsv tbv stv rov mrv lav fuv dnv wrv hfuel hi hR hfv H locs I ls hl
    refine lv_iload_n C.1 C.2.1 d_S_copyForSharers_4 rfl (lv_at hl 3 rfl) ?_
    refine lv_iconst (v := nI 3) C.1 C.2.1 d_S_copyForSharers_5 (by decide) ?_
    refine n_icmp_ge C.1 C.2.1 (a := i) (b := 3) (tgt := 35) (by omega) (by omega) d_S_copyForSharers_6 (by decide) (fun q6 => ?_) (fun q6 => ?_)
    · refine lv_iload_n C.1 C.2.1 d_S_copyForSharers_35 rfl (lv_at hl 2 rfl) ?_
      exact sv_xri (v := nI a) C hr I ⟨a, rfl, hR.trans (by rw [show 3 - i = 0 by omega]; rfl), hfv⟩ d_S_copyForSharers_36
    · refine lv_aload_n C.1 C.2.1 d_S_copyForSharers_9 rfl (lv_at hl 0 rfl) ?_
      refine lv_iload_n C.1 C.2.1 d_S_copyForSharers_10 rfl (lv_at hl 3 rfl) ?_
      refine lv_iload_n C.1 C.2.1 d_S_copyForSharers_11 rfl (lv_at hl 1 rfl) ?_
      refine sv_ci C I (c_S_shares l D cA h _ bwv cwv tsv tbv stv rov mrv lav fuv dnv wrv i b0 (by omega) (by omega)) lk_S152 rfl rfl ⟨by decide, by decide⟩ ⟨Nat.zero_le _, Nat.zero_le _⟩ rfl hl.1 (rest := []) rfl (Nat.le_of_ble_eq_true rfl) d_S_copyForSharers_12 (fun r u' H locs w12 I => ?_)
      obtain ⟨rfl, rfl⟩ := w12
      refine n_ifeq (b := cShares tsv tbv stv b0 i) (tgt := 29) C.1 C.2.1 d_S_copyForSharers_15 (by decide) (fun q15 => ?_) (fun q15 => ?_)
      · refine lv_iinc (v := nI (i + 1)) (lv' := [(3, .int (nI (i + 1))), (0, .ref (h 0)), (1, .int (nI b0)), (2, .int (nI a))]) C.1 C.2.1 d_S_copyForSharers_29 hl (k := 3) rfl (by rw [show nI (i + 1) = nI i + nI 1 from (nI_add _ _).symm]; rfl) (by decide) rfl (fun ls hl => ?_)
        refine lv_goto (tgt := 4) C.1 C.2.1 d_S_copyForSharers_32 (by decide) ?_
        exact ih (i + 1) a bwv cwv tsv tbv stv rov mrv lav fuv dnv wrv (by omega) (by omega) (by rw [hR, show 3 - i = (3 - (i + 1)) + 1 by omega]; first | exact cSum_ok (d := 0) (cCopyIf_no q15) | exact cSum_ok (d := 1) ((cCopyIf_yes q15).trans (cB_ok z23))) (by first | exact hfb | exact hfv) _ _ I ls (lv_sub hl [1, 2, 3, 0] rfl)
      · refine lv_aload_n C.1 C.2.1 d_S_copyForSharers_18 rfl (lv_at hl 0 rfl) ?_
        refine lv_iload_n C.1 C.2.1 d_S_copyForSharers_19 rfl (lv_at hl 3 rfl) ?_
        refine lv_iload_n C.1 C.2.1 d_S_copyForSharers_20 rfl (lv_at hl 1 rfl) ?_
        refine lv_iconst (v := oI none) C.1 C.2.1 d_S_copyForSharers_21 (by decide) ?_
        refine lv_iconst (v := nI 0) C.1 C.2.1 d_S_copyForSharers_22 (by decide) ?_
        refine sv_xc C X I (c_S_copyBlock l hlt D cA h _ bwv cwv tsv tbv stv rov mrv lav fuv dnv wrv i b0 none 0 (by omega) (by omega) (fun j e => by cases e) hfv) lk_S82 rfl rfl ⟨by decide, by decide⟩ ⟨by decide, by decide⟩ rfl hl.1 (rest := []) rfl (Nat.le_of_ble_eq_true rfl) d_S_copyForSharers_23 (fun k u' w23 => hR.trans (by rw [show 3 - i = (3 - (i + 1)) + 1 by omega]; exact cSum_err ((cCopyIf_yes q15).trans (cB_err w23)))) (fun v u' H locs w23 I => ?_)
        obtain ⟨rfl, z23, hfb⟩ := w23
        obtain ⟨bw_x, cw_x, ts_x, tb_x, st_x, ro_x, mr_x, la_x, fu_x, dn_x, wr_x⟩ := u'
        refine lv_iinc (v := nI (a + 1)) (lv' := [(2, .int (nI (a + 1))), (0, .ref (h 0)), (1, .int (nI b0)), (3, .int (nI i))]) C.1 C.2.1 d_S_copyForSharers_26 hl (k := 2) rfl (by rw [show nI (a + 1) = nI a + nI 1 from (nI_add _ _).symm]; rfl) (by decide) rfl (fun ls hl => ?_)
        refine lv_iinc (v := nI (i + 1)) (lv' := [(3, .int (nI (i + 1))), (2, .int (nI (a + 1))), (0, .ref (h 0)), (1, .int (nI b0))]) C.1 C.2.1 d_S_copyForSharers_29 hl (k := 3) rfl (by rw [show nI (i + 1) = nI i + nI 1 from (nI_add _ _).symm]; rfl) (by decide) rfl (fun ls hl => ?_)
        refine lv_goto (tgt := 4) C.1 C.2.1 d_S_copyForSharers_32 (by decide) ?_
        exact ih (i + 1) (a + 1) bw_x cw_x ts_x tb_x st_x ro_x mr_x la_x fu_x dn_x wr_x (by omega) (by omega) (by rw [hR, show 3 - i = (3 - (i + 1)) + 1 by omega]; first | exact cSum_ok (d := 0) (cCopyIf_no q15) | exact cSum_ok (d := 1) ((cCopyIf_yes q15).trans (cB_ok z23))) (by first | exact hfb | exact hfv) _ _ I ls (lv_sub hl [2, 3, 1, 0] rfl)
set_option maxHeartbeats 4000000 in
set_option maxRecDepth 100000 in
/-- R_S.copyForSharers -/
theorem c_S_copyForSharers (l : Launch) (hlt : l.stackTraces = false) (D : va_G) (cA : Nat → ClassId) (h : Nat → Nat) (sz : Nat) (bw : (Nat → Int32)) (cw : (Nat → Int32)) (ts : (Nat → Int32)) (tb : (Nat → Int32)) (st : (Nat → Int32)) (ro : Nat) (mr : Nat) (la : Nat) (fu : Option Nat) (dn : Bool) (wr : Nat) (b0 : Nat) (hb0 : b0 < 6) (hfu : ∀ k, fu = some k → k < 2 ^ 31) : svX l D cA h (bw, cw, ts, tb, st, ro, mr, la, fu, dn, wr) sz y_S_copyForSharers (.code y_S_copyForSharers b_S_copyForSharers 4 (some .int)) (rmX 3) [.int (nI b0)] (fun v u' => ∃ r, v = some (.int (nI r)) ∧ cCopies b0 (bw, cw, ts, tb, st, ro, mr, la, fu, dn, wr) = (.ok r, u') ∧ fB u') (fun k u' => cCopies b0 (bw, cw, ts, tb, st, ro, mr, la, fu, dn, wr) = (.error k, u')) := by
  refine sv_x hlt (by decide) rfl (Nat.le_of_ble_eq_true rfl) ?_
  intro p e s m args below meth c C X hr hsz I ls hl
  generalize svA cA h (bw, cw, ts, tb, st, ro, mr, la, fu, dn, wr) sz = A at I X ⊢
  have hl : lv_has ls 4 [(0, .ref (h 0)), (1, .int (nI b0))] := hl
  refine lv_iconst (v := nI 0) C.1 C.2.1 d_S_copyForSharers_0 (by decide) ?_
  refine lv_istore_n (lv' := [(2, .int (nI 0)), (0, .ref (h 0)), (1, .int (nI b0))]) C.1 C.2.1 d_S_copyForSharers_1 rfl hl (by decide) rfl (fun ls hl => ?_)
  refine lv_iconst (v := nI 0) C.1 C.2.1 d_S_copyForSharers_2 (by decide) ?_
  refine lv_istore_n (lv' := [(3, .int (nI 0)), (2, .int (nI 0)), (0, .ref (h 0)), (1, .int (nI b0))]) C.1 C.2.1 d_S_copyForSharers_3 rfl hl (by decide) rfl (fun ls hl => ?_)
  exact lp_S_copyForSharers_4 C X hlt hr b0 hb0 hfu  _ 0 0 bw cw ts tb st ro mr la fu dn wr (Nat.lt_succ_self _) (by omega) rfl hfu _ _ I ls (lv_sub hl [2, 3, 1, 0] rfl)
set_option maxHeartbeats 4000000 in
set_option maxRecDepth 100000 in
theorem lp_S_mergeFromMark_7 {p : Program} {l : Launch} {e : Env} {s : State} {m : MethodId} {args : Array Value} {below : List Frame} {meth : Method} {c : Code} {D : va_G} {cA : Nat → ClassId} {A : Nat → Prop} {h : Nat → Nat} {bw : (Nat → Int32)} {cw : (Nat → Int32)} {ts : (Nat → Int32)} {tb : (Nat → Int32)} {st : (Nat → Int32)} {ro : Nat} {mr : Nat} {la : Nat} {fu : Option Nat} {dn : Bool} {wr : Nat} (C : gC p s m args meth c b_S_mergeFromMark 5 R_S) (X : gX l c s A) (hlt : l.stackTraces = false) (hr : meth.sig.returnType = (some .int)) (s0 : Nat) (hs0 : s0 < 3) (hmr : mr ≤ 6) (hfu : ∀ k, fu = some k → k < 2 ^ 31)   : ∀ (fuel : Nat) (b : Nat) (a : Nat) (bwv : (Nat → Int32)) (cwv : (Nat → Int32)) (tsv : (Nat → Int32)) (tbv : (Nat → Int32)) (stv : (Nat → Int32)) (rov : Nat) (mrv : Nat) (lav : Nat) (fuv : Option Nat) (dnv : Bool) (wrv : Nat), 6 - b < fuel → b ≤ 6 → cMerge s0 (bw, cw, ts, tb, st, ro, mr, la, fu, dn, wr) = cB (cSum (cMerge1 s0) (6 - b) b a) (fun n => cB (cPutR 0) (fun _ => cOk n)) (bwv, cwv, tsv, tbv, stv, rov, mrv, lav, fuv, dnv, wrv) → (∀ k, fuv = some k → k < 2 ^ 31) → ∀ (H : Heap) (locs : List Loc), svI D cA A s h (bwv, cwv, tsv, tbv, stv, rov, mrv, lav, fuv, dnv, wrv) H locs → ∀ (ls : Array Slot), lv_has ls 5 [(0, .ref (h 0)), (1, .int (nI s0)), (2, .int (nI a)), (3, .int (nI b))] → W p l e (rmX 4) s m args below meth c H locs 0 0 (wx_MQ below (wx_Q (fun v u' => ∃ r, v = some (.int (nI r)) ∧ cMerge s0 (bw, cw, ts, tb, st, ro, mr, la, fu, dn, wr) = (.ok r, u') ∧ fB u') (fun k u' => cMerge s0 (bw, cw, ts, tb, st, ro, mr, la, fu, dn, wr) = (.error k, u')) (svAt D cA A h) A) args s 1 6 A) (F0 m 7 ls []) := by
  intro fuel
  induction fuel with
  | zero =>
    intro _ _ _ _ _ _ _ _ _ _ _ _ _ hfuel
    exact absurd hfuel (Nat.not_lt_zero _)
  | succ fuel ih =>
    intro b a bwv cwv tsv tbv stv rov mrv lav fuv dnv wrv hfuel hi hR hfv H locs I ls hl
    refine lv_iload_n C.1 C.2.1 d_S_mergeFromMark_7 rfl (lv_at hl 3 rfl) ?_
    refine lv_bipush (v := nI 6) C.1 C.2.1 d_S_mergeFromMark_8 (by decide) ?_
    refine n_icmp_ge C.1 C.2.1 (a := b) (b := 6) (tgt := 56) (by omega) (by omega) d_S_mergeFromMark_10 (by decide) (fun q10 => ?_) (fun q10 => ?_)
    · refine lv_aload_n C.1 C.2.1 d_S_mergeFromMark_56 rfl (lv_at hl 0 rfl) ?_
      refine lv_iconst (v := nI 0) C.1 C.2.1 d_S_mergeFromMark_57 (by decide) ?_
      refine sv_xc C X I (c_S_putRoll l hlt D cA h _ bwv cwv tsv tbv stv rov mrv lav fuv dnv wrv 0 hfv) lk_S92 rfl rfl ⟨by decide, by decide⟩ ⟨by decide, by decide⟩ rfl hl.1 (rest := []) rfl (Nat.le_of_ble_eq_true rfl) d_S_mergeFromMark_58 (fun k u' w58 => hR.trans (by rw [show 6 - b = 0 by omega]; exact cSum_z.trans (cB_err w58))) (fun v u' H locs w58 I => ?_)
      obtain ⟨rfl, z58, hfb⟩ := w58
      refine lv_iload_n C.1 C.2.1 d_S_mergeFromMark_61 rfl (lv_at hl 2 rfl) ?_
      exact sv_xri (v := nI a) C hr I ⟨a, rfl, hR.trans (by rw [show 6 - b = 0 by omega]; exact cSum_z.trans (cB_ok z58)), hfb⟩ d_S_mergeFromMark_62
    · refine lv_aload_n C.1 C.2.1 d_S_mergeFromMark_13 rfl (lv_at hl 0 rfl) ?_
      refine lv_iload_n C.1 C.2.1 d_S_mergeFromMark_14 rfl (lv_at hl 1 rfl) ?_
      refine lv_iload_n C.1 C.2.1 d_S_mergeFromMark_15 rfl (lv_at hl 3 rfl) ?_
      refine sv_ci C I (c_S_findCopy l D cA h _ bwv cwv tsv tbv stv rov mrv lav fuv dnv wrv s0 b (by omega) (by omega)) lk_S75 rfl rfl ⟨by decide, by decide⟩ ⟨Nat.zero_le _, Nat.zero_le _⟩ rfl hl.1 (rest := []) rfl (Nat.le_of_ble_eq_true rfl) d_S_mergeFromMark_16 (fun r u' H locs w16 I => ?_)
      obtain ⟨rfl, rfl⟩ := w16
      rcases hc1 : cFind tsv tbv stv s0 b with _ | c1
      · refine lv_istore (lv' := [(4, .int (oI none)), (0, .ref (h 0)), (1, .int (nI s0)), (2, .int (nI a)), (3, .int (nI b))]) C.1 C.2.1 d_S_mergeFromMark_19 hl (by decide) rfl (fun ls hl => ?_)
        refine lv_iload C.1 C.2.1 d_S_mergeFromMark_21 (lv_at hl 0 rfl) ?_
        refine lv_iconst (v := oI none) C.1 C.2.1 d_S_mergeFromMark_23 (by decide) ?_
        refine lv_icmp_eq (x := oI none) (y := oI none) (tgt := 50) C.1 C.2.1 d_S_mergeFromMark_24 (by decide) (fun q24 => ?_) (fun q24 => absurd rfl q24)
        refine lv_iinc (v := nI (b + 1)) (lv' := [(3, .int (nI (b + 1))), (4, .int (oI none)), (0, .ref (h 0)), (1, .int (nI s0)), (2, .int (nI a))]) C.1 C.2.1 d_S_mergeFromMark_50 hl (k := 4) rfl (by rw [show nI (b + 1) = nI b + nI 1 from (nI_add _ _).symm]; rfl) (by decide) rfl (fun ls hl => ?_)
        refine lv_goto (tgt := 7) C.1 C.2.1 d_S_mergeFromMark_53 (by decide) ?_
        exact ih (b + 1) a bwv cwv tsv tbv stv rov mrv lav fuv dnv wrv (by omega) (by omega) (by rw [hR, show 6 - b = (6 - (b + 1)) + 1 by omega]; first | exact cB_eq (cSum_ok (d := 0) (cMerge1_none hc1)) | exact cB_eq (cSum_ok (d := 1) ((cMerge1_some hc1).trans ((cB_ok z29).trans ((cB_ok z37).trans (cB_ok z44)))))) (by first | exact hfb44 | exact hfv) _ _ I ls (lv_sub hl [2, 3, 4, 0] rfl)
      · have hc1l := cFind_lt hc1
        refine lv_istore (lv' := [(4, .int (nI c1)), (0, .ref (h 0)), (1, .int (nI s0)), (2, .int (nI a)), (3, .int (nI b))]) C.1 C.2.1 d_S_mergeFromMark_19 hl (by decide) rfl (fun ls hl => ?_)
        refine lv_iload C.1 C.2.1 d_S_mergeFromMark_21 (lv_at hl 0 rfl) ?_
        refine lv_iconst (v := oI none) C.1 C.2.1 d_S_mergeFromMark_23 (by decide) ?_
        refine lv_icmp_eq (x := nI c1) (y := oI none) (tgt := 50) C.1 C.2.1 d_S_mergeFromMark_24 (by decide) (fun q24 => absurd ((oI_n (o := none) (by omega) (fun _ e => by cases e)).mp q24) (fun z => by cases z)) (fun q24 => ?_)
        refine lv_aload_n C.1 C.2.1 d_S_mergeFromMark_27 rfl (lv_at hl 1 rfl) ?_
        refine lv_iload_n C.1 C.2.1 d_S_mergeFromMark_28 rfl (lv_at hl 4 rfl) ?_
        refine sv_xc C X I (c_S_copyForSharers l hlt D cA h _ bwv cwv tsv tbv stv rov mrv lav fuv dnv wrv b (by omega) hfv) lk_S43 rfl rfl ⟨by decide, by decide⟩ ⟨by decide, by decide⟩ rfl hl.1 (rest := []) rfl (Nat.le_of_ble_eq_true rfl) d_S_mergeFromMark_29 (fun k u' w29 => hR.trans (by rw [show 6 - b = (6 - (b + 1)) + 1 by omega]; exact cB_err (cSum_err ((cMerge1_some hc1).trans (cB_err w29))))) (fun v u' H locs w29 I => ?_)
        obtain ⟨r29, rfl, z29, hfb29⟩ := w29
        obtain ⟨bw_x, cw_x, ts_x, tb_x, st_x, ro_x, mr_x, la_x, fu_x, dn_x, wr_x⟩ := u'
        refine lv_pop C.1 C.2.1 d_S_mergeFromMark_32 rfl ?_
        refine lv_aload_n C.1 C.2.1 d_S_mergeFromMark_33 rfl (lv_at hl 1 rfl) ?_
        refine lv_iload_n C.1 C.2.1 d_S_mergeFromMark_34 rfl (lv_at hl 4 rfl) ?_
        refine lv_iload C.1 C.2.1 d_S_mergeFromMark_35 (lv_at hl 0 rfl) ?_
        refine sv_xc C X I (c_S_putBlockBack l hlt D cA h _ bw_x cw_x ts_x tb_x st_x ro_x mr_x la_x fu_x dn_x wr_x b c1 (by omega) (by omega) hfb29) lk_S161 rfl rfl ⟨by decide, by decide⟩ ⟨by decide, by decide⟩ rfl hl.1 (rest := []) rfl (Nat.le_of_ble_eq_true rfl) d_S_mergeFromMark_37 (fun k u' w37 => hR.trans (by rw [show 6 - b = (6 - (b + 1)) + 1 by omega]; exact cB_err (cSum_err ((cMerge1_some hc1).trans ((cB_ok z29).trans (cB_err w37)))))) (fun v u' H locs w37 I => ?_)
        obtain ⟨rfl, z37, hfb37⟩ := w37
        obtain ⟨bw_y, cw_y, ts_y, tb_y, st_y, ro_y, mr_y, la_y, fu_y, dn_y, wr_y⟩ := u'
        refine lv_aload_n C.1 C.2.1 d_S_mergeFromMark_40 rfl (lv_at hl 1 rfl) ?_
        refine lv_iload_n C.1 C.2.1 d_S_mergeFromMark_41 rfl (lv_at hl 4 rfl) ?_
        refine lv_iconst (v := nI 1) C.1 C.2.1 d_S_mergeFromMark_42 (by decide) ?_
        refine n_iadd C.1 C.2.1 (a := b) (b := 1) d_S_mergeFromMark_43 ?_
        refine sv_xc C X I (c_S_putMark l hlt D cA h _ bw_y cw_y ts_y tb_y st_y ro_y mr_y la_y fu_y dn_y wr_y (b + 1) hfb37) lk_S89 rfl rfl ⟨by decide, by decide⟩ ⟨by decide, by decide⟩ rfl hl.1 (rest := []) rfl (Nat.le_of_ble_eq_true rfl) d_S_mergeFromMark_44 (fun k u' w44 => hR.trans (by rw [show 6 - b = (6 - (b + 1)) + 1 by omega]; exact cB_err (cSum_err ((cMerge1_some hc1).trans ((cB_ok z29).trans ((cB_ok z37).trans (cB_err w44))))))) (fun v u' H locs w44 I => ?_)
        obtain ⟨rfl, z44, hfb44⟩ := w44
        obtain ⟨bw_z, cw_z, ts_z, tb_z, st_z, ro_z, mr_z, la_z, fu_z, dn_z, wr_z⟩ := u'
        refine lv_iinc (v := nI (a + 1)) (lv' := [(2, .int (nI (a + 1))), (4, .int (nI c1)), (0, .ref (h 0)), (1, .int (nI s0)), (3, .int (nI b))]) C.1 C.2.1 d_S_mergeFromMark_47 hl (k := 3) rfl (by rw [show nI (a + 1) = nI a + nI 1 from (nI_add _ _).symm]; rfl) (by decide) rfl (fun ls hl => ?_)
        refine lv_iinc (v := nI (b + 1)) (lv' := [(3, .int (nI (b + 1))), (2, .int (nI (a + 1))), (4, .int (nI c1)), (0, .ref (h 0)), (1, .int (nI s0))]) C.1 C.2.1 d_S_mergeFromMark_50 hl (k := 4) rfl (by rw [show nI (b + 1) = nI b + nI 1 from (nI_add _ _).symm]; rfl) (by decide) rfl (fun ls hl => ?_)
        refine lv_goto (tgt := 7) C.1 C.2.1 d_S_mergeFromMark_53 (by decide) ?_
        exact ih (b + 1) (a + 1) bw_z cw_z ts_z tb_z st_z ro_z mr_z la_z fu_z dn_z wr_z (by omega) (by omega) (by rw [hR, show 6 - b = (6 - (b + 1)) + 1 by omega]; first | exact cB_eq (cSum_ok (d := 0) (cMerge1_none hc1)) | exact cB_eq (cSum_ok (d := 1) ((cMerge1_some hc1).trans ((cB_ok z29).trans ((cB_ok z37).trans (cB_ok z44)))))) (by first | exact hfb44 | exact hfv) _ _ I ls (lv_sub hl [3, 4, 1, 0] rfl)
set_option maxHeartbeats 4000000 in
set_option maxRecDepth 100000 in
/-- R_S.mergeFromMark -/
theorem c_S_mergeFromMark (l : Launch) (hlt : l.stackTraces = false) (D : va_G) (cA : Nat → ClassId) (h : Nat → Nat) (sz : Nat) (bw : (Nat → Int32)) (cw : (Nat → Int32)) (ts : (Nat → Int32)) (tb : (Nat → Int32)) (st : (Nat → Int32)) (ro : Nat) (mr : Nat) (la : Nat) (fu : Option Nat) (dn : Bool) (wr : Nat) (s0 : Nat) (hs0 : s0 < 3) (hmr : mr ≤ 6) (hfu : ∀ k, fu = some k → k < 2 ^ 31) : svX l D cA h (bw, cw, ts, tb, st, ro, mr, la, fu, dn, wr) sz y_S_mergeFromMark (.code y_S_mergeFromMark b_S_mergeFromMark 5 (some .int)) (rmX 4) [.int (nI s0)] (fun v u' => ∃ r, v = some (.int (nI r)) ∧ cMerge s0 (bw, cw, ts, tb, st, ro, mr, la, fu, dn, wr) = (.ok r, u') ∧ fB u') (fun k u' => cMerge s0 (bw, cw, ts, tb, st, ro, mr, la, fu, dn, wr) = (.error k, u')) := by
  refine sv_x hlt (by decide) rfl (Nat.le_of_ble_eq_true rfl) ?_
  intro p e s m args below meth c C X hr hsz I ls hl
  generalize svA cA h (bw, cw, ts, tb, st, ro, mr, la, fu, dn, wr) sz = A at I X ⊢
  have hl : lv_has ls 5 [(0, .ref (h 0)), (1, .int (nI s0))] := hl
  refine lv_iconst (v := nI 0) C.1 C.2.1 d_S_mergeFromMark_0 (by decide) ?_
  refine lv_istore_n (lv' := [(2, .int (nI 0)), (0, .ref (h 0)), (1, .int (nI s0))]) C.1 C.2.1 d_S_mergeFromMark_1 rfl hl (by decide) rfl (fun ls hl => ?_)
  refine lv_aload_n C.1 C.2.1 d_S_mergeFromMark_2 rfl (lv_at hl 1 rfl) ?_
  refine sv_g6 C I d_S_mergeFromMark_3 ?_
  refine lv_istore_n (lv' := [(3, .int (nI mr)), (2, .int (nI 0)), (0, .ref (h 0)), (1, .int (nI s0))]) C.1 C.2.1 d_S_mergeFromMark_6 rfl hl (by decide) rfl (fun ls hl => ?_)
  exact lp_S_mergeFromMark_7 C X hlt hr s0 hs0 hmr hfu  _ mr 0 bw cw ts tb st ro mr la fu dn wr (Nat.lt_succ_self _) (by omega) rfl hfu _ _ I ls (lv_sub hl [2, 3, 1, 0] rfl)
end
section
set_option maxHeartbeats 4000000 in
set_option maxRecDepth 100000 in
/-- R_S.write -/
theorem c_S_write (l : Launch) (hlt : l.stackTraces = false) (D : va_G) (cA : Nat → ClassId) (h : Nat → Nat) (sz : Nat) (bw : (Nat → Int32)) (cw : (Nat → Int32)) (ts : (Nat → Int32)) (tb : (Nat → Int32)) (st : (Nat → Int32)) (ro : Nat) (mr : Nat) (la : Nat) (fu : Option Nat) (dn : Bool) (wr : Nat) (x y w0 : Int32) (hfu : ∀ k, fu = some k → k < 2 ^ 31) : svX l D cA h (bw, cw, ts, tb, st, ro, mr, la, fu, dn, wr) sz y_S_write (.code y_S_write b_S_write 5 (some .int)) (rmX 4) [.int x, .int y, .int w0] (fun v u' => ∃ r, v = some (.int (nI r)) ∧ cWrite x y w0 (bw, cw, ts, tb, st, ro, mr, la, fu, dn, wr) = (.ok r, u') ∧ fB u') (fun k u' => cWrite x y w0 (bw, cw, ts, tb, st, ro, mr, la, fu, dn, wr) = (.error k, u')) := by
  refine sv_x hlt (by decide) rfl (Nat.le_of_ble_eq_true rfl) ?_
  intro p e s m args below meth c C X hr hsz I ls hl
  generalize svA cA h (bw, cw, ts, tb, st, ro, mr, la, fu, dn, wr) sz = A at I X ⊢
  have hl : lv_has ls 5 [(0, .ref (h 0)), (1, .int x), (2, .int y), (3, .int w0)] := hl
  refine lv_aload_n C.1 C.2.1 d_S_write_0 rfl (lv_at hl 0 rfl) ?_
  refine sv_xc C X I (c_S_requireUp l hlt D cA h _ bw cw ts tb st ro mr la fu dn wr hfu) lk_S28 rfl rfl ⟨by decide, by decide⟩ ⟨by decide, by decide⟩ rfl hl.1 (rest := []) rfl (Nat.le_of_ble_eq_true rfl) d_S_write_1 (fun k u' w1 => cB_err w1) (fun v u' H locs w1 I => ?_)
  obtain ⟨rfl, z1, -⟩ := w1
  obtain ⟨rfl, hdn⟩ := up_inv z1
  refine lv_aload_n C.1 C.2.1 d_S_write_4 rfl (lv_at hl 0 rfl) ?_
  refine lv_iload_n C.1 C.2.1 d_S_write_5 rfl (lv_at hl 1 rfl) ?_
  refine lv_iload_n C.1 C.2.1 d_S_write_6 rfl (lv_at hl 2 rfl) ?_
  refine sv_xc C X I (c_S_requireWord l hlt D cA h _ bw cw ts tb st ro mr la fu dn wr x y hfu) lk_S31 rfl rfl ⟨by decide, by decide⟩ ⟨by decide, by decide⟩ rfl hl.1 (rest := []) rfl (Nat.le_of_ble_eq_true rfl) d_S_write_7 (fun k u' w7 => (cB_ok z1).trans (cB_err w7)) (fun v u' H locs w7 I => ?_)
  obtain ⟨rfl, zw, -⟩ := w7
  obtain ⟨rfl, ⟨b1, hb1, rfl⟩, i1, hi1, rfl⟩ := reqW_inv zw
  have hR : cWrite (nI b1) (nI i1) w0 (bw, cw, ts, tb, st, ro, mr, la, fu, dn, wr) = cB (cReqF (cNS ts tb st b1)) (fun _ => cB (cCopies b1) fun n => cB (cPutB b1 i1 w0) fun _ => cOk n) (bw, cw, ts, tb, st, ro, mr, la, fu, dn, wr) := (cB_ok z1).trans ((cB_ok zw).trans (by simp only [cN_nI (show b1 < 2 ^ 31 by omega), cN_nI (show i1 < 2 ^ 31 by omega)]))
  refine lv_aload_n C.1 C.2.1 d_S_write_10 rfl (lv_at hl 0 rfl) ?_
  refine lv_aload_n C.1 C.2.1 d_S_write_11 rfl (lv_at hl 0 rfl) ?_
  refine lv_iload_n C.1 C.2.1 d_S_write_12 rfl (lv_at hl 1 rfl) ?_
  refine sv_ci C I (c_S_countSharers l D cA h _ bw cw ts tb st ro mr la fu dn wr b1 (by omega)) lk_S35 rfl rfl ⟨by decide, by decide⟩ ⟨Nat.zero_le _, Nat.zero_le _⟩ rfl hl.1 (rest := [.ref (h 0)]) rfl (Nat.le_of_ble_eq_true rfl) d_S_write_13 (fun r u' H locs w13 I => ?_)
  obtain ⟨rfl, rfl⟩ := w13
  refine sv_xc C X I (c_S_requireFree l hlt D cA h _ bw cw ts tb st ro mr la fu dn wr (cNS ts tb st b1) (Nat.lt_of_le_of_lt (cNS_le _ _ _ _) (by decide)) hfu) lk_S39 rfl rfl ⟨by decide, by decide⟩ ⟨by decide, by decide⟩ rfl hl.1 (rest := []) rfl (Nat.le_of_ble_eq_true rfl) d_S_write_16 (fun k u' w16 => hR.trans (cB_err w16)) (fun v u' H locs w16 I => ?_)
  obtain ⟨rfl, z16, -⟩ := w16
  obtain ⟨rfl, hnf⟩ := reqF_inv z16
  refine lv_aload_n C.1 C.2.1 d_S_write_19 rfl (lv_at hl 0 rfl) ?_
  refine lv_iload_n C.1 C.2.1 d_S_write_20 rfl (lv_at hl 1 rfl) ?_
  refine sv_xc C X I (c_S_copyForSharers l hlt D cA h _ bw cw ts tb st ro mr la fu dn wr b1 (by omega) hfu) lk_S43 rfl rfl ⟨by decide, by decide⟩ ⟨by decide, by decide⟩ rfl hl.1 (rest := []) rfl (Nat.le_of_ble_eq_true rfl) d_S_write_21 (fun k u' w21 => hR.trans ((cB_ok z16).trans (cB_err w21))) (fun v u' H locs w21 I => ?_)
  obtain ⟨r21, rfl, z21, hfb21⟩ := w21
  obtain ⟨bw_x, cw_x, ts_x, tb_x, st_x, ro_x, mr_x, la_x, fu_x, dn_x, wr_x⟩ := u'
  refine lv_istore (lv' := [(4, .int (nI r21)), (0, .ref (h 0)), (1, .int (nI b1)), (2, .int (nI i1)), (3, .int w0)]) C.1 C.2.1 d_S_write_24 hl (by decide) rfl (fun ls hl => ?_)
  refine lv_aload_n C.1 C.2.1 d_S_write_26 rfl (lv_at hl 1 rfl) ?_
  refine lv_iload_n C.1 C.2.1 d_S_write_27 rfl (lv_at hl 2 rfl) ?_
  refine lv_iload_n C.1 C.2.1 d_S_write_28 rfl (lv_at hl 3 rfl) ?_
  refine lv_iload_n C.1 C.2.1 d_S_write_29 rfl (lv_at hl 4 rfl) ?_
  refine sv_xc C X I (c_S_putBlockWord l hlt D cA h _ bw_x cw_x ts_x tb_x st_x ro_x mr_x la_x fu_x dn_x wr_x b1 i1 w0 (by omega) (by omega) hfb21) lk_S46 rfl rfl ⟨by decide, by decide⟩ ⟨by decide, by decide⟩ rfl hl.1 (rest := []) rfl (Nat.le_of_ble_eq_true rfl) d_S_write_30 (fun k u' w30 => hR.trans ((cB_ok z16).trans ((cB_ok z21).trans (cB_err w30)))) (fun v u' H locs w30 I => ?_)
  obtain ⟨rfl, z30, hfb30⟩ := w30
  refine lv_iload C.1 C.2.1 d_S_write_33 (lv_at hl 0 rfl) ?_
  exact sv_xri (v := nI r21) C hr I ⟨r21, rfl, hR.trans ((cB_ok z16).trans ((cB_ok z21).trans (cB_ok z30))), hfb30⟩ d_S_write_35
set_option maxHeartbeats 4000000 in
set_option maxRecDepth 100000 in
/-- R_S.read -/
theorem c_S_read (l : Launch) (hlt : l.stackTraces = false) (D : va_G) (cA : Nat → ClassId) (h : Nat → Nat) (sz : Nat) (bw : (Nat → Int32)) (cw : (Nat → Int32)) (ts : (Nat → Int32)) (tb : (Nat → Int32)) (st : (Nat → Int32)) (ro : Nat) (mr : Nat) (la : Nat) (fu : Option Nat) (dn : Bool) (wr : Nat) (x y : Int32) (hfu : ∀ k, fu = some k → k < 2 ^ 31) : svX l D cA h (bw, cw, ts, tb, st, ro, mr, la, fu, dn, wr) sz y_S_read (.code y_S_read b_S_read 3 (some .int)) (rmX 2) [.int x, .int y] (fun v u' => ∃ r, v = some (.int (r)) ∧ cRead x y (bw, cw, ts, tb, st, ro, mr, la, fu, dn, wr) = (.ok r, u') ∧ fB u') (fun k u' => cRead x y (bw, cw, ts, tb, st, ro, mr, la, fu, dn, wr) = (.error k, u')) := by
  refine sv_x hlt (by decide) rfl (Nat.le_of_ble_eq_true rfl) ?_
  intro p e s m args below meth c C X hr hsz I ls hl
  generalize svA cA h (bw, cw, ts, tb, st, ro, mr, la, fu, dn, wr) sz = A at I X ⊢
  have hl : lv_has ls 3 [(0, .ref (h 0)), (1, .int x), (2, .int y)] := hl
  refine lv_aload_n C.1 C.2.1 d_S_read_0 rfl (lv_at hl 0 rfl) ?_
  refine sv_xc C X I (c_S_requireUp l hlt D cA h _ bw cw ts tb st ro mr la fu dn wr hfu) lk_S28 rfl rfl ⟨by decide, by decide⟩ ⟨by decide, by decide⟩ rfl hl.1 (rest := []) rfl (Nat.le_of_ble_eq_true rfl) d_S_read_1 (fun k u' w1 => cB_err w1) (fun v u' H locs w1 I => ?_)
  obtain ⟨rfl, z1, -⟩ := w1
  obtain ⟨rfl, hdn⟩ := up_inv z1
  refine lv_aload_n C.1 C.2.1 d_S_read_4 rfl (lv_at hl 0 rfl) ?_
  refine lv_iload_n C.1 C.2.1 d_S_read_5 rfl (lv_at hl 1 rfl) ?_
  refine lv_iload_n C.1 C.2.1 d_S_read_6 rfl (lv_at hl 2 rfl) ?_
  refine sv_xc C X I (c_S_requireWord l hlt D cA h _ bw cw ts tb st ro mr la fu dn wr x y hfu) lk_S31 rfl rfl ⟨by decide, by decide⟩ ⟨by decide, by decide⟩ rfl hl.1 (rest := []) rfl (Nat.le_of_ble_eq_true rfl) d_S_read_7 (fun k u' w7 => (cB_ok z1).trans (cB_err w7)) (fun v u' H locs w7 I => ?_)
  obtain ⟨rfl, zw, -⟩ := w7
  obtain ⟨rfl, ⟨b1, hb1, rfl⟩, i1, hi1, rfl⟩ := reqW_inv zw
  refine lv_aload_n C.1 C.2.1 d_S_read_10 rfl (lv_at hl 0 rfl) ?_
  refine sv_g0 C I d_S_read_11 ?_
  refine lv_iload_n C.1 C.2.1 d_S_read_14 rfl (lv_at hl 1 rfl) ?_
  refine lv_iconst (v := nI 4) C.1 C.2.1 d_S_read_15 (by decide) ?_
  refine n_imul C.1 C.2.1 (a := b1) (b := 4) d_S_read_16 ?_
  refine lv_iload_n C.1 C.2.1 d_S_read_17 rfl (lv_at hl 2 rfl) ?_
  refine n_iadd C.1 C.2.1 (a := b1 * 4) (b := i1) d_S_read_18 ?_
  refine sv_l1 C I (k := (b1 * 4) + i1) (by omega) d_S_read_19 ?_
  exact sv_xri (v := (bw ((b1 * 4) + i1))) C hr I ⟨_, rfl, (cB_ok z1).trans ((cB_ok zw).trans (by simp only [cN_nI (show b1 < 2 ^ 31 by omega), cN_nI (show i1 < 2 ^ 31 by omega)])), hfu⟩ d_S_read_20
set_option maxHeartbeats 4000000 in
set_option maxRecDepth 100000 in
/-- R_S.snapshot -/
theorem c_S_snapshot (l : Launch) (hlt : l.stackTraces = false) (D : va_G) (cA : Nat → ClassId) (h : Nat → Nat) (sz : Nat) (bw : (Nat → Int32)) (cw : (Nat → Int32)) (ts : (Nat → Int32)) (tb : (Nat → Int32)) (st : (Nat → Int32)) (ro : Nat) (mr : Nat) (la : Nat) (fu : Option Nat) (dn : Bool) (wr : Nat)  (hfu : ∀ k, fu = some k → k < 2 ^ 31) : svX l D cA h (bw, cw, ts, tb, st, ro, mr, la, fu, dn, wr) sz y_S_snapshot (.code y_S_snapshot b_S_snapshot 2 (some .int)) (rmX 2) [] (fun v u' => ∃ r, v = some (.int (nI r)) ∧ cSnap (bw, cw, ts, tb, st, ro, mr, la, fu, dn, wr) = (.ok r, u') ∧ fB u') (fun k u' => cSnap (bw, cw, ts, tb, st, ro, mr, la, fu, dn, wr) = (.error k, u')) := by
  refine sv_x hlt (by decide) rfl (Nat.le_of_ble_eq_true rfl) ?_
  intro p e s m args below meth c C X hr hsz I ls hl
  generalize svA cA h (bw, cw, ts, tb, st, ro, mr, la, fu, dn, wr) sz = A at I X ⊢
  have hl : lv_has ls 2 [(0, .ref (h 0))] := hl
  refine lv_aload_n C.1 C.2.1 d_S_snapshot_0 rfl (lv_at hl 0 rfl) ?_
  refine sv_xc C X I (c_S_requireUp l hlt D cA h _ bw cw ts tb st ro mr la fu dn wr hfu) lk_S28 rfl rfl ⟨by decide, by decide⟩ ⟨by decide, by decide⟩ rfl hl.1 (rest := []) rfl (Nat.le_of_ble_eq_true rfl) d_S_snapshot_1 (fun k u' w1 => cB_err w1) (fun v u' H locs w1 I => ?_)
  obtain ⟨rfl, z1, -⟩ := w1
  obtain ⟨rfl, hdn⟩ := up_inv z1
  refine lv_aload_n C.1 C.2.1 d_S_snapshot_4 rfl (lv_at hl 0 rfl) ?_
  refine sv_ci C I (c_S_lowestEmptyPlace l D cA h _ bw cw ts tb st ro mr la fu dn wr) lk_S50 rfl rfl ⟨by decide, by decide⟩ ⟨Nat.zero_le _, Nat.zero_le _⟩ rfl hl.1 (rest := []) rfl (Nat.le_of_ble_eq_true rfl) d_S_snapshot_5 (fun r u' H locs w5 I => ?_)
  obtain ⟨rfl, rfl⟩ := w5
  rcases hs1 : cLE st with _ | s1
  · refine lv_istore_n (lv' := [(1, .int (oI none)), (0, .ref (h 0))]) C.1 C.2.1 d_S_snapshot_8 rfl hl (by decide) rfl (fun ls hl => ?_)
    refine lv_iload_n C.1 C.2.1 d_S_snapshot_9 rfl (lv_at hl 0 rfl) ?_
    refine lv_iconst (v := oI none) C.1 C.2.1 d_S_snapshot_10 (by decide) ?_
    refine lv_icmp_ne (x := oI none) (y := oI none) (tgt := 24) C.1 C.2.1 d_S_snapshot_11 (by decide) (fun q11 => absurd rfl q11) (fun q11 => ?_)
    exact sv_thr (kd := 2) (names := exN) (by rw [hl.1]; exact C) X I (by decide +kernel) (by decide +kernel) thr2 thw2 thc2 thi2 thn2 (tx := "no place is empty") (by decide +kernel) d_S_snapshot_14 d_S_snapshot_17 d_S_snapshot_18 d_S_snapshot_20 d_S_snapshot_23 (by decide) (by decide) (by decide) (by decide) ((cB_ok z1).trans (by simp only [hs1]))
  · have hs1l := cLE_lt hs1
    refine lv_istore_n (lv' := [(1, .int (nI s1)), (0, .ref (h 0))]) C.1 C.2.1 d_S_snapshot_8 rfl hl (by decide) rfl (fun ls hl => ?_)
    refine lv_iload_n C.1 C.2.1 d_S_snapshot_9 rfl (lv_at hl 0 rfl) ?_
    refine lv_iconst (v := oI none) C.1 C.2.1 d_S_snapshot_10 (by decide) ?_
    refine lv_icmp_ne (x := nI s1) (y := oI none) (tgt := 24) C.1 C.2.1 d_S_snapshot_11 (by decide) (fun q11 => ?_) (fun q11 => absurd ((oI_n (o := none) (by omega) (fun _ e => by cases e)).mp q11) (fun z => by cases z))
    refine lv_aload_n C.1 C.2.1 d_S_snapshot_24 rfl (lv_at hl 1 rfl) ?_
    refine lv_iload_n C.1 C.2.1 d_S_snapshot_25 rfl (lv_at hl 0 rfl) ?_
    refine lv_aload_n C.1 C.2.1 d_S_snapshot_26 rfl (lv_at hl 1 rfl) ?_
    refine sv_g7 C I d_S_snapshot_27 ?_
    refine lv_iconst (v := nI 1) C.1 C.2.1 d_S_snapshot_30 (by decide) ?_
    refine n_iadd C.1 C.2.1 (a := la) (b := 1) d_S_snapshot_31 ?_
    refine sv_xc C X I (c_S_putStamp l hlt D cA h _ bw cw ts tb st ro mr la fu dn wr s1 (nI (la + 1)) (by omega) hfu) lk_S65 rfl rfl ⟨by decide, by decide⟩ ⟨by decide, by decide⟩ rfl hl.1 (rest := []) rfl (Nat.le_of_ble_eq_true rfl) d_S_snapshot_32 (fun k u' w32 => (cB_ok z1).trans (by simp only [hs1]; exact cB_err w32)) (fun v u' H locs w32 I => ?_)
    obtain ⟨rfl, z32, hfb⟩ := w32
    obtain ⟨fu2, rfl⟩ := putS_inv z32
    refine lv_aload_n C.1 C.2.1 d_S_snapshot_35 rfl (lv_at hl 1 rfl) ?_
    refine lv_dup C.1 C.2.1 d_S_snapshot_36 rfl ?_
    refine sv_g7 C I d_S_snapshot_37 ?_
    refine lv_iconst (v := nI 1) C.1 C.2.1 d_S_snapshot_40 (by decide) ?_
    refine n_iadd C.1 C.2.1 (a := la) (b := 1) d_S_snapshot_41 ?_
    refine sv_p7 C I (la + 1) rfl d_S_snapshot_42 (fun H locs I => ?_)
    refine lv_iload_n C.1 C.2.1 d_S_snapshot_45 rfl (lv_at hl 0 rfl) ?_
    exact sv_xri (v := nI s1) C hr I ⟨s1, rfl, (cB_ok z1).trans (by simp only [hs1]; exact cB_ok z32), hfb⟩ d_S_snapshot_46
set_option maxHeartbeats 4000000 in
set_option maxRecDepth 100000 in
/-- R_S.drop -/
theorem c_S_drop (l : Launch) (hlt : l.stackTraces = false) (D : va_G) (cA : Nat → ClassId) (h : Nat → Nat) (sz : Nat) (bw : (Nat → Int32)) (cw : (Nat → Int32)) (ts : (Nat → Int32)) (tb : (Nat → Int32)) (st : (Nat → Int32)) (ro : Nat) (mr : Nat) (la : Nat) (fu : Option Nat) (dn : Bool) (wr : Nat) (x : Int32) (hfu : ∀ k, fu = some k → k < 2 ^ 31) : svX l D cA h (bw, cw, ts, tb, st, ro, mr, la, fu, dn, wr) sz y_S_drop (.code y_S_drop b_S_drop 2 none) (rmX 2) [.int x] (fun v u' => v = none ∧ cDrop x (bw, cw, ts, tb, st, ro, mr, la, fu, dn, wr) = (.ok (), u') ∧ fB u') (fun k u' => cDrop x (bw, cw, ts, tb, st, ro, mr, la, fu, dn, wr) = (.error k, u')) := by
  refine sv_x hlt (by decide) rfl (Nat.le_of_ble_eq_true rfl) ?_
  intro p e s m args below meth c C X hr hsz I ls hl
  generalize svA cA h (bw, cw, ts, tb, st, ro, mr, la, fu, dn, wr) sz = A at I X ⊢
  have hl : lv_has ls 2 [(0, .ref (h 0)), (1, .int x)] := hl
  refine lv_aload_n C.1 C.2.1 d_S_drop_0 rfl (lv_at hl 0 rfl) ?_
  refine sv_xc C X I (c_S_requireUp l hlt D cA h _ bw cw ts tb st ro mr la fu dn wr hfu) lk_S28 rfl rfl ⟨by decide, by decide⟩ ⟨by decide, by decide⟩ rfl hl.1 (rest := []) rfl (Nat.le_of_ble_eq_true rfl) d_S_drop_1 (fun k u' w1 => cB_err w1) (fun v u' H locs w1 I => ?_)
  obtain ⟨rfl, z1, -⟩ := w1
  obtain ⟨rfl, hdn⟩ := up_inv z1
  refine lv_aload_n C.1 C.2.1 d_S_drop_4 rfl (lv_at hl 0 rfl) ?_
  refine lv_iload_n C.1 C.2.1 d_S_drop_5 rfl (lv_at hl 1 rfl) ?_
  refine sv_xc C X I (c_S_requireSnapshot l hlt D cA h _ bw cw ts tb st ro mr la fu dn wr x hfu) lk_S68 rfl rfl ⟨by decide, by decide⟩ ⟨by decide, by decide⟩ rfl hl.1 (rest := []) rfl (Nat.le_of_ble_eq_true rfl) d_S_drop_6 (fun k u' w6 => (cB_ok z1).trans (cB_err w6)) (fun v u' H locs w6 I => ?_)
  obtain ⟨rfl, zs, -⟩ := w6
  obtain ⟨rfl, hx⟩ := reqS_inv zs
  obtain ⟨s1, hs1, rfl⟩ := has_ix hx
  refine lv_aload_n C.1 C.2.1 d_S_drop_9 rfl (lv_at hl 0 rfl) ?_
  refine lv_iload_n C.1 C.2.1 d_S_drop_10 rfl (lv_at hl 1 rfl) ?_
  refine lv_iconst (v := nI 0) C.1 C.2.1 d_S_drop_11 (by decide) ?_
  refine sv_xc C X I (c_S_putStamp l hlt D cA h _ bw cw ts tb st ro mr la fu dn wr s1 0 (by omega) hfu) lk_S65 rfl rfl ⟨by decide, by decide⟩ ⟨by decide, by decide⟩ rfl hl.1 (rest := []) rfl (Nat.le_of_ble_eq_true rfl) d_S_drop_12 (fun k u' w12 => (cB_ok z1).trans ((cB_ok zs).trans (by rw [cN_nI (show s1 < 2 ^ 31 by omega)]; exact w12))) (fun v u' H locs w12 I => ?_)
  obtain ⟨rfl, z12, hfb⟩ := w12
  exact sv_xrv C hr I ⟨rfl, (cB_ok z1).trans ((cB_ok zs).trans (by rw [cN_nI (show s1 < 2 ^ 31 by omega)]; exact z12)), hfb⟩ d_S_drop_15
set_option maxHeartbeats 4000000 in
set_option maxRecDepth 100000 in
/-- R_S.readSnapshot -/
theorem c_S_readSnapshot (l : Launch) (hlt : l.stackTraces = false) (D : va_G) (cA : Nat → ClassId) (h : Nat → Nat) (sz : Nat) (bw : (Nat → Int32)) (cw : (Nat → Int32)) (ts : (Nat → Int32)) (tb : (Nat → Int32)) (st : (Nat → Int32)) (ro : Nat) (mr : Nat) (la : Nat) (fu : Option Nat) (dn : Bool) (wr : Nat) (x y z : Int32) (hfu : ∀ k, fu = some k → k < 2 ^ 31) : svX l D cA h (bw, cw, ts, tb, st, ro, mr, la, fu, dn, wr) sz y_S_readSnapshot (.code y_S_readSnapshot b_S_readSnapshot 4 (some .int)) (rmX 3) [.int x, .int y, .int z] (fun v u' => ∃ r, v = some (.int (r)) ∧ cReadS x y z (bw, cw, ts, tb, st, ro, mr, la, fu, dn, wr) = (.ok r, u') ∧ fB u') (fun k u' => cReadS x y z (bw, cw, ts, tb, st, ro, mr, la, fu, dn, wr) = (.error k, u')) := by
  refine sv_x hlt (by decide) rfl (Nat.le_of_ble_eq_true rfl) ?_
  intro p e s m args below meth c C X hr hsz I ls hl
  generalize svA cA h (bw, cw, ts, tb, st, ro, mr, la, fu, dn, wr) sz = A at I X ⊢
  have hl : lv_has ls 4 [(0, .ref (h 0)), (1, .int x), (2, .int y), (3, .int z)] := hl
  refine lv_aload_n C.1 C.2.1 d_S_readSnapshot_0 rfl (lv_at hl 0 rfl) ?_
  refine sv_xc C X I (c_S_requireUp l hlt D cA h _ bw cw ts tb st ro mr la fu dn wr hfu) lk_S28 rfl rfl ⟨by decide, by decide⟩ ⟨by decide, by decide⟩ rfl hl.1 (rest := []) rfl (Nat.le_of_ble_eq_true rfl) d_S_readSnapshot_1 (fun k u' w1 => cB_err w1) (fun v u' H locs w1 I => ?_)
  obtain ⟨rfl, z1, -⟩ := w1
  obtain ⟨rfl, hdn⟩ := up_inv z1
  refine lv_aload_n C.1 C.2.1 d_S_readSnapshot_4 rfl (lv_at hl 0 rfl) ?_
  refine lv_iload_n C.1 C.2.1 d_S_readSnapshot_5 rfl (lv_at hl 1 rfl) ?_
  refine sv_xc C X I (c_S_requireSnapshot l hlt D cA h _ bw cw ts tb st ro mr la fu dn wr x hfu) lk_S68 rfl rfl ⟨by decide, by decide⟩ ⟨by decide, by decide⟩ rfl hl.1 (rest := []) rfl (Nat.le_of_ble_eq_true rfl) d_S_readSnapshot_6 (fun k u' w6 => (cB_ok z1).trans (cB_err w6)) (fun v u' H locs w6 I => ?_)
  obtain ⟨rfl, zs, -⟩ := w6
  obtain ⟨rfl, hx⟩ := reqS_inv zs
  obtain ⟨s1, hs1, rfl⟩ := has_ix hx
  refine lv_aload_n C.1 C.2.1 d_S_readSnapshot_9 rfl (lv_at hl 0 rfl) ?_
  refine lv_iload_n C.1 C.2.1 d_S_readSnapshot_10 rfl (lv_at hl 2 rfl) ?_
  refine lv_iload_n C.1 C.2.1 d_S_readSnapshot_11 rfl (lv_at hl 3 rfl) ?_
  refine sv_xc C X I (c_S_requireWord l hlt D cA h _ bw cw ts tb st ro mr la fu dn wr y z hfu) lk_S31 rfl rfl ⟨by decide, by decide⟩ ⟨by decide, by decide⟩ rfl hl.1 (rest := []) rfl (Nat.le_of_ble_eq_true rfl) d_S_readSnapshot_12 (fun k u' w12 => (cB_ok z1).trans ((cB_ok zs).trans (cB_err w12))) (fun v u' H locs w12 I => ?_)
  obtain ⟨rfl, zw, -⟩ := w12
  obtain ⟨rfl, ⟨b1, hb1, rfl⟩, i1, hi1, rfl⟩ := reqW_inv zw
  refine lv_aload_n C.1 C.2.1 d_S_readSnapshot_15 rfl (lv_at hl 0 rfl) ?_
  refine lv_iload_n C.1 C.2.1 d_S_readSnapshot_16 rfl (lv_at hl 1 rfl) ?_
  refine lv_iload_n C.1 C.2.1 d_S_readSnapshot_17 rfl (lv_at hl 2 rfl) ?_
  refine lv_iload_n C.1 C.2.1 d_S_readSnapshot_18 rfl (lv_at hl 3 rfl) ?_
  refine sv_ci C I (c_S_snapshotWord l D cA h _ bw cw ts tb st ro mr la fu dn wr s1 b1 (by omega) (by omega) i1 (by omega)) lk_S71 rfl rfl ⟨by decide, by decide⟩ ⟨Nat.zero_le _, Nat.zero_le _⟩ rfl hl.1 (rest := []) rfl (Nat.le_of_ble_eq_true rfl) d_S_readSnapshot_19 (fun r u' H locs w19 I => ?_)
  obtain ⟨rfl, rfl⟩ := w19
  exact sv_xri (v := (cWord bw cw ts tb st s1 b1 i1)) C hr I ⟨_, rfl, (cB_ok z1).trans ((cB_ok zs).trans ((cB_ok zw).trans (by simp only [cN_nI (show s1 < 2 ^ 31 by omega), cN_nI (show b1 < 2 ^ 31 by omega), cN_nI (show i1 < 2 ^ 31 by omega)]))), hfu⟩ d_S_readSnapshot_22
set_option maxHeartbeats 4000000 in
set_option maxRecDepth 100000 in
/-- R_S.writeSnapshot -/
theorem c_S_writeSnapshot (l : Launch) (hlt : l.stackTraces = false) (D : va_G) (cA : Nat → ClassId) (h : Nat → Nat) (sz : Nat) (bw : (Nat → Int32)) (cw : (Nat → Int32)) (ts : (Nat → Int32)) (tb : (Nat → Int32)) (st : (Nat → Int32)) (ro : Nat) (mr : Nat) (la : Nat) (fu : Option Nat) (dn : Bool) (wr : Nat) (x y z w0 : Int32) (hfu : ∀ k, fu = some k → k < 2 ^ 31) : svX l D cA h (bw, cw, ts, tb, st, ro, mr, la, fu, dn, wr) sz y_S_writeSnapshot (.code y_S_writeSnapshot b_S_writeSnapshot 6 (some .boolean)) (rmX 3) [.int x, .int y, .int z, .int w0] (fun v u' => ∃ r, v = some (.int (bI r)) ∧ cWriteS x y z w0 (bw, cw, ts, tb, st, ro, mr, la, fu, dn, wr) = (.ok r, u') ∧ fB u') (fun k u' => cWriteS x y z w0 (bw, cw, ts, tb, st, ro, mr, la, fu, dn, wr) = (.error k, u')) := by
  refine sv_x hlt (by decide) rfl (Nat.le_of_ble_eq_true rfl) ?_
  intro p e s m args below meth c C X hr hsz I ls hl
  generalize svA cA h (bw, cw, ts, tb, st, ro, mr, la, fu, dn, wr) sz = A at I X ⊢
  have hl : lv_has ls 6 [(0, .ref (h 0)), (1, .int x), (2, .int y), (3, .int z), (4, .int w0)] := hl
  refine lv_aload_n C.1 C.2.1 d_S_writeSnapshot_0 rfl (lv_at hl 0 rfl) ?_
  refine sv_xc C X I (c_S_requireUp l hlt D cA h _ bw cw ts tb st ro mr la fu dn wr hfu) lk_S28 rfl rfl ⟨by decide, by decide⟩ ⟨by decide, by decide⟩ rfl hl.1 (rest := []) rfl (Nat.le_of_ble_eq_true rfl) d_S_writeSnapshot_1 (fun k u' w1 => cB_err w1) (fun v u' H locs w1 I => ?_)
  obtain ⟨rfl, z1, -⟩ := w1
  obtain ⟨rfl, hdn⟩ := up_inv z1
  refine lv_aload_n C.1 C.2.1 d_S_writeSnapshot_4 rfl (lv_at hl 0 rfl) ?_
  refine lv_iload_n C.1 C.2.1 d_S_writeSnapshot_5 rfl (lv_at hl 1 rfl) ?_
  refine sv_xc C X I (c_S_requireSnapshot l hlt D cA h _ bw cw ts tb st ro mr la fu dn wr x hfu) lk_S68 rfl rfl ⟨by decide, by decide⟩ ⟨by decide, by decide⟩ rfl hl.1 (rest := []) rfl (Nat.le_of_ble_eq_true rfl) d_S_writeSnapshot_6 (fun k u' w6 => (cB_ok z1).trans (cB_err w6)) (fun v u' H locs w6 I => ?_)
  obtain ⟨rfl, zs, -⟩ := w6
  obtain ⟨rfl, hx⟩ := reqS_inv zs
  obtain ⟨s1, hs1, rfl⟩ := has_ix hx
  refine lv_aload_n C.1 C.2.1 d_S_writeSnapshot_9 rfl (lv_at hl 0 rfl) ?_
  refine lv_iload_n C.1 C.2.1 d_S_writeSnapshot_10 rfl (lv_at hl 2 rfl) ?_
  refine lv_iload_n C.1 C.2.1 d_S_writeSnapshot_11 rfl (lv_at hl 3 rfl) ?_
  refine sv_xc C X I (c_S_requireWord l hlt D cA h _ bw cw ts tb st ro mr la fu dn wr y z hfu) lk_S31 rfl rfl ⟨by decide, by decide⟩ ⟨by decide, by decide⟩ rfl hl.1 (rest := []) rfl (Nat.le_of_ble_eq_true rfl) d_S_writeSnapshot_12 (fun k u' w12 => (cB_ok z1).trans ((cB_ok zs).trans (cB_err w12))) (fun v u' H locs w12 I => ?_)
  obtain ⟨rfl, zw, -⟩ := w12
  obtain ⟨rfl, ⟨b1, hb1, rfl⟩, i1, hi1, rfl⟩ := reqW_inv zw
  refine lv_aload_n C.1 C.2.1 d_S_writeSnapshot_15 rfl (lv_at hl 0 rfl) ?_
  refine lv_iload_n C.1 C.2.1 d_S_writeSnapshot_16 rfl (lv_at hl 1 rfl) ?_
  refine lv_iload_n C.1 C.2.1 d_S_writeSnapshot_17 rfl (lv_at hl 2 rfl) ?_
  refine sv_ci C I (c_S_findCopy l D cA h _ bw cw ts tb st ro mr la fu dn wr s1 b1 (by omega) (by omega)) lk_S75 rfl rfl ⟨by decide, by decide⟩ ⟨Nat.zero_le _, Nat.zero_le _⟩ rfl hl.1 (rest := []) rfl (Nat.le_of_ble_eq_true rfl) d_S_writeSnapshot_18 (fun r u' H locs w18 I => ?_)
  obtain ⟨rfl, rfl⟩ := w18
  rcases hc1 : cFind ts tb st s1 b1 with _ | c1
  · refine lv_istore (lv' := [(5, .int (oI none)), (0, .ref (h 0)), (1, .int (nI s1)), (2, .int (nI b1)), (3, .int (nI i1)), (4, .int w0)]) C.1 C.2.1 d_S_writeSnapshot_21 hl (by decide) rfl (fun ls hl => ?_)
    refine lv_iload C.1 C.2.1 d_S_writeSnapshot_23 (lv_at hl 0 rfl) ?_
    refine lv_iconst (v := oI none) C.1 C.2.1 d_S_writeSnapshot_25 (by decide) ?_
    refine lv_icmp_eq (x := oI none) (y := oI none) (tgt := 40) C.1 C.2.1 d_S_writeSnapshot_26 (by decide) (fun q26 => ?_) (fun q26 => absurd rfl q26)
    have hR : cWriteS (nI s1) (nI b1) (nI i1) w0 (bw, cw, ts, tb, st, ro, mr, la, fu, dn, wr) = cB (cReqF 1) (fun _ => cB (cCopy s1 b1 (some i1) w0) fun _ => cOk true) (bw, cw, ts, tb, st, ro, mr, la, fu, dn, wr) := (cB_ok z1).trans ((cB_ok zs).trans ((cB_ok zw).trans (by simp only [cN_nI (show s1 < 2 ^ 31 by omega), cN_nI (show b1 < 2 ^ 31 by omega), cN_nI (show i1 < 2 ^ 31 by omega), hc1])))
    refine lv_aload_n C.1 C.2.1 d_S_writeSnapshot_40 rfl (lv_at hl 1 rfl) ?_
    refine lv_iconst (v := nI 1) C.1 C.2.1 d_S_writeSnapshot_41 (by decide) ?_
    refine sv_xc C X I (c_S_requireFree l hlt D cA h _ bw cw ts tb st ro mr la fu dn wr 1 (by omega) hfu) lk_S39 rfl rfl ⟨by decide, by decide⟩ ⟨by decide, by decide⟩ rfl hl.1 (rest := []) rfl (Nat.le_of_ble_eq_true rfl) d_S_writeSnapshot_42 (fun k u' w42 => hR.trans (cB_err w42)) (fun v u' H locs w42 I => ?_)
    obtain ⟨rfl, z42, -⟩ := w42
    obtain ⟨rfl, hnf⟩ := reqF_inv z42
    refine lv_aload_n C.1 C.2.1 d_S_writeSnapshot_45 rfl (lv_at hl 1 rfl) ?_
    refine lv_iload_n C.1 C.2.1 d_S_writeSnapshot_46 rfl (lv_at hl 2 rfl) ?_
    refine lv_iload_n C.1 C.2.1 d_S_writeSnapshot_47 rfl (lv_at hl 3 rfl) ?_
    refine lv_iload_n C.1 C.2.1 d_S_writeSnapshot_48 rfl (lv_at hl 4 rfl) ?_
    refine lv_iload C.1 C.2.1 d_S_writeSnapshot_49 (lv_at hl 5 rfl) ?_
    refine sv_xc C X I (c_S_copyBlock l hlt D cA h _ bw cw ts tb st ro mr la fu dn wr s1 b1 (some i1) w0 (by omega) (by omega) (fun j e => by cases e; omega) hfu) lk_S82 rfl rfl ⟨by decide, by decide⟩ ⟨by decide, by decide⟩ rfl hl.1 (rest := []) rfl (Nat.le_of_ble_eq_true rfl) d_S_writeSnapshot_51 (fun k u' w51 => hR.trans ((cB_ok z42).trans (cB_err w51))) (fun v u' H locs w51 I => ?_)
    obtain ⟨rfl, z51, hfb⟩ := w51
    refine lv_iconst (v := nI 1) C.1 C.2.1 d_S_writeSnapshot_54 (by decide) ?_
    exact sv_xrz (b := true) C hr I ⟨true, rfl, hR.trans ((cB_ok z42).trans (cB_ok z51)), hfb⟩ d_S_writeSnapshot_55
  · have hc1l := cFind_lt hc1
    refine lv_istore (lv' := [(5, .int (nI c1)), (0, .ref (h 0)), (1, .int (nI s1)), (2, .int (nI b1)), (3, .int (nI i1)), (4, .int w0)]) C.1 C.2.1 d_S_writeSnapshot_21 hl (by decide) rfl (fun ls hl => ?_)
    refine lv_iload C.1 C.2.1 d_S_writeSnapshot_23 (lv_at hl 0 rfl) ?_
    refine lv_iconst (v := oI none) C.1 C.2.1 d_S_writeSnapshot_25 (by decide) ?_
    refine lv_icmp_eq (x := nI c1) (y := oI none) (tgt := 40) C.1 C.2.1 d_S_writeSnapshot_26 (by decide) (fun q26 => absurd ((oI_n (o := none) (by omega) (fun _ e => by cases e)).mp q26) (fun z => by cases z)) (fun q26 => ?_)
    have hR : cWriteS (nI s1) (nI b1) (nI i1) w0 (bw, cw, ts, tb, st, ro, mr, la, fu, dn, wr) = cB (cPutC c1 i1 w0) (fun _ => cOk false) (bw, cw, ts, tb, st, ro, mr, la, fu, dn, wr) := (cB_ok z1).trans ((cB_ok zs).trans ((cB_ok zw).trans (by simp only [cN_nI (show s1 < 2 ^ 31 by omega), cN_nI (show b1 < 2 ^ 31 by omega), cN_nI (show i1 < 2 ^ 31 by omega), hc1])))
    refine lv_aload_n C.1 C.2.1 d_S_writeSnapshot_29 rfl (lv_at hl 1 rfl) ?_
    refine lv_iload C.1 C.2.1 d_S_writeSnapshot_30 (lv_at hl 0 rfl) ?_
    refine lv_iload_n C.1 C.2.1 d_S_writeSnapshot_32 rfl (lv_at hl 4 rfl) ?_
    refine lv_iload C.1 C.2.1 d_S_writeSnapshot_33 (lv_at hl 5 rfl) ?_
    refine sv_xc C X I (c_S_putCopyWord l hlt D cA h _ bw cw ts tb st ro mr la fu dn wr c1 i1 w0 (by omega) (by omega) hfu) lk_S79 rfl rfl ⟨by decide, by decide⟩ ⟨by decide, by decide⟩ rfl hl.1 (rest := []) rfl (Nat.le_of_ble_eq_true rfl) d_S_writeSnapshot_35 (fun k u' w35 => hR.trans (cB_err w35)) (fun v u' H locs w35 I => ?_)
    obtain ⟨rfl, z35, hfb⟩ := w35
    refine lv_iconst (v := nI 0) C.1 C.2.1 d_S_writeSnapshot_38 (by decide) ?_
    exact sv_xrz (b := false) C hr I ⟨false, rfl, hR.trans (cB_ok z35), hfb⟩ d_S_writeSnapshot_39
set_option maxHeartbeats 4000000 in
set_option maxRecDepth 100000 in
/-- R_S.rollback -/
theorem c_S_rollback (l : Launch) (hlt : l.stackTraces = false) (D : va_G) (cA : Nat → ClassId) (h : Nat → Nat) (sz : Nat) (bw : (Nat → Int32)) (cw : (Nat → Int32)) (ts : (Nat → Int32)) (tb : (Nat → Int32)) (st : (Nat → Int32)) (ro : Nat) (mr : Nat) (la : Nat) (fu : Option Nat) (dn : Bool) (wr : Nat) (x : Int32) (hfu : ∀ k, fu = some k → k < 2 ^ 31) : svX l D cA h (bw, cw, ts, tb, st, ro, mr, la, fu, dn, wr) sz y_S_rollback (.code y_S_rollback b_S_rollback 2 (some .int)) (rmX 5) [.int x] (fun v u' => ∃ r, v = some (.int (nI r)) ∧ cRoll x (bw, cw, ts, tb, st, ro, mr, la, fu, dn, wr) = (.ok r, u') ∧ fB u') (fun k u' => cRoll x (bw, cw, ts, tb, st, ro, mr, la, fu, dn, wr) = (.error k, u')) := by
  refine sv_x hlt (by decide) rfl (Nat.le_of_ble_eq_true rfl) ?_
  intro p e s m args below meth c C X hr hsz I ls hl
  generalize svA cA h (bw, cw, ts, tb, st, ro, mr, la, fu, dn, wr) sz = A at I X ⊢
  have hl : lv_has ls 2 [(0, .ref (h 0)), (1, .int x)] := hl
  refine lv_aload_n C.1 C.2.1 d_S_rollback_0 rfl (lv_at hl 0 rfl) ?_
  refine sv_xc C X I (c_S_requireUp l hlt D cA h _ bw cw ts tb st ro mr la fu dn wr hfu) lk_S28 rfl rfl ⟨by decide, by decide⟩ ⟨by decide, by decide⟩ rfl hl.1 (rest := []) rfl (Nat.le_of_ble_eq_true rfl) d_S_rollback_1 (fun k u' w1 => cB_err w1) (fun v u' H locs w1 I => ?_)
  obtain ⟨rfl, z1, -⟩ := w1
  obtain ⟨rfl, hdn⟩ := up_inv z1
  refine lv_aload_n C.1 C.2.1 d_S_rollback_4 rfl (lv_at hl 0 rfl) ?_
  refine lv_iload_n C.1 C.2.1 d_S_rollback_5 rfl (lv_at hl 1 rfl) ?_
  refine sv_xc C X I (c_S_requireSnapshot l hlt D cA h _ bw cw ts tb st ro mr la fu dn wr x hfu) lk_S68 rfl rfl ⟨by decide, by decide⟩ ⟨by decide, by decide⟩ rfl hl.1 (rest := []) rfl (Nat.le_of_ble_eq_true rfl) d_S_rollback_6 (fun k u' w6 => (cB_ok z1).trans (cB_err w6)) (fun v u' H locs w6 I => ?_)
  obtain ⟨rfl, zs, -⟩ := w6
  obtain ⟨rfl, hx⟩ := reqS_inv zs
  obtain ⟨s1, hs1, rfl⟩ := has_ix hx
  have hR : cRoll (nI s1) (bw, cw, ts, tb, st, ro, mr, la, fu, dn, wr) = cB (cReqF (cNM ts tb st s1)) (fun _ => cB (cPutM 0) fun _ => cB (cPutR (1 + s1)) fun _ => cMerge s1) (bw, cw, ts, tb, st, ro, mr, la, fu, dn, wr) := (cB_ok z1).trans ((cB_ok zs).trans (by simp only [cN_nI (show s1 < 2 ^ 31 by omega)]))
  refine lv_aload_n C.1 C.2.1 d_S_rollback_9 rfl (lv_at hl 0 rfl) ?_
  refine lv_aload_n C.1 C.2.1 d_S_rollback_10 rfl (lv_at hl 0 rfl) ?_
  refine lv_iload_n C.1 C.2.1 d_S_rollback_11 rfl (lv_at hl 1 rfl) ?_
  refine sv_ci C I (c_S_countCopiesToMerge l D cA h _ bw cw ts tb st ro mr la fu dn wr s1 (by omega)) lk_S86 rfl rfl ⟨by decide, by decide⟩ ⟨Nat.zero_le _, Nat.zero_le _⟩ rfl hl.1 (rest := [.ref (h 0)]) rfl (Nat.le_of_ble_eq_true rfl) d_S_rollback_12 (fun r u' H locs w12 I => ?_)
  obtain ⟨rfl, rfl⟩ := w12
  refine sv_xc C X I (c_S_requireFree l hlt D cA h _ bw cw ts tb st ro mr la fu dn wr (cNM ts tb st s1) (Nat.lt_of_le_of_lt (cNM_le _ _ _ _) (by decide)) hfu) lk_S39 rfl rfl ⟨by decide, by decide⟩ ⟨by decide, by decide⟩ rfl hl.1 (rest := []) rfl (Nat.le_of_ble_eq_true rfl) d_S_rollback_15 (fun k u' w15 => hR.trans (cB_err w15)) (fun v u' H locs w15 I => ?_)
  obtain ⟨rfl, z15, -⟩ := w15
  obtain ⟨rfl, hnf⟩ := reqF_inv z15
  refine lv_aload_n C.1 C.2.1 d_S_rollback_18 rfl (lv_at hl 0 rfl) ?_
  refine lv_iconst (v := nI 0) C.1 C.2.1 d_S_rollback_19 (by decide) ?_
  refine sv_xc C X I (c_S_putMark l hlt D cA h _ bw cw ts tb st ro mr la fu dn wr 0 hfu) lk_S89 rfl rfl ⟨by decide, by decide⟩ ⟨by decide, by decide⟩ rfl hl.1 (rest := []) rfl (Nat.le_of_ble_eq_true rfl) d_S_rollback_20 (fun k u' w20 => hR.trans ((cB_ok z15).trans (cB_err w20))) (fun v u' H locs w20 I => ?_)
  obtain ⟨rfl, z20, hfb20⟩ := w20
  obtain ⟨fu2, rfl⟩ := putM_inv z20
  refine lv_aload_n C.1 C.2.1 d_S_rollback_23 rfl (lv_at hl 0 rfl) ?_
  refine lv_iconst (v := nI 1) C.1 C.2.1 d_S_rollback_24 (by decide) ?_
  refine lv_iload_n C.1 C.2.1 d_S_rollback_25 rfl (lv_at hl 1 rfl) ?_
  refine n_iadd C.1 C.2.1 (a := 1) (b := s1) d_S_rollback_26 ?_
  refine sv_xc C X I (c_S_putRoll l hlt D cA h _ bw cw ts tb st ro 0 la fu2 dn (wr + 1) (1 + s1) hfb20) lk_S92 rfl rfl ⟨by decide, by decide⟩ ⟨by decide, by decide⟩ rfl hl.1 (rest := []) rfl (Nat.le_of_ble_eq_true rfl) d_S_rollback_27 (fun k u' w27 => hR.trans ((cB_ok z15).trans ((cB_ok z20).trans (cB_err w27)))) (fun v u' H locs w27 I => ?_)
  obtain ⟨rfl, z27, hfb27⟩ := w27
  obtain ⟨fu3, rfl⟩ := putR_inv z27
  refine lv_aload_n C.1 C.2.1 d_S_rollback_30 rfl (lv_at hl 0 rfl) ?_
  refine lv_iload_n C.1 C.2.1 d_S_rollback_31 rfl (lv_at hl 1 rfl) ?_
  refine sv_xc C X I (c_S_mergeFromMark l hlt D cA h _ bw cw ts tb st (1 + s1) 0 la fu3 dn ((wr + 1) + 1) s1 (by omega) (by omega) hfb27) lk_S95 rfl rfl ⟨by decide, by decide⟩ ⟨by decide, by decide⟩ rfl hl.1 (rest := []) rfl (Nat.le_of_ble_eq_true rfl) d_S_rollback_32 (fun k u' w32 => hR.trans ((cB_ok z15).trans ((cB_ok z20).trans ((cB_ok z27).trans w32)))) (fun v u' H locs w32 I => ?_)
  obtain ⟨r32, rfl, z32, hfb32⟩ := w32
  exact sv_xri (v := nI r32) C hr I ⟨r32, rfl, hR.trans ((cB_ok z15).trans ((cB_ok z20).trans ((cB_ok z27).trans z32))), hfb32⟩ d_S_rollback_35
set_option maxHeartbeats 4000000 in
set_option maxRecDepth 100000 in
/-- R_S.recover -/
theorem c_S_recover (l : Launch) (hlt : l.stackTraces = false) (D : va_G) (cA : Nat → ClassId) (h : Nat → Nat) (sz : Nat) (bw : (Nat → Int32)) (cw : (Nat → Int32)) (ts : (Nat → Int32)) (tb : (Nat → Int32)) (st : (Nat → Int32)) (ro : Nat) (mr : Nat) (la : Nat) (fu : Option Nat) (dn : Bool) (wr : Nat) (hmr : mr ≤ 6) (hro : ro ≤ 3) (hfu : ∀ k, fu = some k → k < 2 ^ 31) : svX l D cA h (bw, cw, ts, tb, st, ro, mr, la, fu, dn, wr) sz y_S_recover (.code y_S_recover b_S_recover 1 (some .int)) (rmX 5) [] (fun v u' => ∃ r, v = some (.int (nI r)) ∧ cRec (bw, cw, ts, tb, st, ro, mr, la, fu, dn, wr) = (.ok r, u') ∧ fB u') (fun k u' => cRec (bw, cw, ts, tb, st, ro, mr, la, fu, dn, wr) = (.error k, u')) := by
  refine sv_x hlt (by decide) rfl (Nat.le_of_ble_eq_true rfl) ?_
  intro p e s m args below meth c C X hr hsz I ls hl
  generalize svA cA h (bw, cw, ts, tb, st, ro, mr, la, fu, dn, wr) sz = A at I X ⊢
  have hl : lv_has ls 1 [(0, .ref (h 0))] := hl
  refine lv_aload_n C.1 C.2.1 d_S_recover_0 rfl (lv_at hl 0 rfl) ?_
  refine sv_g9 C I d_S_recover_1 ?_
  refine n_ifne (b := dn) (tgt := 17) C.1 C.2.1 d_S_recover_4 (by decide) (fun q4 => ?_) (fun q4 => ?_)
  · refine lv_aload_n C.1 C.2.1 d_S_recover_17 rfl (lv_at hl 0 rfl) ?_
    refine lv_iconst (v := nI 0) C.1 C.2.1 d_S_recover_18 (by decide) ?_
    refine sv_p9 C I false rfl d_S_recover_19 (fun H locs I => ?_)
    refine lv_aload_n C.1 C.2.1 d_S_recover_22 rfl (lv_at hl 0 rfl) ?_
    refine sv_g5 C I d_S_recover_23 ?_
    refine n_ifz_ne (a := ro) (tgt := 33) C.1 C.2.1 (by omega) d_S_recover_26 (by decide) (fun q26 => ?_) (fun q26 => ?_)
    · obtain ⟨r1, rfl⟩ : ∃ r, ro = r + 1 := ⟨ro - 1, by omega⟩
      refine lv_aload_n C.1 C.2.1 d_S_recover_33 rfl (lv_at hl 0 rfl) ?_
      refine lv_aload_n C.1 C.2.1 d_S_recover_34 rfl (lv_at hl 0 rfl) ?_
      refine sv_g5 C I d_S_recover_35 ?_
      refine lv_iconst (v := nI 1) C.1 C.2.1 d_S_recover_38 (by decide) ?_
      refine n_isub C.1 C.2.1 (a := r1 + 1) (b := 1) (by omega) d_S_recover_39 ?_
      refine sv_xc C X I (c_S_mergeFromMark l hlt D cA h _ bw cw ts tb st (r1 + 1) mr la fu false wr r1 (by omega) hmr hfu) lk_S95 rfl rfl ⟨by decide, by decide⟩ ⟨by decide, by decide⟩ rfl hl.1 (rest := []) rfl (Nat.le_of_ble_eq_true rfl) d_S_recover_40 (fun k u' w40 => (by subst q4; exact w40)) (fun v u' H locs w40 I => ?_)
      obtain ⟨r40, rfl, z40, hfb⟩ := w40
      exact sv_xri (v := nI r40) C hr I (by first | exact ⟨r40, rfl, by subst q4; exact z40, hfb⟩ | (subst q4; subst q26; exact ⟨0, rfl, rfl, hfu⟩)) d_S_recover_43
    · refine lv_iconst (v := nI 0) C.1 C.2.1 d_S_recover_29 (by decide) ?_
      refine lv_goto (tgt := 43) C.1 C.2.1 d_S_recover_30 (by decide) ?_
      exact sv_xri (v := nI 0) C hr I (by first | exact ⟨r40, rfl, by subst q4; exact z40, hfb⟩ | (subst q4; subst q26; exact ⟨0, rfl, rfl, hfu⟩)) d_S_recover_43
  · exact sv_thr (kd := 2) (names := exN) (by rw [hl.1]; exact C) X I (by decide +kernel) (by decide +kernel) thr2 thw2 thc2 thi2 thn2 (tx := "the volume is up") (by decide +kernel) d_S_recover_7 d_S_recover_10 d_S_recover_11 d_S_recover_13 d_S_recover_16 (by decide) (by decide) (by decide) (by decide) (by subst q4; rfl)
set_option maxHeartbeats 4000000 in
set_option maxRecDepth 100000 in
/-- R_S.used -/
theorem c_S_used (l : Launch) (hlt : l.stackTraces = false) (D : va_G) (cA : Nat → ClassId) (h : Nat → Nat) (sz : Nat) (bw : (Nat → Int32)) (cw : (Nat → Int32)) (ts : (Nat → Int32)) (tb : (Nat → Int32)) (st : (Nat → Int32)) (ro : Nat) (mr : Nat) (la : Nat) (fu : Option Nat) (dn : Bool) (wr : Nat)  (hfu : ∀ k, fu = some k → k < 2 ^ 31) : svX l D cA h (bw, cw, ts, tb, st, ro, mr, la, fu, dn, wr) sz y_S_used (.code y_S_used b_S_used 1 (some .int)) (rmX 2) [] (fun v u' => ∃ r, v = some (.int (nI r)) ∧ cUsed (bw, cw, ts, tb, st, ro, mr, la, fu, dn, wr) = (.ok r, u') ∧ fB u') (fun k u' => cUsed (bw, cw, ts, tb, st, ro, mr, la, fu, dn, wr) = (.error k, u')) := by
  refine sv_x hlt (by decide) rfl (Nat.le_of_ble_eq_true rfl) ?_
  intro p e s m args below meth c C X hr hsz I ls hl
  generalize svA cA h (bw, cw, ts, tb, st, ro, mr, la, fu, dn, wr) sz = A at I X ⊢
  have hl : lv_has ls 1 [(0, .ref (h 0))] := hl
  obtain ⟨nf, hnf⟩ : ∃ nf, cNF ts st = nf := ⟨_, rfl⟩
  have hc9 : nf ≤ 9 := by rw [← hnf]; exact cnt_le _ 9
  refine lv_aload_n C.1 C.2.1 d_S_used_0 rfl (lv_at hl 0 rfl) ?_
  refine sv_xc C X I (c_S_requireUp l hlt D cA h _ bw cw ts tb st ro mr la fu dn wr hfu) lk_S28 rfl rfl ⟨by decide, by decide⟩ ⟨by decide, by decide⟩ rfl hl.1 (rest := []) rfl (Nat.le_of_ble_eq_true rfl) d_S_used_1 (fun k u' w1 => cB_err w1) (fun v u' H locs w1 I => ?_)
  obtain ⟨rfl, z1, -⟩ := w1
  obtain ⟨rfl, hdn⟩ := up_inv z1
  refine lv_bipush (v := nI 9) C.1 C.2.1 d_S_used_4 (by decide) ?_
  refine lv_aload_n C.1 C.2.1 d_S_used_6 rfl (lv_at hl 0 rfl) ?_
  refine sv_ci C I (c_S_countFree l D cA h _ bw cw ts tb st ro mr la fu dn wr) lk_S113 rfl rfl ⟨by decide, by decide⟩ ⟨Nat.zero_le _, Nat.zero_le _⟩ rfl hl.1 (rest := [.int (nI 9)]) rfl (Nat.le_of_ble_eq_true rfl) d_S_used_7 (fun r u' H locs w7 I => ?_)
  obtain ⟨rfl, rfl⟩ := w7
  rw [hnf]
  refine n_isub C.1 C.2.1 (a := 9) (b := nf) (by omega) d_S_used_10 ?_
  exact sv_xri (v := nI (9 - nf)) C hr I ⟨9 - nf, rfl, (cB_ok z1).trans (by simp only [hnf]), hfu⟩ d_S_used_11
set_option maxHeartbeats 4000000 in
set_option maxRecDepth 100000 in
/-- R_S.copyOf -/
theorem c_S_copyOf (l : Launch) (hlt : l.stackTraces = false) (D : va_G) (cA : Nat → ClassId) (h : Nat → Nat) (sz : Nat) (bw : (Nat → Int32)) (cw : (Nat → Int32)) (ts : (Nat → Int32)) (tb : (Nat → Int32)) (st : (Nat → Int32)) (ro : Nat) (mr : Nat) (la : Nat) (fu : Option Nat) (dn : Bool) (wr : Nat) (x y : Int32) (hfu : ∀ k, fu = some k → k < 2 ^ 31) : svX l D cA h (bw, cw, ts, tb, st, ro, mr, la, fu, dn, wr) sz y_S_copyOf (.code y_S_copyOf b_S_copyOf 3 (some .int)) (rmX 2) [.int x, .int y] (fun v u' => ∃ r, v = some (.int (oI r)) ∧ cCopyOf x y (bw, cw, ts, tb, st, ro, mr, la, fu, dn, wr) = (.ok r, u') ∧ fB u') (fun k u' => cCopyOf x y (bw, cw, ts, tb, st, ro, mr, la, fu, dn, wr) = (.error k, u')) := by
  refine sv_x hlt (by decide) rfl (Nat.le_of_ble_eq_true rfl) ?_
  intro p e s m args below meth c C X hr hsz I ls hl
  generalize svA cA h (bw, cw, ts, tb, st, ro, mr, la, fu, dn, wr) sz = A at I X ⊢
  have hl : lv_has ls 3 [(0, .ref (h 0)), (1, .int x), (2, .int y)] := hl
  refine lv_aload_n C.1 C.2.1 d_S_copyOf_0 rfl (lv_at hl 0 rfl) ?_
  refine sv_xc C X I (c_S_requireUp l hlt D cA h _ bw cw ts tb st ro mr la fu dn wr hfu) lk_S28 rfl rfl ⟨by decide, by decide⟩ ⟨by decide, by decide⟩ rfl hl.1 (rest := []) rfl (Nat.le_of_ble_eq_true rfl) d_S_copyOf_1 (fun k u' w1 => cB_err w1) (fun v u' H locs w1 I => ?_)
  obtain ⟨rfl, z1, -⟩ := w1
  obtain ⟨rfl, hdn⟩ := up_inv z1
  refine lv_aload_n C.1 C.2.1 d_S_copyOf_4 rfl (lv_at hl 0 rfl) ?_
  refine lv_iload_n C.1 C.2.1 d_S_copyOf_5 rfl (lv_at hl 1 rfl) ?_
  refine sv_xc C X I (c_S_requireSnapshot l hlt D cA h _ bw cw ts tb st ro mr la fu dn wr x hfu) lk_S68 rfl rfl ⟨by decide, by decide⟩ ⟨by decide, by decide⟩ rfl hl.1 (rest := []) rfl (Nat.le_of_ble_eq_true rfl) d_S_copyOf_6 (fun k u' w6 => (cB_ok z1).trans (cB_err w6)) (fun v u' H locs w6 I => ?_)
  obtain ⟨rfl, zs, -⟩ := w6
  obtain ⟨rfl, hx⟩ := reqS_inv zs
  obtain ⟨s1, hs1, rfl⟩ := has_ix hx
  refine lv_aload_n C.1 C.2.1 d_S_copyOf_9 rfl (lv_at hl 0 rfl) ?_
  refine lv_iload_n C.1 C.2.1 d_S_copyOf_10 rfl (lv_at hl 2 rfl) ?_
  refine sv_xc C X I (c_S_requireBlock l hlt D cA h _ bw cw ts tb st ro mr la fu dn wr y hfu) lk_S116 rfl rfl ⟨by decide, by decide⟩ ⟨by decide, by decide⟩ rfl hl.1 (rest := []) rfl (Nat.le_of_ble_eq_true rfl) d_S_copyOf_11 (fun k u' w11 => (cB_ok z1).trans ((cB_ok zs).trans (cB_err w11))) (fun v u' H locs w11 I => ?_)
  obtain ⟨rfl, zw, -⟩ := w11
  obtain ⟨rfl, b1, hb1, rfl⟩ := reqB_inv zw
  refine lv_aload_n C.1 C.2.1 d_S_copyOf_14 rfl (lv_at hl 0 rfl) ?_
  refine lv_iload_n C.1 C.2.1 d_S_copyOf_15 rfl (lv_at hl 1 rfl) ?_
  refine lv_iload_n C.1 C.2.1 d_S_copyOf_16 rfl (lv_at hl 2 rfl) ?_
  refine sv_ci C I (c_S_findCopy l D cA h _ bw cw ts tb st ro mr la fu dn wr s1 b1 (by omega) (by omega)) lk_S75 rfl rfl ⟨by decide, by decide⟩ ⟨Nat.zero_le _, Nat.zero_le _⟩ rfl hl.1 (rest := []) rfl (Nat.le_of_ble_eq_true rfl) d_S_copyOf_17 (fun r u' H locs w17 I => ?_)
  obtain ⟨rfl, rfl⟩ := w17
  exact sv_xri (v := oI (cFind ts tb st s1 b1)) C hr I ⟨_, rfl, (cB_ok z1).trans ((cB_ok zs).trans ((cB_ok zw).trans (by simp only [cN_nI (show s1 < 2 ^ 31 by omega), cN_nI (show b1 < 2 ^ 31 by omega)]))), hfu⟩ d_S_copyOf_20
set_option maxHeartbeats 4000000 in
set_option maxRecDepth 100000 in
theorem lp_S_places_8 {p : Program} {l : Launch} {e : Env} {s : State} {m : MethodId} {args : Array Value} {below : List Frame} {meth : Method} {c : Code} {D : va_G} {cA : Nat → ClassId} {A : Nat → Prop} {h : Nat → Nat} {bw : (Nat → Int32)} {cw : (Nat → Int32)} {ts : (Nat → Int32)} {tb : (Nat → Int32)} {st : (Nat → Int32)} {ro : Nat} {mr : Nat} {la : Nat} {fu : Option Nat} {dn : Bool} {wr : Nat} (C : gC p s m args meth c b_S_places 3 R_S) (X : gX l c s A) (hlt : l.stackTraces = false) (hr : meth.sig.returnType = (some .int))  (hfu : ∀ k, fu = some k → k < 2 ^ 31) (z1 : cUp (bw, cw, ts, tb, st, ro, mr, la, fu, dn, wr) = (.ok (), (bw, cw, ts, tb, st, ro, mr, la, fu, dn, wr)))  : ∀ (fuel : Nat) (i : Nat) (a : Nat), 3 - i < fuel → i ≤ 3 → a = sm (fun s => if st s = 0 then 0 else 2 ^ s) i → ∀ (H : Heap) (locs : List Loc), svI D cA A s h (bw, cw, ts, tb, st, ro, mr, la, fu, dn, wr) H locs → ∀ (ls : Array Slot), lv_has ls 3 [(0, .ref (h 0)), (1, .int (nI a)), (2, .int (nI i))] → W p l e (rmX 1) s m args below meth c H locs 0 0 (wx_MQ below (wx_Q (fun v u' => ∃ r, v = some (.int (nI r)) ∧ cPlaces (bw, cw, ts, tb, st, ro, mr, la, fu, dn, wr) = (.ok r, u') ∧ fB u') (fun k u' => cPlaces (bw, cw, ts, tb, st, ro, mr, la, fu, dn, wr) = (.error k, u')) (svAt D cA A h) A) args s 1 6 A) (F0 m 8 ls []) := by
  intro fuel
  induction fuel with
  | zero =>
    intro _ _ hfuel
    exact absurd hfuel (Nat.not_lt_zero _)
  | succ fuel ih =>
    intro i a hfuel hi ha H locs I ls hl
    refine lv_iload_n C.1 C.2.1 d_S_places_8 rfl (lv_at hl 2 rfl) ?_
    refine lv_iconst (v := nI 3) C.1 C.2.1 d_S_places_9 (by decide) ?_
    refine n_icmp_ge C.1 C.2.1 (a := i) (b := 3) (tgt := 33) (by omega) (by omega) d_S_places_10 (by decide) (fun q10 => ?_) (fun q10 => ?_)
    · refine lv_iload_n C.1 C.2.1 d_S_places_33 rfl (lv_at hl 1 rfl) ?_
      exact sv_xri (v := nI a) C hr I ⟨a, rfl, (cB_ok z1).trans (by rw [ha, show i = 3 by omega]; rfl), hfu⟩ d_S_places_34
    · refine lv_aload_n C.1 C.2.1 d_S_places_13 rfl (lv_at hl 0 rfl) ?_
      refine lv_iload_n C.1 C.2.1 d_S_places_14 rfl (lv_at hl 2 rfl) ?_
      refine sv_ci C I (c_S_hasSnapshot l D cA h _ bw cw ts tb st ro mr la fu dn wr (nI i)) lk_S119 rfl rfl ⟨by decide, by decide⟩ ⟨Nat.zero_le _, Nat.zero_le _⟩ rfl hl.1 (rest := []) rfl (Nat.le_of_ble_eq_true rfl) d_S_places_15 (fun r u' H locs w15 I => ?_)
      obtain ⟨rfl, rfl⟩ := w15
      refine n_ifeq (b := cHas st (nI i)) (tgt := 27) C.1 C.2.1 d_S_places_18 (by decide) (fun q18 => ?_) (fun q18 => ?_)
      · refine lv_iinc (v := nI (i + 1)) (lv' := [(2, .int (nI (i + 1))), (0, .ref (h 0)), (1, .int (nI a))]) C.1 C.2.1 d_S_places_27 hl (k := 2) rfl (by rw [show nI (i + 1) = nI i + nI 1 from (nI_add _ _).symm]; rfl) (by decide) rfl (fun ls hl => ?_)
        refine lv_goto (tgt := 8) C.1 C.2.1 d_S_places_30 (by decide) ?_
        exact ih (i + 1) a (by omega) (by omega) (by show _ = sm (fun s => if st s = 0 then 0 else 2 ^ s) i + (if st i = 0 then 0 else 2 ^ i); rw [cHas_n _ (by omega)] at q18; rw [ha]; first | rw [if_neg (by simpa using q18)] | (rw [if_pos (by simpa using q18)]; rfl)) _ _ I ls (lv_sub hl [1, 2, 0] rfl)
      · refine lv_iload_n C.1 C.2.1 d_S_places_21 rfl (lv_at hl 1 rfl) ?_
        refine lv_iconst (v := nI 1) C.1 C.2.1 d_S_places_22 (by decide) ?_
        refine lv_iload_n C.1 C.2.1 d_S_places_23 rfl (lv_at hl 2 rfl) ?_
        refine lv_ishl C.1 C.2.1 d_S_places_24 ?_
        rw [sh_pow (show i < 3 by omega)]
        refine n_iadd C.1 C.2.1 (a := a) (b := 2 ^ i) d_S_places_25 ?_
        refine lv_istore_n (lv' := [(1, .int (nI (a + (2 ^ i)))), (0, .ref (h 0)), (2, .int (nI i))]) C.1 C.2.1 d_S_places_26 rfl hl (by decide) rfl (fun ls hl => ?_)
        refine lv_iinc (v := nI (i + 1)) (lv' := [(2, .int (nI (i + 1))), (1, .int (nI (a + (2 ^ i)))), (0, .ref (h 0))]) C.1 C.2.1 d_S_places_27 hl (k := 2) rfl (by rw [show nI (i + 1) = nI i + nI 1 from (nI_add _ _).symm]; rfl) (by decide) rfl (fun ls hl => ?_)
        refine lv_goto (tgt := 8) C.1 C.2.1 d_S_places_30 (by decide) ?_
        exact ih (i + 1) (a + (2 ^ i)) (by omega) (by omega) (by show _ = sm (fun s => if st s = 0 then 0 else 2 ^ s) i + (if st i = 0 then 0 else 2 ^ i); rw [cHas_n _ (by omega)] at q18; rw [ha]; first | rw [if_neg (by simpa using q18)] | (rw [if_pos (by simpa using q18)]; rfl)) _ _ I ls (lv_sub hl [2, 1, 0] rfl)
set_option maxHeartbeats 4000000 in
set_option maxRecDepth 100000 in
/-- R_S.places -/
theorem c_S_places (l : Launch) (hlt : l.stackTraces = false) (D : va_G) (cA : Nat → ClassId) (h : Nat → Nat) (sz : Nat) (bw : (Nat → Int32)) (cw : (Nat → Int32)) (ts : (Nat → Int32)) (tb : (Nat → Int32)) (st : (Nat → Int32)) (ro : Nat) (mr : Nat) (la : Nat) (fu : Option Nat) (dn : Bool) (wr : Nat)  (hfu : ∀ k, fu = some k → k < 2 ^ 31) : svX l D cA h (bw, cw, ts, tb, st, ro, mr, la, fu, dn, wr) sz y_S_places (.code y_S_places b_S_places 3 (some .int)) (rmX 1) [] (fun v u' => ∃ r, v = some (.int (nI r)) ∧ cPlaces (bw, cw, ts, tb, st, ro, mr, la, fu, dn, wr) = (.ok r, u') ∧ fB u') (fun k u' => cPlaces (bw, cw, ts, tb, st, ro, mr, la, fu, dn, wr) = (.error k, u')) := by
  refine sv_x hlt (by decide) rfl (Nat.le_of_ble_eq_true rfl) ?_
  intro p e s m args below meth c C X hr hsz I ls hl
  generalize svA cA h (bw, cw, ts, tb, st, ro, mr, la, fu, dn, wr) sz = A at I X ⊢
  have hl : lv_has ls 3 [(0, .ref (h 0))] := hl
  refine lv_aload_n C.1 C.2.1 d_S_places_0 rfl (lv_at hl 0 rfl) ?_
  refine sv_xc C X I (c_S_requireUp l hlt D cA h _ bw cw ts tb st ro mr la fu dn wr hfu) lk_S28 rfl rfl ⟨by decide, by decide⟩ ⟨by decide, by decide⟩ rfl hl.1 (rest := []) rfl (Nat.le_of_ble_eq_true rfl) d_S_places_1 (fun k u' w1 => cB_err w1) (fun v u' H locs w1 I => ?_)
  obtain ⟨rfl, z1, -⟩ := w1
  obtain ⟨rfl, hdn⟩ := up_inv z1
  refine lv_iconst (v := nI 0) C.1 C.2.1 d_S_places_4 (by decide) ?_
  refine lv_istore_n (lv' := [(1, .int (nI 0)), (0, .ref (h 0))]) C.1 C.2.1 d_S_places_5 rfl hl (by decide) rfl (fun ls hl => ?_)
  refine lv_iconst (v := nI 0) C.1 C.2.1 d_S_places_6 (by decide) ?_
  refine lv_istore_n (lv' := [(2, .int (nI 0)), (1, .int (nI 0)), (0, .ref (h 0))]) C.1 C.2.1 d_S_places_7 rfl hl (by decide) rfl (fun ls hl => ?_)
  exact lp_S_places_8 C X hlt hr  hfu z1 _ 0 0 (Nat.lt_succ_self _) (by omega) rfl _ _ I ls (lv_sub hl [2, 1, 0] rfl)
set_option maxHeartbeats 4000000 in
set_option maxRecDepth 100000 in
theorem lp_S_changed_13 {p : Program} {l : Launch} {e : Env} {s : State} {m : MethodId} {args : Array Value} {below : List Frame} {meth : Method} {c : Code} {D : va_G} {cA : Nat → ClassId} {A : Nat → Prop} {h : Nat → Nat} {bw : (Nat → Int32)} {cw : (Nat → Int32)} {ts : (Nat → Int32)} {tb : (Nat → Int32)} {st : (Nat → Int32)} {ro : Nat} {mr : Nat} {la : Nat} {fu : Option Nat} {dn : Bool} {wr : Nat} (C : gC p s m args meth c b_S_changed 4 R_S) (X : gX l c s A) (hlt : l.stackTraces = false) (hr : meth.sig.returnType = (some .int)) (x : Int32) (hfu : ∀ k, fu = some k → k < 2 ^ 31) (s1 : Nat) (hs1 : s1 < 3) (hR : cChanged x (bw, cw, ts, tb, st, ro, mr, la, fu, dn, wr) = (.ok (cCh bw cw ts tb st s1), (bw, cw, ts, tb, st, ro, mr, la, fu, dn, wr)))  : ∀ (fuel : Nat) (i : Nat) (a : Nat), 6 - i < fuel → i ≤ 6 → a = cnt (cDiff bw cw ts tb st s1) i → ∀ (H : Heap) (locs : List Loc), svI D cA A s h (bw, cw, ts, tb, st, ro, mr, la, fu, dn, wr) H locs → ∀ (ls : Array Slot), lv_has ls 4 [(0, .ref (h 0)), (1, .int (nI s1)), (2, .int (nI a)), (3, .int (nI i))] → W p l e (rmX 4) s m args below meth c H locs 0 0 (wx_MQ below (wx_Q (fun v u' => ∃ r, v = some (.int (nI r)) ∧ cChanged x (bw, cw, ts, tb, st, ro, mr, la, fu, dn, wr) = (.ok r, u') ∧ fB u') (fun k u' => cChanged x (bw, cw, ts, tb, st, ro, mr, la, fu, dn, wr) = (.error k, u')) (svAt D cA A h) A) args s 1 6 A) (F0 m 13 ls []) := by
  intro fuel
  induction fuel with
  | zero =>
    intro _ _ hfuel
    exact absurd hfuel (Nat.not_lt_zero _)
  | succ fuel ih =>
    intro i a hfuel hi ha H locs I ls hl
    refine lv_iload_n C.1 C.2.1 d_S_changed_13 rfl (lv_at hl 3 rfl) ?_
    refine lv_bipush (v := nI 6) C.1 C.2.1 d_S_changed_14 (by decide) ?_
    refine n_icmp_ge C.1 C.2.1 (a := i) (b := 6) (tgt := 37) (by omega) (by omega) d_S_changed_16 (by decide) (fun q16 => ?_) (fun q16 => ?_)
    · refine lv_iload_n C.1 C.2.1 d_S_changed_37 rfl (lv_at hl 2 rfl) ?_
      exact sv_xri (v := nI a) C hr I ⟨a, rfl, hR.trans (by rw [ha, show i = 6 by omega]; rfl), hfu⟩ d_S_changed_38
    · refine lv_aload_n C.1 C.2.1 d_S_changed_19 rfl (lv_at hl 0 rfl) ?_
      refine lv_iload_n C.1 C.2.1 d_S_changed_20 rfl (lv_at hl 1 rfl) ?_
      refine lv_iload_n C.1 C.2.1 d_S_changed_21 rfl (lv_at hl 3 rfl) ?_
      refine sv_ci C I (c_S_differs l D cA h _ bw cw ts tb st ro mr la fu dn wr s1 i (by omega) (by omega)) lk_S123 rfl rfl ⟨by decide, by decide⟩ ⟨Nat.zero_le _, Nat.zero_le _⟩ rfl hl.1 (rest := []) rfl (Nat.le_of_ble_eq_true rfl) d_S_changed_22 (fun r u' H locs w22 I => ?_)
      obtain ⟨rfl, rfl⟩ := w22
      refine n_ifeq (b := cDiff bw cw ts tb st s1 i) (tgt := 31) C.1 C.2.1 d_S_changed_25 (by decide) (fun q25 => ?_) (fun q25 => ?_)
      · refine lv_iinc (v := nI (i + 1)) (lv' := [(3, .int (nI (i + 1))), (0, .ref (h 0)), (1, .int (nI s1)), (2, .int (nI a))]) C.1 C.2.1 d_S_changed_31 hl (k := 3) rfl (by rw [show nI (i + 1) = nI i + nI 1 from (nI_add _ _).symm]; rfl) (by decide) rfl (fun ls hl => ?_)
        refine lv_goto (tgt := 13) C.1 C.2.1 d_S_changed_34 (by decide) ?_
        exact ih (i + 1) a (by omega) (by omega) (by rw [ha]; first | exact (cnt_y q25).symm | exact (cnt_s q25).symm) _ _ I ls (lv_sub hl [1, 2, 3, 0] rfl)
      · refine lv_iinc (v := nI (a + 1)) (lv' := [(2, .int (nI (a + 1))), (0, .ref (h 0)), (1, .int (nI s1)), (3, .int (nI i))]) C.1 C.2.1 d_S_changed_28 hl (k := 2) rfl (by rw [show nI (a + 1) = nI a + nI 1 from (nI_add _ _).symm]; rfl) (by decide) rfl (fun ls hl => ?_)
        refine lv_iinc (v := nI (i + 1)) (lv' := [(3, .int (nI (i + 1))), (2, .int (nI (a + 1))), (0, .ref (h 0)), (1, .int (nI s1))]) C.1 C.2.1 d_S_changed_31 hl (k := 3) rfl (by rw [show nI (i + 1) = nI i + nI 1 from (nI_add _ _).symm]; rfl) (by decide) rfl (fun ls hl => ?_)
        refine lv_goto (tgt := 13) C.1 C.2.1 d_S_changed_34 (by decide) ?_
        exact ih (i + 1) (a + 1) (by omega) (by omega) (by rw [ha]; first | exact (cnt_y q25).symm | exact (cnt_s q25).symm) _ _ I ls (lv_sub hl [2, 3, 1, 0] rfl)
set_option maxHeartbeats 4000000 in
set_option maxRecDepth 100000 in
/-- R_S.changed -/
theorem c_S_changed (l : Launch) (hlt : l.stackTraces = false) (D : va_G) (cA : Nat → ClassId) (h : Nat → Nat) (sz : Nat) (bw : (Nat → Int32)) (cw : (Nat → Int32)) (ts : (Nat → Int32)) (tb : (Nat → Int32)) (st : (Nat → Int32)) (ro : Nat) (mr : Nat) (la : Nat) (fu : Option Nat) (dn : Bool) (wr : Nat) (x : Int32) (hfu : ∀ k, fu = some k → k < 2 ^ 31) : svX l D cA h (bw, cw, ts, tb, st, ro, mr, la, fu, dn, wr) sz y_S_changed (.code y_S_changed b_S_changed 4 (some .int)) (rmX 4) [.int x] (fun v u' => ∃ r, v = some (.int (nI r)) ∧ cChanged x (bw, cw, ts, tb, st, ro, mr, la, fu, dn, wr) = (.ok r, u') ∧ fB u') (fun k u' => cChanged x (bw, cw, ts, tb, st, ro, mr, la, fu, dn, wr) = (.error k, u')) := by
  refine sv_x hlt (by decide) rfl (Nat.le_of_ble_eq_true rfl) ?_
  intro p e s m args below meth c C X hr hsz I ls hl
  generalize svA cA h (bw, cw, ts, tb, st, ro, mr, la, fu, dn, wr) sz = A at I X ⊢
  have hl : lv_has ls 4 [(0, .ref (h 0)), (1, .int x)] := hl
  refine lv_aload_n C.1 C.2.1 d_S_changed_0 rfl (lv_at hl 0 rfl) ?_
  refine sv_xc C X I (c_S_requireUp l hlt D cA h _ bw cw ts tb st ro mr la fu dn wr hfu) lk_S28 rfl rfl ⟨by decide, by decide⟩ ⟨by decide, by decide⟩ rfl hl.1 (rest := []) rfl (Nat.le_of_ble_eq_true rfl) d_S_changed_1 (fun k u' w1 => cB_err w1) (fun v u' H locs w1 I => ?_)
  obtain ⟨rfl, z1, -⟩ := w1
  obtain ⟨rfl, hdn⟩ := up_inv z1
  refine lv_aload_n C.1 C.2.1 d_S_changed_4 rfl (lv_at hl 0 rfl) ?_
  refine lv_iload_n C.1 C.2.1 d_S_changed_5 rfl (lv_at hl 1 rfl) ?_
  refine sv_xc C X I (c_S_requireSnapshot l hlt D cA h _ bw cw ts tb st ro mr la fu dn wr x hfu) lk_S68 rfl rfl ⟨by decide, by decide⟩ ⟨by decide, by decide⟩ rfl hl.1 (rest := []) rfl (Nat.le_of_ble_eq_true rfl) d_S_changed_6 (fun k u' w6 => (cB_ok z1).trans (cB_err w6)) (fun v u' H locs w6 I => ?_)
  obtain ⟨rfl, zs, -⟩ := w6
  obtain ⟨rfl, hx⟩ := reqS_inv zs
  obtain ⟨s1, hs1, rfl⟩ := has_ix hx
  have hR : cChanged (nI s1) (bw, cw, ts, tb, st, ro, mr, la, fu, dn, wr) = (.ok (cCh bw cw ts tb st s1), (bw, cw, ts, tb, st, ro, mr, la, fu, dn, wr)) := (cB_ok z1).trans ((cB_ok zs).trans (by simp only [cN_nI (show s1 < 2 ^ 31 by omega)]))
  refine lv_iconst (v := nI 0) C.1 C.2.1 d_S_changed_9 (by decide) ?_
  refine lv_istore_n (lv' := [(2, .int (nI 0)), (0, .ref (h 0)), (1, .int (nI s1))]) C.1 C.2.1 d_S_changed_10 rfl hl (by decide) rfl (fun ls hl => ?_)
  refine lv_iconst (v := nI 0) C.1 C.2.1 d_S_changed_11 (by decide) ?_
  refine lv_istore_n (lv' := [(3, .int (nI 0)), (2, .int (nI 0)), (0, .ref (h 0)), (1, .int (nI s1))]) C.1 C.2.1 d_S_changed_12 rfl hl (by decide) rfl (fun ls hl => ?_)
  exact lp_S_changed_13 C X hlt hr _ hfu s1 hs1 hR _ 0 0 (Nat.lt_succ_self _) (by omega) rfl _ _ I ls (lv_sub hl [2, 3, 1, 0] rfl)
end
section
set_option maxHeartbeats 4000000 in
set_option maxRecDepth 100000 in
/-- R_S.fuse -/
theorem c_S_fuse (l : Launch) (D : va_G) (cA : Nat → ClassId) (h : Nat → Nat) (sz : Nat) (bw : (Nat → Int32)) (cw : (Nat → Int32)) (ts : (Nat → Int32)) (tb : (Nat → Int32)) (st : (Nat → Int32)) (ro : Nat) (mr : Nat) (la : Nat) (fu : Option Nat) (dn : Bool) (wr : Nat) (x : Int32) : svMi l D cA h (bw, cw, ts, tb, st, ro, mr, la, fu, dn, wr) sz y_S_fuse (.code y_S_fuse b_S_fuse 2 (some .boolean)) (rmL 0) [.int x] (fun r u' => r = bI (cFuse x (bw, cw, ts, tb, st, ro, mr, la, fu, dn, wr)).1 ∧ u' = (cFuse x (bw, cw, ts, tb, st, ro, mr, la, fu, dn, wr)).2) := by
  refine sv_mi (by decide) rfl (Nat.le_of_ble_eq_true rfl) ?_
  intro p e s m args below meth c C hr hsz I ls hl
  generalize svA cA h (bw, cw, ts, tb, st, ro, mr, la, fu, dn, wr) sz = A at I ⊢
  have hl : lv_has ls 2 [(0, .ref (h 0)), (1, .int x)] := hl
  refine lv_aload_n C.1 C.2.1 d_S_fuse_0 rfl (lv_at hl 0 rfl) ?_
  refine sv_g9 C I d_S_fuse_1 ?_
  refine n_ifne (b := dn) (tgt := 12) C.1 C.2.1 d_S_fuse_4 (by decide) (fun q4 => ?_) (fun q4 => ?_)
  · refine lv_iconst (v := nI 0) C.1 C.2.1 d_S_fuse_12 (by decide) ?_
    exact sv_rz (b := false) C hr I ⟨congrArg (fun z => bI z.1) (cFuse_no (by first | exact Or.inl q4 | exact Or.inr (Int32.not_le.mp q9))).symm, congrArg Prod.snd (cFuse_no (by first | exact Or.inl q4 | exact Or.inr (Int32.not_le.mp q9))).symm⟩ d_S_fuse_13
  · refine lv_iload_n C.1 C.2.1 d_S_fuse_7 rfl (lv_at hl 1 rfl) ?_
    refine lv_iconst (v := oI none) C.1 C.2.1 d_S_fuse_8 (by decide) ?_
    refine lv_icmp_ge (x := x) (y := oI none) (tgt := 14) C.1 C.2.1 d_S_fuse_9 (by decide) (fun q9 => ?_) (fun q9 => ?_)
    · rcases fuse_cases (Int32.not_lt.mpr q9) with rfl | ⟨k, hk, rfl⟩
      · refine lv_aload_n C.1 C.2.1 d_S_fuse_14 rfl (lv_at hl 0 rfl) ?_
        refine lv_iload_n C.1 C.2.1 d_S_fuse_15 rfl (lv_at hl 1 rfl) ?_
        refine sv_p8 C I none rfl d_S_fuse_16 (fun H locs I => ?_)
        refine lv_iconst (v := nI 1) C.1 C.2.1 d_S_fuse_19 (by decide) ?_
        exact sv_rz (b := true) C hr I ⟨congrArg (fun z => bI z.1) (cFuse_off q4).symm, congrArg Prod.snd (cFuse_off q4).symm⟩ d_S_fuse_20
      · refine lv_aload_n C.1 C.2.1 d_S_fuse_14 rfl (lv_at hl 0 rfl) ?_
        refine lv_iload_n C.1 C.2.1 d_S_fuse_15 rfl (lv_at hl 1 rfl) ?_
        refine sv_p8 C I (some k) rfl d_S_fuse_16 (fun H locs I => ?_)
        refine lv_iconst (v := nI 1) C.1 C.2.1 d_S_fuse_19 (by decide) ?_
        exact sv_rz (b := true) C hr I ⟨congrArg (fun z => bI z.1) (cFuse_k q4 hk).symm, congrArg Prod.snd (cFuse_k q4 hk).symm⟩ d_S_fuse_20
    · refine lv_iconst (v := nI 0) C.1 C.2.1 d_S_fuse_12 (by decide) ?_
      exact sv_rz (b := false) C hr I ⟨congrArg (fun z => bI z.1) (cFuse_no (by first | exact Or.inl q4 | exact Or.inr (Int32.not_le.mp q9))).symm, congrArg Prod.snd (cFuse_no (by first | exact Or.inl q4 | exact Or.inr (Int32.not_le.mp q9))).symm⟩ d_S_fuse_13
set_option maxHeartbeats 4000000 in
set_option maxRecDepth 100000 in
/-- R_S.isDown -/
theorem c_S_isDown (l : Launch) (D : va_G) (cA : Nat → ClassId) (h : Nat → Nat) (sz : Nat) (bw : (Nat → Int32)) (cw : (Nat → Int32)) (ts : (Nat → Int32)) (tb : (Nat → Int32)) (st : (Nat → Int32)) (ro : Nat) (mr : Nat) (la : Nat) (fu : Option Nat) (dn : Bool) (wr : Nat)  : svMi l D cA h (bw, cw, ts, tb, st, ro, mr, la, fu, dn, wr) sz y_S_isDown (.code y_S_isDown b_S_isDown 1 (some .boolean)) (rmL 0) [] (fun r u' => r = bI (dn) ∧ u' = (bw, cw, ts, tb, st, ro, mr, la, fu, dn, wr)) := by
  refine sv_mi (by decide) rfl (Nat.le_of_ble_eq_true rfl) ?_
  intro p e s m args below meth c C hr hsz I ls hl
  generalize svA cA h (bw, cw, ts, tb, st, ro, mr, la, fu, dn, wr) sz = A at I ⊢
  have hl : lv_has ls 1 [(0, .ref (h 0))] := hl
  refine lv_aload_n C.1 C.2.1 d_S_isDown_0 rfl (lv_at hl 0 rfl) ?_
  refine sv_g9 C I d_S_isDown_1 ?_
  exact sv_rz (b := dn) C hr I ⟨congrArg bI rfl, rfl⟩ d_S_isDown_4
set_option maxHeartbeats 4000000 in
set_option maxRecDepth 100000 in
/-- R_S.writes -/
theorem c_S_writes (l : Launch) (D : va_G) (cA : Nat → ClassId) (h : Nat → Nat) (sz : Nat) (bw : (Nat → Int32)) (cw : (Nat → Int32)) (ts : (Nat → Int32)) (tb : (Nat → Int32)) (st : (Nat → Int32)) (ro : Nat) (mr : Nat) (la : Nat) (fu : Option Nat) (dn : Bool) (wr : Nat)  : svMi l D cA h (bw, cw, ts, tb, st, ro, mr, la, fu, dn, wr) sz y_S_writes (.code y_S_writes b_S_writes 1 (some .int)) (rmL 0) [] (fun r u' => r = nI (wr) ∧ u' = (bw, cw, ts, tb, st, ro, mr, la, fu, dn, wr)) := by
  refine sv_mi (by decide) rfl (Nat.le_of_ble_eq_true rfl) ?_
  intro p e s m args below meth c C hr hsz I ls hl
  generalize svA cA h (bw, cw, ts, tb, st, ro, mr, la, fu, dn, wr) sz = A at I ⊢
  have hl : lv_has ls 1 [(0, .ref (h 0))] := hl
  refine lv_aload_n C.1 C.2.1 d_S_writes_0 rfl (lv_at hl 0 rfl) ?_
  refine sv_g10 C I d_S_writes_1 ?_
  exact sv_ri (v := nI wr) C hr I ⟨congrArg nI rfl, rfl⟩ d_S_writes_4
set_option maxHeartbeats 4000000 in
set_option maxRecDepth 100000 in
theorem lp_S_clearAll_72 {p : Program} {l : Launch} {e : Env} {s : State} {m : MethodId} {args : Array Value} {below : List Frame} {meth : Method} {c : Code} {D : va_G} {cA : Nat → ClassId} {A : Nat → Prop} {h : Nat → Nat} {bw : (Nat → Int32)} {cw : (Nat → Int32)} {ts : (Nat → Int32)} {tb : (Nat → Int32)} {st : (Nat → Int32)} {ro : Nat} {mr : Nat} {la : Nat} {fu : Option Nat} {dn : Bool} {wr : Nat} (C : gC p s m args meth c b_S_clearAll 2 R_S) (hr : meth.sig.returnType = none)    : ∀ (fuel : Nat) (i : Nat) (bwv : Nat → Int32) (cwv : Nat → Int32) (tsv : Nat → Int32) (tbv : Nat → Int32) (stv : Nat → Int32), 3 - i < fuel → i ≤ 3 → (∀ k, k < 24 → bwv k = nI 0) → (∀ k, k < 36 → cwv k = nI 0) → (∀ k, k < 9 → tsv k = oI none) → (∀ k, k < 9 → tbv k = nI 0) → (∀ k, k < i → stv k = nI 0) → ∀ (H : Heap) (locs : List Loc), svI D cA A s h (bwv, cwv, tsv, tbv, stv, ro, mr, la, fu, dn, wr) H locs → ∀ (ls : Array Slot), lv_has ls 2 [(0, .ref (h 0)), (1, .int (nI i))] → W p l e (rmL 0) s m args below meth c H locs 0 0 (MQ below (va_Qv (fun u' => sv0 u') (svAt D cA A h) A) args s 0 0 A) (F0 m 72 ls []) := by
  intro fuel
  induction fuel with
  | zero =>
    intro _ _ _ _ _ _ hfuel
    exact absurd hfuel (Nat.not_lt_zero _)
  | succ fuel ih =>
    intro i bwv cwv tsv tbv stv hfuel hi ha hb hc hd he H locs I ls hl
    refine lv_iload_n C.1 C.2.1 d_S_clearAll_72 rfl (lv_at hl 1 rfl) ?_
    refine lv_iconst (v := nI 3) C.1 C.2.1 d_S_clearAll_73 (by decide) ?_
    refine n_icmp_ge C.1 C.2.1 (a := i) (b := 3) (tgt := 90) (by omega) (by omega) d_S_clearAll_74 (by decide) (fun q74 => ?_) (fun q74 => ?_)
    · refine lv_aload_n C.1 C.2.1 d_S_clearAll_90 rfl (lv_at hl 0 rfl) ?_
      refine lv_iconst (v := nI 0) C.1 C.2.1 d_S_clearAll_91 (by decide) ?_
      refine sv_p5 C I 0 rfl d_S_clearAll_92 (fun H locs I => ?_)
      refine lv_aload_n C.1 C.2.1 d_S_clearAll_95 rfl (lv_at hl 0 rfl) ?_
      refine lv_iconst (v := nI 0) C.1 C.2.1 d_S_clearAll_96 (by decide) ?_
      refine sv_p6 C I 0 rfl d_S_clearAll_97 (fun H locs I => ?_)
      refine lv_aload_n C.1 C.2.1 d_S_clearAll_100 rfl (lv_at hl 0 rfl) ?_
      refine lv_iconst (v := nI 0) C.1 C.2.1 d_S_clearAll_101 (by decide) ?_
      refine sv_p7 C I 0 rfl d_S_clearAll_102 (fun H locs I => ?_)
      refine lv_aload_n C.1 C.2.1 d_S_clearAll_105 rfl (lv_at hl 0 rfl) ?_
      refine lv_iconst (v := oI none) C.1 C.2.1 d_S_clearAll_106 (by decide) ?_
      refine sv_p8 C I none rfl d_S_clearAll_107 (fun H locs I => ?_)
      refine lv_aload_n C.1 C.2.1 d_S_clearAll_110 rfl (lv_at hl 0 rfl) ?_
      refine lv_iconst (v := nI 0) C.1 C.2.1 d_S_clearAll_111 (by decide) ?_
      refine sv_p9 C I false rfl d_S_clearAll_112 (fun H locs I => ?_)
      refine lv_aload_n C.1 C.2.1 d_S_clearAll_115 rfl (lv_at hl 0 rfl) ?_
      refine lv_iconst (v := nI 0) C.1 C.2.1 d_S_clearAll_116 (by decide) ?_
      refine sv_p10 C I 0 rfl d_S_clearAll_117 (fun H locs I => ?_)
      exact sv_rv C hr I ⟨ha, hb, hc, hd, (fun k hk => he k (by omega)), rfl, rfl, rfl, rfl, rfl, rfl⟩ d_S_clearAll_120
    · refine lv_aload_n C.1 C.2.1 d_S_clearAll_77 rfl (lv_at hl 0 rfl) ?_
      refine sv_g4 C I d_S_clearAll_78 ?_
      refine lv_iload_n C.1 C.2.1 d_S_clearAll_81 rfl (lv_at hl 1 rfl) ?_
      refine lv_iconst (v := nI 0) C.1 C.2.1 d_S_clearAll_82 (by decide) ?_
      refine sv_s5 C I (k := i) (x := nI 0) (by omega) d_S_clearAll_83 (fun H locs I => ?_)
      refine lv_iinc (v := nI (i + 1)) (lv' := [(1, .int (nI (i + 1))), (0, .ref (h 0))]) C.1 C.2.1 d_S_clearAll_84 hl (k := 1) rfl (by rw [show nI (i + 1) = nI i + nI 1 from (nI_add _ _).symm]; rfl) (by decide) rfl (fun ls hl => ?_)
      refine lv_goto (tgt := 72) C.1 C.2.1 d_S_clearAll_87 (by decide) ?_
      exact ih (i + 1) bwv cwv tsv tbv (upd stv i (nI 0)) (by omega) (by omega) ha hb hc hd (upd_pre he) _ _ I ls (lv_sub hl [1, 0] rfl)
set_option maxHeartbeats 4000000 in
set_option maxRecDepth 100000 in
theorem lp_S_clearAll_44 {p : Program} {l : Launch} {e : Env} {s : State} {m : MethodId} {args : Array Value} {below : List Frame} {meth : Method} {c : Code} {D : va_G} {cA : Nat → ClassId} {A : Nat → Prop} {h : Nat → Nat} {bw : (Nat → Int32)} {cw : (Nat → Int32)} {ts : (Nat → Int32)} {tb : (Nat → Int32)} {st : (Nat → Int32)} {ro : Nat} {mr : Nat} {la : Nat} {fu : Option Nat} {dn : Bool} {wr : Nat} (C : gC p s m args meth c b_S_clearAll 2 R_S) (hr : meth.sig.returnType = none)    : ∀ (fuel : Nat) (i : Nat) (bwv : Nat → Int32) (cwv : Nat → Int32) (tsv : Nat → Int32) (tbv : Nat → Int32), 9 - i < fuel → i ≤ 9 → (∀ k, k < 24 → bwv k = nI 0) → (∀ k, k < 36 → cwv k = nI 0) → (∀ k, k < i → tsv k = oI none) → (∀ k, k < i → tbv k = nI 0) → ∀ (H : Heap) (locs : List Loc), svI D cA A s h (bwv, cwv, tsv, tbv, st, ro, mr, la, fu, dn, wr) H locs → ∀ (ls : Array Slot), lv_has ls 2 [(0, .ref (h 0)), (1, .int (nI i))] → W p l e (rmL 0) s m args below meth c H locs 0 0 (MQ below (va_Qv (fun u' => sv0 u') (svAt D cA A h) A) args s 0 0 A) (F0 m 44 ls []) := by
  intro fuel
  induction fuel with
  | zero =>
    intro _ _ _ _ _ hfuel
    exact absurd hfuel (Nat.not_lt_zero _)
  | succ fuel ih =>
    intro i bwv cwv tsv tbv hfuel hi ha hb hc hd H locs I ls hl
    refine lv_iload_n C.1 C.2.1 d_S_clearAll_44 rfl (lv_at hl 1 rfl) ?_
    refine lv_bipush (v := nI 9) C.1 C.2.1 d_S_clearAll_45 (by decide) ?_
    refine n_icmp_ge C.1 C.2.1 (a := i) (b := 9) (tgt := 70) (by omega) (by omega) d_S_clearAll_47 (by decide) (fun q47 => ?_) (fun q47 => ?_)
    · refine lv_iconst (v := nI 0) C.1 C.2.1 d_S_clearAll_70 (by decide) ?_
      refine lv_istore_n (lv' := [(1, .int (nI 0)), (0, .ref (h 0))]) C.1 C.2.1 d_S_clearAll_71 rfl hl (by decide) rfl (fun ls hl => ?_)
      exact lp_S_clearAll_72 (bw := bw) (cw := cw) (ts := ts) (tb := tb) (st := st) (ro := ro) (mr := mr) (la := la) (fu := fu) (dn := dn) (wr := wr) C hr   _ 0 bwv cwv tsv tbv st (Nat.lt_succ_self _) (by omega) ha hb (fun k hk => hc k (by omega)) (fun k hk => hd k (by omega)) (fun k hk => absurd hk (Nat.not_lt_zero k)) _ _ I ls (lv_sub hl [1, 0] rfl)
    · refine lv_aload_n C.1 C.2.1 d_S_clearAll_50 rfl (lv_at hl 0 rfl) ?_
      refine sv_g2 C I d_S_clearAll_51 ?_
      refine lv_iload_n C.1 C.2.1 d_S_clearAll_54 rfl (lv_at hl 1 rfl) ?_
      refine lv_iconst (v := oI none) C.1 C.2.1 d_S_clearAll_55 (by decide) ?_
      refine sv_s3 C I (k := i) (x := oI none) (by omega) d_S_clearAll_56 (fun H locs I => ?_)
      refine lv_aload_n C.1 C.2.1 d_S_clearAll_57 rfl (lv_at hl 0 rfl) ?_
      refine sv_g3 C I d_S_clearAll_58 ?_
      refine lv_iload_n C.1 C.2.1 d_S_clearAll_61 rfl (lv_at hl 1 rfl) ?_
      refine lv_iconst (v := nI 0) C.1 C.2.1 d_S_clearAll_62 (by decide) ?_
      refine sv_s4 C I (k := i) (x := nI 0) (by omega) d_S_clearAll_63 (fun H locs I => ?_)
      refine lv_iinc (v := nI (i + 1)) (lv' := [(1, .int (nI (i + 1))), (0, .ref (h 0))]) C.1 C.2.1 d_S_clearAll_64 hl (k := 1) rfl (by rw [show nI (i + 1) = nI i + nI 1 from (nI_add _ _).symm]; rfl) (by decide) rfl (fun ls hl => ?_)
      refine lv_goto (tgt := 44) C.1 C.2.1 d_S_clearAll_67 (by decide) ?_
      exact ih (i + 1) bwv cwv (upd tsv i (oI none)) (upd tbv i (nI 0)) (by omega) (by omega) ha hb (upd_pre hc) (upd_pre hd) _ _ I ls (lv_sub hl [1, 0] rfl)
set_option maxHeartbeats 4000000 in
set_option maxRecDepth 100000 in
theorem lp_S_clearAll_23 {p : Program} {l : Launch} {e : Env} {s : State} {m : MethodId} {args : Array Value} {below : List Frame} {meth : Method} {c : Code} {D : va_G} {cA : Nat → ClassId} {A : Nat → Prop} {h : Nat → Nat} {bw : (Nat → Int32)} {cw : (Nat → Int32)} {ts : (Nat → Int32)} {tb : (Nat → Int32)} {st : (Nat → Int32)} {ro : Nat} {mr : Nat} {la : Nat} {fu : Option Nat} {dn : Bool} {wr : Nat} (C : gC p s m args meth c b_S_clearAll 2 R_S) (hr : meth.sig.returnType = none)    : ∀ (fuel : Nat) (i : Nat) (bwv : Nat → Int32) (cwv : Nat → Int32), 36 - i < fuel → i ≤ 36 → (∀ k, k < 24 → bwv k = nI 0) → (∀ k, k < i → cwv k = nI 0) → ∀ (H : Heap) (locs : List Loc), svI D cA A s h (bwv, cwv, ts, tb, st, ro, mr, la, fu, dn, wr) H locs → ∀ (ls : Array Slot), lv_has ls 2 [(0, .ref (h 0)), (1, .int (nI i))] → W p l e (rmL 0) s m args below meth c H locs 0 0 (MQ below (va_Qv (fun u' => sv0 u') (svAt D cA A h) A) args s 0 0 A) (F0 m 23 ls []) := by
  intro fuel
  induction fuel with
  | zero =>
    intro _ _ _ hfuel
    exact absurd hfuel (Nat.not_lt_zero _)
  | succ fuel ih =>
    intro i bwv cwv hfuel hi ha hb H locs I ls hl
    refine lv_iload_n C.1 C.2.1 d_S_clearAll_23 rfl (lv_at hl 1 rfl) ?_
    refine lv_bipush (v := nI 36) C.1 C.2.1 d_S_clearAll_24 (by decide) ?_
    refine n_icmp_ge C.1 C.2.1 (a := i) (b := 36) (tgt := 42) (by omega) (by omega) d_S_clearAll_26 (by decide) (fun q26 => ?_) (fun q26 => ?_)
    · refine lv_iconst (v := nI 0) C.1 C.2.1 d_S_clearAll_42 (by decide) ?_
      refine lv_istore_n (lv' := [(1, .int (nI 0)), (0, .ref (h 0))]) C.1 C.2.1 d_S_clearAll_43 rfl hl (by decide) rfl (fun ls hl => ?_)
      exact lp_S_clearAll_44 (bw := bw) (cw := cw) (ts := ts) (tb := tb) (st := st) (ro := ro) (mr := mr) (la := la) (fu := fu) (dn := dn) (wr := wr) C hr   _ 0 bwv cwv ts tb (Nat.lt_succ_self _) (by omega) ha (fun k hk => hb k (by omega)) (fun k hk => absurd hk (Nat.not_lt_zero k)) (fun k hk => absurd hk (Nat.not_lt_zero k)) _ _ I ls (lv_sub hl [1, 0] rfl)
    · refine lv_aload_n C.1 C.2.1 d_S_clearAll_29 rfl (lv_at hl 0 rfl) ?_
      refine sv_g1 C I d_S_clearAll_30 ?_
      refine lv_iload_n C.1 C.2.1 d_S_clearAll_33 rfl (lv_at hl 1 rfl) ?_
      refine lv_iconst (v := nI 0) C.1 C.2.1 d_S_clearAll_34 (by decide) ?_
      refine sv_s2 C I (k := i) (x := nI 0) (by omega) d_S_clearAll_35 (fun H locs I => ?_)
      refine lv_iinc (v := nI (i + 1)) (lv' := [(1, .int (nI (i + 1))), (0, .ref (h 0))]) C.1 C.2.1 d_S_clearAll_36 hl (k := 1) rfl (by rw [show nI (i + 1) = nI i + nI 1 from (nI_add _ _).symm]; rfl) (by decide) rfl (fun ls hl => ?_)
      refine lv_goto (tgt := 23) C.1 C.2.1 d_S_clearAll_39 (by decide) ?_
      exact ih (i + 1) bwv (upd cwv i (nI 0)) (by omega) (by omega) ha (upd_pre hb) _ _ I ls (lv_sub hl [1, 0] rfl)
set_option maxHeartbeats 4000000 in
set_option maxRecDepth 100000 in
theorem lp_S_clearAll_2 {p : Program} {l : Launch} {e : Env} {s : State} {m : MethodId} {args : Array Value} {below : List Frame} {meth : Method} {c : Code} {D : va_G} {cA : Nat → ClassId} {A : Nat → Prop} {h : Nat → Nat} {bw : (Nat → Int32)} {cw : (Nat → Int32)} {ts : (Nat → Int32)} {tb : (Nat → Int32)} {st : (Nat → Int32)} {ro : Nat} {mr : Nat} {la : Nat} {fu : Option Nat} {dn : Bool} {wr : Nat} (C : gC p s m args meth c b_S_clearAll 2 R_S) (hr : meth.sig.returnType = none)    : ∀ (fuel : Nat) (i : Nat) (bwv : Nat → Int32), 24 - i < fuel → i ≤ 24 → (∀ k, k < i → bwv k = nI 0) → ∀ (H : Heap) (locs : List Loc), svI D cA A s h (bwv, cw, ts, tb, st, ro, mr, la, fu, dn, wr) H locs → ∀ (ls : Array Slot), lv_has ls 2 [(0, .ref (h 0)), (1, .int (nI i))] → W p l e (rmL 0) s m args below meth c H locs 0 0 (MQ below (va_Qv (fun u' => sv0 u') (svAt D cA A h) A) args s 0 0 A) (F0 m 2 ls []) := by
  intro fuel
  induction fuel with
  | zero =>
    intro _ _ hfuel
    exact absurd hfuel (Nat.not_lt_zero _)
  | succ fuel ih =>
    intro i bwv hfuel hi ha H locs I ls hl
    refine lv_iload_n C.1 C.2.1 d_S_clearAll_2 rfl (lv_at hl 1 rfl) ?_
    refine lv_bipush (v := nI 24) C.1 C.2.1 d_S_clearAll_3 (by decide) ?_
    refine n_icmp_ge C.1 C.2.1 (a := i) (b := 24) (tgt := 21) (by omega) (by omega) d_S_clearAll_5 (by decide) (fun q5 => ?_) (fun q5 => ?_)
    · refine lv_iconst (v := nI 0) C.1 C.2.1 d_S_clearAll_21 (by decide) ?_
      refine lv_istore_n (lv' := [(1, .int (nI 0)), (0, .ref (h 0))]) C.1 C.2.1 d_S_clearAll_22 rfl hl (by decide) rfl (fun ls hl => ?_)
      exact lp_S_clearAll_23 (bw := bw) (cw := cw) (ts := ts) (tb := tb) (st := st) (ro := ro) (mr := mr) (la := la) (fu := fu) (dn := dn) (wr := wr) C hr   _ 0 bwv cw (Nat.lt_succ_self _) (by omega) (fun k hk => ha k (by omega)) (fun k hk => absurd hk (Nat.not_lt_zero k)) _ _ I ls (lv_sub hl [1, 0] rfl)
    · refine lv_aload_n C.1 C.2.1 d_S_clearAll_8 rfl (lv_at hl 0 rfl) ?_
      refine sv_g0 C I d_S_clearAll_9 ?_
      refine lv_iload_n C.1 C.2.1 d_S_clearAll_12 rfl (lv_at hl 1 rfl) ?_
      refine lv_iconst (v := nI 0) C.1 C.2.1 d_S_clearAll_13 (by decide) ?_
      refine sv_s1 C I (k := i) (x := nI 0) (by omega) d_S_clearAll_14 (fun H locs I => ?_)
      refine lv_iinc (v := nI (i + 1)) (lv' := [(1, .int (nI (i + 1))), (0, .ref (h 0))]) C.1 C.2.1 d_S_clearAll_15 hl (k := 1) rfl (by rw [show nI (i + 1) = nI i + nI 1 from (nI_add _ _).symm]; rfl) (by decide) rfl (fun ls hl => ?_)
      refine lv_goto (tgt := 2) C.1 C.2.1 d_S_clearAll_18 (by decide) ?_
      exact ih (i + 1) (upd bwv i (nI 0)) (by omega) (by omega) (upd_pre ha) _ _ I ls (lv_sub hl [1, 0] rfl)
set_option maxHeartbeats 4000000 in
set_option maxRecDepth 100000 in
/-- R_S.clearAll -/
theorem c_S_clearAll (l : Launch) (D : va_G) (cA : Nat → ClassId) (h : Nat → Nat) (sz : Nat) (bw : (Nat → Int32)) (cw : (Nat → Int32)) (ts : (Nat → Int32)) (tb : (Nat → Int32)) (st : (Nat → Int32)) (ro : Nat) (mr : Nat) (la : Nat) (fu : Option Nat) (dn : Bool) (wr : Nat)  : svMv l D cA h (bw, cw, ts, tb, st, ro, mr, la, fu, dn, wr) sz y_S_clearAll (.code y_S_clearAll b_S_clearAll 2 none) (rmL 0) [] (fun u' => sv0 u') := by
  refine sv_mv (by decide) rfl (Nat.le_of_ble_eq_true rfl) ?_
  intro p e s m args below meth c C hr hsz I ls hl
  generalize svA cA h (bw, cw, ts, tb, st, ro, mr, la, fu, dn, wr) sz = A at I ⊢
  have hl : lv_has ls 2 [(0, .ref (h 0))] := hl
  refine lv_iconst (v := nI 0) C.1 C.2.1 d_S_clearAll_0 (by decide) ?_
  refine lv_istore_n (lv' := [(1, .int (nI 0)), (0, .ref (h 0))]) C.1 C.2.1 d_S_clearAll_1 rfl hl (by decide) rfl (fun ls hl => ?_)
  exact lp_S_clearAll_2 (bw := bw) (cw := cw) (ts := ts) (tb := tb) (st := st) (ro := ro) (mr := mr) (la := la) (fu := fu) (dn := dn) (wr := wr) C hr   _ 0 bw (Nat.lt_succ_self _) (by omega) (fun k hk => absurd hk (Nat.not_lt_zero k)) _ _ I ls (lv_sub hl [1, 0] rfl)
set_option maxHeartbeats 4000000 in
set_option maxRecDepth 100000 in
/-- R_S.format -/
theorem c_S_format (l : Launch) (D : va_G) (cA : Nat → ClassId) (h : Nat → Nat) (sz : Nat) (bw : (Nat → Int32)) (cw : (Nat → Int32)) (ts : (Nat → Int32)) (tb : (Nat → Int32)) (st : (Nat → Int32)) (ro : Nat) (mr : Nat) (la : Nat) (fu : Option Nat) (dn : Bool) (wr : Nat)  : svMv l D cA h (bw, cw, ts, tb, st, ro, mr, la, fu, dn, wr) sz y_S_format (.code y_S_format b_S_format 1 none) (rmL 1) [] (fun u' => sv0 u') := by
  refine sv_mv (by decide) rfl (Nat.le_of_ble_eq_true rfl) ?_
  intro p e s m args below meth c C hr hsz I ls hl
  generalize svA cA h (bw, cw, ts, tb, st, ro, mr, la, fu, dn, wr) sz = A at I ⊢
  have hl : lv_has ls 1 [(0, .ref (h 0))] := hl
  refine lv_aload_n C.1 C.2.1 d_S_format_0 rfl (lv_at hl 0 rfl) ?_
  refine sv_cv C I (c_S_clearAll l D cA h _ bw cw ts tb st ro mr la fu dn wr) lk_S25 rfl rfl ⟨by decide, by decide⟩ ⟨Nat.zero_le _, Nat.zero_le _⟩ rfl hl.1 (rest := []) rfl (Nat.le_of_ble_eq_true rfl) d_S_format_1 (fun u' H locs w1 I => ?_)
  exact sv_rv C hr I w1 d_S_format_4
end
section
/-! ===== small rows for the walks of the reference ===== -/
theorem any_t {f : Nat → Bool} {k : Nat} (h : (List.range k).any f = true ∨ f k = true) : true = (List.range (k + 1)).any f := by
  rw [List.range_succ, List.any_append]
  rcases h with h | h <;> simp [h]
theorem any_f {f : Nat → Bool} {k : Nat} (h1 : (List.range k).any f = false) (h2 : f k = false) : false = (List.range (k + 1)).any f := by
  rw [List.range_succ, List.any_append]
  simp [h1, h2]
theorem all_t {f : Nat → Bool} {k : Nat} (h1 : (List.range k).all f = true) (h2 : f k = true) : true = (List.range (k + 1)).all f := by
  rw [List.range_succ, List.all_append]
  simp [h1, h2]
theorem all_f {f : Nat → Bool} {k : Nat} (h : (List.range k).all f = false ∨ f k = false) : false = (List.range (k + 1)).all f := by
  rw [List.range_succ, List.all_append]
  rcases h with h | h <;> simp [h]
/-- what the places that are there own is a number from 0 to 9 -/
def oB (th : Nat → Bool) (ow : Nat → Nat) : Prop := ∀ k, k < 18 → th (k / 6) = true → ow k ≤ 9
theorem oB.sb {th : Nat → Bool} {ow : Nat → Nat} (h : oB th ow) {s b : Nat} (hs : s < 3) (hb : b < 6) (ht : th s = true) : ow (6 * s + b) ≤ 9 := h (6 * s + b) (by omega) (by rw [show (6 * s + b) / 6 = s by omega]; exact ht)
theorem oB.ten {th : Nat → Bool} {ow : Nat → Nat} (h : oB th ow) : mTkn th ow 10 = false := by
  cases hx : mTkn th ow 10
  · rfl
  · obtain ⟨k, h1, h2, h3⟩ := mTkn_iff.mp hx
    have := h k h1 h2
    omega
theorem cnt_or1 {p q : Nat → Bool} {a : Nat} : ∀ {n : Nat}, (∀ j, j < n → j ≠ a → q j = p j) → cnt q n ≤ cnt p n + 1 := by
  intro n
  induction n with
  | zero => intro _; exact Nat.zero_le _
  | succ n ih =>
    intro h
    show cnt q n + (if q n then 1 else 0) ≤ cnt p n + (if p n then 1 else 0) + 1
    by_cases e : n = a
    · have h1 : cnt q n = cnt p n := cnt_congr (fun j hj => h j (by omega) (by omega))
      rw [h1]
      split <;> split <;> omega
    · rw [h n (by omega) e]
      have := ih (fun j hj hne => h j (by omega) hne)
      omega
theorem pig_n {P : Nat → Bool} {ow : Nat → Nat} : ∀ n, cnt (fun c => (List.range n).any fun k => P k && decide (ow k = c + 1)) 9 ≤ cnt (fun k => P k && decide (0 < ow k)) n := by
  intro n
  induction n with
  | zero => exact Nat.le_of_eq (cnt_zero (fun j _ => by simp))
  | succ n ih =>
    have hs : ∀ c, ((List.range (n + 1)).any fun k => P k && decide (ow k = c + 1)) = (((List.range n).any fun k => P k && decide (ow k = c + 1)) || (P n && decide (ow n = c + 1))) := by
      intro c
      rw [List.range_succ, List.any_append]
      simp
    by_cases hp : (P n && decide (0 < ow n)) = true
    · rw [cnt_y (p := fun k => P k && decide (0 < ow k)) hp]
      refine Nat.le_trans (cnt_or1 (a := ow n - 1) (p := fun c => (List.range n).any fun k => P k && decide (ow k = c + 1)) (fun j _ hne => ?_)) (by omega)
      rw [hs j]
      have : decide (ow n = j + 1) = false := by simp; omega
      rw [this]
      simp
    · have hp' : (P n && decide (0 < ow n)) = false := by simpa using hp
      rw [cnt_s (p := fun k => P k && decide (0 < ow k)) hp']
      refine Nat.le_trans (Nat.le_of_eq (cnt_congr (fun j _ => ?_))) ih
      rw [hs j]
      have : (P n && decide (ow n = j + 1)) = false := by
        cases h1 : P n
        · rfl
        · rw [h1] at hp'
          simp at hp'
          simp
          omega
      rw [this]
      simp
theorem cnt_full {p : Nat → Bool} : ∀ {n : Nat}, (∀ j, j < n → p j = true) → cnt p n = n := by
  intro n
  induction n with
  | zero => intro _; rfl
  | succ n ih =>
    intro h
    rw [cnt_y (h n (by omega)), ih (fun j hj => h j (by omega))]
theorem fst_ex {p : Nat → Bool} : ∀ {n k c : Nat}, k ≤ c → c < k + n → p c = true → ∃ c', fst p n k = some c' ∧ k ≤ c' ∧ c' ≤ c := by
  intro n
  induction n with
  | zero => intro k c h1 h2; omega
  | succ n ih =>
    intro k c h1 h2 h3
    by_cases h : p k = true
    · exact ⟨k, fst_y h, Nat.le_refl _, h1⟩
    · have h' : p k = false := by simpa using h
      have hne : k ≠ c := fun e => by rw [e, h3] at h'; cases h'
      obtain ⟨c', e1, e2, e3⟩ := ih (k := k + 1) (by omega) (by omega) h3
      exact ⟨c', by rw [fst_s h']; exact e1, by omega, e3⟩
theorem mLow_le {th : Nat → Bool} {ow : Nat → Nat} (hu : mUsed th ow ≤ 8) : 1 ≤ mLow th ow ∧ mLow th ow ≤ 9 := by
  have h1 := pig_n (P := fun k => th (k / 6)) (ow := ow) 18
  have h2 : ∃ c, c < 9 ∧ mTkn th ow (c + 1) = false := by
    refine Classical.byContradiction fun hn => ?_
    have h3 : cnt (fun c => mTkn th ow (c + 1)) 9 = 9 := cnt_full (fun j hj => by
      cases hx : mTkn th ow (j + 1)
      · exact absurd ⟨j, hj, hx⟩ hn
      · rfl)
    have h4 : cnt (fun c => mTkn th ow (c + 1)) 9 ≤ mUsed th ow := h1
    omega
  obtain ⟨c, hc, ht⟩ := h2
  obtain ⟨c', e1, e2, e3⟩ := fst_ex (p := fun c => ! mTkn th ow c) (n := 10) (k := 1) (c := c + 1) (by omega) (by omega) (by simp [ht])
  have : mLow th ow = c' := by unfold mLow; rw [e1]; rfl
  omega
theorem mUsed_up (th : Nat → Bool) (ow : Nat → Nat) (k v : Nat) : mUsed th (va_up ow k v) ≤ mUsed th ow + 1 := cnt_or1 (a := k) (fun j _ hne => by
  show (th (j / 6) && decide (0 < va_up ow k v j)) = _
  unfold va_up
  rw [if_neg hne])
theorem mIsS_up {th : Nat → Bool} {but : Option Nat} {ow : Nat → Nat} {b s j v : Nat} (hne : j ≠ s) : mIsS th but (va_up ow (6 * s + b) v) b j = mIsS th but ow b j := by
  unfold mIsS va_up
  rw [if_neg (by omega)]
theorem cntR_up {th : Nat → Bool} {but : Option Nat} {ow : Nat → Nat} {b s v : Nat} : ∀ {n j : Nat}, s < j → cntR (mIsS th but (va_up ow (6 * s + b) v) b) n j = cntR (mIsS th but ow b) n j := by
  intro n
  induction n with
  | zero => intro j _; rfl
  | succ n ih =>
    intro j hj
    show (if _ then 1 else 0) + _ = (if _ then 1 else 0) + _
    rw [mIsS_up (by omega), ih (by omega)]
/-- a part's way: the bounds are kept -/
theorem partL_ok {th : Nat → Bool} {but : Option Nat} {b : Nat} (hb : b < 6) : ∀ (n s left : Nat) (ow : Nat → Nat), s + n = 3 → oB th ow → mUsed th ow + cntR (mIsS th but ow b) n s ≤ 9 → oB th (mPartL th b but n s left ow) ∧ mUsed th (mPartL th b but n s left ow) ≤ mUsed th ow + cntR (mIsS th but ow b) n s := by
  intro n
  induction n with
  | zero => intro s left ow _ h1 h2; exact ⟨h1, Nat.le_add_right _ _⟩
  | succ n ih =>
    intro s left ow hs h1 h2
    have e : cntR (mIsS th but ow b) (n + 1) s = (if mIsS th but ow b s then 1 else 0) + cntR (mIsS th but ow b) n (s + 1) := rfl
    rw [e] at h2 ⊢
    unfold mPartL
    split
    · exact ⟨h1, Nat.le_add_right _ _⟩
    · split
      · rename_i hx
        rw [if_pos hx] at h2
        have hl := mLow_le (th := th) (ow := ow) (by omega)
        have hu := mUsed_up th ow (6 * s + b) (mLow th ow)
        have h1' : oB th (va_up ow (6 * s + b) (mLow th ow)) := by
          intro k hk ht
          unfold va_up
          split
          · omega
          · exact h1 k hk ht
        have hc : cntR (mIsS th but (va_up ow (6 * s + b) (mLow th ow)) b) n (s + 1) = cntR (mIsS th but ow b) n (s + 1) := cntR_up (Nat.lt_succ_self s)
        have q := ih (s + 1) (left - 1) (va_up ow (6 * s + b) (mLow th ow)) (by omega) h1' (by rw [hc]; omega)
        rw [hc] at q
        exact ⟨q.1, by omega⟩
      · rename_i hx
        rw [if_neg hx] at h2
        have q := ih (s + 1) left ow (by omega) h1 (by omega)
        exact ⟨q.1, by omega⟩
theorem mPart_ok {th : Nat → Bool} {ow : Nat → Nat} {b : Nat} {but : Option Nat} {many : Nat} (hb : b < 6) (h1 : oB th ow) (h2 : mUsed th ow + mShr th ow b but ≤ 9) : oB th (mPart th ow b but many) ∧ mUsed th (mPart th ow b but many) ≤ mUsed th ow + mShr th ow b but := by
  have e : mShr th ow b but = cntR (mIsS th but ow b) 3 0 := cnt3 _
  rw [e] at h2 ⊢
  exact partL_ok hb 3 0 many ow rfl h1 h2
/-- other blocks are not touched -/
theorem partL_out {th : Nat → Bool} {but : Option Nat} {b : Nat} (hb : b < 6) : ∀ (n s left : Nat) (ow : Nat → Nat) {s' b' : Nat}, b' < 6 → b' ≠ b → mPartL th b but n s left ow (6 * s' + b') = ow (6 * s' + b') := by
  intro n
  induction n with
  | zero => intro s left ow s' b' _ _; rfl
  | succ n ih =>
    intro s left ow s' b' hb' hne
    unfold mPartL
    split
    · rfl
    · split
      · rw [ih _ _ _ hb' hne]
        unfold va_up
        rw [if_neg (by omega)]
      · exact ih _ _ _ hb' hne
theorem mPart_out {th : Nat → Bool} {ow : Nat → Nat} {b : Nat} {but : Option Nat} {many s' b' : Nat} (hb : b < 6) (hb' : b' < 6) (hne : b' ≠ b) : mPart th ow b but many (6 * s' + b') = ow (6 * s' + b') := partL_out hb 3 0 many ow hb' hne
/-- what a rollback asks from block b on -/
def mNd (th : Nat → Bool) (ow : Nat → Nat) (s : Nat) : Nat → Nat → Nat
  | 0, _ => 0
  | n + 1, b => (if mHas ow s b then mShr th ow b (some s) else 0) + mNd th ow s n (b + 1)
theorem mNd_out {th : Nat → Bool} {ow ow' : Nat → Nat} {s b : Nat} (h : ∀ s' b', b' < 6 → b' ≠ b → ow' (6 * s' + b') = ow (6 * s' + b')) : ∀ {n b' : Nat}, b' + n = 6 → b < b' → mNd th ow' s n b' = mNd th ow s n b' := by
  intro n
  induction n with
  | zero => intro b' _ _; rfl
  | succ n ih =>
    intro b' hn hb
    have e1 : mHas ow' s b' = mHas ow s b' := by unfold mHas; rw [h s b' (by omega) (by omega)]
    have e2 : mShr th ow' b' (some s) = mShr th ow b' (some s) := cnt_congr (fun j _ => by unfold mIsS; rw [h j b' (by omega) (by omega)])
    show (if _ then _ else 0) + _ = (if _ then _ else 0) + _
    rw [e1, e2, ih (by omega) (by omega)]
theorem mNeed_nd (th : Nat → Bool) (ow : Nat → Nat) (s : Nat) : mNeed th ow s = mNd th ow s 6 0 := by
  unfold mNeed
  simp only [sm, mNd, Nat.reduceAdd]
  omega
section LAST
variable {fu fl : Option Nat} {ct cl w : Nat} {dn dl : Bool}
theorem mLast_n : mLast none ct dn w = (true, none, ct + w, dn) := rfl
theorem mLast_y {k : Nat} (h : w ≤ k) : mLast (some k) ct dn w = (true, some (k - w), ct + w, dn) := if_pos h
theorem mLast_c {k : Nat} (h : ¬ w ≤ k) : mLast (some k) ct dn w = (false, some k, ct + k, true) := if_neg h
theorem mLast_false (h : mLast fu ct dn w = (false, fl, cl, dl)) : ∃ k, fl = some k ∧ k < w := by
  cases fu with
  | none => cases h
  | some k =>
    by_cases hw : w ≤ k
    · rw [mLast_y hw] at h; cases h
    · rw [mLast_c hw] at h; cases h; exact ⟨k, rfl, by omega⟩
theorem mLast_fu {bl : Bool} (h : mLast fu ct dn w = (bl, fl, cl, dl)) (hf : ∀ k, fu = some k → k < 2 ^ 31) : ∀ k, fl = some k → k < 2 ^ 31 := by
  cases fu with
  | none => cases h; intro k e; cases e
  | some k =>
    by_cases hw : w ≤ k
    · rw [mLast_y hw] at h; cases h; intro j e; cases e; have := hf _ rfl; omega
    · rw [mLast_c hw] at h; cases h; intro j e; cases e; exact hf _ rfl
end LAST
theorem isW {x y : Int32} (h : ((ixI x 6).isSome && (ixI y 4).isSome) = true) : (∃ k, k < 6 ∧ x = nI k) ∧ ∃ i, i < 4 ∧ y = nI i := by
  cases hx : ixI x 6 with
  | none => rw [hx] at h; cases h
  | some k =>
    cases hy : ixI y 4 with
    | none => rw [hx, hy] at h; cases h
    | some i => exact ⟨⟨k, ixI_some (by decide) hx⟩, i, ixI_some (by decide) hy⟩
theorem isS_in {x : Int32} (h : (ixI x 3).isSome = true) : ∃ k, k < 3 ∧ x = nI k := by
  cases hx : ixI x 3 with
  | none => rw [hx] at h; cases h
  | some k => exact ⟨k, ixI_some (by decide) hx⟩
theorem isB_in {x : Int32} (h : (ixI x 6).isSome = true) : ∃ k, k < 6 ∧ x = nI k := by
  cases hx : ixI x 6 with
  | none => rw [hx] at h; cases h
  | some k => exact ⟨k, ixI_some (by decide) hx⟩
theorem none_of {α : Type} {o : Option α} (h : o.isSome = false) : o = none := by cases o <;> simp_all
theorem mHasS_n {th : Nat → Bool} {k : Nat} (hk : k < 3) : mHasS th (nI k) = if th k then some k else none := by
  unfold mHasS
  rw [ixI_nI hk (by decide)]
theorem mHasS_in {th : Nat → Bool} {x : Int32} (h : (mHasS th x).isSome = true) : ∃ k, k < 3 ∧ x = nI k ∧ th k = true ∧ mHasS th x = some k := by
  unfold mHasS at h
  cases hx : ixI x 3 with
  | none => rw [hx] at h; cases h
  | some k =>
    obtain ⟨h1, rfl⟩ := ixI_some (by decide) hx
    rw [hx] at h
    cases ht : th k with
    | false => simp [ht] at h
    | true => exact ⟨k, h1, rfl, ht, by rw [mHasS_n h1, ht]; rfl⟩
theorem ixI_in {v : Int32} {n : Nat} (hn : n + 1 < 2 ^ 31) (h1 : ¬ v < nI 0) (h2 : ¬ nI n < v) : (ixI v (n + 1)).isSome = true := by
  have h3 : ¬ v < 0 := h1
  have h4 : ¬ nI (n + 1) ≤ v := by
    intro z
    apply h2
    rw [Int32.le_iff_toInt_le] at z
    rw [Int32.lt_iff_toInt_lt]
    rw [nI_toInt hn] at z
    rw [nI_toInt (by omega)]
    omega
  obtain ⟨j, hj, rfl⟩ := ixI_of hn h3 h4
  rw [ixI_nI hj hn]
  rfl
theorem ixI_up {v : Int32} {n : Nat} (hn : n + 1 < 2 ^ 31) (h : nI n < v) : (ixI v (n + 1)).isSome = false := by
  rw [ixI_hi]
  · rfl
  · rw [Int32.le_iff_toInt_le, nI_toInt hn]
    rw [Int32.lt_iff_toInt_lt, nI_toInt (by omega)] at h
    omega
/-! static calls out of static methods -/
section EST2
variable {p : Program} {l : Launch} {e : Env} {R : Room} {s : State} {m : MethodId} {args : Array Value} {below : List Frame} {meth : Method} {c : Code} {H : Heap} {locs : List Loc} {cells slots : Nat} {Q : State → Prop}
variable {cc bytes : ByteArray} {nL maxL pc sz n index : Nat} {ls : Array Slot} {avs rest st0 : List Value} {y : MethodName} {ret : Option FieldType} {rm : Room} {own : String}
theorem st_rz' {post : Int32 → Prop} {b : Bool} (C : gC p s m args meth c cc nL own) (hr : meth.sig.returnType = some .boolean) (hS : va_S (va_A [] sz) s.heap H locs) (hp : post (bI b)) (hdg : decode cc pc = .ok (.ireturn, 1)) : W p l e R s m args below meth c H locs 0 0 (MQ below (va_Qi (fun r (_ : Unit) => post r) (fun _ _ => True) (va_A [] sz)) args s 0 0 (va_A [] sz)) (F0 m pc ls [.int (bI b)]) :=
  W.zret (v := bI b) C.1 C.2.1 hr (bI_narrow b) (fun t ht hW => ⟨⟨bI b, (), rfl, hp, trivial⟩, hS.F ht⟩) (fun q hq => hS.2.2 q hq) hdg C.2.2.2.2.2
theorem st_cs {post : Int32 → Prop} (C : gC p s m args meth c cc nL own) (hS : va_S (va_A [] sz) s.heap H locs) (hsz : s.heap.size = sz) (hM : stMi l H.size y (.code y bytes maxL ret) rm avs post) (k : lkS own index y bytes maxL ret n) (hrc : rm.cells = 0) (hrs : rm.slots = 0) (hR : rm.frames + 1 ≤ R.frames ∧ 8 + (maxL + 11) + rm.locals ≤ R.locals) (hcl : cells ≤ R.cells ∧ slots ≤ R.slots) (hn : avs.length = n) (hl : ls.size = nL) (hst : st0 = avs.reverse ++ rest) (hrest : (rest.map fun v => v.category).sum ≤ 8) (hdg : decode cc pc = .ok (.invokestatic index, 3)) (kk : ∀ (r : Int32) (H1 : Heap) (locs1 : List Loc), post r → va_S (va_A [] sz) s.heap H1 locs1 → W p l e R s m args below meth c H1 locs1 cells slots Q (F0 m (pc + 3) ls (.int r :: rest))) : W p l e R s m args below meth c H locs cells slots Q (F0 m pc ls st0) := by
  have cw := k.cw (R := R) (rm := rm) (args := args) (s := s) C.2.2.2.2.1 hR
  rw [hrc, hrs] at cw
  refine va_calli (va_runS (As := avs) (rest := rest) ⟨C.1, C.2.1, C.2.2.1, C.2.2.2.1, C.2.2.2.2.1⟩ hM cw ⟨fun a U g mk q => ⟨q.1, q.2⟩, fun U hU hW => ⟨rfl, congrArg Array.size hU⟩⟩ rfl hn hl hst (lv_room hrest) hdg hcl) hS (fun q hq hz => absurd (st_A hz) (by omega)) (fun q hq => Or.inr (Nat.le_trans (by rw [← hsz]; exact hS.1) (st_A hq))) (fun r u' t H1 locs1 ht hvm hw hB hz hk hS => ?_)
  exact kk r H1 locs1 hw hS
end EST2
end
section
theorem lk_M40 : lkS R_M 40 y_M_within b_M_within 3 (some .boolean) 3 := ⟨wg_i (by decide +kernel), wg_i (by decide +kernel), wg_i (by decide +kernel), wg_i (by decide +kernel), by decide +kernel⟩
theorem lk_M44 : lkV R_M 44 R_M y_M_lowest b_M_lowest 4 (some .int) 0 := ⟨wg_i (by decide +kernel), wg_i (by decide +kernel), wg_i (by decide +kernel), wg_i (by decide +kernel), wg_i (by decide +kernel), by decide +kernel⟩
theorem lk_M48 : lkS R_M 48 y_M_isWord b_M_isWord 2 (some .boolean) 2 := ⟨wg_i (by decide +kernel), wg_i (by decide +kernel), wg_i (by decide +kernel), wg_i (by decide +kernel), by decide +kernel⟩
theorem lk_M52 : lkV R_M 52 R_M y_M_sharers b_M_sharers 5 (some .int) 2 := ⟨wg_i (by decide +kernel), wg_i (by decide +kernel), wg_i (by decide +kernel), wg_i (by decide +kernel), wg_i (by decide +kernel), by decide +kernel⟩
theorem lk_M56 : lkV R_M 56 R_M y_M_usedCopies b_M_usedCopies 3 (some .int) 0 := ⟨wg_i (by decide +kernel), wg_i (by decide +kernel), wg_i (by decide +kernel), wg_i (by decide +kernel), wg_i (by decide +kernel), by decide +kernel⟩
theorem lk_M59 : lkV R_M 59 R_M y_M_lasts b_M_lasts 2 (some .boolean) 1 := ⟨wg_i (by decide +kernel), wg_i (by decide +kernel), wg_i (by decide +kernel), wg_i (by decide +kernel), wg_i (by decide +kernel), by decide +kernel⟩
theorem lk_M63 : lkV R_M 63 R_M y_M_part b_M_part 6 none 3 := ⟨wg_i (by decide +kernel), wg_i (by decide +kernel), wg_i (by decide +kernel), wg_i (by decide +kernel), wg_i (by decide +kernel), by decide +kernel⟩
theorem lk_M67 : lkV R_M 67 R_M y_M_cut b_M_cut 2 (some .int) 0 := ⟨wg_i (by decide +kernel), wg_i (by decide +kernel), wg_i (by decide +kernel), wg_i (by decide +kernel), wg_i (by decide +kernel), by decide +kernel⟩
theorem lk_M70 : lkV R_M 70 R_M y_M_isSnapshot b_M_isSnapshot 2 (some .boolean) 1 := ⟨wg_i (by decide +kernel), wg_i (by decide +kernel), wg_i (by decide +kernel), wg_i (by decide +kernel), wg_i (by decide +kernel), by decide +kernel⟩
theorem lk_M73 : lkV R_M 73 R_M y_M_has b_M_has 3 (some .boolean) 2 := ⟨wg_i (by decide +kernel), wg_i (by decide +kernel), wg_i (by decide +kernel), wg_i (by decide +kernel), wg_i (by decide +kernel), by decide +kernel⟩
theorem lk_M76 : lkV R_M 76 R_M y_M_restore b_M_restore 4 none 2 := ⟨wg_i (by decide +kernel), wg_i (by decide +kernel), wg_i (by decide +kernel), wg_i (by decide +kernel), wg_i (by decide +kernel), by decide +kernel⟩
theorem lk_M80 : lkV R_M 80 R_M y_M_writesFrom b_M_writesFrom 5 (some .int) 2 := ⟨wg_i (by decide +kernel), wg_i (by decide +kernel), wg_i (by decide +kernel), wg_i (by decide +kernel), wg_i (by decide +kernel), by decide +kernel⟩
theorem lk_M83 : lkV R_M 83 R_M y_M_restoreFrom b_M_restoreFrom 5 (some .int) 2 := ⟨wg_i (by decide +kernel), wg_i (by decide +kernel), wg_i (by decide +kernel), wg_i (by decide +kernel), wg_i (by decide +kernel), by decide +kernel⟩
end
section
set_option maxHeartbeats 4000000 in
/-- SnapshotVolumeModel.within, from 0 on -/
theorem c_M_within (l : Launch) (sz : Nat) (v : Int32) (n : Nat) (hn : n + 1 < 2 ^ 31) : stMi l sz y_M_within (.code y_M_within b_M_within 3 (some .boolean)) (rmL 0) [.int v, .int (nI 0), .int (nI n)] (fun r => r = bI (ixI v (n + 1)).isSome) := by
  refine st_mi (own := R_M) (by decide) rfl (Nat.le_of_ble_eq_true rfl) ?_
  intro p e s m args below meth c C hr hsz ls hl
  have hl : lv_has ls 3 [(0, .int v), (1, .int (nI 0)), (2, .int (nI n))] := hl
  refine lv_iload_n C.1 C.2.1 d_M_within_0 rfl (lv_at hl 0 rfl) ?_
  refine lv_iload_n C.1 C.2.1 d_M_within_1 rfl (lv_at hl 1 rfl) ?_
  refine lv_icmp_lt (x := v) (y := nI 0) (tgt := 14) C.1 C.2.1 d_M_within_2 (by decide) (fun q2 => ?_) (fun q2 => ?_)
  · refine lv_iconst (v := nI 0) C.1 C.2.1 d_M_within_14 (by decide) ?_
    exact st_rz (b := false) C hr (by rw [ixI_lo q2]; rfl) d_M_within_15
  · refine lv_iload_n C.1 C.2.1 d_M_within_5 rfl (lv_at hl 0 rfl) ?_
    refine lv_iload_n C.1 C.2.1 d_M_within_6 rfl (lv_at hl 2 rfl) ?_
    refine lv_icmp_gt (x := v) (y := nI n) (tgt := 14) C.1 C.2.1 d_M_within_7 (by decide) (fun q7 => ?_) (fun q7 => ?_)
    · refine lv_iconst (v := nI 0) C.1 C.2.1 d_M_within_14 (by decide) ?_
      exact st_rz (b := false) C hr (by rw [ixI_up hn q7]) d_M_within_15
    · refine lv_iconst (v := nI 1) C.1 C.2.1 d_M_within_10 (by decide) ?_
      refine lv_goto (tgt := 15) C.1 C.2.1 d_M_within_11 (by decide) ?_
      exact st_rz (b := true) C hr (by rw [ixI_in hn q2 q7]) d_M_within_15
set_option maxHeartbeats 4000000 in
/-- SnapshotVolumeModel.isWord -/
theorem c_M_isWord (l : Launch) (sz : Nat) (x y : Int32) : stMi l sz y_M_isWord (.code y_M_isWord b_M_isWord 2 (some .boolean)) (rmL 1) [.int x, .int y] (fun r => r = bI ((ixI x 6).isSome && (ixI y 4).isSome)) := by
  refine st_mi (own := R_M) (by decide) rfl (Nat.le_of_ble_eq_true rfl) ?_
  intro p e s m args below meth c C hr hsz ls hl
  have hl : lv_has ls 2 [(0, .int x), (1, .int y)] := hl
  refine lv_iload_n C.1 C.2.1 d_M_isWord_0 rfl (lv_at hl 0 rfl) ?_
  refine lv_iconst (v := nI 0) C.1 C.2.1 d_M_isWord_1 (by decide) ?_
  refine lv_iconst (v := nI 5) C.1 C.2.1 d_M_isWord_2 (by decide) ?_
  refine st_cs C va_S.rf hsz (c_M_within l _ x 5 (by decide)) lk_M40 rfl rfl ⟨by decide, by decide⟩ ⟨Nat.zero_le _, Nat.zero_le _⟩ rfl hl.1 (rest := []) rfl (Nat.le_of_ble_eq_true rfl) d_M_isWord_3 (fun r H locs w3 hS => ?_)
  subst w3
  refine n_ifeq (b := (ixI x 6).isSome) (tgt := 22) C.1 C.2.1 d_M_isWord_6 (by decide) (fun q6 => ?_) (fun q6 => ?_)
  · refine lv_iconst (v := nI 0) C.1 C.2.1 d_M_isWord_22 (by decide) ?_
    exact st_rz' (b := false) C hr hS (by rw [q6]; rfl) d_M_isWord_23
  · refine lv_iload_n C.1 C.2.1 d_M_isWord_9 rfl (lv_at hl 1 rfl) ?_
    refine lv_iconst (v := nI 0) C.1 C.2.1 d_M_isWord_10 (by decide) ?_
    refine lv_iconst (v := nI 3) C.1 C.2.1 d_M_isWord_11 (by decide) ?_
    refine st_cs C hS hsz (c_M_within l _ y 3 (by decide)) lk_M40 rfl rfl ⟨by decide, by decide⟩ ⟨Nat.zero_le _, Nat.zero_le _⟩ rfl hl.1 (rest := []) rfl (Nat.le_of_ble_eq_true rfl) d_M_isWord_12 (fun r H locs w12 hS => ?_)
    subst w12
    refine n_ifeq (b := (ixI y 4).isSome) (tgt := 22) C.1 C.2.1 d_M_isWord_15 (by decide) (fun q15 => ?_) (fun q15 => ?_)
    · refine lv_iconst (v := nI 0) C.1 C.2.1 d_M_isWord_22 (by decide) ?_
      exact st_rz' (b := false) C hr hS (by rw [q6, q15]; rfl) d_M_isWord_23
    · refine lv_iconst (v := nI 1) C.1 C.2.1 d_M_isWord_18 (by decide) ?_
      refine lv_goto (tgt := 23) C.1 C.2.1 d_M_isWord_19 (by decide) ?_
      exact st_rz' (b := true) C hr hS (by rw [q6, q15]; rfl) d_M_isWord_23
end
section
set_option maxHeartbeats 4000000 in
set_option maxRecDepth 100000 in
/-- R_M.thrown -/
theorem c_M_thrown (l : Launch) (D : va_G) (cA : Nat → ClassId) (h : Nat → Nat) (sz : Nat) (co : Nat) (dn : Bool) (fu : Option Nat) (ct : Nat) (vo : (Nat → Int32)) (wo : (Nat → Int32)) (th : (Nat → Bool)) (ow : (Nat → Nat)) (ba : Nat) (mr : Nat)  : smMi l D cA h (co, dn, fu, ct, vo, wo, th, ow, ba, mr) sz y_M_thrown (.code y_M_thrown b_M_thrown 1 (some .int)) (rmL 0) [] (fun r u' => r = nI (co) ∧ u' = (co, dn, fu, ct, vo, wo, th, ow, ba, mr)) := by
  refine sm_mi (by decide) rfl (Nat.le_of_ble_eq_true rfl) ?_
  intro p e s m args below meth c C hr hsz I ls hl
  generalize smA cA h (co, dn, fu, ct, vo, wo, th, ow, ba, mr) sz = A at I ⊢
  have hl : lv_has ls 1 [(0, .ref (h 0))] := hl
  refine lv_aload_n C.1 C.2.1 d_M_thrown_0 rfl (lv_at hl 0 rfl) ?_
  refine sm_g0 C I d_M_thrown_1 ?_
  exact sm_ri (v := nI co) C hr I ⟨congrArg nI rfl, rfl⟩ d_M_thrown_4
set_option maxHeartbeats 4000000 in
set_option maxRecDepth 100000 in
/-- R_M.isSnapshot -/
theorem c_M_isSnapshot (l : Launch) (D : va_G) (cA : Nat → ClassId) (h : Nat → Nat) (sz : Nat) (co : Nat) (dn : Bool) (fu : Option Nat) (ct : Nat) (vo : (Nat → Int32)) (wo : (Nat → Int32)) (th : (Nat → Bool)) (ow : (Nat → Nat)) (ba : Nat) (mr : Nat) (x : Int32) : smMi l D cA h (co, dn, fu, ct, vo, wo, th, ow, ba, mr) sz y_M_isSnapshot (.code y_M_isSnapshot b_M_isSnapshot 2 (some .boolean)) (rmL 1) [.int x] (fun r u' => r = bI ((mHasS th x).isSome) ∧ u' = (co, dn, fu, ct, vo, wo, th, ow, ba, mr)) := by
  refine sm_mi (by decide) rfl (Nat.le_of_ble_eq_true rfl) ?_
  intro p e s m args below meth c C hr hsz I ls hl
  generalize smA cA h (co, dn, fu, ct, vo, wo, th, ow, ba, mr) sz = A at I ⊢
  have hl : lv_has ls 2 [(0, .ref (h 0)), (1, .int x)] := hl
  refine lv_iload_n C.1 C.2.1 d_M_isSnapshot_0 rfl (lv_at hl 1 rfl) ?_
  refine lv_iconst (v := nI 0) C.1 C.2.1 d_M_isSnapshot_1 (by decide) ?_
  refine lv_iconst (v := nI 2) C.1 C.2.1 d_M_isSnapshot_2 (by decide) ?_
  refine sm_cs C I (c_M_within l _ x 2 (by decide)) lk_M40 rfl rfl ⟨by decide, by decide⟩ ⟨Nat.zero_le _, Nat.zero_le _⟩ rfl hl.1 (rest := []) rfl (Nat.le_of_ble_eq_true rfl) d_M_isSnapshot_3 (fun r H locs w3 I => ?_)
  subst w3
  refine n_ifeq (b := (ixI x 3).isSome) (tgt := 22) C.1 C.2.1 d_M_isSnapshot_6 (by decide) (fun q6 => ?_) (fun q6 => ?_)
  · refine lv_iconst (v := nI 0) C.1 C.2.1 d_M_isSnapshot_22 (by decide) ?_
    exact sm_rz (b := false) C hr I ⟨congrArg bI (by first | (unfold mHasS; rw [none_of q6]; rfl) | (rw [mHasS_n hk, q15]; rfl)), rfl⟩ d_M_isSnapshot_23
  · obtain ⟨k, hk, rfl⟩ := isS_in q6
    refine lv_aload_n C.1 C.2.1 d_M_isSnapshot_9 rfl (lv_at hl 0 rfl) ?_
    refine sm_g6 C I d_M_isSnapshot_10 ?_
    refine lv_iload_n C.1 C.2.1 d_M_isSnapshot_13 rfl (lv_at hl 1 rfl) ?_
    refine sm_l3 C I (k := k) (by omega) d_M_isSnapshot_14 ?_
    refine n_ifeq (b := (th k)) (tgt := 22) C.1 C.2.1 d_M_isSnapshot_15 (by decide) (fun q15 => ?_) (fun q15 => ?_)
    · refine lv_iconst (v := nI 0) C.1 C.2.1 d_M_isSnapshot_22 (by decide) ?_
      exact sm_rz (b := false) C hr I ⟨congrArg bI (by first | (unfold mHasS; rw [none_of q6]; rfl) | (rw [mHasS_n hk, q15]; rfl)), rfl⟩ d_M_isSnapshot_23
    · refine lv_iconst (v := nI 1) C.1 C.2.1 d_M_isSnapshot_18 (by decide) ?_
      refine lv_goto (tgt := 23) C.1 C.2.1 d_M_isSnapshot_19 (by decide) ?_
      exact sm_rz (b := true) C hr I ⟨congrArg bI (by first | (unfold mHasS; rw [none_of q6]; rfl) | (rw [mHasS_n hk, q15]; rfl)), rfl⟩ d_M_isSnapshot_23
set_option maxHeartbeats 4000000 in
set_option maxRecDepth 100000 in
theorem lp_M_usedCopies_4 {p : Program} {l : Launch} {e : Env} {s : State} {m : MethodId} {args : Array Value} {below : List Frame} {meth : Method} {c : Code} {D : va_G} {cA : Nat → ClassId} {A : Nat → Prop} {h : Nat → Nat} {co : Nat} {dn : Bool} {fu : Option Nat} {ct : Nat} {vo : (Nat → Int32)} {wo : (Nat → Int32)} {th : (Nat → Bool)} {ow : (Nat → Nat)} {ba : Nat} {mr : Nat} (C : gC p s m args meth c b_M_usedCopies 3 R_M) (hr : meth.sig.returnType = (some .int)) (how : oB th ow)   : ∀ (fuel : Nat) (i : Nat) (a : Nat), 18 - i < fuel → i ≤ 18 → a = cnt (fun k => th (k / 6) && decide (0 < ow k)) i → ∀ (H : Heap) (locs : List Loc), smI D cA A s h (co, dn, fu, ct, vo, wo, th, ow, ba, mr) H locs → ∀ (ls : Array Slot), lv_has ls 3 [(0, .ref (h 0)), (1, .int (nI a)), (2, .int (nI i))] → W p l e (rmL 0) s m args below meth c H locs 0 0 (MQ below (va_Qi (fun r u' => r = nI (mUsed th ow) ∧ u' = (co, dn, fu, ct, vo, wo, th, ow, ba, mr)) (smAt D cA A h) A) args s 0 0 A) (F0 m 4 ls []) := by
  intro fuel
  induction fuel with
  | zero =>
    intro _ _ hfuel
    exact absurd hfuel (Nat.not_lt_zero _)
  | succ fuel ih =>
    intro i a hfuel hi ha H locs I ls hl
    subst ha
    refine lv_iload_n C.1 C.2.1 d_M_usedCopies_4 rfl (lv_at hl 2 rfl) ?_
    refine lv_bipush (v := nI 18) C.1 C.2.1 d_M_usedCopies_5 (by decide) ?_
    refine n_icmp_ge C.1 C.2.1 (a := i) (b := 18) (tgt := 45) (by omega) (by omega) d_M_usedCopies_7 (by decide) (fun q7 => ?_) (fun q7 => ?_)
    · refine lv_iload_n C.1 C.2.1 d_M_usedCopies_45 rfl (lv_at hl 1 rfl) ?_
      exact sm_ri (v := nI (cnt (fun k => th (k / 6) && decide (0 < ow k)) i)) C hr I ⟨congrArg nI (by rw [show i = 18 by omega]; rfl), rfl⟩ d_M_usedCopies_46
    · refine lv_aload_n C.1 C.2.1 d_M_usedCopies_10 rfl (lv_at hl 0 rfl) ?_
      refine sm_g6 C I d_M_usedCopies_11 ?_
      refine lv_iload_n C.1 C.2.1 d_M_usedCopies_14 rfl (lv_at hl 2 rfl) ?_
      refine lv_bipush (v := nI 6) C.1 C.2.1 d_M_usedCopies_15 (by decide) ?_
      refine n_idiv C.1 C.2.1 (a := i) (b := 6) (by omega) (by omega) (by omega) d_M_usedCopies_17 ?_
      refine sm_l3 C I (k := i / 6) (by omega) d_M_usedCopies_18 ?_
      refine n_ifeq (b := (th (i / 6))) (tgt := 37) C.1 C.2.1 d_M_usedCopies_19 (by decide) (fun q19 => ?_) (fun q19 => ?_)
      · refine lv_iload_n C.1 C.2.1 d_M_usedCopies_37 rfl (lv_at hl 1 rfl) ?_
        refine lv_istore_n (lv' := [(1, .int (nI (cnt (fun k => th (k / 6) && decide (0 < ow k)) i))), (0, .ref (h 0)), (2, .int (nI i))]) C.1 C.2.1 d_M_usedCopies_38 rfl hl (by decide) rfl (fun ls hl => ?_)
        refine lv_iinc (v := nI (i + 1)) (lv' := [(2, .int (nI (i + 1))), (1, .int (nI (cnt (fun k => th (k / 6) && decide (0 < ow k)) i))), (0, .ref (h 0))]) C.1 C.2.1 d_M_usedCopies_39 hl (k := 2) rfl (by rw [show nI (i + 1) = nI i + nI 1 from (nI_add _ _).symm]; rfl) (by decide) rfl (fun ls hl => ?_)
        refine lv_goto (tgt := 4) C.1 C.2.1 d_M_usedCopies_42 (by decide) ?_
        exact ih (i + 1) (cnt (fun k => th (k / 6) && decide (0 < ow k)) i) (by omega) (by omega) (by first | exact (cnt_y (by show (th (i / 6) && decide (0 < ow i)) = true; rw [q19, decide_eq_true (show 0 < ow i by omega)]; rfl)).symm | exact (cnt_s (by show (th (i / 6) && decide (0 < ow i)) = false; rw [decide_eq_false (show ¬ 0 < ow i by omega)]; exact Bool.and_false _)).symm | exact (cnt_s (by show (th (i / 6) && decide (0 < ow i)) = false; rw [q19]; rfl)).symm) _ _ I ls (lv_sub hl [2, 1, 0] rfl)
      · refine lv_aload_n C.1 C.2.1 d_M_usedCopies_22 rfl (lv_at hl 0 rfl) ?_
        refine sm_g7 C I d_M_usedCopies_23 ?_
        refine lv_iload_n C.1 C.2.1 d_M_usedCopies_26 rfl (lv_at hl 2 rfl) ?_
        refine sm_l4 C I (k := i) (by omega) d_M_usedCopies_27 ?_
        have hw := how i (by omega) q19
        refine n_ifz_le (a := (ow i)) (tgt := 37) C.1 C.2.1 (by omega) d_M_usedCopies_28 (by decide) (fun q28 => ?_) (fun q28 => ?_)
        · refine lv_iload_n C.1 C.2.1 d_M_usedCopies_37 rfl (lv_at hl 1 rfl) ?_
          refine lv_istore_n (lv' := [(1, .int (nI (cnt (fun k => th (k / 6) && decide (0 < ow k)) i))), (0, .ref (h 0)), (2, .int (nI i))]) C.1 C.2.1 d_M_usedCopies_38 rfl hl (by decide) rfl (fun ls hl => ?_)
          refine lv_iinc (v := nI (i + 1)) (lv' := [(2, .int (nI (i + 1))), (1, .int (nI (cnt (fun k => th (k / 6) && decide (0 < ow k)) i))), (0, .ref (h 0))]) C.1 C.2.1 d_M_usedCopies_39 hl (k := 2) rfl (by rw [show nI (i + 1) = nI i + nI 1 from (nI_add _ _).symm]; rfl) (by decide) rfl (fun ls hl => ?_)
          refine lv_goto (tgt := 4) C.1 C.2.1 d_M_usedCopies_42 (by decide) ?_
          exact ih (i + 1) (cnt (fun k => th (k / 6) && decide (0 < ow k)) i) (by omega) (by omega) (by first | exact (cnt_y (by show (th (i / 6) && decide (0 < ow i)) = true; rw [q19, decide_eq_true (show 0 < ow i by omega)]; rfl)).symm | exact (cnt_s (by show (th (i / 6) && decide (0 < ow i)) = false; rw [decide_eq_false (show ¬ 0 < ow i by omega)]; exact Bool.and_false _)).symm | exact (cnt_s (by show (th (i / 6) && decide (0 < ow i)) = false; rw [q19]; rfl)).symm) _ _ I ls (lv_sub hl [2, 1, 0] rfl)
        · refine lv_iload_n C.1 C.2.1 d_M_usedCopies_31 rfl (lv_at hl 1 rfl) ?_
          refine lv_iconst (v := nI 1) C.1 C.2.1 d_M_usedCopies_32 (by decide) ?_
          refine n_iadd C.1 C.2.1 (a := cnt (fun k => th (k / 6) && decide (0 < ow k)) i) (b := 1) d_M_usedCopies_33 ?_
          refine lv_goto (tgt := 38) C.1 C.2.1 d_M_usedCopies_34 (by decide) ?_
          refine lv_istore_n (lv' := [(1, .int (nI ((cnt (fun k => th (k / 6) && decide (0 < ow k)) i) + 1))), (0, .ref (h 0)), (2, .int (nI i))]) C.1 C.2.1 d_M_usedCopies_38 rfl hl (by decide) rfl (fun ls hl => ?_)
          refine lv_iinc (v := nI (i + 1)) (lv' := [(2, .int (nI (i + 1))), (1, .int (nI ((cnt (fun k => th (k / 6) && decide (0 < ow k)) i) + 1))), (0, .ref (h 0))]) C.1 C.2.1 d_M_usedCopies_39 hl (k := 2) rfl (by rw [show nI (i + 1) = nI i + nI 1 from (nI_add _ _).symm]; rfl) (by decide) rfl (fun ls hl => ?_)
          refine lv_goto (tgt := 4) C.1 C.2.1 d_M_usedCopies_42 (by decide) ?_
          exact ih (i + 1) ((cnt (fun k => th (k / 6) && decide (0 < ow k)) i) + 1) (by omega) (by omega) (by first | exact (cnt_y (by show (th (i / 6) && decide (0 < ow i)) = true; rw [q19, decide_eq_true (show 0 < ow i by omega)]; rfl)).symm | exact (cnt_s (by show (th (i / 6) && decide (0 < ow i)) = false; rw [decide_eq_false (show ¬ 0 < ow i by omega)]; exact Bool.and_false _)).symm | exact (cnt_s (by show (th (i / 6) && decide (0 < ow i)) = false; rw [q19]; rfl)).symm) _ _ I ls (lv_sub hl [2, 1, 0] rfl)
set_option maxHeartbeats 4000000 in
set_option maxRecDepth 100000 in
/-- R_M.usedCopies -/
theorem c_M_usedCopies (l : Launch) (D : va_G) (cA : Nat → ClassId) (h : Nat → Nat) (sz : Nat) (co : Nat) (dn : Bool) (fu : Option Nat) (ct : Nat) (vo : (Nat → Int32)) (wo : (Nat → Int32)) (th : (Nat → Bool)) (ow : (Nat → Nat)) (ba : Nat) (mr : Nat) (how : oB th ow) : smMi l D cA h (co, dn, fu, ct, vo, wo, th, ow, ba, mr) sz y_M_usedCopies (.code y_M_usedCopies b_M_usedCopies 3 (some .int)) (rmL 0) [] (fun r u' => r = nI (mUsed th ow) ∧ u' = (co, dn, fu, ct, vo, wo, th, ow, ba, mr)) := by
  refine sm_mi (by decide) rfl (Nat.le_of_ble_eq_true rfl) ?_
  intro p e s m args below meth c C hr hsz I ls hl
  generalize smA cA h (co, dn, fu, ct, vo, wo, th, ow, ba, mr) sz = A at I ⊢
  have hl : lv_has ls 3 [(0, .ref (h 0))] := hl
  refine lv_iconst (v := nI 0) C.1 C.2.1 d_M_usedCopies_0 (by decide) ?_
  refine lv_istore_n (lv' := [(1, .int (nI 0)), (0, .ref (h 0))]) C.1 C.2.1 d_M_usedCopies_1 rfl hl (by decide) rfl (fun ls hl => ?_)
  refine lv_iconst (v := nI 0) C.1 C.2.1 d_M_usedCopies_2 (by decide) ?_
  refine lv_istore_n (lv' := [(2, .int (nI 0)), (1, .int (nI 0)), (0, .ref (h 0))]) C.1 C.2.1 d_M_usedCopies_3 rfl hl (by decide) rfl (fun ls hl => ?_)
  exact lp_M_usedCopies_4 C hr how  _ 0 0 (Nat.lt_succ_self _) (by omega) rfl _ _ I ls (lv_sub hl [2, 1, 0] rfl)
set_option maxHeartbeats 4000000 in
set_option maxRecDepth 100000 in
theorem lp_M_lowest_12 {p : Program} {l : Launch} {e : Env} {s : State} {m : MethodId} {args : Array Value} {below : List Frame} {meth : Method} {c : Code} {D : va_G} {cA : Nat → ClassId} {A : Nat → Prop} {h : Nat → Nat} {co : Nat} {dn : Bool} {fu : Option Nat} {ct : Nat} {vo : (Nat → Int32)} {wo : (Nat → Int32)} {th : (Nat → Bool)} {ow : (Nat → Nat)} {ba : Nat} {mr : Nat} (C : gC p s m args meth c b_M_lowest 4 R_M) (hr : meth.sig.returnType = (some .int)) (how : oB th ow) (c1 : Nat) (hc1 : c1 ≤ 10) (kk : ∀ (tk : Bool), tk = mTkn th ow c1 → ∀ (H : Heap) (locs : List Loc), smI D cA A s h (co, dn, fu, ct, vo, wo, th, ow, ba, mr) H locs → ∀ (ls : Array Slot), lv_has ls 4 [(0, .ref (h 0)), (1, .int (nI c1)), (2, .int (bI tk))] → W p l e (rmL 0) s m args below meth c H locs 0 0 (MQ below (va_Qi (fun r u' => r = nI (mLow th ow) ∧ u' = (co, dn, fu, ct, vo, wo, th, ow, ba, mr)) (smAt D cA A h) A) args s 0 0 A) (F0 m 56 ls [])) : ∀ (fuel : Nat) (k : Nat) (tk : Bool), 18 - k < fuel → k ≤ 18 → tk = (List.range k).any (fun k => th (k / 6) && decide (ow k = c1)) → ∀ (H : Heap) (locs : List Loc), smI D cA A s h (co, dn, fu, ct, vo, wo, th, ow, ba, mr) H locs → ∀ (ls : Array Slot), lv_has ls 4 [(0, .ref (h 0)), (1, .int (nI c1)), (2, .int (bI tk)), (3, .int (nI k))] → W p l e (rmL 0) s m args below meth c H locs 0 0 (MQ below (va_Qi (fun r u' => r = nI (mLow th ow) ∧ u' = (co, dn, fu, ct, vo, wo, th, ow, ba, mr)) (smAt D cA A h) A) args s 0 0 A) (F0 m 12 ls []) := by
  intro fuel
  induction fuel with
  | zero =>
    intro _ _ hfuel
    exact absurd hfuel (Nat.not_lt_zero _)
  | succ fuel ih =>
    intro k tk hfuel hi ht H locs I ls hl
    refine lv_iload_n C.1 C.2.1 d_M_lowest_12 rfl (lv_at hl 3 rfl) ?_
    refine lv_bipush (v := nI 18) C.1 C.2.1 d_M_lowest_13 (by decide) ?_
    refine n_icmp_ge C.1 C.2.1 (a := k) (b := 18) (tgt := 56) (by omega) (by omega) d_M_lowest_15 (by decide) (fun q15 => ?_) (fun q15 => ?_)
    · exact kk tk (by rw [ht, show k = 18 by omega]; rfl) _ _ I ls (lv_sub hl [0, 1, 2] rfl)
    · refine lv_iload_n C.1 C.2.1 d_M_lowest_18 rfl (lv_at hl 2 rfl) ?_
      refine n_ifne (b := tk) (tgt := 44) C.1 C.2.1 d_M_lowest_19 (by decide) (fun q19 => ?_) (fun q19 => ?_)
      · refine lv_iconst (v := nI 1) C.1 C.2.1 d_M_lowest_44 (by decide) ?_
        refine lv_goto (tgt := 49) C.1 C.2.1 d_M_lowest_45 (by decide) ?_
        refine lv_istore_n (lv' := [(2, .int (nI 1)), (0, .ref (h 0)), (1, .int (nI c1)), (3, .int (nI k))]) C.1 C.2.1 d_M_lowest_49 rfl hl (by decide) rfl (fun ls hl => ?_)
        refine lv_iinc (v := nI (k + 1)) (lv' := [(3, .int (nI (k + 1))), (2, .int (nI 1)), (0, .ref (h 0)), (1, .int (nI c1))]) C.1 C.2.1 d_M_lowest_50 hl (k := 3) rfl (by rw [show nI (k + 1) = nI k + nI 1 from (nI_add _ _).symm]; rfl) (by decide) rfl (fun ls hl => ?_)
        refine lv_goto (tgt := 12) C.1 C.2.1 d_M_lowest_53 (by decide) ?_
        exact ih (k + 1) true (by omega) (by omega) (by first | exact any_t (Or.inl (ht.symm.trans q19)) | exact any_t (Or.inr (by show (th (k / 6) && decide (ow k = c1)) = true; rw [q31, decide_eq_true q41]; rfl)) | exact any_f (ht.symm.trans q19) (by show (th (k / 6) && decide (ow k = c1)) = false; first | (rw [decide_eq_false q41]; exact Bool.and_false _) | (rw [q31]; rfl))) _ _ I ls (lv_sub hl [2, 3, 1, 0] rfl)
      · refine lv_aload_n C.1 C.2.1 d_M_lowest_22 rfl (lv_at hl 0 rfl) ?_
        refine sm_g6 C I d_M_lowest_23 ?_
        refine lv_iload_n C.1 C.2.1 d_M_lowest_26 rfl (lv_at hl 3 rfl) ?_
        refine lv_bipush (v := nI 6) C.1 C.2.1 d_M_lowest_27 (by decide) ?_
        refine n_idiv C.1 C.2.1 (a := k) (b := 6) (by omega) (by omega) (by omega) d_M_lowest_29 ?_
        refine sm_l3 C I (k := k / 6) (by omega) d_M_lowest_30 ?_
        refine n_ifeq (b := (th (k / 6))) (tgt := 48) C.1 C.2.1 d_M_lowest_31 (by decide) (fun q31 => ?_) (fun q31 => ?_)
        · refine lv_iconst (v := nI 0) C.1 C.2.1 d_M_lowest_48 (by decide) ?_
          refine lv_istore_n (lv' := [(2, .int (nI 0)), (0, .ref (h 0)), (1, .int (nI c1)), (3, .int (nI k))]) C.1 C.2.1 d_M_lowest_49 rfl hl (by decide) rfl (fun ls hl => ?_)
          refine lv_iinc (v := nI (k + 1)) (lv' := [(3, .int (nI (k + 1))), (2, .int (nI 0)), (0, .ref (h 0)), (1, .int (nI c1))]) C.1 C.2.1 d_M_lowest_50 hl (k := 3) rfl (by rw [show nI (k + 1) = nI k + nI 1 from (nI_add _ _).symm]; rfl) (by decide) rfl (fun ls hl => ?_)
          refine lv_goto (tgt := 12) C.1 C.2.1 d_M_lowest_53 (by decide) ?_
          exact ih (k + 1) false (by omega) (by omega) (by first | exact any_t (Or.inl (ht.symm.trans q19)) | exact any_t (Or.inr (by show (th (k / 6) && decide (ow k = c1)) = true; rw [q31, decide_eq_true q41]; rfl)) | exact any_f (ht.symm.trans q19) (by show (th (k / 6) && decide (ow k = c1)) = false; first | (rw [decide_eq_false q41]; exact Bool.and_false _) | (rw [q31]; rfl))) _ _ I ls (lv_sub hl [2, 3, 1, 0] rfl)
        · refine lv_aload_n C.1 C.2.1 d_M_lowest_34 rfl (lv_at hl 0 rfl) ?_
          refine sm_g7 C I d_M_lowest_35 ?_
          refine lv_iload_n C.1 C.2.1 d_M_lowest_38 rfl (lv_at hl 3 rfl) ?_
          refine sm_l4 C I (k := k) (by omega) d_M_lowest_39 ?_
          have hw := how k (by omega) q31
          refine lv_iload_n C.1 C.2.1 d_M_lowest_40 rfl (lv_at hl 1 rfl) ?_
          refine n_icmp_ne C.1 C.2.1 (a := (ow k)) (b := c1) (tgt := 48) (by omega) (by omega) d_M_lowest_41 (by decide) (fun q41 => ?_) (fun q41 => ?_)
          · refine lv_iconst (v := nI 0) C.1 C.2.1 d_M_lowest_48 (by decide) ?_
            refine lv_istore_n (lv' := [(2, .int (nI 0)), (0, .ref (h 0)), (1, .int (nI c1)), (3, .int (nI k))]) C.1 C.2.1 d_M_lowest_49 rfl hl (by decide) rfl (fun ls hl => ?_)
            refine lv_iinc (v := nI (k + 1)) (lv' := [(3, .int (nI (k + 1))), (2, .int (nI 0)), (0, .ref (h 0)), (1, .int (nI c1))]) C.1 C.2.1 d_M_lowest_50 hl (k := 3) rfl (by rw [show nI (k + 1) = nI k + nI 1 from (nI_add _ _).symm]; rfl) (by decide) rfl (fun ls hl => ?_)
            refine lv_goto (tgt := 12) C.1 C.2.1 d_M_lowest_53 (by decide) ?_
            exact ih (k + 1) false (by omega) (by omega) (by first | exact any_t (Or.inl (ht.symm.trans q19)) | exact any_t (Or.inr (by show (th (k / 6) && decide (ow k = c1)) = true; rw [q31, decide_eq_true q41]; rfl)) | exact any_f (ht.symm.trans q19) (by show (th (k / 6) && decide (ow k = c1)) = false; first | (rw [decide_eq_false q41]; exact Bool.and_false _) | (rw [q31]; rfl))) _ _ I ls (lv_sub hl [2, 3, 1, 0] rfl)
          · refine lv_iconst (v := nI 1) C.1 C.2.1 d_M_lowest_44 (by decide) ?_
            refine lv_goto (tgt := 49) C.1 C.2.1 d_M_lowest_45 (by decide) ?_
            refine lv_istore_n (lv' := [(2, .int (nI 1)), (0, .ref (h 0)), (1, .int (nI c1)), (3, .int (nI k))]) C.1 C.2.1 d_M_lowest_49 rfl hl (by decide) rfl (fun ls hl => ?_)
            refine lv_iinc (v := nI (k + 1)) (lv' := [(3, .int (nI (k + 1))), (2, .int (nI 1)), (0, .ref (h 0)), (1, .int (nI c1))]) C.1 C.2.1 d_M_lowest_50 hl (k := 3) rfl (by rw [show nI (k + 1) = nI k + nI 1 from (nI_add _ _).symm]; rfl) (by decide) rfl (fun ls hl => ?_)
            refine lv_goto (tgt := 12) C.1 C.2.1 d_M_lowest_53 (by decide) ?_
            exact ih (k + 1) true (by omega) (by omega) (by first | exact any_t (Or.inl (ht.symm.trans q19)) | exact any_t (Or.inr (by show (th (k / 6) && decide (ow k = c1)) = true; rw [q31, decide_eq_true q41]; rfl)) | exact any_f (ht.symm.trans q19) (by show (th (k / 6) && decide (ow k = c1)) = false; first | (rw [decide_eq_false q41]; exact Bool.and_false _) | (rw [q31]; rfl))) _ _ I ls (lv_sub hl [2, 3, 1, 0] rfl)
set_option maxHeartbeats 4000000 in
set_option maxRecDepth 100000 in
theorem lp_M_lowest_8 {p : Program} {l : Launch} {e : Env} {s : State} {m : MethodId} {args : Array Value} {below : List Frame} {meth : Method} {c : Code} {D : va_G} {cA : Nat → ClassId} {A : Nat → Prop} {h : Nat → Nat} {co : Nat} {dn : Bool} {fu : Option Nat} {ct : Nat} {vo : (Nat → Int32)} {wo : (Nat → Int32)} {th : (Nat → Bool)} {ow : (Nat → Nat)} {ba : Nat} {mr : Nat} (C : gC p s m args meth c b_M_lowest 4 R_M) (hr : meth.sig.returnType = (some .int)) (how : oB th ow)   : ∀ (fuel : Nat) (c1 : Nat), 11 - c1 < fuel → 1 ≤ c1 → c1 ≤ 10 → mLow th ow = (fst (fun c => ! mTkn th ow c) (11 - c1) c1).getD 0 → ∀ (H : Heap) (locs : List Loc), smI D cA A s h (co, dn, fu, ct, vo, wo, th, ow, ba, mr) H locs → ∀ (ls : Array Slot), lv_has ls 4 [(0, .ref (h 0)), (1, .int (nI c1))] → W p l e (rmL 0) s m args below meth c H locs 0 0 (MQ below (va_Qi (fun r u' => r = nI (mLow th ow) ∧ u' = (co, dn, fu, ct, vo, wo, th, ow, ba, mr)) (smAt D cA A h) A) args s 0 0 A) (F0 m 8 ls []) := by
  intro fuel
  induction fuel with
  | zero =>
    intro _ hfuel
    exact absurd hfuel (Nat.not_lt_zero _)
  | succ fuel ih =>
    intro c1 hfuel hc0 hc1 hf H locs I ls hl
    refine lv_iconst (v := nI 0) C.1 C.2.1 d_M_lowest_8 (by decide) ?_
    refine lv_istore_n (lv' := [(2, .int (nI 0)), (0, .ref (h 0)), (1, .int (nI c1))]) C.1 C.2.1 d_M_lowest_9 rfl hl (by decide) rfl (fun ls hl => ?_)
    refine lv_iconst (v := nI 0) C.1 C.2.1 d_M_lowest_10 (by decide) ?_
    refine lv_istore_n (lv' := [(3, .int (nI 0)), (2, .int (nI 0)), (0, .ref (h 0)), (1, .int (nI c1))]) C.1 C.2.1 d_M_lowest_11 rfl hl (by decide) rfl (fun ls hl => ?_)
    refine lp_M_lowest_12 C hr how c1 hc1 (fun tk hk H locs I ls hl => ?_) _ 0 false (Nat.lt_succ_self _) (by omega) rfl _ _ I ls (lv_sub hl [2, 3, 1, 0] rfl)
    refine lv_iload_n C.1 C.2.1 d_M_lowest_56 rfl (lv_at hl 2 rfl) ?_
    refine n_ifeq (b := tk) (tgt := 66) C.1 C.2.1 d_M_lowest_57 (by decide) (fun q57 => ?_) (fun q57 => ?_)
    · subst q57
      refine lv_iload_n C.1 C.2.1 d_M_lowest_66 rfl (lv_at hl 1 rfl) ?_
      refine lv_istore_n (lv' := [(1, .int (nI c1)), (0, .ref (h 0)), (2, .int (bI false))]) C.1 C.2.1 d_M_lowest_67 rfl hl (by decide) rfl (fun ls hl => ?_)
      refine lv_goto (tgt := 4) C.1 C.2.1 d_M_lowest_68 (by decide) ?_
      refine lv_iload_n C.1 C.2.1 d_M_lowest_4 rfl (lv_at hl 2 rfl) ?_
      refine n_ifeq (b := false) (tgt := 71) C.1 C.2.1 d_M_lowest_5 (by decide) (fun q5 => ?_) (fun q5 => absurd q5 (by decide))
      refine lv_iload_n C.1 C.2.1 d_M_lowest_71 rfl (lv_at hl 0 rfl) ?_
      exact sm_ri (v := nI c1) C hr I ⟨congrArg nI (by rw [hf, show 11 - c1 = (10 - c1) + 1 by omega, fst_y (show (fun c => ! mTkn th ow c) c1 = true by show (! mTkn th ow c1) = true; rw [← hk]; rfl)]; rfl), rfl⟩ d_M_lowest_72
    · subst q57
      refine lv_iload_n C.1 C.2.1 d_M_lowest_60 rfl (lv_at hl 1 rfl) ?_
      refine lv_iconst (v := nI 1) C.1 C.2.1 d_M_lowest_61 (by decide) ?_
      refine n_iadd C.1 C.2.1 (a := c1) (b := 1) d_M_lowest_62 ?_
      refine lv_goto (tgt := 67) C.1 C.2.1 d_M_lowest_63 (by decide) ?_
      refine lv_istore_n (lv' := [(1, .int (nI (c1 + 1))), (0, .ref (h 0)), (2, .int (bI true))]) C.1 C.2.1 d_M_lowest_67 rfl hl (by decide) rfl (fun ls hl => ?_)
      refine lv_goto (tgt := 4) C.1 C.2.1 d_M_lowest_68 (by decide) ?_
      refine lv_iload_n C.1 C.2.1 d_M_lowest_4 rfl (lv_at hl 2 rfl) ?_
      refine n_ifeq (b := true) (tgt := 71) C.1 C.2.1 d_M_lowest_5 (by decide) (fun q5 => absurd q5 (by decide)) (fun q5 => ?_)
      exact ih (c1 + 1) (by omega) (by omega) (by have : c1 ≠ 10 := fun e => (by rw [e, how.ten] at hk; cases hk); omega) (by rw [hf, show 11 - c1 = (11 - (c1 + 1)) + 1 by omega, fst_s (show (fun c => ! mTkn th ow c) c1 = false by show (! mTkn th ow c1) = false; rw [← hk]; rfl)]) _ _ I ls (lv_sub hl [1, 0] rfl)
set_option maxHeartbeats 4000000 in
set_option maxRecDepth 100000 in
/-- R_M.lowest -/
theorem c_M_lowest (l : Launch) (D : va_G) (cA : Nat → ClassId) (h : Nat → Nat) (sz : Nat) (co : Nat) (dn : Bool) (fu : Option Nat) (ct : Nat) (vo : (Nat → Int32)) (wo : (Nat → Int32)) (th : (Nat → Bool)) (ow : (Nat → Nat)) (ba : Nat) (mr : Nat) (how : oB th ow) : smMi l D cA h (co, dn, fu, ct, vo, wo, th, ow, ba, mr) sz y_M_lowest (.code y_M_lowest b_M_lowest 4 (some .int)) (rmL 0) [] (fun r u' => r = nI (mLow th ow) ∧ u' = (co, dn, fu, ct, vo, wo, th, ow, ba, mr)) := by
  refine sm_mi (by decide) rfl (Nat.le_of_ble_eq_true rfl) ?_
  intro p e s m args below meth c C hr hsz I ls hl
  generalize smA cA h (co, dn, fu, ct, vo, wo, th, ow, ba, mr) sz = A at I ⊢
  have hl : lv_has ls 4 [(0, .ref (h 0))] := hl
  refine lv_iconst (v := nI 1) C.1 C.2.1 d_M_lowest_0 (by decide) ?_
  refine lv_istore_n (lv' := [(1, .int (nI 1)), (0, .ref (h 0))]) C.1 C.2.1 d_M_lowest_1 rfl hl (by decide) rfl (fun ls hl => ?_)
  refine lv_iconst (v := nI 1) C.1 C.2.1 d_M_lowest_2 (by decide) ?_
  refine lv_istore_n (lv' := [(2, .int (nI 1)), (1, .int (nI 1)), (0, .ref (h 0))]) C.1 C.2.1 d_M_lowest_3 rfl hl (by decide) rfl (fun ls hl => ?_)
  refine lv_iload_n C.1 C.2.1 d_M_lowest_4 rfl (lv_at hl 0 rfl) ?_
  refine n_ifz_eq (a := 1) (tgt := 71) C.1 C.2.1 (by omega) d_M_lowest_5 (by decide) (fun q5 => absurd q5 (by omega)) (fun q5 => ?_)
  exact lp_M_lowest_8 C hr how  _ 1 (Nat.lt_succ_self _) (by omega) (by omega) rfl _ _ I ls (lv_sub hl [2, 1] rfl)
set_option maxHeartbeats 4000000 in
set_option maxRecDepth 100000 in
theorem lp_M_sharers_5 {p : Program} {l : Launch} {e : Env} {s : State} {m : MethodId} {args : Array Value} {below : List Frame} {meth : Method} {c : Code} {D : va_G} {cA : Nat → ClassId} {A : Nat → Prop} {h : Nat → Nat} {co : Nat} {dn : Bool} {fu : Option Nat} {ct : Nat} {vo : (Nat → Int32)} {wo : (Nat → Int32)} {th : (Nat → Bool)} {ow : (Nat → Nat)} {ba : Nat} {mr : Nat} (C : gC p s m args meth c b_M_sharers 5 R_M) (hr : meth.sig.returnType = (some .int)) (b0 : Nat) (but0 : Option Nat) (hb0 : b0 < 6) (hbut : ∀ j, but0 = some j → j < 3) (how : oB th ow)   : ∀ (fuel : Nat) (i : Nat) (a : Nat), 3 - i < fuel → i ≤ 3 → a = cnt (mIsS th but0 ow b0) i → ∀ (H : Heap) (locs : List Loc), smI D cA A s h (co, dn, fu, ct, vo, wo, th, ow, ba, mr) H locs → ∀ (ls : Array Slot), lv_has ls 5 [(0, .ref (h 0)), (1, .int (nI b0)), (2, .int (oI but0)), (3, .int (nI a)), (4, .int (nI i))] → W p l e (rmL 0) s m args below meth c H locs 0 0 (MQ below (va_Qi (fun r u' => r = nI (mShr th ow b0 but0) ∧ u' = (co, dn, fu, ct, vo, wo, th, ow, ba, mr)) (smAt D cA A h) A) args s 0 0 A) (F0 m 5 ls []) := by
  intro fuel
  induction fuel with
  | zero =>
    intro _ _ hfuel
    exact absurd hfuel (Nat.not_lt_zero _)
  | succ fuel ih =>
    intro i a hfuel hi ha H locs I ls hl
    subst ha
    refine lv_iload C.1 C.2.1 d_M_sharers_5 (lv_at hl 4 rfl) ?_
    refine lv_iconst (v := nI 3) C.1 C.2.1 d_M_sharers_7 (by decide) ?_
    refine n_icmp_ge C.1 C.2.1 (a := i) (b := 3) (tgt := 56) (by omega) (by omega) d_M_sharers_8 (by decide) (fun q8 => ?_) (fun q8 => ?_)
    · refine lv_iload_n C.1 C.2.1 d_M_sharers_56 rfl (lv_at hl 3 rfl) ?_
      exact sm_ri (v := nI (cnt (mIsS th but0 ow b0) i)) C hr I ⟨congrArg nI (by rw [show i = 3 by omega]; rfl), rfl⟩ d_M_sharers_57
    · refine lv_aload_n C.1 C.2.1 d_M_sharers_11 rfl (lv_at hl 0 rfl) ?_
      refine sm_g6 C I d_M_sharers_12 ?_
      refine lv_iload C.1 C.2.1 d_M_sharers_15 (lv_at hl 4 rfl) ?_
      refine sm_l3 C I (k := i) (by omega) d_M_sharers_17 ?_
      refine n_ifeq (b := (th i)) (tgt := 48) C.1 C.2.1 d_M_sharers_18 (by decide) (fun q18 => ?_) (fun q18 => ?_)
      · refine lv_iload_n C.1 C.2.1 d_M_sharers_48 rfl (lv_at hl 3 rfl) ?_
        refine lv_istore_n (lv' := [(3, .int (nI (cnt (mIsS th but0 ow b0) i))), (0, .ref (h 0)), (1, .int (nI b0)), (2, .int (oI but0)), (4, .int (nI i))]) C.1 C.2.1 d_M_sharers_49 rfl hl (by decide) rfl (fun ls hl => ?_)
        refine lv_iinc (v := nI (i + 1)) (lv' := [(4, .int (nI (i + 1))), (3, .int (nI (cnt (mIsS th but0 ow b0) i))), (0, .ref (h 0)), (1, .int (nI b0)), (2, .int (oI but0))]) C.1 C.2.1 d_M_sharers_50 hl (k := 4) rfl (by rw [show nI (i + 1) = nI i + nI 1 from (nI_add _ _).symm]; rfl) (by decide) rfl (fun ls hl => ?_)
        refine lv_goto (tgt := 5) C.1 C.2.1 d_M_sharers_53 (by decide) ?_
        exact ih (i + 1) (cnt (mIsS th but0 ow b0) i) (by omega) (by omega) (by first | exact (cnt_y (by show (th i && decide (some i ≠ but0) && decide (ow (6 * i + b0) = 0)) = true; rw [q18, decide_eq_true (show some i ≠ but0 from fun z => q24 ((oI_n (by omega) (fun j e => Nat.lt_trans (hbut j e) (by decide))).mpr z.symm)), decide_eq_true (show ow (6 * i + b0) = 0 by omega)]; rfl)).symm | exact (cnt_s (by show (th i && decide (some i ≠ but0) && decide (ow (6 * i + b0) = 0)) = false; first | (rw [q18]; rfl) | (rw [decide_eq_false (fun z => z ((oI_n (by omega) (fun j e => Nat.lt_trans (hbut j e) (by decide))).mp q24).symm)]; simp) | (rw [decide_eq_false (show ¬ ow (6 * i + b0) = 0 by omega)]; exact Bool.and_false _))).symm) _ _ I ls (lv_sub hl [2, 3, 4, 1, 0] rfl)
      · refine lv_iload C.1 C.2.1 d_M_sharers_21 (lv_at hl 4 rfl) ?_
        refine lv_iload_n C.1 C.2.1 d_M_sharers_23 rfl (lv_at hl 2 rfl) ?_
        refine lv_icmp_eq (x := nI i) (y := oI but0) (tgt := 48) C.1 C.2.1 d_M_sharers_24 (by decide) (fun q24 => ?_) (fun q24 => ?_)
        · refine lv_iload_n C.1 C.2.1 d_M_sharers_48 rfl (lv_at hl 3 rfl) ?_
          refine lv_istore_n (lv' := [(3, .int (nI (cnt (mIsS th but0 ow b0) i))), (0, .ref (h 0)), (1, .int (nI b0)), (2, .int (oI but0)), (4, .int (nI i))]) C.1 C.2.1 d_M_sharers_49 rfl hl (by decide) rfl (fun ls hl => ?_)
          refine lv_iinc (v := nI (i + 1)) (lv' := [(4, .int (nI (i + 1))), (3, .int (nI (cnt (mIsS th but0 ow b0) i))), (0, .ref (h 0)), (1, .int (nI b0)), (2, .int (oI but0))]) C.1 C.2.1 d_M_sharers_50 hl (k := 4) rfl (by rw [show nI (i + 1) = nI i + nI 1 from (nI_add _ _).symm]; rfl) (by decide) rfl (fun ls hl => ?_)
          refine lv_goto (tgt := 5) C.1 C.2.1 d_M_sharers_53 (by decide) ?_
          exact ih (i + 1) (cnt (mIsS th but0 ow b0) i) (by omega) (by omega) (by first | exact (cnt_y (by show (th i && decide (some i ≠ but0) && decide (ow (6 * i + b0) = 0)) = true; rw [q18, decide_eq_true (show some i ≠ but0 from fun z => q24 ((oI_n (by omega) (fun j e => Nat.lt_trans (hbut j e) (by decide))).mpr z.symm)), decide_eq_true (show ow (6 * i + b0) = 0 by omega)]; rfl)).symm | exact (cnt_s (by show (th i && decide (some i ≠ but0) && decide (ow (6 * i + b0) = 0)) = false; first | (rw [q18]; rfl) | (rw [decide_eq_false (fun z => z ((oI_n (by omega) (fun j e => Nat.lt_trans (hbut j e) (by decide))).mp q24).symm)]; simp) | (rw [decide_eq_false (show ¬ ow (6 * i + b0) = 0 by omega)]; exact Bool.and_false _))).symm) _ _ I ls (lv_sub hl [2, 3, 4, 1, 0] rfl)
        · refine lv_aload_n C.1 C.2.1 d_M_sharers_27 rfl (lv_at hl 0 rfl) ?_
          refine sm_g7 C I d_M_sharers_28 ?_
          refine lv_bipush (v := nI 6) C.1 C.2.1 d_M_sharers_31 (by decide) ?_
          refine lv_iload C.1 C.2.1 d_M_sharers_33 (lv_at hl 4 rfl) ?_
          refine n_imul C.1 C.2.1 (a := 6) (b := i) d_M_sharers_35 ?_
          refine lv_iload_n C.1 C.2.1 d_M_sharers_36 rfl (lv_at hl 1 rfl) ?_
          refine n_iadd C.1 C.2.1 (a := 6 * i) (b := b0) d_M_sharers_37 ?_
          refine sm_l4 C I (k := (6 * i) + b0) (by omega) d_M_sharers_38 ?_
          have hw := how.sb (s := i) (b := b0) (by omega) hb0 q18
          refine n_ifz_ne (a := (ow ((6 * i) + b0))) (tgt := 48) C.1 C.2.1 (by omega) d_M_sharers_39 (by decide) (fun q39 => ?_) (fun q39 => ?_)
          · refine lv_iload_n C.1 C.2.1 d_M_sharers_48 rfl (lv_at hl 3 rfl) ?_
            refine lv_istore_n (lv' := [(3, .int (nI (cnt (mIsS th but0 ow b0) i))), (0, .ref (h 0)), (1, .int (nI b0)), (2, .int (oI but0)), (4, .int (nI i))]) C.1 C.2.1 d_M_sharers_49 rfl hl (by decide) rfl (fun ls hl => ?_)
            refine lv_iinc (v := nI (i + 1)) (lv' := [(4, .int (nI (i + 1))), (3, .int (nI (cnt (mIsS th but0 ow b0) i))), (0, .ref (h 0)), (1, .int (nI b0)), (2, .int (oI but0))]) C.1 C.2.1 d_M_sharers_50 hl (k := 4) rfl (by rw [show nI (i + 1) = nI i + nI 1 from (nI_add _ _).symm]; rfl) (by decide) rfl (fun ls hl => ?_)
            refine lv_goto (tgt := 5) C.1 C.2.1 d_M_sharers_53 (by decide) ?_
            exact ih (i + 1) (cnt (mIsS th but0 ow b0) i) (by omega) (by omega) (by first | exact (cnt_y (by show (th i && decide (some i ≠ but0) && decide (ow (6 * i + b0) = 0)) = true; rw [q18, decide_eq_true (show some i ≠ but0 from fun z => q24 ((oI_n (by omega) (fun j e => Nat.lt_trans (hbut j e) (by decide))).mpr z.symm)), decide_eq_true (show ow (6 * i + b0) = 0 by omega)]; rfl)).symm | exact (cnt_s (by show (th i && decide (some i ≠ but0) && decide (ow (6 * i + b0) = 0)) = false; first | (rw [q18]; rfl) | (rw [decide_eq_false (fun z => z ((oI_n (by omega) (fun j e => Nat.lt_trans (hbut j e) (by decide))).mp q24).symm)]; simp) | (rw [decide_eq_false (show ¬ ow (6 * i + b0) = 0 by omega)]; exact Bool.and_false _))).symm) _ _ I ls (lv_sub hl [2, 3, 4, 1, 0] rfl)
          · refine lv_iload_n C.1 C.2.1 d_M_sharers_42 rfl (lv_at hl 3 rfl) ?_
            refine lv_iconst (v := nI 1) C.1 C.2.1 d_M_sharers_43 (by decide) ?_
            refine n_iadd C.1 C.2.1 (a := cnt (mIsS th but0 ow b0) i) (b := 1) d_M_sharers_44 ?_
            refine lv_goto (tgt := 49) C.1 C.2.1 d_M_sharers_45 (by decide) ?_
            refine lv_istore_n (lv' := [(3, .int (nI ((cnt (mIsS th but0 ow b0) i) + 1))), (0, .ref (h 0)), (1, .int (nI b0)), (2, .int (oI but0)), (4, .int (nI i))]) C.1 C.2.1 d_M_sharers_49 rfl hl (by decide) rfl (fun ls hl => ?_)
            refine lv_iinc (v := nI (i + 1)) (lv' := [(4, .int (nI (i + 1))), (3, .int (nI ((cnt (mIsS th but0 ow b0) i) + 1))), (0, .ref (h 0)), (1, .int (nI b0)), (2, .int (oI but0))]) C.1 C.2.1 d_M_sharers_50 hl (k := 4) rfl (by rw [show nI (i + 1) = nI i + nI 1 from (nI_add _ _).symm]; rfl) (by decide) rfl (fun ls hl => ?_)
            refine lv_goto (tgt := 5) C.1 C.2.1 d_M_sharers_53 (by decide) ?_
            exact ih (i + 1) ((cnt (mIsS th but0 ow b0) i) + 1) (by omega) (by omega) (by first | exact (cnt_y (by show (th i && decide (some i ≠ but0) && decide (ow (6 * i + b0) = 0)) = true; rw [q18, decide_eq_true (show some i ≠ but0 from fun z => q24 ((oI_n (by omega) (fun j e => Nat.lt_trans (hbut j e) (by decide))).mpr z.symm)), decide_eq_true (show ow (6 * i + b0) = 0 by omega)]; rfl)).symm | exact (cnt_s (by show (th i && decide (some i ≠ but0) && decide (ow (6 * i + b0) = 0)) = false; first | (rw [q18]; rfl) | (rw [decide_eq_false (fun z => z ((oI_n (by omega) (fun j e => Nat.lt_trans (hbut j e) (by decide))).mp q24).symm)]; simp) | (rw [decide_eq_false (show ¬ ow (6 * i + b0) = 0 by omega)]; exact Bool.and_false _))).symm) _ _ I ls (lv_sub hl [2, 3, 4, 1, 0] rfl)
set_option maxHeartbeats 4000000 in
set_option maxRecDepth 100000 in
/-- R_M.sharers -/
theorem c_M_sharers (l : Launch) (D : va_G) (cA : Nat → ClassId) (h : Nat → Nat) (sz : Nat) (co : Nat) (dn : Bool) (fu : Option Nat) (ct : Nat) (vo : (Nat → Int32)) (wo : (Nat → Int32)) (th : (Nat → Bool)) (ow : (Nat → Nat)) (ba : Nat) (mr : Nat) (b0 : Nat) (but0 : Option Nat) (hb0 : b0 < 6) (hbut : ∀ j, but0 = some j → j < 3) (how : oB th ow) : smMi l D cA h (co, dn, fu, ct, vo, wo, th, ow, ba, mr) sz y_M_sharers (.code y_M_sharers b_M_sharers 5 (some .int)) (rmL 0) [.int (nI b0), .int (oI but0)] (fun r u' => r = nI (mShr th ow b0 but0) ∧ u' = (co, dn, fu, ct, vo, wo, th, ow, ba, mr)) := by
  refine sm_mi (by decide) rfl (Nat.le_of_ble_eq_true rfl) ?_
  intro p e s m args below meth c C hr hsz I ls hl
  generalize smA cA h (co, dn, fu, ct, vo, wo, th, ow, ba, mr) sz = A at I ⊢
  have hl : lv_has ls 5 [(0, .ref (h 0)), (1, .int (nI b0)), (2, .int (oI but0))] := hl
  refine lv_iconst (v := nI 0) C.1 C.2.1 d_M_sharers_0 (by decide) ?_
  refine lv_istore_n (lv' := [(3, .int (nI 0)), (0, .ref (h 0)), (1, .int (nI b0)), (2, .int (oI but0))]) C.1 C.2.1 d_M_sharers_1 rfl hl (by decide) rfl (fun ls hl => ?_)
  refine lv_iconst (v := nI 0) C.1 C.2.1 d_M_sharers_2 (by decide) ?_
  refine lv_istore (lv' := [(4, .int (nI 0)), (3, .int (nI 0)), (0, .ref (h 0)), (1, .int (nI b0)), (2, .int (oI but0))]) C.1 C.2.1 d_M_sharers_3 hl (by decide) rfl (fun ls hl => ?_)
  exact lp_M_sharers_5 C hr b0 but0 hb0 hbut how  _ 0 0 (Nat.lt_succ_self _) (by omega) rfl _ _ I ls (lv_sub hl [2, 3, 4, 1, 0] rfl)
set_option maxHeartbeats 4000000 in
set_option maxRecDepth 100000 in
/-- R_M.has -/
theorem c_M_has (l : Launch) (D : va_G) (cA : Nat → ClassId) (h : Nat → Nat) (sz : Nat) (co : Nat) (dn : Bool) (fu : Option Nat) (ct : Nat) (vo : (Nat → Int32)) (wo : (Nat → Int32)) (th : (Nat → Bool)) (ow : (Nat → Nat)) (ba : Nat) (mr : Nat) (s0 b0 : Nat) (hs0 : s0 < 3) (hb0 : b0 < 6) (hw : ow (6 * s0 + b0) ≤ 9) : smMi l D cA h (co, dn, fu, ct, vo, wo, th, ow, ba, mr) sz y_M_has (.code y_M_has b_M_has 3 (some .boolean)) (rmL 0) [.int (nI s0), .int (nI b0)] (fun r u' => r = bI (mHas ow s0 b0) ∧ u' = (co, dn, fu, ct, vo, wo, th, ow, ba, mr)) := by
  refine sm_mi (by decide) rfl (Nat.le_of_ble_eq_true rfl) ?_
  intro p e s m args below meth c C hr hsz I ls hl
  generalize smA cA h (co, dn, fu, ct, vo, wo, th, ow, ba, mr) sz = A at I ⊢
  have hl : lv_has ls 3 [(0, .ref (h 0)), (1, .int (nI s0)), (2, .int (nI b0))] := hl
  refine lv_aload_n C.1 C.2.1 d_M_has_0 rfl (lv_at hl 0 rfl) ?_
  refine sm_g7 C I d_M_has_1 ?_
  refine lv_bipush (v := nI 6) C.1 C.2.1 d_M_has_4 (by decide) ?_
  refine lv_iload_n C.1 C.2.1 d_M_has_6 rfl (lv_at hl 1 rfl) ?_
  refine n_imul C.1 C.2.1 (a := 6) (b := s0) d_M_has_7 ?_
  refine lv_iload_n C.1 C.2.1 d_M_has_8 rfl (lv_at hl 2 rfl) ?_
  refine n_iadd C.1 C.2.1 (a := 6 * s0) (b := b0) d_M_has_9 ?_
  refine sm_l4 C I (k := (6 * s0) + b0) (by omega) d_M_has_10 ?_
  refine n_ifz_le (a := (ow ((6 * s0) + b0))) (tgt := 18) C.1 C.2.1 (by omega) d_M_has_11 (by decide) (fun q11 => ?_) (fun q11 => ?_)
  · refine lv_iconst (v := nI 0) C.1 C.2.1 d_M_has_18 (by decide) ?_
    exact sm_rz (b := false) C hr I ⟨congrArg bI (by unfold mHas; first | exact (decide_eq_true (by omega)).symm | exact (decide_eq_false (by omega)).symm), rfl⟩ d_M_has_19
  · refine lv_iconst (v := nI 1) C.1 C.2.1 d_M_has_14 (by decide) ?_
    refine lv_goto (tgt := 19) C.1 C.2.1 d_M_has_15 (by decide) ?_
    exact sm_rz (b := true) C hr I ⟨congrArg bI (by unfold mHas; first | exact (decide_eq_true (by omega)).symm | exact (decide_eq_false (by omega)).symm), rfl⟩ d_M_has_19
set_option maxHeartbeats 4000000 in
set_option maxRecDepth 100000 in
theorem lp_M_writesFrom_5 {p : Program} {l : Launch} {e : Env} {s : State} {m : MethodId} {args : Array Value} {below : List Frame} {meth : Method} {c : Code} {D : va_G} {cA : Nat → ClassId} {A : Nat → Prop} {h : Nat → Nat} {co : Nat} {dn : Bool} {fu : Option Nat} {ct : Nat} {vo : (Nat → Int32)} {wo : (Nat → Int32)} {th : (Nat → Bool)} {ow : (Nat → Nat)} {ba : Nat} {mr : Nat} (C : gC p s m args meth c b_M_writesFrom 5 R_M) (hr : meth.sig.returnType = (some .int)) (s0 f0 : Nat) (hs0 : s0 < 3) (hf0 : f0 ≤ 6) (hth : th s0 = true) (how : oB th ow)   : ∀ (fuel : Nat) (b : Nat) (a : Nat), 6 - b < fuel → b ≤ 6 → mWF th ow s0 (6 - f0) f0 = a + mWF th ow s0 (6 - b) b → ∀ (H : Heap) (locs : List Loc), smI D cA A s h (co, dn, fu, ct, vo, wo, th, ow, ba, mr) H locs → ∀ (ls : Array Slot), lv_has ls 5 [(0, .ref (h 0)), (1, .int (nI s0)), (3, .int (nI a)), (4, .int (nI b))] → W p l e (rmL 1) s m args below meth c H locs 0 0 (MQ below (va_Qi (fun r u' => r = nI (mWF th ow s0 (6 - f0) f0) ∧ u' = (co, dn, fu, ct, vo, wo, th, ow, ba, mr)) (smAt D cA A h) A) args s 0 0 A) (F0 m 5 ls []) := by
  intro fuel
  induction fuel with
  | zero =>
    intro _ _ hfuel
    exact absurd hfuel (Nat.not_lt_zero _)
  | succ fuel ih =>
    intro b a hfuel hi hR H locs I ls hl
    refine lv_iload C.1 C.2.1 d_M_writesFrom_5 (lv_at hl 3 rfl) ?_
    refine lv_bipush (v := nI 6) C.1 C.2.1 d_M_writesFrom_7 (by decide) ?_
    refine n_icmp_ge C.1 C.2.1 (a := b) (b := 6) (tgt := 46) (by omega) (by omega) d_M_writesFrom_9 (by decide) (fun q9 => ?_) (fun q9 => ?_)
    · refine lv_iload_n C.1 C.2.1 d_M_writesFrom_46 rfl (lv_at hl 2 rfl) ?_
      exact sm_ri (v := nI a) C hr I ⟨congrArg nI (by rw [hR, show 6 - b = 0 by omega]; rfl), rfl⟩ d_M_writesFrom_47
    · refine lv_aload_n C.1 C.2.1 d_M_writesFrom_12 rfl (lv_at hl 0 rfl) ?_
      refine lv_iload_n C.1 C.2.1 d_M_writesFrom_13 rfl (lv_at hl 1 rfl) ?_
      refine lv_iload C.1 C.2.1 d_M_writesFrom_14 (lv_at hl 3 rfl) ?_
      refine sm_ci C I (c_M_has l D cA h _ co dn fu ct vo wo th ow ba mr s0 b (by omega) (by omega) (how.sb (by omega) (by omega) hth)) lk_M73 rfl rfl ⟨by decide, by decide⟩ ⟨Nat.zero_le _, Nat.zero_le _⟩ rfl hl.1 (rest := []) rfl (Nat.le_of_ble_eq_true rfl) d_M_writesFrom_16 (fun r u' H locs w16 I => ?_)
      obtain ⟨rfl, rfl⟩ := w16
      refine n_ifeq (b := mHas ow s0 b) (tgt := 38) C.1 C.2.1 d_M_writesFrom_19 (by decide) (fun q19 => ?_) (fun q19 => ?_)
      · refine lv_iload_n C.1 C.2.1 d_M_writesFrom_38 rfl (lv_at hl 2 rfl) ?_
        refine lv_istore_n (lv' := [(3, .int (nI a)), (0, .ref (h 0)), (1, .int (nI s0)), (4, .int (nI b))]) C.1 C.2.1 d_M_writesFrom_39 rfl hl (by decide) rfl (fun ls hl => ?_)
        refine lv_iinc (v := nI (b + 1)) (lv' := [(4, .int (nI (b + 1))), (3, .int (nI a)), (0, .ref (h 0)), (1, .int (nI s0))]) C.1 C.2.1 d_M_writesFrom_40 hl (k := 3) rfl (by rw [show nI (b + 1) = nI b + nI 1 from (nI_add _ _).symm]; rfl) (by decide) rfl (fun ls hl => ?_)
        refine lv_goto (tgt := 5) C.1 C.2.1 d_M_writesFrom_43 (by decide) ?_
        exact ih (b + 1) a (by omega) (by omega) (by rw [hR, show 6 - b = (6 - (b + 1)) + 1 by omega]; show a + ((if mHas ow s0 b = true then 5 * mShr th ow b (some s0) + 5 else 0) + _) = _; first | (rw [if_pos q19]; omega) | (rw [if_neg (by rw [q19]; decide)]; omega)) _ _ I ls (lv_sub hl [2, 3, 1, 0] rfl)
      · refine lv_iload_n C.1 C.2.1 d_M_writesFrom_22 rfl (lv_at hl 2 rfl) ?_
        refine lv_iconst (v := nI 5) C.1 C.2.1 d_M_writesFrom_23 (by decide) ?_
        refine lv_aload_n C.1 C.2.1 d_M_writesFrom_24 rfl (lv_at hl 0 rfl) ?_
        refine lv_iload C.1 C.2.1 d_M_writesFrom_25 (lv_at hl 3 rfl) ?_
        refine lv_iload_n C.1 C.2.1 d_M_writesFrom_27 rfl (lv_at hl 1 rfl) ?_
        refine sm_ci C I (c_M_sharers l D cA h _ co dn fu ct vo wo th ow ba mr b (some s0) (by omega) (fun j e => by cases e; omega) how) lk_M52 rfl rfl ⟨by decide, by decide⟩ ⟨Nat.zero_le _, Nat.zero_le _⟩ rfl hl.1 (rest := [.int (nI 5), .int (nI a)]) rfl (Nat.le_of_ble_eq_true rfl) d_M_writesFrom_28 (fun r u' H locs w28 I => ?_)
        obtain ⟨rfl, rfl⟩ := w28
        refine n_imul C.1 C.2.1 (a := 5) (b := mShr th ow b (some s0)) d_M_writesFrom_31 ?_
        refine n_iadd C.1 C.2.1 (a := a) (b := 5 * (mShr th ow b (some s0))) d_M_writesFrom_32 ?_
        refine lv_iconst (v := nI 5) C.1 C.2.1 d_M_writesFrom_33 (by decide) ?_
        refine n_iadd C.1 C.2.1 (a := a + (5 * (mShr th ow b (some s0)))) (b := 5) d_M_writesFrom_34 ?_
        refine lv_goto (tgt := 39) C.1 C.2.1 d_M_writesFrom_35 (by decide) ?_
        refine lv_istore_n (lv' := [(3, .int (nI ((a + (5 * (mShr th ow b (some s0)))) + 5))), (0, .ref (h 0)), (1, .int (nI s0)), (4, .int (nI b))]) C.1 C.2.1 d_M_writesFrom_39 rfl hl (by decide) rfl (fun ls hl => ?_)
        refine lv_iinc (v := nI (b + 1)) (lv' := [(4, .int (nI (b + 1))), (3, .int (nI ((a + (5 * (mShr th ow b (some s0)))) + 5))), (0, .ref (h 0)), (1, .int (nI s0))]) C.1 C.2.1 d_M_writesFrom_40 hl (k := 3) rfl (by rw [show nI (b + 1) = nI b + nI 1 from (nI_add _ _).symm]; rfl) (by decide) rfl (fun ls hl => ?_)
        refine lv_goto (tgt := 5) C.1 C.2.1 d_M_writesFrom_43 (by decide) ?_
        exact ih (b + 1) ((a + (5 * (mShr th ow b (some s0)))) + 5) (by omega) (by omega) (by rw [hR, show 6 - b = (6 - (b + 1)) + 1 by omega]; show a + ((if mHas ow s0 b = true then 5 * mShr th ow b (some s0) + 5 else 0) + _) = _; first | (rw [if_pos q19]; omega) | (rw [if_neg (by rw [q19]; decide)]; omega)) _ _ I ls (lv_sub hl [2, 3, 1, 0] rfl)
set_option maxHeartbeats 4000000 in
set_option maxRecDepth 100000 in
/-- R_M.writesFrom -/
theorem c_M_writesFrom (l : Launch) (D : va_G) (cA : Nat → ClassId) (h : Nat → Nat) (sz : Nat) (co : Nat) (dn : Bool) (fu : Option Nat) (ct : Nat) (vo : (Nat → Int32)) (wo : (Nat → Int32)) (th : (Nat → Bool)) (ow : (Nat → Nat)) (ba : Nat) (mr : Nat) (s0 f0 : Nat) (hs0 : s0 < 3) (hf0 : f0 ≤ 6) (hth : th s0 = true) (how : oB th ow) : smMi l D cA h (co, dn, fu, ct, vo, wo, th, ow, ba, mr) sz y_M_writesFrom (.code y_M_writesFrom b_M_writesFrom 5 (some .int)) (rmL 1) [.int (nI s0), .int (nI f0)] (fun r u' => r = nI (mWF th ow s0 (6 - f0) f0) ∧ u' = (co, dn, fu, ct, vo, wo, th, ow, ba, mr)) := by
  refine sm_mi (by decide) rfl (Nat.le_of_ble_eq_true rfl) ?_
  intro p e s m args below meth c C hr hsz I ls hl
  generalize smA cA h (co, dn, fu, ct, vo, wo, th, ow, ba, mr) sz = A at I ⊢
  have hl : lv_has ls 5 [(0, .ref (h 0)), (1, .int (nI s0)), (2, .int (nI f0))] := hl
  refine lv_iconst (v := nI 0) C.1 C.2.1 d_M_writesFrom_0 (by decide) ?_
  refine lv_istore_n (lv' := [(3, .int (nI 0)), (0, .ref (h 0)), (1, .int (nI s0)), (2, .int (nI f0))]) C.1 C.2.1 d_M_writesFrom_1 rfl hl (by decide) rfl (fun ls hl => ?_)
  refine lv_iload_n C.1 C.2.1 d_M_writesFrom_2 rfl (lv_at hl 3 rfl) ?_
  refine lv_istore (lv' := [(4, .int (nI f0)), (3, .int (nI 0)), (0, .ref (h 0)), (1, .int (nI s0)), (2, .int (nI f0))]) C.1 C.2.1 d_M_writesFrom_3 hl (by decide) rfl (fun ls hl => ?_)
  exact lp_M_writesFrom_5 C hr s0 f0 hs0 hf0 hth how  _ f0 0 (Nat.lt_succ_self _) (by omega) (Nat.zero_add _).symm _ _ I ls (lv_sub hl [2, 3, 1, 0] rfl)
end
section
section PART2
variable {th : Nat → Bool} {ow : Nat → Nat} {but : Option Nat} {b s left n : Nat}
theorem partL_yes (h0 : left ≠ 0) (h : mIsS th but ow b s = true) : mPartL th b but (n + 1) s left ow = mPartL th b but n (s + 1) (left - 1) (va_up ow (6 * s + b) (mLow th ow)) := by
  show (if left = 0 then ow else if mIsS th but ow b s = true then mPartL th b but n (s + 1) (left - 1) (va_up ow (6 * s + b) (mLow th ow)) else mPartL th b but n (s + 1) left ow) = _
  rw [if_neg h0, if_pos h]
theorem partL_no (h0 : left ≠ 0) (h : mIsS th but ow b s = false) : mPartL th b but (n + 1) s left ow = mPartL th b but n (s + 1) left ow := by
  show (if left = 0 then ow else if mIsS th but ow b s = true then mPartL th b but n (s + 1) (left - 1) (va_up ow (6 * s + b) (mLow th ow)) else mPartL th b but n (s + 1) left ow) = _
  rw [if_neg h0, if_neg (by rw [h]; decide)]
theorem partL_z : mPartL th b but (n + 1) s 0 ow = ow := if_pos rfl
theorem cntR_yes {p : Nat → Bool} (h : p s = true) : cntR p (n + 1) s = 1 + cntR p n (s + 1) := by
  show (if p s = true then 1 else 0) + cntR p n (s + 1) = _
  rw [if_pos h]
theorem cntR_no {p : Nat → Bool} (h : p s = false) : cntR p (n + 1) s = cntR p n (s + 1) := by
  show (if p s = true then 1 else 0) + cntR p n (s + 1) = _
  rw [if_neg (by rw [h]; decide), Nat.zero_add]
theorem oB_up {k : Nat} (h1 : oB th ow) (h2 : mUsed th ow ≤ 8) : oB th (va_up ow k (mLow th ow)) := by
  intro j hj ht
  have := mLow_le h2
  unfold va_up
  split
  · omega
  · exact h1 j hj ht
theorem mNd_yes (h : mHas ow s b = true) : mNd th ow s (n + 1) b = mShr th ow b (some s) + mNd th ow s n (b + 1) := by
  show (if mHas ow s b = true then mShr th ow b (some s) else 0) + _ = _
  rw [if_pos h]
theorem mNd_no (h : mHas ow s b = false) : mNd th ow s (n + 1) b = mNd th ow s n (b + 1) := by
  show (if mHas ow s b = true then mShr th ow b (some s) else 0) + _ = _
  rw [if_neg (by rw [h]; decide), Nat.zero_add]
theorem mRest_yes {wo vo : Nat → Int32} {a : Nat} (h : mHas ow s b = true) : mRest th wo s (n + 1) b a vo ow = mRest th wo s n (b + 1) (a + 1) (mVol vo wo s b 4 0) (mPart th ow b (some s) 3) := if_pos h
theorem mRest_no {wo vo : Nat → Int32} {a : Nat} (h : mHas ow s b = false) : mRest th wo s (n + 1) b a vo ow = mRest th wo s n (b + 1) a vo ow := if_neg (by rw [h]; decide)
/-- what a part leaves for the blocks behind -/
theorem mNd_part {many : Nat} (hb : b < 6) (h1 : oB th ow) (h2 : mUsed th ow + (mShr th ow b (some s) + mNd th ow s (6 - (b + 1)) (b + 1)) ≤ 9) : oB th (mPart th ow b (some s) many) ∧ mUsed th (mPart th ow b (some s) many) + mNd th (mPart th ow b (some s) many) s (6 - (b + 1)) (b + 1) ≤ 9 := by
  have q := mPart_ok (many := many) hb h1 (show mUsed th ow + mShr th ow b (some s) ≤ 9 by omega)
  refine ⟨q.1, ?_⟩
  rw [mNd_out (ow := ow) (b := b) (fun s' b' hb' hne => mPart_out hb hb' hne) (by omega) (by omega)]
  omega
end PART2
theorem isS_false {th : Nat → Bool} {ow : Nat → Nat} {but : Option Nat} {b s : Nat} (h : th s = false ∨ but = some s ∨ ow (6 * s + b) ≠ 0) : mIsS th but ow b s = false := by
  unfold mIsS
  rcases h with h | h | h
  · rw [h]; rfl
  · rw [h]; simp
  · rw [decide_eq_false h]; exact Bool.and_false _
theorem cntR_next {th : Nat → Bool} {ow : Nat → Nat} {but : Option Nat} {b s n : Nat} (hs : mIsS th but ow b s = true) (h : mUsed th ow + cntR (mIsS th but ow b) (n + 1) s ≤ 9) : mUsed th (va_up ow (6 * s + b) (mLow th ow)) + cntR (mIsS th but (va_up ow (6 * s + b) (mLow th ow)) b) n (s + 1) ≤ 9 := by
  rw [cntR_yes hs] at h
  have := mUsed_up th ow (6 * s + b) (mLow th ow)
  rw [cntR_up (show s < s + 1 by omega)]
  omega
end
section
set_option maxHeartbeats 4000000 in
set_option maxRecDepth 100000 in
/-- R_M.lasts -/
theorem c_M_lasts (l : Launch) (D : va_G) (cA : Nat → ClassId) (h : Nat → Nat) (sz : Nat) (co : Nat) (dn : Bool) (fu : Option Nat) (ct : Nat) (vo : (Nat → Int32)) (wo : (Nat → Int32)) (th : (Nat → Bool)) (ow : (Nat → Nat)) (ba : Nat) (mr : Nat) (w0 : Nat) (hw0 : w0 < 2 ^ 31) (hfu : ∀ k, fu = some k → k < 2 ^ 31) : smMi l D cA h (co, dn, fu, ct, vo, wo, th, ow, ba, mr) sz y_M_lasts (.code y_M_lasts b_M_lasts 2 (some .boolean)) (rmL 0) [.int (nI w0)] (fun r u' => ∃ bl fl cl dl, mLast fu ct dn w0 = (bl, fl, cl, dl) ∧ r = bI bl ∧ u' = (co, dl, fl, cl, vo, wo, th, ow, ba, mr)) := by
  refine sm_mi (by decide) rfl (Nat.le_of_ble_eq_true rfl) ?_
  intro p e s m args below meth c C hr hsz I ls hl
  generalize smA cA h (co, dn, fu, ct, vo, wo, th, ow, ba, mr) sz = A at I ⊢
  have hl : lv_has ls 2 [(0, .ref (h 0)), (1, .int (nI w0))] := hl
  rcases fu with _ | k
  · refine lv_aload_n C.1 C.2.1 d_M_lasts_0 rfl (lv_at hl 0 rfl) ?_
    refine sm_g2 C I d_M_lasts_1 ?_
    refine lv_if_lt (x := oI none) (tgt := 15) C.1 C.2.1 d_M_lasts_4 (by decide) (fun q4 => ?_) (fun q4 => absurd q4 (by decide))
    refine lv_aload_n C.1 C.2.1 d_M_lasts_15 rfl (lv_at hl 0 rfl) ?_
    refine lv_aload_n C.1 C.2.1 d_M_lasts_16 rfl (lv_at hl 0 rfl) ?_
    refine sm_g3 C I d_M_lasts_17 ?_
    refine lv_iload_n C.1 C.2.1 d_M_lasts_20 rfl (lv_at hl 1 rfl) ?_
    refine n_iadd C.1 C.2.1 (a := ct) (b := w0) d_M_lasts_21 ?_
    refine sm_p3 C I (ct + w0) rfl d_M_lasts_22 (fun H locs I => ?_)
    refine lv_aload_n C.1 C.2.1 d_M_lasts_25 rfl (lv_at hl 0 rfl) ?_
    refine lv_aload_n C.1 C.2.1 d_M_lasts_26 rfl (lv_at hl 0 rfl) ?_
    refine sm_g2 C I d_M_lasts_27 ?_
    refine lv_if_ge (x := oI none) (tgt := 37) C.1 C.2.1 d_M_lasts_30 (by decide) (fun q30 => absurd q30 (by decide)) (fun q30 => ?_)
    refine lv_iconst (v := oI none) C.1 C.2.1 d_M_lasts_33 (by decide) ?_
    refine lv_goto (tgt := 43) C.1 C.2.1 d_M_lasts_34 (by decide) ?_
    refine sm_p2 C I none rfl d_M_lasts_43 (fun H locs I => ?_)
    refine lv_iconst (v := nI 1) C.1 C.2.1 d_M_lasts_46 (by decide) ?_
    exact sm_rz (b := true) C hr I ⟨true, none, (ct + w0), dn, (by first | rfl | exact mLast_y (by omega) | exact mLast_c (by omega)), rfl, rfl⟩ d_M_lasts_47
  · have hk31 : k < 2 ^ 31 := hfu _ rfl
    refine lv_aload_n C.1 C.2.1 d_M_lasts_0 rfl (lv_at hl 0 rfl) ?_
    refine sm_g2 C I d_M_lasts_1 ?_
    refine n_ifz_lt (a := k) (tgt := 15) C.1 C.2.1 (by omega) d_M_lasts_4 (by decide) (fun q4 => absurd q4 (by omega)) (fun q4 => ?_)
    refine lv_aload_n C.1 C.2.1 d_M_lasts_7 rfl (lv_at hl 0 rfl) ?_
    refine sm_g2 C I d_M_lasts_8 ?_
    refine lv_iload_n C.1 C.2.1 d_M_lasts_11 rfl (lv_at hl 1 rfl) ?_
    refine n_icmp_lt C.1 C.2.1 (a := k) (b := w0) (tgt := 48) (by omega) (by omega) d_M_lasts_12 (by decide) (fun q12 => ?_) (fun q12 => ?_)
    · refine lv_aload_n C.1 C.2.1 d_M_lasts_48 rfl (lv_at hl 0 rfl) ?_
      refine lv_aload_n C.1 C.2.1 d_M_lasts_49 rfl (lv_at hl 0 rfl) ?_
      refine sm_g3 C I d_M_lasts_50 ?_
      refine lv_aload_n C.1 C.2.1 d_M_lasts_53 rfl (lv_at hl 0 rfl) ?_
      refine sm_g2 C I d_M_lasts_54 ?_
      refine n_iadd C.1 C.2.1 (a := ct) (b := k) d_M_lasts_57 ?_
      refine sm_p3 C I (ct + k) rfl d_M_lasts_58 (fun H locs I => ?_)
      refine lv_aload_n C.1 C.2.1 d_M_lasts_61 rfl (lv_at hl 0 rfl) ?_
      refine lv_iconst (v := nI 1) C.1 C.2.1 d_M_lasts_62 (by decide) ?_
      refine sm_p1 C I true rfl d_M_lasts_63 (fun H locs I => ?_)
      refine lv_iconst (v := nI 0) C.1 C.2.1 d_M_lasts_66 (by decide) ?_
      exact sm_rz (b := false) C hr I ⟨false, (some k), (ct + k), true, (by first | rfl | exact mLast_y (by omega) | exact mLast_c (by omega)), rfl, rfl⟩ d_M_lasts_67
    · refine lv_aload_n C.1 C.2.1 d_M_lasts_15 rfl (lv_at hl 0 rfl) ?_
      refine lv_aload_n C.1 C.2.1 d_M_lasts_16 rfl (lv_at hl 0 rfl) ?_
      refine sm_g3 C I d_M_lasts_17 ?_
      refine lv_iload_n C.1 C.2.1 d_M_lasts_20 rfl (lv_at hl 1 rfl) ?_
      refine n_iadd C.1 C.2.1 (a := ct) (b := w0) d_M_lasts_21 ?_
      refine sm_p3 C I (ct + w0) rfl d_M_lasts_22 (fun H locs I => ?_)
      refine lv_aload_n C.1 C.2.1 d_M_lasts_25 rfl (lv_at hl 0 rfl) ?_
      refine lv_aload_n C.1 C.2.1 d_M_lasts_26 rfl (lv_at hl 0 rfl) ?_
      refine sm_g2 C I d_M_lasts_27 ?_
      refine n_ifz_ge (a := k) (tgt := 37) C.1 C.2.1 (by omega) d_M_lasts_30 (by decide) (fun q30 => ?_) (fun q30 => absurd q30 (by omega))
      refine lv_aload_n C.1 C.2.1 d_M_lasts_37 rfl (lv_at hl 0 rfl) ?_
      refine sm_g2 C I d_M_lasts_38 ?_
      refine lv_iload_n C.1 C.2.1 d_M_lasts_41 rfl (lv_at hl 1 rfl) ?_
      refine n_isub C.1 C.2.1 (a := k) (b := w0) (by omega) d_M_lasts_42 ?_
      refine sm_p2 C I (some (k - w0)) rfl d_M_lasts_43 (fun H locs I => ?_)
      refine lv_iconst (v := nI 1) C.1 C.2.1 d_M_lasts_46 (by decide) ?_
      exact sm_rz (b := true) C hr I ⟨true, (some (k - w0)), (ct + w0), dn, (by first | rfl | exact mLast_y (by omega) | exact mLast_c (by omega)), rfl, rfl⟩ d_M_lasts_47
set_option maxHeartbeats 4000000 in
set_option maxRecDepth 100000 in
/-- R_M.cut -/
theorem c_M_cut (l : Launch) (D : va_G) (cA : Nat → ClassId) (h : Nat → Nat) (sz : Nat) (co : Nat) (dn : Bool) (fu : Option Nat) (ct : Nat) (vo : (Nat → Int32)) (wo : (Nat → Int32)) (th : (Nat → Bool)) (ow : (Nat → Nat)) (ba : Nat) (mr : Nat)  : smMi l D cA h (co, dn, fu, ct, vo, wo, th, ow, ba, mr) sz y_M_cut (.code y_M_cut b_M_cut 2 (some .int)) (rmL 0) [] (fun r u' => r = oI fu ∧ u' = (co, dn, none, ct, vo, wo, th, ow, ba, mr)) := by
  refine sm_mi (by decide) rfl (Nat.le_of_ble_eq_true rfl) ?_
  intro p e s m args below meth c C hr hsz I ls hl
  generalize smA cA h (co, dn, fu, ct, vo, wo, th, ow, ba, mr) sz = A at I ⊢
  have hl : lv_has ls 2 [(0, .ref (h 0))] := hl
  refine lv_aload_n C.1 C.2.1 d_M_cut_0 rfl (lv_at hl 0 rfl) ?_
  refine sm_g2 C I d_M_cut_1 ?_
  refine lv_istore_n (lv' := [(1, .int (oI fu)), (0, .ref (h 0))]) C.1 C.2.1 d_M_cut_4 rfl hl (by decide) rfl (fun ls hl => ?_)
  refine lv_aload_n C.1 C.2.1 d_M_cut_5 rfl (lv_at hl 1 rfl) ?_
  refine lv_iconst (v := oI none) C.1 C.2.1 d_M_cut_6 (by decide) ?_
  refine sm_p2 C I none rfl d_M_cut_7 (fun H locs I => ?_)
  refine lv_iload_n C.1 C.2.1 d_M_cut_10 rfl (lv_at hl 0 rfl) ?_
  exact sm_ri (v := oI fu) C hr I ⟨rfl, rfl⟩ d_M_cut_11
set_option maxHeartbeats 4000000 in
set_option maxRecDepth 100000 in
theorem lp_M_part_6 {p : Program} {l : Launch} {e : Env} {s : State} {m : MethodId} {args : Array Value} {below : List Frame} {meth : Method} {c : Code} {D : va_G} {cA : Nat → ClassId} {A : Nat → Prop} {h : Nat → Nat} {co : Nat} {dn : Bool} {fu : Option Nat} {ct : Nat} {vo : (Nat → Int32)} {wo : (Nat → Int32)} {th : (Nat → Bool)} {ow : (Nat → Nat)} {ba : Nat} {mr : Nat} (C : gC p s m args meth c b_M_part 6 R_M) (hr : meth.sig.returnType = none) (b0 : Nat) (but0 : Option Nat) (hb0 : b0 < 6) (hbut : ∀ j, but0 = some j → j < 3) (n0 : Nat) (hn0 : n0 < 2 ^ 31) (how : oB th ow) (hu : mUsed th ow + mShr th ow b0 but0 ≤ 9)   : ∀ (fuel : Nat) (i : Nat) (lf : Nat) (owv : Nat → Nat), 3 - i < fuel → i ≤ 3 → lf < 2 ^ 31 → mPart th ow b0 but0 n0 = mPartL th b0 but0 (3 - i) i lf owv → oB th owv → mUsed th owv + cntR (mIsS th but0 owv b0) (3 - i) i ≤ 9 → ∀ (H : Heap) (locs : List Loc), smI D cA A s h (co, dn, fu, ct, vo, wo, th, owv, ba, mr) H locs → ∀ (ls : Array Slot), lv_has ls 6 [(0, .ref (h 0)), (1, .int (nI b0)), (2, .int (oI but0)), (4, .int (nI lf)), (5, .int (nI i))] → W p l e (rmL 1) s m args below meth c H locs 0 0 (MQ below (va_Qv (fun u' => u' = (co, dn, fu, ct, vo, wo, th, mPart th ow b0 but0 n0, ba, mr)) (smAt D cA A h) A) args s 0 0 A) (F0 m 6 ls []) := by
  intro fuel
  induction fuel with
  | zero =>
    intro _ _ _ hfuel
    exact absurd hfuel (Nat.not_lt_zero _)
  | succ fuel ih =>
    intro i lf owv hfuel hi hlf hR hv hu2 H locs I ls hl
    refine lv_iload C.1 C.2.1 d_M_part_6 (lv_at hl 4 rfl) ?_
    refine lv_iconst (v := nI 3) C.1 C.2.1 d_M_part_8 (by decide) ?_
    refine n_icmp_ge C.1 C.2.1 (a := i) (b := 3) (tgt := 73) (by omega) (by omega) d_M_part_9 (by decide) (fun q9 => ?_) (fun q9 => ?_)
    · exact sm_rv C hr I (by rw [hR]; first | (rw [show 3 - i = 0 by omega]; rfl) | (rw [show 3 - i = (2 - i) + 1 by omega, show lf = 0 by omega, partL_z])) d_M_part_73
    · refine lv_iload C.1 C.2.1 d_M_part_12 (lv_at hl 3 rfl) ?_
      refine n_ifz_le (a := lf) (tgt := 73) C.1 C.2.1 (by omega) d_M_part_14 (by decide) (fun q14 => ?_) (fun q14 => ?_)
      · exact sm_rv C hr I (by rw [hR]; first | (rw [show 3 - i = 0 by omega]; rfl) | (rw [show 3 - i = (2 - i) + 1 by omega, show lf = 0 by omega, partL_z])) d_M_part_73
      · refine lv_aload_n C.1 C.2.1 d_M_part_17 rfl (lv_at hl 0 rfl) ?_
        refine sm_g6 C I d_M_part_18 ?_
        refine lv_iload C.1 C.2.1 d_M_part_21 (lv_at hl 4 rfl) ?_
        refine sm_l3 C I (k := i) (by omega) d_M_part_23 ?_
        refine n_ifeq (b := (th i)) (tgt := 67) C.1 C.2.1 d_M_part_24 (by decide) (fun q24 => ?_) (fun q24 => ?_)
        · refine lv_iinc (v := nI (i + 1)) (lv' := [(5, .int (nI (i + 1))), (0, .ref (h 0)), (1, .int (nI b0)), (2, .int (oI but0)), (4, .int (nI lf))]) C.1 C.2.1 d_M_part_67 hl (k := 4) rfl (by rw [show nI (i + 1) = nI i + nI 1 from (nI_add _ _).symm]; rfl) (by decide) rfl (fun ls hl => ?_)
          refine lv_goto (tgt := 6) C.1 C.2.1 d_M_part_70 (by decide) ?_
          exact ih (i + 1) lf owv (by omega) (by omega) (by omega) (by rw [hR, show 3 - i = (3 - (i + 1)) + 1 by omega]; first | exact hpl | exact partL_no (by omega) (isS_false (by first | exact Or.inl q24 | exact Or.inr (Or.inl ((oI_n (by omega) (fun j e => Nat.lt_trans (hbut j e) (by decide))).mp q30)) | exact Or.inr (Or.inr (by omega))))) (by first | exact hov | exact hv) (by first | exact hst | (rw [show 3 - i = (3 - (i + 1)) + 1 by omega, cntR_no (isS_false (by first | exact Or.inl q24 | exact Or.inr (Or.inl ((oI_n (by omega) (fun j e => Nat.lt_trans (hbut j e) (by decide))).mp q30)) | exact Or.inr (Or.inr (by omega))))] at hu2; exact hu2)) _ _ I ls (lv_sub hl [1, 2, 3, 4, 0] rfl)
        · refine lv_iload C.1 C.2.1 d_M_part_27 (lv_at hl 4 rfl) ?_
          refine lv_iload_n C.1 C.2.1 d_M_part_29 rfl (lv_at hl 2 rfl) ?_
          refine lv_icmp_eq (x := nI i) (y := oI but0) (tgt := 67) C.1 C.2.1 d_M_part_30 (by decide) (fun q30 => ?_) (fun q30 => ?_)
          · refine lv_iinc (v := nI (i + 1)) (lv' := [(5, .int (nI (i + 1))), (0, .ref (h 0)), (1, .int (nI b0)), (2, .int (oI but0)), (4, .int (nI lf))]) C.1 C.2.1 d_M_part_67 hl (k := 4) rfl (by rw [show nI (i + 1) = nI i + nI 1 from (nI_add _ _).symm]; rfl) (by decide) rfl (fun ls hl => ?_)
            refine lv_goto (tgt := 6) C.1 C.2.1 d_M_part_70 (by decide) ?_
            exact ih (i + 1) lf owv (by omega) (by omega) (by omega) (by rw [hR, show 3 - i = (3 - (i + 1)) + 1 by omega]; first | exact hpl | exact partL_no (by omega) (isS_false (by first | exact Or.inl q24 | exact Or.inr (Or.inl ((oI_n (by omega) (fun j e => Nat.lt_trans (hbut j e) (by decide))).mp q30)) | exact Or.inr (Or.inr (by omega))))) (by first | exact hov | exact hv) (by first | exact hst | (rw [show 3 - i = (3 - (i + 1)) + 1 by omega, cntR_no (isS_false (by first | exact Or.inl q24 | exact Or.inr (Or.inl ((oI_n (by omega) (fun j e => Nat.lt_trans (hbut j e) (by decide))).mp q30)) | exact Or.inr (Or.inr (by omega))))] at hu2; exact hu2)) _ _ I ls (lv_sub hl [1, 2, 3, 4, 0] rfl)
          · refine lv_aload_n C.1 C.2.1 d_M_part_33 rfl (lv_at hl 0 rfl) ?_
            refine sm_g7 C I d_M_part_34 ?_
            refine lv_bipush (v := nI 6) C.1 C.2.1 d_M_part_37 (by decide) ?_
            refine lv_iload C.1 C.2.1 d_M_part_39 (lv_at hl 4 rfl) ?_
            refine n_imul C.1 C.2.1 (a := 6) (b := i) d_M_part_41 ?_
            refine lv_iload_n C.1 C.2.1 d_M_part_42 rfl (lv_at hl 1 rfl) ?_
            refine n_iadd C.1 C.2.1 (a := 6 * i) (b := b0) d_M_part_43 ?_
            refine sm_l4 C I (k := (6 * i) + b0) (by omega) d_M_part_44 ?_
            have hw := hv.sb (s := i) (b := b0) (by omega) hb0 q24
            refine n_ifz_ne (a := (owv ((6 * i) + b0))) (tgt := 67) C.1 C.2.1 (by omega) d_M_part_45 (by decide) (fun q45 => ?_) (fun q45 => ?_)
            · refine lv_iinc (v := nI (i + 1)) (lv' := [(5, .int (nI (i + 1))), (0, .ref (h 0)), (1, .int (nI b0)), (2, .int (oI but0)), (4, .int (nI lf))]) C.1 C.2.1 d_M_part_67 hl (k := 4) rfl (by rw [show nI (i + 1) = nI i + nI 1 from (nI_add _ _).symm]; rfl) (by decide) rfl (fun ls hl => ?_)
              refine lv_goto (tgt := 6) C.1 C.2.1 d_M_part_70 (by decide) ?_
              exact ih (i + 1) lf owv (by omega) (by omega) (by omega) (by rw [hR, show 3 - i = (3 - (i + 1)) + 1 by omega]; first | exact hpl | exact partL_no (by omega) (isS_false (by first | exact Or.inl q24 | exact Or.inr (Or.inl ((oI_n (by omega) (fun j e => Nat.lt_trans (hbut j e) (by decide))).mp q30)) | exact Or.inr (Or.inr (by omega))))) (by first | exact hov | exact hv) (by first | exact hst | (rw [show 3 - i = (3 - (i + 1)) + 1 by omega, cntR_no (isS_false (by first | exact Or.inl q24 | exact Or.inr (Or.inl ((oI_n (by omega) (fun j e => Nat.lt_trans (hbut j e) (by decide))).mp q30)) | exact Or.inr (Or.inr (by omega))))] at hu2; exact hu2)) _ _ I ls (lv_sub hl [1, 2, 3, 4, 0] rfl)
            · have hsy : mIsS th but0 owv b0 i = true := (by show (th i && decide (some i ≠ but0) && decide (owv (6 * i + b0) = 0)) = true; rw [q24, decide_eq_true (show some i ≠ but0 from fun z => q30 ((oI_n (by omega) (fun j e => Nat.lt_trans (hbut j e) (by decide))).mpr z.symm)), decide_eq_true (show owv (6 * i + b0) = 0 by omega)]; rfl)
              have hm8 : mUsed th owv ≤ 8 := by rw [show 3 - i = (3 - (i + 1)) + 1 by omega, cntR_yes hsy] at hu2; omega
              have hst := cntR_next hsy (show mUsed th owv + cntR (mIsS th but0 owv b0) ((3 - (i + 1)) + 1) i ≤ 9 by rw [← (show 3 - i = (3 - (i + 1)) + 1 by omega)]; exact hu2)
              have hov := oB_up (k := 6 * i + b0) hv hm8
              have hpl := partL_yes (n := 3 - (i + 1)) (left := lf) (show lf ≠ 0 by omega) hsy
              refine lv_aload_n C.1 C.2.1 d_M_part_48 rfl (lv_at hl 0 rfl) ?_
              refine sm_g7 C I d_M_part_49 ?_
              refine lv_bipush (v := nI 6) C.1 C.2.1 d_M_part_52 (by decide) ?_
              refine lv_iload C.1 C.2.1 d_M_part_54 (lv_at hl 4 rfl) ?_
              refine n_imul C.1 C.2.1 (a := 6) (b := i) d_M_part_56 ?_
              refine lv_iload_n C.1 C.2.1 d_M_part_57 rfl (lv_at hl 1 rfl) ?_
              refine n_iadd C.1 C.2.1 (a := 6 * i) (b := b0) d_M_part_58 ?_
              refine lv_aload_n C.1 C.2.1 d_M_part_59 rfl (lv_at hl 0 rfl) ?_
              refine sm_ci C I (c_M_lowest l D cA h _ co dn fu ct vo wo th owv ba mr hv) lk_M44 rfl rfl ⟨by decide, by decide⟩ ⟨Nat.zero_le _, Nat.zero_le _⟩ rfl hl.1 (rest := [.int (nI ((6 * i) + b0)), .ref (h 4)]) rfl (Nat.le_of_ble_eq_true rfl) d_M_part_60 (fun r u' H locs w60 I => ?_)
              obtain ⟨rfl, rfl⟩ := w60
              refine sm_s4 C I (k := (6 * i) + b0) (x := mLow th owv) (by omega) d_M_part_63 (fun H locs I => ?_)
              refine lv_iinc (v := nI (lf - 1)) (lv' := [(4, .int (nI (lf - 1))), (0, .ref (h 0)), (1, .int (nI b0)), (2, .int (oI but0)), (5, .int (nI i))]) C.1 C.2.1 d_M_part_64 hl (k := 3) rfl (by rw [← sb_m1 (by omega)]; rfl) (by decide) rfl (fun ls hl => ?_)
              refine lv_iinc (v := nI (i + 1)) (lv' := [(5, .int (nI (i + 1))), (4, .int (nI (lf - 1))), (0, .ref (h 0)), (1, .int (nI b0)), (2, .int (oI but0))]) C.1 C.2.1 d_M_part_67 hl (k := 4) rfl (by rw [show nI (i + 1) = nI i + nI 1 from (nI_add _ _).symm]; rfl) (by decide) rfl (fun ls hl => ?_)
              refine lv_goto (tgt := 6) C.1 C.2.1 d_M_part_70 (by decide) ?_
              exact ih (i + 1) (lf - 1) (va_up owv ((6 * i) + b0) (mLow th owv)) (by omega) (by omega) (by omega) (by rw [hR, show 3 - i = (3 - (i + 1)) + 1 by omega]; first | exact hpl | exact partL_no (by omega) (isS_false (by first | exact Or.inl q24 | exact Or.inr (Or.inl ((oI_n (by omega) (fun j e => Nat.lt_trans (hbut j e) (by decide))).mp q30)) | exact Or.inr (Or.inr (by omega))))) (by first | exact hov | exact hv) (by first | exact hst | (rw [show 3 - i = (3 - (i + 1)) + 1 by omega, cntR_no (isS_false (by first | exact Or.inl q24 | exact Or.inr (Or.inl ((oI_n (by omega) (fun j e => Nat.lt_trans (hbut j e) (by decide))).mp q30)) | exact Or.inr (Or.inr (by omega))))] at hu2; exact hu2)) _ _ I ls (lv_sub hl [2, 3, 4, 1, 0] rfl)
set_option maxHeartbeats 4000000 in
set_option maxRecDepth 100000 in
/-- R_M.part -/
theorem c_M_part (l : Launch) (D : va_G) (cA : Nat → ClassId) (h : Nat → Nat) (sz : Nat) (co : Nat) (dn : Bool) (fu : Option Nat) (ct : Nat) (vo : (Nat → Int32)) (wo : (Nat → Int32)) (th : (Nat → Bool)) (ow : (Nat → Nat)) (ba : Nat) (mr : Nat) (b0 : Nat) (but0 : Option Nat) (hb0 : b0 < 6) (hbut : ∀ j, but0 = some j → j < 3) (n0 : Nat) (hn0 : n0 < 2 ^ 31) (how : oB th ow) (hu : mUsed th ow + mShr th ow b0 but0 ≤ 9) : smMv l D cA h (co, dn, fu, ct, vo, wo, th, ow, ba, mr) sz y_M_part (.code y_M_part b_M_part 6 none) (rmL 1) [.int (nI b0), .int (oI but0), .int (nI n0)] (fun u' => u' = (co, dn, fu, ct, vo, wo, th, mPart th ow b0 but0 n0, ba, mr)) := by
  refine sm_mv (by decide) rfl (Nat.le_of_ble_eq_true rfl) ?_
  intro p e s m args below meth c C hr hsz I ls hl
  generalize smA cA h (co, dn, fu, ct, vo, wo, th, ow, ba, mr) sz = A at I ⊢
  have hl : lv_has ls 6 [(0, .ref (h 0)), (1, .int (nI b0)), (2, .int (oI but0)), (3, .int (nI n0))] := hl
  refine lv_iload_n C.1 C.2.1 d_M_part_0 rfl (lv_at hl 3 rfl) ?_
  refine lv_istore (lv' := [(4, .int (nI n0)), (0, .ref (h 0)), (1, .int (nI b0)), (2, .int (oI but0)), (3, .int (nI n0))]) C.1 C.2.1 d_M_part_1 hl (by decide) rfl (fun ls hl => ?_)
  refine lv_iconst (v := nI 0) C.1 C.2.1 d_M_part_3 (by decide) ?_
  refine lv_istore (lv' := [(5, .int (nI 0)), (4, .int (nI n0)), (0, .ref (h 0)), (1, .int (nI b0)), (2, .int (oI but0)), (3, .int (nI n0))]) C.1 C.2.1 d_M_part_4 hl (by decide) rfl (fun ls hl => ?_)
  exact lp_M_part_6 C hr b0 but0 hb0 hbut n0 hn0 how hu  _ 0 n0 ow (Nat.lt_succ_self _) (by omega) hn0 rfl how (by rw [← cnt3]; exact hu) _ _ I ls (lv_sub hl [2, 3, 4, 1, 0] rfl)
set_option maxHeartbeats 4000000 in
set_option maxRecDepth 100000 in
theorem lp_M_restore_9 {p : Program} {l : Launch} {e : Env} {s : State} {m : MethodId} {args : Array Value} {below : List Frame} {meth : Method} {c : Code} {D : va_G} {cA : Nat → ClassId} {A : Nat → Prop} {h : Nat → Nat} {co : Nat} {dn : Bool} {fu : Option Nat} {ct : Nat} {vo : (Nat → Int32)} {wo : (Nat → Int32)} {th : (Nat → Bool)} {ow : (Nat → Nat)} {ba : Nat} {mr : Nat} (C : gC p s m args meth c b_M_restore 4 R_M) (hr : meth.sig.returnType = none) (s0 b0 : Nat) (hs0 : s0 < 3) (hb0 : b0 < 6) (how : oB th ow) (hu : mUsed th ow + mShr th ow b0 (some s0) ≤ 9)   : ∀ (fuel : Nat) (i : Nat) (vov : Nat → Int32) (owv : Nat → Nat), 4 - i < fuel → i ≤ 4 → mVol vo wo s0 b0 4 0 = mVol vov wo s0 b0 (4 - i) i → owv = mPart th ow b0 (some s0) 3 → ∀ (H : Heap) (locs : List Loc), smI D cA A s h (co, dn, fu, ct, vov, wo, th, owv, ba, mr) H locs → ∀ (ls : Array Slot), lv_has ls 4 [(0, .ref (h 0)), (1, .int (nI s0)), (2, .int (nI b0)), (3, .int (nI i))] → W p l e (rmL 2) s m args below meth c H locs 0 0 (MQ below (va_Qv (fun u' => u' = (co, dn, fu, ct, mVol vo wo s0 b0 4 0, wo, th, mPart th ow b0 (some s0) 3, ba, mr)) (smAt D cA A h) A) args s 0 0 A) (F0 m 9 ls []) := by
  intro fuel
  induction fuel with
  | zero =>
    intro _ _ _ hfuel
    exact absurd hfuel (Nat.not_lt_zero _)
  | succ fuel ih =>
    intro i vov owv hfuel hi hV howv H locs I ls hl
    refine lv_iload_n C.1 C.2.1 d_M_restore_9 rfl (lv_at hl 3 rfl) ?_
    refine lv_iconst (v := nI 4) C.1 C.2.1 d_M_restore_10 (by decide) ?_
    refine n_icmp_ge C.1 C.2.1 (a := i) (b := 4) (tgt := 45) (by omega) (by omega) d_M_restore_11 (by decide) (fun q11 => ?_) (fun q11 => ?_)
    · exact sm_rv C hr I (by rw [hV, howv, show 4 - i = 0 by omega]; rfl) d_M_restore_45
    · refine lv_aload_n C.1 C.2.1 d_M_restore_14 rfl (lv_at hl 0 rfl) ?_
      refine sm_g4 C I d_M_restore_15 ?_
      refine lv_iconst (v := nI 4) C.1 C.2.1 d_M_restore_18 (by decide) ?_
      refine lv_iload_n C.1 C.2.1 d_M_restore_19 rfl (lv_at hl 2 rfl) ?_
      refine n_imul C.1 C.2.1 (a := 4) (b := b0) d_M_restore_20 ?_
      refine lv_iload_n C.1 C.2.1 d_M_restore_21 rfl (lv_at hl 3 rfl) ?_
      refine n_iadd C.1 C.2.1 (a := 4 * b0) (b := i) d_M_restore_22 ?_
      refine lv_aload_n C.1 C.2.1 d_M_restore_23 rfl (lv_at hl 0 rfl) ?_
      refine sm_g5 C I d_M_restore_24 ?_
      refine lv_bipush (v := nI 24) C.1 C.2.1 d_M_restore_27 (by decide) ?_
      refine lv_iload_n C.1 C.2.1 d_M_restore_29 rfl (lv_at hl 1 rfl) ?_
      refine n_imul C.1 C.2.1 (a := 24) (b := s0) d_M_restore_30 ?_
      refine lv_iconst (v := nI 4) C.1 C.2.1 d_M_restore_31 (by decide) ?_
      refine lv_iload_n C.1 C.2.1 d_M_restore_32 rfl (lv_at hl 2 rfl) ?_
      refine n_imul C.1 C.2.1 (a := 4) (b := b0) d_M_restore_33 ?_
      refine n_iadd C.1 C.2.1 (a := 24 * s0) (b := 4 * b0) d_M_restore_34 ?_
      refine lv_iload_n C.1 C.2.1 d_M_restore_35 rfl (lv_at hl 3 rfl) ?_
      refine n_iadd C.1 C.2.1 (a := (24 * s0) + (4 * b0)) (b := i) d_M_restore_36 ?_
      refine sm_l2 C I (k := ((24 * s0) + (4 * b0)) + i) (by omega) d_M_restore_37 ?_
      refine sm_s1 C I (k := (4 * b0) + i) (x := (wo (((24 * s0) + (4 * b0)) + i))) (by omega) d_M_restore_38 (fun H locs I => ?_)
      refine lv_iinc (v := nI (i + 1)) (lv' := [(3, .int (nI (i + 1))), (0, .ref (h 0)), (1, .int (nI s0)), (2, .int (nI b0))]) C.1 C.2.1 d_M_restore_39 hl (k := 3) rfl (by rw [show nI (i + 1) = nI i + nI 1 from (nI_add _ _).symm]; rfl) (by decide) rfl (fun ls hl => ?_)
      refine lv_goto (tgt := 9) C.1 C.2.1 d_M_restore_42 (by decide) ?_
      exact ih (i + 1) (upd vov ((4 * b0) + i) (wo (((24 * s0) + (4 * b0)) + i))) owv (by omega) (by omega) (by rw [hV, show 4 - i = (4 - (i + 1)) + 1 by omega]; rfl) howv _ _ I ls (lv_sub hl [1, 2, 3, 0] rfl)
set_option maxHeartbeats 4000000 in
set_option maxRecDepth 100000 in
/-- R_M.restore -/
theorem c_M_restore (l : Launch) (D : va_G) (cA : Nat → ClassId) (h : Nat → Nat) (sz : Nat) (co : Nat) (dn : Bool) (fu : Option Nat) (ct : Nat) (vo : (Nat → Int32)) (wo : (Nat → Int32)) (th : (Nat → Bool)) (ow : (Nat → Nat)) (ba : Nat) (mr : Nat) (s0 b0 : Nat) (hs0 : s0 < 3) (hb0 : b0 < 6) (how : oB th ow) (hu : mUsed th ow + mShr th ow b0 (some s0) ≤ 9) : smMv l D cA h (co, dn, fu, ct, vo, wo, th, ow, ba, mr) sz y_M_restore (.code y_M_restore b_M_restore 4 none) (rmL 2) [.int (nI s0), .int (nI b0)] (fun u' => u' = (co, dn, fu, ct, mVol vo wo s0 b0 4 0, wo, th, mPart th ow b0 (some s0) 3, ba, mr)) := by
  refine sm_mv (by decide) rfl (Nat.le_of_ble_eq_true rfl) ?_
  intro p e s m args below meth c C hr hsz I ls hl
  generalize smA cA h (co, dn, fu, ct, vo, wo, th, ow, ba, mr) sz = A at I ⊢
  have hl : lv_has ls 4 [(0, .ref (h 0)), (1, .int (nI s0)), (2, .int (nI b0))] := hl
  refine lv_aload_n C.1 C.2.1 d_M_restore_0 rfl (lv_at hl 0 rfl) ?_
  refine lv_iload_n C.1 C.2.1 d_M_restore_1 rfl (lv_at hl 2 rfl) ?_
  refine lv_iload_n C.1 C.2.1 d_M_restore_2 rfl (lv_at hl 1 rfl) ?_
  refine lv_iconst (v := nI 3) C.1 C.2.1 d_M_restore_3 (by decide) ?_
  refine sm_cv C I (c_M_part l D cA h _ co dn fu ct vo wo th ow ba mr b0 (some s0) (by omega) (fun j e => by cases e; omega) 3 (by omega) how hu) lk_M63 rfl rfl ⟨by decide, by decide⟩ ⟨Nat.zero_le _, Nat.zero_le _⟩ rfl hl.1 (rest := []) rfl (Nat.le_of_ble_eq_true rfl) d_M_restore_4 (fun u' H locs w4 I => ?_)
  obtain rfl := w4
  refine lv_iconst (v := nI 0) C.1 C.2.1 d_M_restore_7 (by decide) ?_
  refine lv_istore_n (lv' := [(3, .int (nI 0)), (0, .ref (h 0)), (1, .int (nI s0)), (2, .int (nI b0))]) C.1 C.2.1 d_M_restore_8 rfl hl (by decide) rfl (fun ls hl => ?_)
  exact lp_M_restore_9 C hr s0 b0 hs0 hb0 how hu  _ 0 vo (mPart th ow b0 (some s0) 3) (Nat.lt_succ_self _) (by omega) rfl rfl _ _ I ls (lv_sub hl [1, 2, 3, 0] rfl)
set_option maxHeartbeats 4000000 in
set_option maxRecDepth 100000 in
theorem lp_M_restoreFrom_5 {p : Program} {l : Launch} {e : Env} {s : State} {m : MethodId} {args : Array Value} {below : List Frame} {meth : Method} {c : Code} {D : va_G} {cA : Nat → ClassId} {A : Nat → Prop} {h : Nat → Nat} {co : Nat} {dn : Bool} {fu : Option Nat} {ct : Nat} {vo : (Nat → Int32)} {wo : (Nat → Int32)} {th : (Nat → Bool)} {ow : (Nat → Nat)} {ba : Nat} {mr : Nat} (C : gC p s m args meth c b_M_restoreFrom 5 R_M) (hr : meth.sig.returnType = (some .int)) (s0 f0 : Nat) (hs0 : s0 < 3) (hf0 : f0 ≤ 6) (hth : th s0 = true) (how : oB th ow) (hu : mUsed th ow + mNd th ow s0 (6 - f0) f0 ≤ 9)   : ∀ (fuel : Nat) (b : Nat) (a : Nat) (vov : Nat → Int32) (owv : Nat → Nat), 6 - b < fuel → b ≤ 6 → mRest th wo s0 (6 - f0) f0 0 vo ow = mRest th wo s0 (6 - b) b a vov owv → oB th owv → mUsed th owv + mNd th owv s0 (6 - b) b ≤ 9 → ∀ (H : Heap) (locs : List Loc), smI D cA A s h (co, dn, fu, ct, vov, wo, th, owv, ba, mr) H locs → ∀ (ls : Array Slot), lv_has ls 5 [(0, .ref (h 0)), (1, .int (nI s0)), (3, .int (nI a)), (4, .int (nI b))] → W p l e (rmL 3) s m args below meth c H locs 0 0 (MQ below (va_Qi (fun r u' => ∃ n vo' ow', mRest th wo s0 (6 - f0) f0 0 vo ow = (n, vo', ow') ∧ r = nI n ∧ u' = (co, dn, fu, ct, vo', wo, th, ow', ba, mr)) (smAt D cA A h) A) args s 0 0 A) (F0 m 5 ls []) := by
  intro fuel
  induction fuel with
  | zero =>
    intro _ _ _ _ hfuel
    exact absurd hfuel (Nat.not_lt_zero _)
  | succ fuel ih =>
    intro b a vov owv hfuel hi hR hv hu2 H locs I ls hl
    refine lv_iload C.1 C.2.1 d_M_restoreFrom_5 (lv_at hl 3 rfl) ?_
    refine lv_bipush (v := nI 6) C.1 C.2.1 d_M_restoreFrom_7 (by decide) ?_
    refine n_icmp_ge C.1 C.2.1 (a := b) (b := 6) (tgt := 38) (by omega) (by omega) d_M_restoreFrom_9 (by decide) (fun q9 => ?_) (fun q9 => ?_)
    · refine lv_iload_n C.1 C.2.1 d_M_restoreFrom_38 rfl (lv_at hl 2 rfl) ?_
      exact sm_ri (v := nI a) C hr I ⟨a, vov, owv, hR.trans (by rw [show 6 - b = 0 by omega]; rfl), rfl, rfl⟩ d_M_restoreFrom_39
    · refine lv_aload_n C.1 C.2.1 d_M_restoreFrom_12 rfl (lv_at hl 0 rfl) ?_
      refine lv_iload_n C.1 C.2.1 d_M_restoreFrom_13 rfl (lv_at hl 1 rfl) ?_
      refine lv_iload C.1 C.2.1 d_M_restoreFrom_14 (lv_at hl 3 rfl) ?_
      refine sm_ci C I (c_M_has l D cA h _ co dn fu ct vov wo th owv ba mr s0 b (by omega) (by omega) (hv.sb (by omega) (by omega) hth)) lk_M73 rfl rfl ⟨by decide, by decide⟩ ⟨Nat.zero_le _, Nat.zero_le _⟩ rfl hl.1 (rest := []) rfl (Nat.le_of_ble_eq_true rfl) d_M_restoreFrom_16 (fun r u' H locs w16 I => ?_)
      obtain ⟨rfl, rfl⟩ := w16
      refine n_ifeq (b := mHas owv s0 b) (tgt := 32) C.1 C.2.1 d_M_restoreFrom_19 (by decide) (fun q19 => ?_) (fun q19 => ?_)
      · refine lv_iinc (v := nI (b + 1)) (lv' := [(4, .int (nI (b + 1))), (0, .ref (h 0)), (1, .int (nI s0)), (3, .int (nI a))]) C.1 C.2.1 d_M_restoreFrom_32 hl (k := 3) rfl (by rw [show nI (b + 1) = nI b + nI 1 from (nI_add _ _).symm]; rfl) (by decide) rfl (fun ls hl => ?_)
        refine lv_goto (tgt := 5) C.1 C.2.1 d_M_restoreFrom_35 (by decide) ?_
        exact ih (b + 1) a vov owv (by omega) (by omega) (by rw [hR, show 6 - b = (6 - (b + 1)) + 1 by omega]; first | exact hrs | exact mRest_no q19) (by first | exact hnp.1 | exact hv) (by first | exact hnp.2 | (rw [show 6 - b = (6 - (b + 1)) + 1 by omega, mNd_no q19] at hu2; exact hu2)) _ _ I ls (lv_sub hl [1, 2, 3, 0] rfl)
      · have hu3 : mUsed th owv + (mShr th owv b (some s0) + mNd th owv s0 (6 - (b + 1)) (b + 1)) ≤ 9 := by rw [show 6 - b = (6 - (b + 1)) + 1 by omega, mNd_yes q19] at hu2; exact hu2
        have hnp := mNd_part (many := 3) (show b < 6 by omega) hv hu3
        have hrs := mRest_yes (th := th) (n := 6 - (b + 1)) (a := a) (vo := vov) (wo := wo) q19
        refine lv_aload_n C.1 C.2.1 d_M_restoreFrom_22 rfl (lv_at hl 0 rfl) ?_
        refine lv_iload_n C.1 C.2.1 d_M_restoreFrom_23 rfl (lv_at hl 1 rfl) ?_
        refine lv_iload C.1 C.2.1 d_M_restoreFrom_24 (lv_at hl 3 rfl) ?_
        refine sm_cv C I (c_M_restore l D cA h _ co dn fu ct vov wo th owv ba mr s0 b (by omega) (by omega) hv (by omega)) lk_M76 rfl rfl ⟨by decide, by decide⟩ ⟨Nat.zero_le _, Nat.zero_le _⟩ rfl hl.1 (rest := []) rfl (Nat.le_of_ble_eq_true rfl) d_M_restoreFrom_26 (fun u' H locs w26 I => ?_)
        obtain rfl := w26
        refine lv_iinc (v := nI (a + 1)) (lv' := [(3, .int (nI (a + 1))), (0, .ref (h 0)), (1, .int (nI s0)), (4, .int (nI b))]) C.1 C.2.1 d_M_restoreFrom_29 hl (k := 2) rfl (by rw [show nI (a + 1) = nI a + nI 1 from (nI_add _ _).symm]; rfl) (by decide) rfl (fun ls hl => ?_)
        refine lv_iinc (v := nI (b + 1)) (lv' := [(4, .int (nI (b + 1))), (3, .int (nI (a + 1))), (0, .ref (h 0)), (1, .int (nI s0))]) C.1 C.2.1 d_M_restoreFrom_32 hl (k := 3) rfl (by rw [show nI (b + 1) = nI b + nI 1 from (nI_add _ _).symm]; rfl) (by decide) rfl (fun ls hl => ?_)
        refine lv_goto (tgt := 5) C.1 C.2.1 d_M_restoreFrom_35 (by decide) ?_
        exact ih (b + 1) (a + 1) (mVol vov wo s0 b 4 0) (mPart th owv b (some s0) 3) (by omega) (by omega) (by rw [hR, show 6 - b = (6 - (b + 1)) + 1 by omega]; first | exact hrs | exact mRest_no q19) (by first | exact hnp.1 | exact hv) (by first | exact hnp.2 | (rw [show 6 - b = (6 - (b + 1)) + 1 by omega, mNd_no q19] at hu2; exact hu2)) _ _ I ls (lv_sub hl [2, 3, 1, 0] rfl)
set_option maxHeartbeats 4000000 in
set_option maxRecDepth 100000 in
/-- R_M.restoreFrom -/
theorem c_M_restoreFrom (l : Launch) (D : va_G) (cA : Nat → ClassId) (h : Nat → Nat) (sz : Nat) (co : Nat) (dn : Bool) (fu : Option Nat) (ct : Nat) (vo : (Nat → Int32)) (wo : (Nat → Int32)) (th : (Nat → Bool)) (ow : (Nat → Nat)) (ba : Nat) (mr : Nat) (s0 f0 : Nat) (hs0 : s0 < 3) (hf0 : f0 ≤ 6) (hth : th s0 = true) (how : oB th ow) (hu : mUsed th ow + mNd th ow s0 (6 - f0) f0 ≤ 9) : smMi l D cA h (co, dn, fu, ct, vo, wo, th, ow, ba, mr) sz y_M_restoreFrom (.code y_M_restoreFrom b_M_restoreFrom 5 (some .int)) (rmL 3) [.int (nI s0), .int (nI f0)] (fun r u' => ∃ n vo' ow', mRest th wo s0 (6 - f0) f0 0 vo ow = (n, vo', ow') ∧ r = nI n ∧ u' = (co, dn, fu, ct, vo', wo, th, ow', ba, mr)) := by
  refine sm_mi (by decide) rfl (Nat.le_of_ble_eq_true rfl) ?_
  intro p e s m args below meth c C hr hsz I ls hl
  generalize smA cA h (co, dn, fu, ct, vo, wo, th, ow, ba, mr) sz = A at I ⊢
  have hl : lv_has ls 5 [(0, .ref (h 0)), (1, .int (nI s0)), (2, .int (nI f0))] := hl
  refine lv_iconst (v := nI 0) C.1 C.2.1 d_M_restoreFrom_0 (by decide) ?_
  refine lv_istore_n (lv' := [(3, .int (nI 0)), (0, .ref (h 0)), (1, .int (nI s0)), (2, .int (nI f0))]) C.1 C.2.1 d_M_restoreFrom_1 rfl hl (by decide) rfl (fun ls hl => ?_)
  refine lv_iload_n C.1 C.2.1 d_M_restoreFrom_2 rfl (lv_at hl 3 rfl) ?_
  refine lv_istore (lv' := [(4, .int (nI f0)), (3, .int (nI 0)), (0, .ref (h 0)), (1, .int (nI s0)), (2, .int (nI f0))]) C.1 C.2.1 d_M_restoreFrom_3 hl (by decide) rfl (fun ls hl => ?_)
  exact lp_M_restoreFrom_5 C hr s0 f0 hs0 hf0 hth how hu  _ f0 0 vo ow (Nat.lt_succ_self _) (by omega) rfl how hu _ _ I ls (lv_sub hl [2, 3, 1, 0] rfl)
end
section
theorem two {α β : Type} {f : α → Int32} {x : α × β} {a : α} {u : β} (h : x = (a, u)) : f a = f x.1 ∧ u = x.2 := by
  rw [h]
  exact ⟨rfl, rfl⟩
section OPS2
variable {co : Nat} {dn : Bool} {fu fl : Option Nat} {ct cl : Nat} {vo wo : Nat → Int32} {th : Nat → Bool} {ow : Nat → Nat} {ba mr : Nat} {dl : Bool} {x y z w : Int32} {b i s k ns nu : Nat}
theorem isW_no {α : Type} {f : Nat → Nat → α} {g : α} (h : ((ixI x 6).isSome && (ixI y 4).isSome) = false) : (match ixI x 6, ixI y 4 with
    | some b, some i => f b i
    | _, _ => g) = g := by
  cases hx : ixI x 6 with
  | none => rfl
  | some b =>
    cases hy : ixI y 4 with
    | none => rfl
    | some i => rw [hx, hy] at h; cases h
theorem mWrite_3 : mWrite x y w (co, true, fu, ct, vo, wo, th, ow, ba, mr) = (0, (3, true, fu, ct, vo, wo, th, ow, ba, mr)) := rfl
theorem mWrite_1 (h : ((ixI x 6).isSome && (ixI y 4).isSome) = false) : mWrite x y w (co, false, fu, ct, vo, wo, th, ow, ba, mr) = (0, (1, false, fu, ct, vo, wo, th, ow, ba, mr)) := isW_no h
theorem mWrite_2 (hb : b < 6) (hi : i < 4) (hns : mShr th ow b none = ns) (hnu : mUsed th ow = nu) (h : 9 - nu < ns) : mWrite (nI b) (nI i) w (co, false, fu, ct, vo, wo, th, ow, ba, mr) = (0, (2, false, fu, ct, vo, wo, th, ow, ba, mr)) := by
  simp only [mWrite, ixI_nI hb (show 6 < 2 ^ 31 by decide), ixI_nI hi (show 4 < 2 ^ 31 by decide), Bool.false_eq_true, if_false, hns, hnu, if_pos h]
theorem mWrite_y (hb : b < 6) (hi : i < 4) (hns : mShr th ow b none = ns) (hnu : mUsed th ow = nu) (h : ¬ 9 - nu < ns) (hl : mLast fu ct false (5 * ns + 1) = (true, fl, cl, dl)) : mWrite (nI b) (nI i) w (co, false, fu, ct, vo, wo, th, ow, ba, mr) = (ns, (0, dl, fl, cl, upd vo (4 * b + i) w, wo, th, mPart th ow b none ns, ba, mr)) := by
  simp only [mWrite, ixI_nI hb (show 6 < 2 ^ 31 by decide), ixI_nI hi (show 4 < 2 ^ 31 by decide), Bool.false_eq_true, if_false, hns, hnu, if_neg h, hl]
theorem mWrite_n (hb : b < 6) (hi : i < 4) (hns : mShr th ow b none = ns) (hnu : mUsed th ow = nu) (h : ¬ 9 - nu < ns) (hl : mLast fu ct false (5 * ns + 1) = (false, some k, cl, dl)) : mWrite (nI b) (nI i) w (co, false, fu, ct, vo, wo, th, ow, ba, mr) = (0, (3, dl, none, cl, vo, wo, th, mPart th ow b none (k / 5), ba, mr)) := by
  simp only [mWrite, ixI_nI hb (show 6 < 2 ^ 31 by decide), ixI_nI hi (show 4 < 2 ^ 31 by decide), Bool.false_eq_true, if_false, hns, hnu, if_neg h, hl, Option.getD_some]
theorem mRead_2 : mRead x y (co, true, fu, ct, vo, wo, th, ow, ba, mr) = (nI 0, (2, true, fu, ct, vo, wo, th, ow, ba, mr)) := rfl
theorem mRead_1 (h : ((ixI x 6).isSome && (ixI y 4).isSome) = false) : mRead x y (co, false, fu, ct, vo, wo, th, ow, ba, mr) = (nI 0, (1, false, fu, ct, vo, wo, th, ow, ba, mr)) := isW_no h
theorem mRead_0 (hb : b < 6) (hi : i < 4) : mRead (nI b) (nI i) (co, false, fu, ct, vo, wo, th, ow, ba, mr) = (vo (4 * b + i), (0, false, fu, ct, vo, wo, th, ow, ba, mr)) := by
  simp only [mRead, ixI_nI hb (show 6 < 2 ^ 31 by decide), ixI_nI hi (show 4 < 2 ^ 31 by decide), Bool.false_eq_true, if_false]
theorem mDrop_2 : mDrop x (co, true, fu, ct, vo, wo, th, ow, ba, mr) = (2, true, fu, ct, vo, wo, th, ow, ba, mr) := rfl
theorem mDrop_1 (h : (mHasS th x).isSome = false) : mDrop x (co, false, fu, ct, vo, wo, th, ow, ba, mr) = (1, false, fu, ct, vo, wo, th, ow, ba, mr) := by
  simp only [mDrop, none_of h, Bool.false_eq_true, if_false]
theorem mDrop_y (h : mHasS th x = some s) (hl : mLast fu ct false 1 = (true, fl, cl, dl)) : mDrop x (co, false, fu, ct, vo, wo, th, ow, ba, mr) = (0, dl, fl, cl, vo, wo, va_up th s false, ow, ba, mr) := by
  simp only [mDrop, h, hl, Bool.false_eq_true, if_false]
theorem mDrop_n (h : mHasS th x = some s) (hl : mLast fu ct false 1 = (false, fl, cl, dl)) : mDrop x (co, false, fu, ct, vo, wo, th, ow, ba, mr) = (2, dl, none, cl, vo, wo, th, ow, ba, mr) := by
  simp only [mDrop, h, hl, Bool.false_eq_true, if_false]
theorem mReadS_3 : mReadS z x y (co, true, fu, ct, vo, wo, th, ow, ba, mr) = (nI 0, (3, true, fu, ct, vo, wo, th, ow, ba, mr)) := rfl
theorem mReadS_1 (h : (mHasS th z).isSome = false) : mReadS z x y (co, false, fu, ct, vo, wo, th, ow, ba, mr) = (nI 0, (1, false, fu, ct, vo, wo, th, ow, ba, mr)) := by
  simp only [mReadS, none_of h, Bool.false_eq_true, if_false]
  rfl
theorem mReadS_2 (h : mHasS th z = some s) (h2 : ((ixI x 6).isSome && (ixI y 4).isSome) = false) : mReadS z x y (co, false, fu, ct, vo, wo, th, ow, ba, mr) = (nI 0, (2, false, fu, ct, vo, wo, th, ow, ba, mr)) := by
  simp only [mReadS, h, Bool.false_eq_true, if_false]
  exact isW_no h2
theorem mReadS_0 (h : mHasS th z = some s) (hb : b < 6) (hi : i < 4) : mReadS z (nI b) (nI i) (co, false, fu, ct, vo, wo, th, ow, ba, mr) = (wo (24 * s + 4 * b + i), (0, false, fu, ct, vo, wo, th, ow, ba, mr)) := by
  simp only [mReadS, h, ixI_nI hb (show 6 < 2 ^ 31 by decide), ixI_nI hi (show 4 < 2 ^ 31 by decide), Bool.false_eq_true, if_false]
theorem mWS_4 : mWriteS z x y w (co, true, fu, ct, vo, wo, th, ow, ba, mr) = (false, (4, true, fu, ct, vo, wo, th, ow, ba, mr)) := rfl
theorem mWS_1 (h : (mHasS th z).isSome = false) : mWriteS z x y w (co, false, fu, ct, vo, wo, th, ow, ba, mr) = (false, (1, false, fu, ct, vo, wo, th, ow, ba, mr)) := by
  simp only [mWriteS, none_of h, Bool.false_eq_true, if_false]
theorem mWS_2 (h : mHasS th z = some s) (h2 : ((ixI x 6).isSome && (ixI y 4).isSome) = false) : mWriteS z x y w (co, false, fu, ct, vo, wo, th, ow, ba, mr) = (false, (2, false, fu, ct, vo, wo, th, ow, ba, mr)) := by
  simp only [mWriteS, h, Bool.false_eq_true, if_false]
  exact isW_no h2
theorem mWS_3 (h : mHasS th z = some s) (hb : b < 6) (hi : i < 4) (h0 : ow (6 * s + b) = 0) (h9 : mUsed th ow = 9) : mWriteS z (nI b) (nI i) w (co, false, fu, ct, vo, wo, th, ow, ba, mr) = (false, (3, false, fu, ct, vo, wo, th, ow, ba, mr)) := by
  simp only [mWriteS, h, ixI_nI hb (show 6 < 2 ^ 31 by decide), ixI_nI hi (show 4 < 2 ^ 31 by decide), Bool.false_eq_true, if_false]
  rw [if_pos ⟨h0, h9⟩]
theorem mWS_y (h : mHasS th z = some s) (hb : b < 6) (hi : i < 4) (h0 : ow (6 * s + b) = 0) (h9 : ¬ mUsed th ow = 9) (hl : mLast fu ct false 5 = (true, fl, cl, dl)) : mWriteS z (nI b) (nI i) w (co, false, fu, ct, vo, wo, th, ow, ba, mr) = (true, (0, dl, fl, cl, vo, upd wo (24 * s + 4 * b + i) w, th, va_up ow (6 * s + b) (mLow th ow), ba, mr)) := by
  simp only [mWriteS, h, ixI_nI hb (show 6 < 2 ^ 31 by decide), ixI_nI hi (show 4 < 2 ^ 31 by decide), Bool.false_eq_true, if_false]
  rw [if_neg (fun q => h9 q.2), if_pos h0, if_pos h0, hl, decide_eq_true h0]
theorem mWS_yc (h : mHasS th z = some s) (hb : b < 6) (hi : i < 4) (h0 : ow (6 * s + b) = 0) (h9 : ¬ mUsed th ow = 9) (hl : mLast fu ct false 5 = (false, fl, cl, dl)) : mWriteS z (nI b) (nI i) w (co, false, fu, ct, vo, wo, th, ow, ba, mr) = (false, (4, dl, none, cl, vo, wo, th, ow, ba, mr)) := by
  simp only [mWriteS, h, ixI_nI hb (show 6 < 2 ^ 31 by decide), ixI_nI hi (show 4 < 2 ^ 31 by decide), Bool.false_eq_true, if_false]
  rw [if_neg (fun q => h9 q.2), if_pos h0, hl]
theorem mWS_n (h : mHasS th z = some s) (hb : b < 6) (hi : i < 4) (h0 : ¬ ow (6 * s + b) = 0) (hl : mLast fu ct false 1 = (true, fl, cl, dl)) : mWriteS z (nI b) (nI i) w (co, false, fu, ct, vo, wo, th, ow, ba, mr) = (false, (0, dl, fl, cl, vo, upd wo (24 * s + 4 * b + i) w, th, va_up ow (6 * s + b) (ow (6 * s + b)), ba, mr)) := by
  simp only [mWriteS, h, ixI_nI hb (show 6 < 2 ^ 31 by decide), ixI_nI hi (show 4 < 2 ^ 31 by decide), Bool.false_eq_true, if_false]
  rw [if_neg (fun q => h0 q.1), if_neg h0, if_neg h0, hl, decide_eq_false h0]
theorem mWS_nc (h : mHasS th z = some s) (hb : b < 6) (hi : i < 4) (h0 : ¬ ow (6 * s + b) = 0) (hl : mLast fu ct false 1 = (false, fl, cl, dl)) : mWriteS z (nI b) (nI i) w (co, false, fu, ct, vo, wo, th, ow, ba, mr) = (false, (4, dl, none, cl, vo, wo, th, ow, ba, mr)) := by
  simp only [mWriteS, h, ixI_nI hb (show 6 < 2 ^ 31 by decide), ixI_nI hi (show 4 < 2 ^ 31 by decide), Bool.false_eq_true, if_false]
  rw [if_neg (fun q => h0 q.1), if_neg h0, hl]
theorem mCopyOf_3 : mCopyOf x y (co, true, fu, ct, vo, wo, th, ow, ba, mr) = (some 0, (3, true, fu, ct, vo, wo, th, ow, ba, mr)) := rfl
theorem mCopyOf_1 (h : (mHasS th x).isSome = false) : mCopyOf x y (co, false, fu, ct, vo, wo, th, ow, ba, mr) = (some 0, (1, false, fu, ct, vo, wo, th, ow, ba, mr)) := by
  simp only [mCopyOf, none_of h, Bool.false_eq_true, if_false]
theorem mCopyOf_2 (h : mHasS th x = some s) (h2 : (ixI y 6).isSome = false) : mCopyOf x y (co, false, fu, ct, vo, wo, th, ow, ba, mr) = (some 0, (2, false, fu, ct, vo, wo, th, ow, ba, mr)) := by
  simp only [mCopyOf, h, none_of h2, Bool.false_eq_true, if_false]
theorem mCopyOf_0 (h : mHasS th x = some s) (hb : b < 6) (h0 : ow (6 * s + b) = 0) : mCopyOf x (nI b) (co, false, fu, ct, vo, wo, th, ow, ba, mr) = (none, (0, false, fu, ct, vo, wo, th, ow, ba, mr)) := by
  simp only [mCopyOf, h, ixI_nI hb (show 6 < 2 ^ 31 by decide), Bool.false_eq_true, if_false, h0]
theorem mCopyOf_k (h : mHasS th x = some s) (hb : b < 6) (h0 : ow (6 * s + b) = k + 1) : mCopyOf x (nI b) (co, false, fu, ct, vo, wo, th, ow, ba, mr) = (some k, (0, false, fu, ct, vo, wo, th, ow, ba, mr)) := by
  simp only [mCopyOf, h, ixI_nI hb (show 6 < 2 ^ 31 by decide), Bool.false_eq_true, if_false, h0]
theorem mPlaces_0 {p q r : Bool} (h0 : th 0 = p) (h1 : th 1 = q) (h2 : th 2 = r) : mPlaces (co, false, fu, ct, vo, wo, th, ow, ba, mr) = ((if p then 1 else 0) + (if q then 2 else 0) + (if r then 4 else 0), (0, false, fu, ct, vo, wo, th, ow, ba, mr)) := by
  simp only [mPlaces, Bool.false_eq_true, if_false, h0, h1, h2]
theorem mFuse_no (h : x < -1 ∨ dn = true) : mFuse x (co, dn, fu, ct, vo, wo, th, ow, ba, mr) = (false, (0, dn, fu, ct, vo, wo, th, ow, ba, mr)) := if_pos h
theorem mFuse_off : mFuse (oI none) (co, false, fu, ct, vo, wo, th, ow, ba, mr) = (true, (0, false, none, ct, vo, wo, th, ow, ba, mr)) := rfl
theorem mFuse_k (hk : k < 2 ^ 31) : mFuse (nI k) (co, false, fu, ct, vo, wo, th, ow, ba, mr) = (true, (0, false, some k, ct, vo, wo, th, ow, ba, mr)) := by
  have h1 : ¬ nI k < 0 := nI_pos hk
  have h2 : ¬ nI k < -1 := fun z => h1 (Int32.lt_trans z (by decide))
  show (if (nI k < -1 ∨ false = true) then _ else _) = _
  rw [if_neg (fun z => z.elim h2 (fun z => by cases z)), if_neg h1, nI_clamp hk]
theorem mRec_1 : mRec (co, false, fu, ct, vo, wo, th, ow, ba, mr) = (0, (1, false, fu, ct, vo, wo, th, ow, ba, mr)) := rfl
theorem mRec_z : mRec (co, true, fu, ct, vo, wo, th, ow, 0, mr) = (0, (0, false, fu, ct, vo, wo, th, ow, 0, mr)) := rfl
theorem mRec_s {n : Nat} {vo' : Nat → Int32} {ow' : Nat → Nat} (h : mRest th wo s (6 - mr) mr 0 vo ow = (n, vo', ow')) : mRec (co, true, fu, ct, vo, wo, th, ow, s + 1, mr) = (n, (0, false, fu, ct + mWF th ow s (6 - mr) mr + 1, vo', wo, th, ow', 0, mr)) := by
  simp only [mRec, if_true, h]
end OPS2
end
section
set_option maxHeartbeats 4000000 in
set_option maxRecDepth 100000 in
/-- R_M.write -/
theorem c_M_write (l : Launch) (D : va_G) (cA : Nat → ClassId) (h : Nat → Nat) (sz : Nat) (co : Nat) (dn : Bool) (fu : Option Nat) (ct : Nat) (vo : (Nat → Int32)) (wo : (Nat → Int32)) (th : (Nat → Bool)) (ow : (Nat → Nat)) (ba : Nat) (mr : Nat) (x y w0 : Int32) (hfu : ∀ k, fu = some k → k < 2 ^ 31) (how : oB th ow) (hu : mUsed th ow ≤ 9) : smMi l D cA h (co, dn, fu, ct, vo, wo, th, ow, ba, mr) sz y_M_write (.code y_M_write b_M_write 5 (some .int)) (rmL 2) [.int x, .int y, .int w0] (fun r u' => r = nI (mWrite x y w0 (co, dn, fu, ct, vo, wo, th, ow, ba, mr)).1 ∧ u' = (mWrite x y w0 (co, dn, fu, ct, vo, wo, th, ow, ba, mr)).2) := by
  refine sm_mi (by decide) rfl (Nat.le_of_ble_eq_true rfl) ?_
  intro p e s m args below meth c C hr hsz I ls hl
  generalize smA cA h (co, dn, fu, ct, vo, wo, th, ow, ba, mr) sz = A at I ⊢
  have hl : lv_has ls 5 [(0, .ref (h 0)), (1, .int x), (2, .int y), (3, .int w0)] := hl
  refine lv_aload_n C.1 C.2.1 d_M_write_0 rfl (lv_at hl 0 rfl) ?_
  refine lv_aload_n C.1 C.2.1 d_M_write_1 rfl (lv_at hl 0 rfl) ?_
  refine sm_g1 C I d_M_write_2 ?_
  refine n_ifeq (b := dn) (tgt := 12) C.1 C.2.1 d_M_write_5 (by decide) (fun q5 => ?_) (fun q5 => ?_)
  · subst q5
    refine lv_iload_n C.1 C.2.1 d_M_write_12 rfl (lv_at hl 1 rfl) ?_
    refine lv_iload_n C.1 C.2.1 d_M_write_13 rfl (lv_at hl 2 rfl) ?_
    refine sm_cs C I (c_M_isWord l _ x y) lk_M48 rfl rfl ⟨by decide, by decide⟩ ⟨Nat.zero_le _, Nat.zero_le _⟩ rfl hl.1 (rest := [.ref (h 0)]) rfl (Nat.le_of_ble_eq_true rfl) d_M_write_14 (fun r H locs w14 I => ?_)
    subst w14
    refine n_ifne (b := ((ixI x 6).isSome && (ixI y 4).isSome)) (tgt := 24) C.1 C.2.1 d_M_write_17 (by decide) (fun q17 => ?_) (fun q17 => ?_)
    · obtain ⟨⟨b1, hb1, rfl⟩, i1, hi1, rfl⟩ := isW q17
      obtain ⟨ns, hns⟩ : ∃ z, mShr th ow b1 none = z := ⟨_, rfl⟩
      have hn3 : ns ≤ 3 := by rw [← hns]; exact cnt_le _ 3
      obtain ⟨nu, hnu⟩ : ∃ z, mUsed th ow = z := ⟨_, rfl⟩
      have hu9 : nu ≤ 9 := by rw [← hnu]; exact hu
      refine lv_aload_n C.1 C.2.1 d_M_write_24 rfl (lv_at hl 0 rfl) ?_
      refine lv_iload_n C.1 C.2.1 d_M_write_25 rfl (lv_at hl 1 rfl) ?_
      refine lv_iconst (v := oI none) C.1 C.2.1 d_M_write_26 (by decide) ?_
      refine sm_ci C I (c_M_sharers l D cA h _ co false fu ct vo wo th ow ba mr b1 none (by omega) (fun j e => by cases e) how) lk_M52 rfl rfl ⟨by decide, by decide⟩ ⟨Nat.zero_le _, Nat.zero_le _⟩ rfl hl.1 (rest := [.ref (h 0)]) rfl (Nat.le_of_ble_eq_true rfl) d_M_write_27 (fun r u' H locs w27 I => ?_)
      obtain ⟨rfl, rfl⟩ := w27
      rw [hns]
      refine lv_bipush (v := nI 9) C.1 C.2.1 d_M_write_30 (by decide) ?_
      refine lv_aload_n C.1 C.2.1 d_M_write_32 rfl (lv_at hl 0 rfl) ?_
      refine sm_ci C I (c_M_usedCopies l D cA h _ co false fu ct vo wo th ow ba mr how) lk_M56 rfl rfl ⟨by decide, by decide⟩ ⟨Nat.zero_le _, Nat.zero_le _⟩ rfl hl.1 (rest := [.int (nI 9), .int (nI ns), .ref (h 0)]) rfl (Nat.le_of_ble_eq_true rfl) d_M_write_33 (fun r u' H locs w33 I => ?_)
      obtain ⟨rfl, rfl⟩ := w33
      rw [hnu]
      refine n_isub C.1 C.2.1 (a := 9) (b := nu) (by omega) d_M_write_36 ?_
      refine n_icmp_le C.1 C.2.1 (a := ns) (b := 9 - nu) (tgt := 44) (by omega) (by omega) d_M_write_37 (by decide) (fun q37 => ?_) (fun q37 => ?_)
      · refine lv_iconst (v := nI 0) C.1 C.2.1 d_M_write_44 (by decide) ?_
        refine sm_p0 C I 0 rfl d_M_write_45 (fun H locs I => ?_)
        refine lv_aload_n C.1 C.2.1 d_M_write_48 rfl (lv_at hl 0 rfl) ?_
        refine sm_g0 C I d_M_write_49 ?_
        refine n_ifz_le (a := 0) (tgt := 57) C.1 C.2.1 (by omega) d_M_write_52 (by decide) (fun q52 => ?_) (fun q52 => absurd q52 (by omega))
        refine lv_aload_n C.1 C.2.1 d_M_write_57 rfl (lv_at hl 0 rfl) ?_
        refine lv_iload_n C.1 C.2.1 d_M_write_58 rfl (lv_at hl 1 rfl) ?_
        refine lv_iconst (v := oI none) C.1 C.2.1 d_M_write_59 (by decide) ?_
        refine sm_ci C I (c_M_sharers l D cA h _ 0 false fu ct vo wo th ow ba mr b1 none (by omega) (fun j e => by cases e) how) lk_M52 rfl rfl ⟨by decide, by decide⟩ ⟨Nat.zero_le _, Nat.zero_le _⟩ rfl hl.1 (rest := []) rfl (Nat.le_of_ble_eq_true rfl) d_M_write_60 (fun r u' H locs w60 I => ?_)
        obtain ⟨rfl, rfl⟩ := w60
        rw [hns]
        refine lv_istore (lv' := [(4, .int (nI ns)), (0, .ref (h 0)), (1, .int (nI b1)), (2, .int (nI i1)), (3, .int w0)]) C.1 C.2.1 d_M_write_63 hl (by decide) rfl (fun ls hl => ?_)
        refine lv_aload_n C.1 C.2.1 d_M_write_65 rfl (lv_at hl 1 rfl) ?_
        refine lv_iconst (v := nI 5) C.1 C.2.1 d_M_write_66 (by decide) ?_
        refine lv_iload C.1 C.2.1 d_M_write_67 (lv_at hl 0 rfl) ?_
        refine n_imul C.1 C.2.1 (a := 5) (b := ns) d_M_write_69 ?_
        refine lv_iconst (v := nI 1) C.1 C.2.1 d_M_write_70 (by decide) ?_
        refine n_iadd C.1 C.2.1 (a := 5 * ns) (b := 1) d_M_write_71 ?_
        refine sm_ci C I (c_M_lasts l D cA h _ 0 false fu ct vo wo th ow ba mr ((5 * ns) + 1) (by omega) hfu) lk_M59 rfl rfl ⟨by decide, by decide⟩ ⟨Nat.zero_le _, Nat.zero_le _⟩ rfl hl.1 (rest := []) rfl (Nat.le_of_ble_eq_true rfl) d_M_write_72 (fun r u' H locs w72 I => ?_)
        obtain ⟨bl, fl, cl, dl, hml, rfl, rfl⟩ := w72
        refine n_ifeq (b := bl) (tgt := 100) C.1 C.2.1 d_M_write_75 (by decide) (fun q75 => ?_) (fun q75 => ?_)
        · subst q75
          obtain ⟨k, rfl, hkw⟩ := mLast_false hml
          refine lv_aload_n C.1 C.2.1 d_M_write_100 rfl (lv_at hl 1 rfl) ?_
          refine lv_iload_n C.1 C.2.1 d_M_write_101 rfl (lv_at hl 2 rfl) ?_
          refine lv_iconst (v := oI none) C.1 C.2.1 d_M_write_102 (by decide) ?_
          refine lv_aload_n C.1 C.2.1 d_M_write_103 rfl (lv_at hl 1 rfl) ?_
          refine sm_ci C I (c_M_cut l D cA h _ 0 dl (some k) cl vo wo th ow ba mr) lk_M67 rfl rfl ⟨by decide, by decide⟩ ⟨Nat.zero_le _, Nat.zero_le _⟩ rfl hl.1 (rest := [.int (oI none), .int (nI b1), .ref (h 0)]) rfl (Nat.le_of_ble_eq_true rfl) d_M_write_104 (fun r u' H locs w104 I => ?_)
          obtain ⟨rfl, rfl⟩ := w104
          refine lv_iconst (v := nI 5) C.1 C.2.1 d_M_write_107 (by decide) ?_
          refine n_idiv C.1 C.2.1 (a := k) (b := 5) (by omega) (by omega) (by omega) d_M_write_108 ?_
          refine sm_cv C I (c_M_part l D cA h _ 0 dl none cl vo wo th ow ba mr b1 none (by omega) (fun j e => by cases e) (k / 5) (by omega) how (by rw [hns, hnu]; omega)) lk_M63 rfl rfl ⟨by decide, by decide⟩ ⟨Nat.zero_le _, Nat.zero_le _⟩ rfl hl.1 (rest := []) rfl (Nat.le_of_ble_eq_true rfl) d_M_write_109 (fun u' H locs w109 I => ?_)
          obtain rfl := w109
          refine lv_aload_n C.1 C.2.1 d_M_write_112 rfl (lv_at hl 1 rfl) ?_
          refine lv_iconst (v := nI 3) C.1 C.2.1 d_M_write_113 (by decide) ?_
          refine sm_p0 C I 3 rfl d_M_write_114 (fun H locs I => ?_)
          refine lv_iconst (v := nI 0) C.1 C.2.1 d_M_write_117 (by decide) ?_
          exact sm_ri (v := nI 0) C hr I (two (f := nI) (mWrite_n hb1 hi1 hns hnu (by omega) hml)) d_M_write_118
        · subst q75
          refine lv_aload_n C.1 C.2.1 d_M_write_78 rfl (lv_at hl 1 rfl) ?_
          refine lv_iload_n C.1 C.2.1 d_M_write_79 rfl (lv_at hl 2 rfl) ?_
          refine lv_iconst (v := oI none) C.1 C.2.1 d_M_write_80 (by decide) ?_
          refine lv_iload C.1 C.2.1 d_M_write_81 (lv_at hl 0 rfl) ?_
          refine sm_cv C I (c_M_part l D cA h _ 0 dl fl cl vo wo th ow ba mr b1 none (by omega) (fun j e => by cases e) ns (by omega) how (by rw [hns, hnu]; omega)) lk_M63 rfl rfl ⟨by decide, by decide⟩ ⟨Nat.zero_le _, Nat.zero_le _⟩ rfl hl.1 (rest := []) rfl (Nat.le_of_ble_eq_true rfl) d_M_write_83 (fun u' H locs w83 I => ?_)
          obtain rfl := w83
          refine lv_aload_n C.1 C.2.1 d_M_write_86 rfl (lv_at hl 1 rfl) ?_
          refine sm_g4 C I d_M_write_87 ?_
          refine lv_iconst (v := nI 4) C.1 C.2.1 d_M_write_90 (by decide) ?_
          refine lv_iload_n C.1 C.2.1 d_M_write_91 rfl (lv_at hl 2 rfl) ?_
          refine n_imul C.1 C.2.1 (a := 4) (b := b1) d_M_write_92 ?_
          refine lv_iload_n C.1 C.2.1 d_M_write_93 rfl (lv_at hl 3 rfl) ?_
          refine n_iadd C.1 C.2.1 (a := 4 * b1) (b := i1) d_M_write_94 ?_
          refine lv_iload_n C.1 C.2.1 d_M_write_95 rfl (lv_at hl 4 rfl) ?_
          refine sm_s1 C I (k := (4 * b1) + i1) (x := w0) (by omega) d_M_write_96 (fun H locs I => ?_)
          refine lv_iload C.1 C.2.1 d_M_write_97 (lv_at hl 0 rfl) ?_
          exact sm_ri (v := nI ns) C hr I (two (f := nI) (mWrite_y hb1 hi1 hns hnu (by omega) hml)) d_M_write_99
      · refine lv_iconst (v := nI 2) C.1 C.2.1 d_M_write_40 (by decide) ?_
        refine lv_goto (tgt := 45) C.1 C.2.1 d_M_write_41 (by decide) ?_
        refine sm_p0 C I 2 rfl d_M_write_45 (fun H locs I => ?_)
        refine lv_aload_n C.1 C.2.1 d_M_write_48 rfl (lv_at hl 0 rfl) ?_
        refine sm_g0 C I d_M_write_49 ?_
        refine n_ifz_le (a := 2) (tgt := 57) C.1 C.2.1 (by omega) d_M_write_52 (by decide) (fun q52 => absurd q52 (by omega)) (fun q52 => ?_)
        refine lv_iconst (v := nI 0) C.1 C.2.1 d_M_write_55 (by decide) ?_
        exact sm_ri (v := nI 0) C hr I (two (f := nI) (mWrite_2 hb1 hi1 hns hnu (by omega))) d_M_write_56
    · refine lv_iconst (v := nI 1) C.1 C.2.1 d_M_write_20 (by decide) ?_
      refine lv_goto (tgt := 45) C.1 C.2.1 d_M_write_21 (by decide) ?_
      refine sm_p0 C I 1 rfl d_M_write_45 (fun H locs I => ?_)
      refine lv_aload_n C.1 C.2.1 d_M_write_48 rfl (lv_at hl 0 rfl) ?_
      refine sm_g0 C I d_M_write_49 ?_
      refine n_ifz_le (a := 1) (tgt := 57) C.1 C.2.1 (by omega) d_M_write_52 (by decide) (fun q52 => absurd q52 (by omega)) (fun q52 => ?_)
      refine lv_iconst (v := nI 0) C.1 C.2.1 d_M_write_55 (by decide) ?_
      exact sm_ri (v := nI 0) C hr I (two (f := nI) (mWrite_1 q17)) d_M_write_56
  · subst q5
    refine lv_iconst (v := nI 3) C.1 C.2.1 d_M_write_8 (by decide) ?_
    refine lv_goto (tgt := 45) C.1 C.2.1 d_M_write_9 (by decide) ?_
    refine sm_p0 C I 3 rfl d_M_write_45 (fun H locs I => ?_)
    refine lv_aload_n C.1 C.2.1 d_M_write_48 rfl (lv_at hl 0 rfl) ?_
    refine sm_g0 C I d_M_write_49 ?_
    refine n_ifz_le (a := 3) (tgt := 57) C.1 C.2.1 (by omega) d_M_write_52 (by decide) (fun q52 => absurd q52 (by omega)) (fun q52 => ?_)
    refine lv_iconst (v := nI 0) C.1 C.2.1 d_M_write_55 (by decide) ?_
    exact sm_ri (v := nI 0) C hr I (two (f := nI) (mWrite_3)) d_M_write_56
set_option maxHeartbeats 4000000 in
set_option maxRecDepth 100000 in
/-- R_M.read -/
theorem c_M_read (l : Launch) (D : va_G) (cA : Nat → ClassId) (h : Nat → Nat) (sz : Nat) (co : Nat) (dn : Bool) (fu : Option Nat) (ct : Nat) (vo : (Nat → Int32)) (wo : (Nat → Int32)) (th : (Nat → Bool)) (ow : (Nat → Nat)) (ba : Nat) (mr : Nat) (x y : Int32) : smMi l D cA h (co, dn, fu, ct, vo, wo, th, ow, ba, mr) sz y_M_read (.code y_M_read b_M_read 3 (some .int)) (rmL 2) [.int x, .int y] (fun r u' => r = (fun z => z) (mRead x y (co, dn, fu, ct, vo, wo, th, ow, ba, mr)).1 ∧ u' = (mRead x y (co, dn, fu, ct, vo, wo, th, ow, ba, mr)).2) := by
  refine sm_mi (by decide) rfl (Nat.le_of_ble_eq_true rfl) ?_
  intro p e s m args below meth c C hr hsz I ls hl
  generalize smA cA h (co, dn, fu, ct, vo, wo, th, ow, ba, mr) sz = A at I ⊢
  have hl : lv_has ls 3 [(0, .ref (h 0)), (1, .int x), (2, .int y)] := hl
  refine lv_aload_n C.1 C.2.1 d_M_read_0 rfl (lv_at hl 0 rfl) ?_
  refine lv_aload_n C.1 C.2.1 d_M_read_1 rfl (lv_at hl 0 rfl) ?_
  refine sm_g1 C I d_M_read_2 ?_
  refine n_ifeq (b := dn) (tgt := 12) C.1 C.2.1 d_M_read_5 (by decide) (fun q5 => ?_) (fun q5 => ?_)
  · subst q5
    refine lv_iload_n C.1 C.2.1 d_M_read_12 rfl (lv_at hl 1 rfl) ?_
    refine lv_iload_n C.1 C.2.1 d_M_read_13 rfl (lv_at hl 2 rfl) ?_
    refine sm_cs C I (c_M_isWord l _ x y) lk_M48 rfl rfl ⟨by decide, by decide⟩ ⟨Nat.zero_le _, Nat.zero_le _⟩ rfl hl.1 (rest := [.ref (h 0)]) rfl (Nat.le_of_ble_eq_true rfl) d_M_read_14 (fun r H locs w14 I => ?_)
    subst w14
    refine n_ifeq (b := ((ixI x 6).isSome && (ixI y 4).isSome)) (tgt := 24) C.1 C.2.1 d_M_read_17 (by decide) (fun q17 => ?_) (fun q17 => ?_)
    · refine lv_iconst (v := nI 1) C.1 C.2.1 d_M_read_24 (by decide) ?_
      refine sm_p0 C I 1 rfl d_M_read_25 (fun H locs I => ?_)
      refine lv_aload_n C.1 C.2.1 d_M_read_28 rfl (lv_at hl 0 rfl) ?_
      refine sm_g0 C I d_M_read_29 ?_
      refine n_ifz_le (a := 1) (tgt := 39) C.1 C.2.1 (by omega) d_M_read_32 (by decide) (fun q32 => absurd q32 (by omega)) (fun q32 => ?_)
      refine lv_iconst (v := nI 0) C.1 C.2.1 d_M_read_35 (by decide) ?_
      refine lv_goto (tgt := 49) C.1 C.2.1 d_M_read_36 (by decide) ?_
      exact sm_ri (v := nI 0) C hr I (two (f := (fun z => z)) (mRead_1 q17)) d_M_read_49
    · obtain ⟨⟨b1, hb1, rfl⟩, i1, hi1, rfl⟩ := isW q17
      refine lv_iconst (v := nI 0) C.1 C.2.1 d_M_read_20 (by decide) ?_
      refine lv_goto (tgt := 25) C.1 C.2.1 d_M_read_21 (by decide) ?_
      refine sm_p0 C I 0 rfl d_M_read_25 (fun H locs I => ?_)
      refine lv_aload_n C.1 C.2.1 d_M_read_28 rfl (lv_at hl 0 rfl) ?_
      refine sm_g0 C I d_M_read_29 ?_
      refine n_ifz_le (a := 0) (tgt := 39) C.1 C.2.1 (by omega) d_M_read_32 (by decide) (fun q32 => ?_) (fun q32 => absurd q32 (by omega))
      refine lv_aload_n C.1 C.2.1 d_M_read_39 rfl (lv_at hl 0 rfl) ?_
      refine sm_g4 C I d_M_read_40 ?_
      refine lv_iconst (v := nI 4) C.1 C.2.1 d_M_read_43 (by decide) ?_
      refine lv_iload_n C.1 C.2.1 d_M_read_44 rfl (lv_at hl 1 rfl) ?_
      refine n_imul C.1 C.2.1 (a := 4) (b := b1) d_M_read_45 ?_
      refine lv_iload_n C.1 C.2.1 d_M_read_46 rfl (lv_at hl 2 rfl) ?_
      refine n_iadd C.1 C.2.1 (a := 4 * b1) (b := i1) d_M_read_47 ?_
      refine sm_l1 C I (k := (4 * b1) + i1) (by omega) d_M_read_48 ?_
      exact sm_ri (v := (vo ((4 * b1) + i1))) C hr I (two (f := (fun z => z)) (mRead_0 hb1 hi1)) d_M_read_49
  · subst q5
    refine lv_iconst (v := nI 2) C.1 C.2.1 d_M_read_8 (by decide) ?_
    refine lv_goto (tgt := 25) C.1 C.2.1 d_M_read_9 (by decide) ?_
    refine sm_p0 C I 2 rfl d_M_read_25 (fun H locs I => ?_)
    refine lv_aload_n C.1 C.2.1 d_M_read_28 rfl (lv_at hl 0 rfl) ?_
    refine sm_g0 C I d_M_read_29 ?_
    refine n_ifz_le (a := 2) (tgt := 39) C.1 C.2.1 (by omega) d_M_read_32 (by decide) (fun q32 => absurd q32 (by omega)) (fun q32 => ?_)
    refine lv_iconst (v := nI 0) C.1 C.2.1 d_M_read_35 (by decide) ?_
    refine lv_goto (tgt := 49) C.1 C.2.1 d_M_read_36 (by decide) ?_
    exact sm_ri (v := nI 0) C hr I (two (f := (fun z => z)) (mRead_2)) d_M_read_49
set_option maxHeartbeats 4000000 in
set_option maxRecDepth 100000 in
/-- R_M.drop -/
theorem c_M_drop (l : Launch) (D : va_G) (cA : Nat → ClassId) (h : Nat → Nat) (sz : Nat) (co : Nat) (dn : Bool) (fu : Option Nat) (ct : Nat) (vo : (Nat → Int32)) (wo : (Nat → Int32)) (th : (Nat → Bool)) (ow : (Nat → Nat)) (ba : Nat) (mr : Nat) (x : Int32) (hfu : ∀ k, fu = some k → k < 2 ^ 31) : smMv l D cA h (co, dn, fu, ct, vo, wo, th, ow, ba, mr) sz y_M_drop (.code y_M_drop b_M_drop 2 none) (rmL 2) [.int x] (fun u' => u' = mDrop x (co, dn, fu, ct, vo, wo, th, ow, ba, mr)) := by
  refine sm_mv (by decide) rfl (Nat.le_of_ble_eq_true rfl) ?_
  intro p e s m args below meth c C hr hsz I ls hl
  generalize smA cA h (co, dn, fu, ct, vo, wo, th, ow, ba, mr) sz = A at I ⊢
  have hl : lv_has ls 2 [(0, .ref (h 0)), (1, .int x)] := hl
  refine lv_aload_n C.1 C.2.1 d_M_drop_0 rfl (lv_at hl 0 rfl) ?_
  refine lv_aload_n C.1 C.2.1 d_M_drop_1 rfl (lv_at hl 0 rfl) ?_
  refine sm_g1 C I d_M_drop_2 ?_
  refine n_ifeq (b := dn) (tgt := 12) C.1 C.2.1 d_M_drop_5 (by decide) (fun q5 => ?_) (fun q5 => ?_)
  · subst q5
    refine lv_aload_n C.1 C.2.1 d_M_drop_12 rfl (lv_at hl 0 rfl) ?_
    refine lv_iload_n C.1 C.2.1 d_M_drop_13 rfl (lv_at hl 1 rfl) ?_
    refine sm_ci C I (c_M_isSnapshot l D cA h _ co false fu ct vo wo th ow ba mr x) lk_M70 rfl rfl ⟨by decide, by decide⟩ ⟨Nat.zero_le _, Nat.zero_le _⟩ rfl hl.1 (rest := [.ref (h 0)]) rfl (Nat.le_of_ble_eq_true rfl) d_M_drop_14 (fun r u' H locs w14 I => ?_)
    obtain ⟨rfl, rfl⟩ := w14
    refine n_ifeq (b := (mHasS th x).isSome) (tgt := 24) C.1 C.2.1 d_M_drop_17 (by decide) (fun q17 => ?_) (fun q17 => ?_)
    · refine lv_iconst (v := nI 1) C.1 C.2.1 d_M_drop_24 (by decide) ?_
      refine sm_p0 C I 1 rfl d_M_drop_25 (fun H locs I => ?_)
      refine lv_aload_n C.1 C.2.1 d_M_drop_28 rfl (lv_at hl 0 rfl) ?_
      refine sm_g0 C I d_M_drop_29 ?_
      refine n_ifz_ne (a := 1) (tgt := 63) C.1 C.2.1 (by omega) d_M_drop_32 (by decide) (fun q32 => ?_) (fun q32 => absurd q32 (by omega))
      exact sm_rv C hr I (mDrop_1 q17).symm d_M_drop_63
    · obtain ⟨s1, hs1, rfl, ht1, hm1⟩ := mHasS_in q17
      refine lv_iconst (v := nI 0) C.1 C.2.1 d_M_drop_20 (by decide) ?_
      refine lv_goto (tgt := 25) C.1 C.2.1 d_M_drop_21 (by decide) ?_
      refine sm_p0 C I 0 rfl d_M_drop_25 (fun H locs I => ?_)
      refine lv_aload_n C.1 C.2.1 d_M_drop_28 rfl (lv_at hl 0 rfl) ?_
      refine sm_g0 C I d_M_drop_29 ?_
      refine n_ifz_ne (a := 0) (tgt := 63) C.1 C.2.1 (by omega) d_M_drop_32 (by decide) (fun q32 => absurd q32 (by omega)) (fun q32 => ?_)
      refine lv_aload_n C.1 C.2.1 d_M_drop_35 rfl (lv_at hl 0 rfl) ?_
      refine lv_iconst (v := nI 1) C.1 C.2.1 d_M_drop_36 (by decide) ?_
      refine sm_ci C I (c_M_lasts l D cA h _ 0 false fu ct vo wo th ow ba mr 1 (by omega) hfu) lk_M59 rfl rfl ⟨by decide, by decide⟩ ⟨Nat.zero_le _, Nat.zero_le _⟩ rfl hl.1 (rest := []) rfl (Nat.le_of_ble_eq_true rfl) d_M_drop_37 (fun r u' H locs w37 I => ?_)
      obtain ⟨bl, fl, cl, dl, hml, rfl, rfl⟩ := w37
      refine n_ifeq (b := bl) (tgt := 53) C.1 C.2.1 d_M_drop_40 (by decide) (fun q40 => ?_) (fun q40 => ?_)
      · subst q40
        refine lv_aload_n C.1 C.2.1 d_M_drop_53 rfl (lv_at hl 0 rfl) ?_
        refine lv_iconst (v := oI none) C.1 C.2.1 d_M_drop_54 (by decide) ?_
        refine sm_p2 C I none rfl d_M_drop_55 (fun H locs I => ?_)
        refine lv_aload_n C.1 C.2.1 d_M_drop_58 rfl (lv_at hl 0 rfl) ?_
        refine lv_iconst (v := nI 2) C.1 C.2.1 d_M_drop_59 (by decide) ?_
        refine sm_p0 C I 2 rfl d_M_drop_60 (fun H locs I => ?_)
        exact sm_rv C hr I (mDrop_n hm1 hml).symm d_M_drop_63
      · subst q40
        refine lv_aload_n C.1 C.2.1 d_M_drop_43 rfl (lv_at hl 0 rfl) ?_
        refine sm_g6 C I d_M_drop_44 ?_
        refine lv_iload_n C.1 C.2.1 d_M_drop_47 rfl (lv_at hl 1 rfl) ?_
        refine lv_iconst (v := nI 0) C.1 C.2.1 d_M_drop_48 (by decide) ?_
        refine sm_s3 C I (k := s1) (x := false) (by omega) d_M_drop_49 (fun H locs I => ?_)
        refine lv_goto (tgt := 63) C.1 C.2.1 d_M_drop_50 (by decide) ?_
        exact sm_rv C hr I (mDrop_y hm1 hml).symm d_M_drop_63
  · subst q5
    refine lv_iconst (v := nI 2) C.1 C.2.1 d_M_drop_8 (by decide) ?_
    refine lv_goto (tgt := 25) C.1 C.2.1 d_M_drop_9 (by decide) ?_
    refine sm_p0 C I 2 rfl d_M_drop_25 (fun H locs I => ?_)
    refine lv_aload_n C.1 C.2.1 d_M_drop_28 rfl (lv_at hl 0 rfl) ?_
    refine sm_g0 C I d_M_drop_29 ?_
    refine n_ifz_ne (a := 2) (tgt := 63) C.1 C.2.1 (by omega) d_M_drop_32 (by decide) (fun q32 => ?_) (fun q32 => absurd q32 (by omega))
    exact sm_rv C hr I (mDrop_2).symm d_M_drop_63
set_option maxHeartbeats 4000000 in
set_option maxRecDepth 100000 in
/-- R_M.readSnapshot -/
theorem c_M_readSnapshot (l : Launch) (D : va_G) (cA : Nat → ClassId) (h : Nat → Nat) (sz : Nat) (co : Nat) (dn : Bool) (fu : Option Nat) (ct : Nat) (vo : (Nat → Int32)) (wo : (Nat → Int32)) (th : (Nat → Bool)) (ow : (Nat → Nat)) (ba : Nat) (mr : Nat) (x y z : Int32) : smMi l D cA h (co, dn, fu, ct, vo, wo, th, ow, ba, mr) sz y_M_readSnapshot (.code y_M_readSnapshot b_M_readSnapshot 4 (some .int)) (rmL 2) [.int x, .int y, .int z] (fun r u' => r = (fun z => z) (mReadS x y z (co, dn, fu, ct, vo, wo, th, ow, ba, mr)).1 ∧ u' = (mReadS x y z (co, dn, fu, ct, vo, wo, th, ow, ba, mr)).2) := by
  refine sm_mi (by decide) rfl (Nat.le_of_ble_eq_true rfl) ?_
  intro p e s m args below meth c C hr hsz I ls hl
  generalize smA cA h (co, dn, fu, ct, vo, wo, th, ow, ba, mr) sz = A at I ⊢
  have hl : lv_has ls 4 [(0, .ref (h 0)), (1, .int x), (2, .int y), (3, .int z)] := hl
  refine lv_aload_n C.1 C.2.1 d_M_readSnapshot_0 rfl (lv_at hl 0 rfl) ?_
  refine lv_aload_n C.1 C.2.1 d_M_readSnapshot_1 rfl (lv_at hl 0 rfl) ?_
  refine sm_g1 C I d_M_readSnapshot_2 ?_
  refine n_ifeq (b := dn) (tgt := 12) C.1 C.2.1 d_M_readSnapshot_5 (by decide) (fun q5 => ?_) (fun q5 => ?_)
  · subst q5
    refine lv_aload_n C.1 C.2.1 d_M_readSnapshot_12 rfl (lv_at hl 0 rfl) ?_
    refine lv_iload_n C.1 C.2.1 d_M_readSnapshot_13 rfl (lv_at hl 1 rfl) ?_
    refine sm_ci C I (c_M_isSnapshot l D cA h _ co false fu ct vo wo th ow ba mr x) lk_M70 rfl rfl ⟨by decide, by decide⟩ ⟨Nat.zero_le _, Nat.zero_le _⟩ rfl hl.1 (rest := [.ref (h 0)]) rfl (Nat.le_of_ble_eq_true rfl) d_M_readSnapshot_14 (fun r u' H locs w14 I => ?_)
    obtain ⟨rfl, rfl⟩ := w14
    refine n_ifne (b := (mHasS th x).isSome) (tgt := 24) C.1 C.2.1 d_M_readSnapshot_17 (by decide) (fun q17 => ?_) (fun q17 => ?_)
    · obtain ⟨s1, hs1, rfl, ht1, hm1⟩ := mHasS_in q17
      refine lv_iload_n C.1 C.2.1 d_M_readSnapshot_24 rfl (lv_at hl 2 rfl) ?_
      refine lv_iload_n C.1 C.2.1 d_M_readSnapshot_25 rfl (lv_at hl 3 rfl) ?_
      refine sm_cs C I (c_M_isWord l _ y z) lk_M48 rfl rfl ⟨by decide, by decide⟩ ⟨Nat.zero_le _, Nat.zero_le _⟩ rfl hl.1 (rest := [.ref (h 0)]) rfl (Nat.le_of_ble_eq_true rfl) d_M_readSnapshot_26 (fun r H locs w26 I => ?_)
      subst w26
      refine n_ifeq (b := ((ixI y 6).isSome && (ixI z 4).isSome)) (tgt := 36) C.1 C.2.1 d_M_readSnapshot_29 (by decide) (fun q29 => ?_) (fun q29 => ?_)
      · refine lv_iconst (v := nI 2) C.1 C.2.1 d_M_readSnapshot_36 (by decide) ?_
        refine sm_p0 C I 2 rfl d_M_readSnapshot_37 (fun H locs I => ?_)
        refine lv_aload_n C.1 C.2.1 d_M_readSnapshot_40 rfl (lv_at hl 0 rfl) ?_
        refine sm_g0 C I d_M_readSnapshot_41 ?_
        refine n_ifz_le (a := 2) (tgt := 51) C.1 C.2.1 (by omega) d_M_readSnapshot_44 (by decide) (fun q44 => absurd q44 (by omega)) (fun q44 => ?_)
        refine lv_iconst (v := nI 0) C.1 C.2.1 d_M_readSnapshot_47 (by decide) ?_
        refine lv_goto (tgt := 66) C.1 C.2.1 d_M_readSnapshot_48 (by decide) ?_
        exact sm_ri (v := nI 0) C hr I (two (f := (fun z => z)) (mReadS_2 hm1 q29)) d_M_readSnapshot_66
      · obtain ⟨⟨b1, hb1, rfl⟩, i1, hi1, rfl⟩ := isW q29
        refine lv_iconst (v := nI 0) C.1 C.2.1 d_M_readSnapshot_32 (by decide) ?_
        refine lv_goto (tgt := 37) C.1 C.2.1 d_M_readSnapshot_33 (by decide) ?_
        refine sm_p0 C I 0 rfl d_M_readSnapshot_37 (fun H locs I => ?_)
        refine lv_aload_n C.1 C.2.1 d_M_readSnapshot_40 rfl (lv_at hl 0 rfl) ?_
        refine sm_g0 C I d_M_readSnapshot_41 ?_
        refine n_ifz_le (a := 0) (tgt := 51) C.1 C.2.1 (by omega) d_M_readSnapshot_44 (by decide) (fun q44 => ?_) (fun q44 => absurd q44 (by omega))
        refine lv_aload_n C.1 C.2.1 d_M_readSnapshot_51 rfl (lv_at hl 0 rfl) ?_
        refine sm_g5 C I d_M_readSnapshot_52 ?_
        refine lv_bipush (v := nI 24) C.1 C.2.1 d_M_readSnapshot_55 (by decide) ?_
        refine lv_iload_n C.1 C.2.1 d_M_readSnapshot_57 rfl (lv_at hl 1 rfl) ?_
        refine n_imul C.1 C.2.1 (a := 24) (b := s1) d_M_readSnapshot_58 ?_
        refine lv_iconst (v := nI 4) C.1 C.2.1 d_M_readSnapshot_59 (by decide) ?_
        refine lv_iload_n C.1 C.2.1 d_M_readSnapshot_60 rfl (lv_at hl 2 rfl) ?_
        refine n_imul C.1 C.2.1 (a := 4) (b := b1) d_M_readSnapshot_61 ?_
        refine n_iadd C.1 C.2.1 (a := 24 * s1) (b := 4 * b1) d_M_readSnapshot_62 ?_
        refine lv_iload_n C.1 C.2.1 d_M_readSnapshot_63 rfl (lv_at hl 3 rfl) ?_
        refine n_iadd C.1 C.2.1 (a := (24 * s1) + (4 * b1)) (b := i1) d_M_readSnapshot_64 ?_
        refine sm_l2 C I (k := ((24 * s1) + (4 * b1)) + i1) (by omega) d_M_readSnapshot_65 ?_
        exact sm_ri (v := (wo (((24 * s1) + (4 * b1)) + i1))) C hr I (two (f := (fun z => z)) (mReadS_0 hm1 hb1 hi1)) d_M_readSnapshot_66
    · refine lv_iconst (v := nI 1) C.1 C.2.1 d_M_readSnapshot_20 (by decide) ?_
      refine lv_goto (tgt := 37) C.1 C.2.1 d_M_readSnapshot_21 (by decide) ?_
      refine sm_p0 C I 1 rfl d_M_readSnapshot_37 (fun H locs I => ?_)
      refine lv_aload_n C.1 C.2.1 d_M_readSnapshot_40 rfl (lv_at hl 0 rfl) ?_
      refine sm_g0 C I d_M_readSnapshot_41 ?_
      refine n_ifz_le (a := 1) (tgt := 51) C.1 C.2.1 (by omega) d_M_readSnapshot_44 (by decide) (fun q44 => absurd q44 (by omega)) (fun q44 => ?_)
      refine lv_iconst (v := nI 0) C.1 C.2.1 d_M_readSnapshot_47 (by decide) ?_
      refine lv_goto (tgt := 66) C.1 C.2.1 d_M_readSnapshot_48 (by decide) ?_
      exact sm_ri (v := nI 0) C hr I (two (f := (fun z => z)) (mReadS_1 q17)) d_M_readSnapshot_66
  · subst q5
    refine lv_iconst (v := nI 3) C.1 C.2.1 d_M_readSnapshot_8 (by decide) ?_
    refine lv_goto (tgt := 37) C.1 C.2.1 d_M_readSnapshot_9 (by decide) ?_
    refine sm_p0 C I 3 rfl d_M_readSnapshot_37 (fun H locs I => ?_)
    refine lv_aload_n C.1 C.2.1 d_M_readSnapshot_40 rfl (lv_at hl 0 rfl) ?_
    refine sm_g0 C I d_M_readSnapshot_41 ?_
    refine n_ifz_le (a := 3) (tgt := 51) C.1 C.2.1 (by omega) d_M_readSnapshot_44 (by decide) (fun q44 => absurd q44 (by omega)) (fun q44 => ?_)
    refine lv_iconst (v := nI 0) C.1 C.2.1 d_M_readSnapshot_47 (by decide) ?_
    refine lv_goto (tgt := 66) C.1 C.2.1 d_M_readSnapshot_48 (by decide) ?_
    exact sm_ri (v := nI 0) C hr I (two (f := (fun z => z)) (mReadS_3)) d_M_readSnapshot_66
set_option maxHeartbeats 4000000 in
set_option maxRecDepth 100000 in
/-- R_M.writeSnapshot -/
theorem c_M_writeSnapshot (l : Launch) (D : va_G) (cA : Nat → ClassId) (h : Nat → Nat) (sz : Nat) (co : Nat) (dn : Bool) (fu : Option Nat) (ct : Nat) (vo : (Nat → Int32)) (wo : (Nat → Int32)) (th : (Nat → Bool)) (ow : (Nat → Nat)) (ba : Nat) (mr : Nat) (x y z w0 : Int32) (hfu : ∀ k, fu = some k → k < 2 ^ 31) (how : oB th ow) (hu : mUsed th ow ≤ 9) : smMi l D cA h (co, dn, fu, ct, vo, wo, th, ow, ba, mr) sz y_M_writeSnapshot (.code y_M_writeSnapshot b_M_writeSnapshot 6 (some .boolean)) (rmL 2) [.int x, .int y, .int z, .int w0] (fun r u' => r = bI (mWriteS x y z w0 (co, dn, fu, ct, vo, wo, th, ow, ba, mr)).1 ∧ u' = (mWriteS x y z w0 (co, dn, fu, ct, vo, wo, th, ow, ba, mr)).2) := by
  refine sm_mi (by decide) rfl (Nat.le_of_ble_eq_true rfl) ?_
  intro p e s m args below meth c C hr hsz I ls hl
  generalize smA cA h (co, dn, fu, ct, vo, wo, th, ow, ba, mr) sz = A at I ⊢
  have hl : lv_has ls 6 [(0, .ref (h 0)), (1, .int x), (2, .int y), (3, .int z), (4, .int w0)] := hl
  refine lv_aload_n C.1 C.2.1 d_M_writeSnapshot_0 rfl (lv_at hl 0 rfl) ?_
  refine lv_aload_n C.1 C.2.1 d_M_writeSnapshot_1 rfl (lv_at hl 0 rfl) ?_
  refine sm_g1 C I d_M_writeSnapshot_2 ?_
  refine n_ifeq (b := dn) (tgt := 12) C.1 C.2.1 d_M_writeSnapshot_5 (by decide) (fun q5 => ?_) (fun q5 => ?_)
  · subst q5
    refine lv_aload_n C.1 C.2.1 d_M_writeSnapshot_12 rfl (lv_at hl 0 rfl) ?_
    refine lv_iload_n C.1 C.2.1 d_M_writeSnapshot_13 rfl (lv_at hl 1 rfl) ?_
    refine sm_ci C I (c_M_isSnapshot l D cA h _ co false fu ct vo wo th ow ba mr x) lk_M70 rfl rfl ⟨by decide, by decide⟩ ⟨Nat.zero_le _, Nat.zero_le _⟩ rfl hl.1 (rest := [.ref (h 0)]) rfl (Nat.le_of_ble_eq_true rfl) d_M_writeSnapshot_14 (fun r u' H locs w14 I => ?_)
    obtain ⟨rfl, rfl⟩ := w14
    refine n_ifne (b := (mHasS th x).isSome) (tgt := 24) C.1 C.2.1 d_M_writeSnapshot_17 (by decide) (fun q17 => ?_) (fun q17 => ?_)
    · obtain ⟨s1, hs1, rfl, ht1, hm1⟩ := mHasS_in q17
      refine lv_iload_n C.1 C.2.1 d_M_writeSnapshot_24 rfl (lv_at hl 2 rfl) ?_
      refine lv_iload_n C.1 C.2.1 d_M_writeSnapshot_25 rfl (lv_at hl 3 rfl) ?_
      refine sm_cs C I (c_M_isWord l _ y z) lk_M48 rfl rfl ⟨by decide, by decide⟩ ⟨Nat.zero_le _, Nat.zero_le _⟩ rfl hl.1 (rest := [.ref (h 0)]) rfl (Nat.le_of_ble_eq_true rfl) d_M_writeSnapshot_26 (fun r H locs w26 I => ?_)
      subst w26
      refine n_ifne (b := ((ixI y 6).isSome && (ixI z 4).isSome)) (tgt := 36) C.1 C.2.1 d_M_writeSnapshot_29 (by decide) (fun q29 => ?_) (fun q29 => ?_)
      · obtain ⟨⟨b1, hb1, rfl⟩, i1, hi1, rfl⟩ := isW q29
        obtain ⟨nu, hnu⟩ : ∃ z, mUsed th ow = z := ⟨_, rfl⟩
        have hu9 : nu ≤ 9 := by rw [← hnu]; exact hu
        refine lv_iconst (v := nI 0) C.1 C.2.1 d_M_writeSnapshot_36 (by decide) ?_
        refine sm_p0 C I 0 rfl d_M_writeSnapshot_37 (fun H locs I => ?_)
        refine lv_aload_n C.1 C.2.1 d_M_writeSnapshot_40 rfl (lv_at hl 0 rfl) ?_
        refine sm_g0 C I d_M_writeSnapshot_41 ?_
        refine n_ifz_le (a := 0) (tgt := 49) C.1 C.2.1 (by omega) d_M_writeSnapshot_44 (by decide) (fun q44 => ?_) (fun q44 => absurd q44 (by omega))
        refine lv_aload_n C.1 C.2.1 d_M_writeSnapshot_49 rfl (lv_at hl 0 rfl) ?_
        refine sm_g7 C I d_M_writeSnapshot_50 ?_
        refine lv_bipush (v := nI 6) C.1 C.2.1 d_M_writeSnapshot_53 (by decide) ?_
        refine lv_iload_n C.1 C.2.1 d_M_writeSnapshot_55 rfl (lv_at hl 1 rfl) ?_
        refine n_imul C.1 C.2.1 (a := 6) (b := s1) d_M_writeSnapshot_56 ?_
        refine lv_iload_n C.1 C.2.1 d_M_writeSnapshot_57 rfl (lv_at hl 2 rfl) ?_
        refine n_iadd C.1 C.2.1 (a := 6 * s1) (b := b1) d_M_writeSnapshot_58 ?_
        refine sm_l4 C I (k := (6 * s1) + b1) (by omega) d_M_writeSnapshot_59 ?_
        have hw := how.sb (s := s1) (b := b1) hs1 hb1 ht1
        refine n_ifz_ne (a := (ow ((6 * s1) + b1))) (tgt := 67) C.1 C.2.1 (by omega) d_M_writeSnapshot_60 (by decide) (fun q60 => ?_) (fun q60 => ?_)
        · have h0 : ¬ ow (6 * s1 + b1) = 0 := by omega
          refine lv_iconst (v := nI 0) C.1 C.2.1 d_M_writeSnapshot_67 (by decide) ?_
          refine lv_istore (lv' := [(5, .int (nI 0)), (0, .ref (h 0)), (1, .int (nI s1)), (2, .int (nI b1)), (3, .int (nI i1)), (4, .int w0)]) C.1 C.2.1 d_M_writeSnapshot_68 hl (by decide) rfl (fun ls hl => ?_)
          refine lv_iload C.1 C.2.1 d_M_writeSnapshot_70 (lv_at hl 0 rfl) ?_
          refine n_ifz_eq (a := 0) (tgt := 91) C.1 C.2.1 (by omega) d_M_writeSnapshot_72 (by decide) (fun q72 => ?_) (fun q72 => absurd q72 (by omega))
          refine lv_aload_n C.1 C.2.1 d_M_writeSnapshot_91 rfl (lv_at hl 1 rfl) ?_
          refine lv_iload C.1 C.2.1 d_M_writeSnapshot_92 (lv_at hl 0 rfl) ?_
          refine n_ifz_eq (a := 0) (tgt := 101) C.1 C.2.1 (by omega) d_M_writeSnapshot_94 (by decide) (fun q94 => ?_) (fun q94 => absurd q94 (by omega))
          refine lv_iconst (v := nI 1) C.1 C.2.1 d_M_writeSnapshot_101 (by decide) ?_
          refine sm_ci C I (c_M_lasts l D cA h _ 0 false fu ct vo wo th ow ba mr 1 (by omega) hfu) lk_M59 rfl rfl ⟨by decide, by decide⟩ ⟨Nat.zero_le _, Nat.zero_le _⟩ rfl hl.1 (rest := []) rfl (Nat.le_of_ble_eq_true rfl) d_M_writeSnapshot_102 (fun r u' H locs w102 I => ?_)
          obtain ⟨bl, fl, cl, dl, hml, rfl, rfl⟩ := w102
          refine n_ifne (b := bl) (tgt := 120) C.1 C.2.1 d_M_writeSnapshot_105 (by decide) (fun q105 => ?_) (fun q105 => ?_)
          · subst q105
            refine lv_aload_n C.1 C.2.1 d_M_writeSnapshot_120 rfl (lv_at hl 1 rfl) ?_
            refine sm_g7 C I d_M_writeSnapshot_121 ?_
            refine lv_bipush (v := nI 6) C.1 C.2.1 d_M_writeSnapshot_124 (by decide) ?_
            refine lv_iload_n C.1 C.2.1 d_M_writeSnapshot_126 rfl (lv_at hl 2 rfl) ?_
            refine n_imul C.1 C.2.1 (a := 6) (b := s1) d_M_writeSnapshot_127 ?_
            refine lv_iload_n C.1 C.2.1 d_M_writeSnapshot_128 rfl (lv_at hl 3 rfl) ?_
            refine n_iadd C.1 C.2.1 (a := 6 * s1) (b := b1) d_M_writeSnapshot_129 ?_
            refine lv_iload C.1 C.2.1 d_M_writeSnapshot_130 (lv_at hl 0 rfl) ?_
            refine n_ifz_eq (a := 0) (tgt := 142) C.1 C.2.1 (by omega) d_M_writeSnapshot_132 (by decide) (fun q132 => ?_) (fun q132 => absurd q132 (by omega))
            refine lv_aload_n C.1 C.2.1 d_M_writeSnapshot_142 rfl (lv_at hl 1 rfl) ?_
            refine sm_g7 C I d_M_writeSnapshot_143 ?_
            refine lv_bipush (v := nI 6) C.1 C.2.1 d_M_writeSnapshot_146 (by decide) ?_
            refine lv_iload_n C.1 C.2.1 d_M_writeSnapshot_148 rfl (lv_at hl 2 rfl) ?_
            refine n_imul C.1 C.2.1 (a := 6) (b := s1) d_M_writeSnapshot_149 ?_
            refine lv_iload_n C.1 C.2.1 d_M_writeSnapshot_150 rfl (lv_at hl 3 rfl) ?_
            refine n_iadd C.1 C.2.1 (a := 6 * s1) (b := b1) d_M_writeSnapshot_151 ?_
            refine sm_l4 C I (k := (6 * s1) + b1) (by omega) d_M_writeSnapshot_152 ?_
            refine sm_s4 C I (k := (6 * s1) + b1) (x := (ow ((6 * s1) + b1))) (by omega) d_M_writeSnapshot_153 (fun H locs I => ?_)
            refine lv_aload_n C.1 C.2.1 d_M_writeSnapshot_154 rfl (lv_at hl 1 rfl) ?_
            refine sm_g5 C I d_M_writeSnapshot_155 ?_
            refine lv_bipush (v := nI 24) C.1 C.2.1 d_M_writeSnapshot_158 (by decide) ?_
            refine lv_iload_n C.1 C.2.1 d_M_writeSnapshot_160 rfl (lv_at hl 2 rfl) ?_
            refine n_imul C.1 C.2.1 (a := 24) (b := s1) d_M_writeSnapshot_161 ?_
            refine lv_iconst (v := nI 4) C.1 C.2.1 d_M_writeSnapshot_162 (by decide) ?_
            refine lv_iload_n C.1 C.2.1 d_M_writeSnapshot_163 rfl (lv_at hl 3 rfl) ?_
            refine n_imul C.1 C.2.1 (a := 4) (b := b1) d_M_writeSnapshot_164 ?_
            refine n_iadd C.1 C.2.1 (a := 24 * s1) (b := 4 * b1) d_M_writeSnapshot_165 ?_
            refine lv_iload_n C.1 C.2.1 d_M_writeSnapshot_166 rfl (lv_at hl 4 rfl) ?_
            refine n_iadd C.1 C.2.1 (a := (24 * s1) + (4 * b1)) (b := i1) d_M_writeSnapshot_167 ?_
            refine lv_iload C.1 C.2.1 d_M_writeSnapshot_168 (lv_at hl 5 rfl) ?_
            refine sm_s2 C I (k := ((24 * s1) + (4 * b1)) + i1) (x := w0) (by omega) d_M_writeSnapshot_170 (fun H locs I => ?_)
            refine lv_iload C.1 C.2.1 d_M_writeSnapshot_171 (lv_at hl 0 rfl) ?_
            exact sm_rz (b := false) C hr I (two (f := bI) (mWS_n hm1 hb1 hi1 h0 hml)) d_M_writeSnapshot_173
          · subst q105
            refine lv_aload_n C.1 C.2.1 d_M_writeSnapshot_108 rfl (lv_at hl 1 rfl) ?_
            refine lv_iconst (v := oI none) C.1 C.2.1 d_M_writeSnapshot_109 (by decide) ?_
            refine sm_p2 C I none rfl d_M_writeSnapshot_110 (fun H locs I => ?_)
            refine lv_aload_n C.1 C.2.1 d_M_writeSnapshot_113 rfl (lv_at hl 1 rfl) ?_
            refine lv_iconst (v := nI 4) C.1 C.2.1 d_M_writeSnapshot_114 (by decide) ?_
            refine sm_p0 C I 4 rfl d_M_writeSnapshot_115 (fun H locs I => ?_)
            refine lv_iconst (v := nI 0) C.1 C.2.1 d_M_writeSnapshot_118 (by decide) ?_
            exact sm_rz (b := false) C hr I (two (f := bI) (mWS_nc hm1 hb1 hi1 h0 hml)) d_M_writeSnapshot_119
        · have h0 : ow (6 * s1 + b1) = 0 := by omega
          refine lv_iconst (v := nI 1) C.1 C.2.1 d_M_writeSnapshot_63 (by decide) ?_
          refine lv_goto (tgt := 68) C.1 C.2.1 d_M_writeSnapshot_64 (by decide) ?_
          refine lv_istore (lv' := [(5, .int (nI 1)), (0, .ref (h 0)), (1, .int (nI s1)), (2, .int (nI b1)), (3, .int (nI i1)), (4, .int w0)]) C.1 C.2.1 d_M_writeSnapshot_68 hl (by decide) rfl (fun ls hl => ?_)
          refine lv_iload C.1 C.2.1 d_M_writeSnapshot_70 (lv_at hl 0 rfl) ?_
          refine n_ifz_eq (a := 1) (tgt := 91) C.1 C.2.1 (by omega) d_M_writeSnapshot_72 (by decide) (fun q72 => absurd q72 (by omega)) (fun q72 => ?_)
          refine lv_aload_n C.1 C.2.1 d_M_writeSnapshot_75 rfl (lv_at hl 1 rfl) ?_
          refine sm_ci C I (c_M_usedCopies l D cA h _ 0 false fu ct vo wo th ow ba mr how) lk_M56 rfl rfl ⟨by decide, by decide⟩ ⟨Nat.zero_le _, Nat.zero_le _⟩ rfl hl.1 (rest := []) rfl (Nat.le_of_ble_eq_true rfl) d_M_writeSnapshot_76 (fun r u' H locs w76 I => ?_)
          obtain ⟨rfl, rfl⟩ := w76
          rw [hnu]
          refine lv_bipush (v := nI 9) C.1 C.2.1 d_M_writeSnapshot_79 (by decide) ?_
          refine n_icmp_ne C.1 C.2.1 (a := nu) (b := 9) (tgt := 91) (by omega) (by omega) d_M_writeSnapshot_81 (by decide) (fun q81 => ?_) (fun q81 => ?_)
          · refine lv_aload_n C.1 C.2.1 d_M_writeSnapshot_91 rfl (lv_at hl 1 rfl) ?_
            refine lv_iload C.1 C.2.1 d_M_writeSnapshot_92 (lv_at hl 0 rfl) ?_
            refine n_ifz_eq (a := 1) (tgt := 101) C.1 C.2.1 (by omega) d_M_writeSnapshot_94 (by decide) (fun q94 => absurd q94 (by omega)) (fun q94 => ?_)
            refine lv_iconst (v := nI 5) C.1 C.2.1 d_M_writeSnapshot_97 (by decide) ?_
            refine lv_goto (tgt := 102) C.1 C.2.1 d_M_writeSnapshot_98 (by decide) ?_
            refine sm_ci C I (c_M_lasts l D cA h _ 0 false fu ct vo wo th ow ba mr 5 (by omega) hfu) lk_M59 rfl rfl ⟨by decide, by decide⟩ ⟨Nat.zero_le _, Nat.zero_le _⟩ rfl hl.1 (rest := []) rfl (Nat.le_of_ble_eq_true rfl) d_M_writeSnapshot_102 (fun r u' H locs w102 I => ?_)
            obtain ⟨bl, fl, cl, dl, hml, rfl, rfl⟩ := w102
            refine n_ifne (b := bl) (tgt := 120) C.1 C.2.1 d_M_writeSnapshot_105 (by decide) (fun q105 => ?_) (fun q105 => ?_)
            · subst q105
              refine lv_aload_n C.1 C.2.1 d_M_writeSnapshot_120 rfl (lv_at hl 1 rfl) ?_
              refine sm_g7 C I d_M_writeSnapshot_121 ?_
              refine lv_bipush (v := nI 6) C.1 C.2.1 d_M_writeSnapshot_124 (by decide) ?_
              refine lv_iload_n C.1 C.2.1 d_M_writeSnapshot_126 rfl (lv_at hl 2 rfl) ?_
              refine n_imul C.1 C.2.1 (a := 6) (b := s1) d_M_writeSnapshot_127 ?_
              refine lv_iload_n C.1 C.2.1 d_M_writeSnapshot_128 rfl (lv_at hl 3 rfl) ?_
              refine n_iadd C.1 C.2.1 (a := 6 * s1) (b := b1) d_M_writeSnapshot_129 ?_
              refine lv_iload C.1 C.2.1 d_M_writeSnapshot_130 (lv_at hl 0 rfl) ?_
              refine n_ifz_eq (a := 1) (tgt := 142) C.1 C.2.1 (by omega) d_M_writeSnapshot_132 (by decide) (fun q132 => absurd q132 (by omega)) (fun q132 => ?_)
              refine lv_aload_n C.1 C.2.1 d_M_writeSnapshot_135 rfl (lv_at hl 1 rfl) ?_
              refine sm_ci C I (c_M_lowest l D cA h _ 0 dl fl cl vo wo th ow ba mr how) lk_M44 rfl rfl ⟨by decide, by decide⟩ ⟨Nat.zero_le _, Nat.zero_le _⟩ rfl hl.1 (rest := [.int (nI ((6 * s1) + b1)), .ref (h 4)]) rfl (Nat.le_of_ble_eq_true rfl) d_M_writeSnapshot_136 (fun r u' H locs w136 I => ?_)
              obtain ⟨rfl, rfl⟩ := w136
              refine lv_goto (tgt := 153) C.1 C.2.1 d_M_writeSnapshot_139 (by decide) ?_
              refine sm_s4 C I (k := (6 * s1) + b1) (x := mLow th ow) (by omega) d_M_writeSnapshot_153 (fun H locs I => ?_)
              refine lv_aload_n C.1 C.2.1 d_M_writeSnapshot_154 rfl (lv_at hl 1 rfl) ?_
              refine sm_g5 C I d_M_writeSnapshot_155 ?_
              refine lv_bipush (v := nI 24) C.1 C.2.1 d_M_writeSnapshot_158 (by decide) ?_
              refine lv_iload_n C.1 C.2.1 d_M_writeSnapshot_160 rfl (lv_at hl 2 rfl) ?_
              refine n_imul C.1 C.2.1 (a := 24) (b := s1) d_M_writeSnapshot_161 ?_
              refine lv_iconst (v := nI 4) C.1 C.2.1 d_M_writeSnapshot_162 (by decide) ?_
              refine lv_iload_n C.1 C.2.1 d_M_writeSnapshot_163 rfl (lv_at hl 3 rfl) ?_
              refine n_imul C.1 C.2.1 (a := 4) (b := b1) d_M_writeSnapshot_164 ?_
              refine n_iadd C.1 C.2.1 (a := 24 * s1) (b := 4 * b1) d_M_writeSnapshot_165 ?_
              refine lv_iload_n C.1 C.2.1 d_M_writeSnapshot_166 rfl (lv_at hl 4 rfl) ?_
              refine n_iadd C.1 C.2.1 (a := (24 * s1) + (4 * b1)) (b := i1) d_M_writeSnapshot_167 ?_
              refine lv_iload C.1 C.2.1 d_M_writeSnapshot_168 (lv_at hl 5 rfl) ?_
              refine sm_s2 C I (k := ((24 * s1) + (4 * b1)) + i1) (x := w0) (by omega) d_M_writeSnapshot_170 (fun H locs I => ?_)
              refine lv_iload C.1 C.2.1 d_M_writeSnapshot_171 (lv_at hl 0 rfl) ?_
              exact sm_rz (b := true) C hr I (two (f := bI) (mWS_y hm1 hb1 hi1 h0 (fun e => q81 (hnu.symm.trans e)) hml)) d_M_writeSnapshot_173
            · subst q105
              refine lv_aload_n C.1 C.2.1 d_M_writeSnapshot_108 rfl (lv_at hl 1 rfl) ?_
              refine lv_iconst (v := oI none) C.1 C.2.1 d_M_writeSnapshot_109 (by decide) ?_
              refine sm_p2 C I none rfl d_M_writeSnapshot_110 (fun H locs I => ?_)
              refine lv_aload_n C.1 C.2.1 d_M_writeSnapshot_113 rfl (lv_at hl 1 rfl) ?_
              refine lv_iconst (v := nI 4) C.1 C.2.1 d_M_writeSnapshot_114 (by decide) ?_
              refine sm_p0 C I 4 rfl d_M_writeSnapshot_115 (fun H locs I => ?_)
              refine lv_iconst (v := nI 0) C.1 C.2.1 d_M_writeSnapshot_118 (by decide) ?_
              exact sm_rz (b := false) C hr I (two (f := bI) (mWS_yc hm1 hb1 hi1 h0 (fun e => q81 (hnu.symm.trans e)) hml)) d_M_writeSnapshot_119
          · refine lv_aload_n C.1 C.2.1 d_M_writeSnapshot_84 rfl (lv_at hl 1 rfl) ?_
            refine lv_iconst (v := nI 3) C.1 C.2.1 d_M_writeSnapshot_85 (by decide) ?_
            refine sm_p0 C I 3 rfl d_M_writeSnapshot_86 (fun H locs I => ?_)
            refine lv_iconst (v := nI 0) C.1 C.2.1 d_M_writeSnapshot_89 (by decide) ?_
            exact sm_rz (b := false) C hr I (two (f := bI) (mWS_3 hm1 hb1 hi1 h0 (hnu.trans q81))) d_M_writeSnapshot_90
      · refine lv_iconst (v := nI 2) C.1 C.2.1 d_M_writeSnapshot_32 (by decide) ?_
        refine lv_goto (tgt := 37) C.1 C.2.1 d_M_writeSnapshot_33 (by decide) ?_
        refine sm_p0 C I 2 rfl d_M_writeSnapshot_37 (fun H locs I => ?_)
        refine lv_aload_n C.1 C.2.1 d_M_writeSnapshot_40 rfl (lv_at hl 0 rfl) ?_
        refine sm_g0 C I d_M_writeSnapshot_41 ?_
        refine n_ifz_le (a := 2) (tgt := 49) C.1 C.2.1 (by omega) d_M_writeSnapshot_44 (by decide) (fun q44 => absurd q44 (by omega)) (fun q44 => ?_)
        refine lv_iconst (v := nI 0) C.1 C.2.1 d_M_writeSnapshot_47 (by decide) ?_
        exact sm_rz (b := false) C hr I (two (f := bI) (mWS_2 hm1 q29)) d_M_writeSnapshot_48
    · refine lv_iconst (v := nI 1) C.1 C.2.1 d_M_writeSnapshot_20 (by decide) ?_
      refine lv_goto (tgt := 37) C.1 C.2.1 d_M_writeSnapshot_21 (by decide) ?_
      refine sm_p0 C I 1 rfl d_M_writeSnapshot_37 (fun H locs I => ?_)
      refine lv_aload_n C.1 C.2.1 d_M_writeSnapshot_40 rfl (lv_at hl 0 rfl) ?_
      refine sm_g0 C I d_M_writeSnapshot_41 ?_
      refine n_ifz_le (a := 1) (tgt := 49) C.1 C.2.1 (by omega) d_M_writeSnapshot_44 (by decide) (fun q44 => absurd q44 (by omega)) (fun q44 => ?_)
      refine lv_iconst (v := nI 0) C.1 C.2.1 d_M_writeSnapshot_47 (by decide) ?_
      exact sm_rz (b := false) C hr I (two (f := bI) (mWS_1 q17)) d_M_writeSnapshot_48
  · subst q5
    refine lv_iconst (v := nI 4) C.1 C.2.1 d_M_writeSnapshot_8 (by decide) ?_
    refine lv_goto (tgt := 37) C.1 C.2.1 d_M_writeSnapshot_9 (by decide) ?_
    refine sm_p0 C I 4 rfl d_M_writeSnapshot_37 (fun H locs I => ?_)
    refine lv_aload_n C.1 C.2.1 d_M_writeSnapshot_40 rfl (lv_at hl 0 rfl) ?_
    refine sm_g0 C I d_M_writeSnapshot_41 ?_
    refine n_ifz_le (a := 4) (tgt := 49) C.1 C.2.1 (by omega) d_M_writeSnapshot_44 (by decide) (fun q44 => absurd q44 (by omega)) (fun q44 => ?_)
    refine lv_iconst (v := nI 0) C.1 C.2.1 d_M_writeSnapshot_47 (by decide) ?_
    exact sm_rz (b := false) C hr I (two (f := bI) (mWS_4)) d_M_writeSnapshot_48
set_option maxHeartbeats 4000000 in
set_option maxRecDepth 100000 in
/-- R_M.recover -/
theorem c_M_recover (l : Launch) (D : va_G) (cA : Nat → ClassId) (h : Nat → Nat) (sz : Nat) (co : Nat) (dn : Bool) (fu : Option Nat) (ct : Nat) (vo : (Nat → Int32)) (wo : (Nat → Int32)) (th : (Nat → Bool)) (ow : (Nat → Nat)) (ba : Nat) (mr : Nat) (how : oB th ow) (hba : ∀ r, ba = r + 1 → r < 3 ∧ th r = true ∧ mr ≤ 6 ∧ mUsed th ow + mNd th ow r (6 - mr) mr ≤ 9) (hb31 : ba < 2 ^ 31) : smMi l D cA h (co, dn, fu, ct, vo, wo, th, ow, ba, mr) sz y_M_recover (.code y_M_recover b_M_recover 2 (some .int)) (rmL 4) [] (fun r u' => r = nI (mRec (co, dn, fu, ct, vo, wo, th, ow, ba, mr)).1 ∧ u' = (mRec (co, dn, fu, ct, vo, wo, th, ow, ba, mr)).2) := by
  refine sm_mi (by decide) rfl (Nat.le_of_ble_eq_true rfl) ?_
  intro p e s m args below meth c C hr hsz I ls hl
  generalize smA cA h (co, dn, fu, ct, vo, wo, th, ow, ba, mr) sz = A at I ⊢
  have hl : lv_has ls 2 [(0, .ref (h 0))] := hl
  refine lv_aload_n C.1 C.2.1 d_M_recover_0 rfl (lv_at hl 0 rfl) ?_
  refine lv_aload_n C.1 C.2.1 d_M_recover_1 rfl (lv_at hl 0 rfl) ?_
  refine sm_g1 C I d_M_recover_2 ?_
  refine n_ifeq (b := dn) (tgt := 12) C.1 C.2.1 d_M_recover_5 (by decide) (fun q5 => ?_) (fun q5 => ?_)
  · subst q5
    refine lv_iconst (v := nI 1) C.1 C.2.1 d_M_recover_12 (by decide) ?_
    refine sm_p0 C I 1 rfl d_M_recover_13 (fun H locs I => ?_)
    refine lv_aload_n C.1 C.2.1 d_M_recover_16 rfl (lv_at hl 0 rfl) ?_
    refine sm_g0 C I d_M_recover_17 ?_
    refine n_ifz_le (a := 1) (tgt := 25) C.1 C.2.1 (by omega) d_M_recover_20 (by decide) (fun q20 => absurd q20 (by omega)) (fun q20 => ?_)
    refine lv_iconst (v := nI 0) C.1 C.2.1 d_M_recover_23 (by decide) ?_
    exact sm_ri (v := nI 0) C hr I (two (f := nI) (mRec_1)) d_M_recover_24
  · subst q5
    refine lv_iconst (v := nI 0) C.1 C.2.1 d_M_recover_8 (by decide) ?_
    refine lv_goto (tgt := 13) C.1 C.2.1 d_M_recover_9 (by decide) ?_
    refine sm_p0 C I 0 rfl d_M_recover_13 (fun H locs I => ?_)
    refine lv_aload_n C.1 C.2.1 d_M_recover_16 rfl (lv_at hl 0 rfl) ?_
    refine sm_g0 C I d_M_recover_17 ?_
    refine n_ifz_le (a := 0) (tgt := 25) C.1 C.2.1 (by omega) d_M_recover_20 (by decide) (fun q20 => ?_) (fun q20 => absurd q20 (by omega))
    refine lv_aload_n C.1 C.2.1 d_M_recover_25 rfl (lv_at hl 0 rfl) ?_
    refine lv_iconst (v := nI 0) C.1 C.2.1 d_M_recover_26 (by decide) ?_
    refine sm_p1 C I false rfl d_M_recover_27 (fun H locs I => ?_)
    refine lv_aload_n C.1 C.2.1 d_M_recover_30 rfl (lv_at hl 0 rfl) ?_
    refine sm_g8 C I d_M_recover_31 ?_
    refine n_ifz_ne (a := ba) (tgt := 39) C.1 C.2.1 (by omega) d_M_recover_34 (by decide) (fun q34 => ?_) (fun q34 => ?_)
    · obtain ⟨s1, rfl⟩ : ∃ r, ba = r + 1 := ⟨ba - 1, by omega⟩
      obtain ⟨hs1, hth, hmr, hu⟩ := hba s1 rfl
      refine lv_aload_n C.1 C.2.1 d_M_recover_39 rfl (lv_at hl 0 rfl) ?_
      refine sm_g8 C I d_M_recover_40 ?_
      refine lv_iconst (v := nI 1) C.1 C.2.1 d_M_recover_43 (by decide) ?_
      refine n_isub C.1 C.2.1 (a := s1 + 1) (b := 1) (by omega) d_M_recover_44 ?_
      refine lv_istore_n (lv' := [(1, .int (nI ((s1 + 1) - 1))), (0, .ref (h 0))]) C.1 C.2.1 d_M_recover_45 rfl hl (by decide) rfl (fun ls hl => ?_)
      refine lv_aload_n C.1 C.2.1 d_M_recover_46 rfl (lv_at hl 1 rfl) ?_
      refine lv_iconst (v := nI 0) C.1 C.2.1 d_M_recover_47 (by decide) ?_
      refine sm_p8 C I 0 rfl d_M_recover_48 (fun H locs I => ?_)
      refine lv_aload_n C.1 C.2.1 d_M_recover_51 rfl (lv_at hl 1 rfl) ?_
      refine lv_aload_n C.1 C.2.1 d_M_recover_52 rfl (lv_at hl 1 rfl) ?_
      refine sm_g3 C I d_M_recover_53 ?_
      refine lv_aload_n C.1 C.2.1 d_M_recover_56 rfl (lv_at hl 1 rfl) ?_
      refine lv_iload_n C.1 C.2.1 d_M_recover_57 rfl (lv_at hl 0 rfl) ?_
      refine lv_aload_n C.1 C.2.1 d_M_recover_58 rfl (lv_at hl 1 rfl) ?_
      refine sm_g9 C I d_M_recover_59 ?_
      refine sm_ci C I (c_M_writesFrom l D cA h _ 0 false fu ct vo wo th ow 0 mr s1 mr (by omega) (by omega) hth how) lk_M80 rfl rfl ⟨by decide, by decide⟩ ⟨Nat.zero_le _, Nat.zero_le _⟩ rfl hl.1 (rest := [.int (nI ct), .ref (h 0)]) rfl (Nat.le_of_ble_eq_true rfl) d_M_recover_62 (fun r u' H locs w62 I => ?_)
      obtain ⟨rfl, rfl⟩ := w62
      refine n_iadd C.1 C.2.1 (a := ct) (b := mWF th ow s1 (6 - mr) mr) d_M_recover_65 ?_
      refine lv_iconst (v := nI 1) C.1 C.2.1 d_M_recover_66 (by decide) ?_
      refine n_iadd C.1 C.2.1 (a := ct + (mWF th ow s1 (6 - mr) mr)) (b := 1) d_M_recover_67 ?_
      refine sm_p3 C I ((ct + (mWF th ow s1 (6 - mr) mr)) + 1) rfl d_M_recover_68 (fun H locs I => ?_)
      refine lv_aload_n C.1 C.2.1 d_M_recover_71 rfl (lv_at hl 1 rfl) ?_
      refine lv_iload_n C.1 C.2.1 d_M_recover_72 rfl (lv_at hl 0 rfl) ?_
      refine lv_aload_n C.1 C.2.1 d_M_recover_73 rfl (lv_at hl 1 rfl) ?_
      refine sm_g9 C I d_M_recover_74 ?_
      refine sm_ci C I (c_M_restoreFrom l D cA h _ 0 false fu ((ct + (mWF th ow s1 (6 - mr) mr)) + 1) vo wo th ow 0 mr s1 mr (by omega) (by omega) hth how hu) lk_M83 rfl rfl ⟨by decide, by decide⟩ ⟨Nat.zero_le _, Nat.zero_le _⟩ rfl hl.1 (rest := []) rfl (Nat.le_of_ble_eq_true rfl) d_M_recover_77 (fun r u' H locs w77 I => ?_)
      obtain ⟨n1, vo1, ow1, hre, rfl, rfl⟩ := w77
      exact sm_ri (v := nI n1) C hr I (two (f := nI) (mRec_s hre)) d_M_recover_80
    · subst q34
      refine lv_iconst (v := nI 0) C.1 C.2.1 d_M_recover_37 (by decide) ?_
      exact sm_ri (v := nI 0) C hr I (two (f := nI) (mRec_z)) d_M_recover_38
set_option maxHeartbeats 4000000 in
set_option maxRecDepth 100000 in
/-- R_M.fuse -/
theorem c_M_fuse (l : Launch) (D : va_G) (cA : Nat → ClassId) (h : Nat → Nat) (sz : Nat) (co : Nat) (dn : Bool) (fu : Option Nat) (ct : Nat) (vo : (Nat → Int32)) (wo : (Nat → Int32)) (th : (Nat → Bool)) (ow : (Nat → Nat)) (ba : Nat) (mr : Nat) (x : Int32) : smMi l D cA h (co, dn, fu, ct, vo, wo, th, ow, ba, mr) sz y_M_fuse (.code y_M_fuse b_M_fuse 2 (some .boolean)) (rmL 0) [.int x] (fun r u' => r = bI (mFuse x (co, dn, fu, ct, vo, wo, th, ow, ba, mr)).1 ∧ u' = (mFuse x (co, dn, fu, ct, vo, wo, th, ow, ba, mr)).2) := by
  refine sm_mi (by decide) rfl (Nat.le_of_ble_eq_true rfl) ?_
  intro p e s m args below meth c C hr hsz I ls hl
  generalize smA cA h (co, dn, fu, ct, vo, wo, th, ow, ba, mr) sz = A at I ⊢
  have hl : lv_has ls 2 [(0, .ref (h 0)), (1, .int x)] := hl
  refine lv_aload_n C.1 C.2.1 d_M_fuse_0 rfl (lv_at hl 0 rfl) ?_
  refine lv_iconst (v := nI 0) C.1 C.2.1 d_M_fuse_1 (by decide) ?_
  refine sm_p0 C I 0 rfl d_M_fuse_2 (fun H locs I => ?_)
  refine lv_iload_n C.1 C.2.1 d_M_fuse_5 rfl (lv_at hl 1 rfl) ?_
  refine lv_iconst (v := oI none) C.1 C.2.1 d_M_fuse_6 (by decide) ?_
  refine lv_icmp_lt (x := x) (y := oI none) (tgt := 17) C.1 C.2.1 d_M_fuse_7 (by decide) (fun q7 => ?_) (fun q7 => ?_)
  · refine lv_iconst (v := nI 0) C.1 C.2.1 d_M_fuse_17 (by decide) ?_
    exact sm_rz (b := false) C hr I (two (f := bI) (mFuse_no (by first | exact Or.inl q7 | exact Or.inr q14))) d_M_fuse_18
  · refine lv_aload_n C.1 C.2.1 d_M_fuse_10 rfl (lv_at hl 0 rfl) ?_
    refine sm_g1 C I d_M_fuse_11 ?_
    refine n_ifeq (b := dn) (tgt := 19) C.1 C.2.1 d_M_fuse_14 (by decide) (fun q14 => ?_) (fun q14 => ?_)
    · subst q14
      rcases fuse_cases q7 with rfl | ⟨k, hk, rfl⟩
      · refine lv_aload_n C.1 C.2.1 d_M_fuse_19 rfl (lv_at hl 0 rfl) ?_
        refine lv_iload_n C.1 C.2.1 d_M_fuse_20 rfl (lv_at hl 1 rfl) ?_
        refine sm_p2 C I none rfl d_M_fuse_21 (fun H locs I => ?_)
        refine lv_iconst (v := nI 1) C.1 C.2.1 d_M_fuse_24 (by decide) ?_
        exact sm_rz (b := true) C hr I (two (f := bI) (mFuse_off)) d_M_fuse_25
      · refine lv_aload_n C.1 C.2.1 d_M_fuse_19 rfl (lv_at hl 0 rfl) ?_
        refine lv_iload_n C.1 C.2.1 d_M_fuse_20 rfl (lv_at hl 1 rfl) ?_
        refine sm_p2 C I (some k) rfl d_M_fuse_21 (fun H locs I => ?_)
        refine lv_iconst (v := nI 1) C.1 C.2.1 d_M_fuse_24 (by decide) ?_
        exact sm_rz (b := true) C hr I (two (f := bI) (mFuse_k hk)) d_M_fuse_25
    · refine lv_iconst (v := nI 0) C.1 C.2.1 d_M_fuse_17 (by decide) ?_
      exact sm_rz (b := false) C hr I (two (f := bI) (mFuse_no (by first | exact Or.inl q7 | exact Or.inr q14))) d_M_fuse_18
set_option maxHeartbeats 4000000 in
set_option maxRecDepth 100000 in
/-- R_M.isDown -/
theorem c_M_isDown (l : Launch) (D : va_G) (cA : Nat → ClassId) (h : Nat → Nat) (sz : Nat) (co : Nat) (dn : Bool) (fu : Option Nat) (ct : Nat) (vo : (Nat → Int32)) (wo : (Nat → Int32)) (th : (Nat → Bool)) (ow : (Nat → Nat)) (ba : Nat) (mr : Nat)  : smMi l D cA h (co, dn, fu, ct, vo, wo, th, ow, ba, mr) sz y_M_isDown (.code y_M_isDown b_M_isDown 1 (some .boolean)) (rmL 0) [] (fun r u' => r = bI dn ∧ u' = (0, dn, fu, ct, vo, wo, th, ow, ba, mr)) := by
  refine sm_mi (by decide) rfl (Nat.le_of_ble_eq_true rfl) ?_
  intro p e s m args below meth c C hr hsz I ls hl
  generalize smA cA h (co, dn, fu, ct, vo, wo, th, ow, ba, mr) sz = A at I ⊢
  have hl : lv_has ls 1 [(0, .ref (h 0))] := hl
  refine lv_aload_n C.1 C.2.1 d_M_isDown_0 rfl (lv_at hl 0 rfl) ?_
  refine lv_iconst (v := nI 0) C.1 C.2.1 d_M_isDown_1 (by decide) ?_
  refine sm_p0 C I 0 rfl d_M_isDown_2 (fun H locs I => ?_)
  refine lv_aload_n C.1 C.2.1 d_M_isDown_5 rfl (lv_at hl 0 rfl) ?_
  refine sm_g1 C I d_M_isDown_6 ?_
  exact sm_rz (b := dn) C hr I ⟨rfl, rfl⟩ d_M_isDown_9
set_option maxHeartbeats 4000000 in
set_option maxRecDepth 100000 in
/-- R_M.writes -/
theorem c_M_writes (l : Launch) (D : va_G) (cA : Nat → ClassId) (h : Nat → Nat) (sz : Nat) (co : Nat) (dn : Bool) (fu : Option Nat) (ct : Nat) (vo : (Nat → Int32)) (wo : (Nat → Int32)) (th : (Nat → Bool)) (ow : (Nat → Nat)) (ba : Nat) (mr : Nat)  : smMi l D cA h (co, dn, fu, ct, vo, wo, th, ow, ba, mr) sz y_M_writes (.code y_M_writes b_M_writes 1 (some .int)) (rmL 0) [] (fun r u' => r = nI ct ∧ u' = (0, dn, fu, ct, vo, wo, th, ow, ba, mr)) := by
  refine sm_mi (by decide) rfl (Nat.le_of_ble_eq_true rfl) ?_
  intro p e s m args below meth c C hr hsz I ls hl
  generalize smA cA h (co, dn, fu, ct, vo, wo, th, ow, ba, mr) sz = A at I ⊢
  have hl : lv_has ls 1 [(0, .ref (h 0))] := hl
  refine lv_aload_n C.1 C.2.1 d_M_writes_0 rfl (lv_at hl 0 rfl) ?_
  refine lv_iconst (v := nI 0) C.1 C.2.1 d_M_writes_1 (by decide) ?_
  refine sm_p0 C I 0 rfl d_M_writes_2 (fun H locs I => ?_)
  refine lv_aload_n C.1 C.2.1 d_M_writes_5 rfl (lv_at hl 0 rfl) ?_
  refine sm_g3 C I d_M_writes_6 ?_
  exact sm_ri (v := nI ct) C hr I ⟨rfl, rfl⟩ d_M_writes_9
set_option maxHeartbeats 4000000 in
set_option maxRecDepth 100000 in
/-- R_M.used -/
theorem c_M_used (l : Launch) (D : va_G) (cA : Nat → ClassId) (h : Nat → Nat) (sz : Nat) (co : Nat) (dn : Bool) (fu : Option Nat) (ct : Nat) (vo : (Nat → Int32)) (wo : (Nat → Int32)) (th : (Nat → Bool)) (ow : (Nat → Nat)) (ba : Nat) (mr : Nat) (how : oB th ow) : smMi l D cA h (co, dn, fu, ct, vo, wo, th, ow, ba, mr) sz y_M_used (.code y_M_used b_M_used 1 (some .int)) (rmL 1) [] (fun r u' => r = nI (mUsedC (co, dn, fu, ct, vo, wo, th, ow, ba, mr)).1 ∧ u' = (mUsedC (co, dn, fu, ct, vo, wo, th, ow, ba, mr)).2) := by
  refine sm_mi (by decide) rfl (Nat.le_of_ble_eq_true rfl) ?_
  intro p e s m args below meth c C hr hsz I ls hl
  generalize smA cA h (co, dn, fu, ct, vo, wo, th, ow, ba, mr) sz = A at I ⊢
  have hl : lv_has ls 1 [(0, .ref (h 0))] := hl
  refine lv_aload_n C.1 C.2.1 d_M_used_0 rfl (lv_at hl 0 rfl) ?_
  refine lv_aload_n C.1 C.2.1 d_M_used_1 rfl (lv_at hl 0 rfl) ?_
  refine sm_g1 C I d_M_used_2 ?_
  refine n_ifeq (b := dn) (tgt := 12) C.1 C.2.1 d_M_used_5 (by decide) (fun q5 => ?_) (fun q5 => ?_)
  · subst q5
    refine lv_iconst (v := nI 0) C.1 C.2.1 d_M_used_12 (by decide) ?_
    refine sm_p0 C I 0 rfl d_M_used_13 (fun H locs I => ?_)
    refine lv_aload_n C.1 C.2.1 d_M_used_16 rfl (lv_at hl 0 rfl) ?_
    refine sm_g0 C I d_M_used_17 ?_
    refine n_ifz_le (a := 0) (tgt := 27) C.1 C.2.1 (by omega) d_M_used_20 (by decide) (fun q20 => ?_) (fun q20 => absurd q20 (by omega))
    refine lv_aload_n C.1 C.2.1 d_M_used_27 rfl (lv_at hl 0 rfl) ?_
    refine sm_ci C I (c_M_usedCopies l D cA h _ 0 false fu ct vo wo th ow ba mr how) lk_M56 rfl rfl ⟨by decide, by decide⟩ ⟨Nat.zero_le _, Nat.zero_le _⟩ rfl hl.1 (rest := []) rfl (Nat.le_of_ble_eq_true rfl) d_M_used_28 (fun r u' H locs w28 I => ?_)
    obtain ⟨rfl, rfl⟩ := w28
    exact sm_ri (v := nI (mUsed th ow)) C hr I (two (f := nI) (rfl)) d_M_used_31
  · subst q5
    refine lv_iconst (v := nI 1) C.1 C.2.1 d_M_used_8 (by decide) ?_
    refine lv_goto (tgt := 13) C.1 C.2.1 d_M_used_9 (by decide) ?_
    refine sm_p0 C I 1 rfl d_M_used_13 (fun H locs I => ?_)
    refine lv_aload_n C.1 C.2.1 d_M_used_16 rfl (lv_at hl 0 rfl) ?_
    refine sm_g0 C I d_M_used_17 ?_
    refine n_ifz_le (a := 1) (tgt := 27) C.1 C.2.1 (by omega) d_M_used_20 (by decide) (fun q20 => absurd q20 (by omega)) (fun q20 => ?_)
    refine lv_iconst (v := nI 0) C.1 C.2.1 d_M_used_23 (by decide) ?_
    refine lv_goto (tgt := 31) C.1 C.2.1 d_M_used_24 (by decide) ?_
    exact sm_ri (v := nI 0) C hr I (two (f := nI) (rfl)) d_M_used_31
set_option maxHeartbeats 4000000 in
set_option maxRecDepth 100000 in
/-- R_M.copyOf -/
theorem c_M_copyOf (l : Launch) (D : va_G) (cA : Nat → ClassId) (h : Nat → Nat) (sz : Nat) (co : Nat) (dn : Bool) (fu : Option Nat) (ct : Nat) (vo : (Nat → Int32)) (wo : (Nat → Int32)) (th : (Nat → Bool)) (ow : (Nat → Nat)) (ba : Nat) (mr : Nat) (x y : Int32) (how : oB th ow) : smMi l D cA h (co, dn, fu, ct, vo, wo, th, ow, ba, mr) sz y_M_copyOf (.code y_M_copyOf b_M_copyOf 3 (some .int)) (rmL 2) [.int x, .int y] (fun r u' => r = oI (mCopyOf x y (co, dn, fu, ct, vo, wo, th, ow, ba, mr)).1 ∧ u' = (mCopyOf x y (co, dn, fu, ct, vo, wo, th, ow, ba, mr)).2) := by
  refine sm_mi (by decide) rfl (Nat.le_of_ble_eq_true rfl) ?_
  intro p e s m args below meth c C hr hsz I ls hl
  generalize smA cA h (co, dn, fu, ct, vo, wo, th, ow, ba, mr) sz = A at I ⊢
  have hl : lv_has ls 3 [(0, .ref (h 0)), (1, .int x), (2, .int y)] := hl
  refine lv_aload_n C.1 C.2.1 d_M_copyOf_0 rfl (lv_at hl 0 rfl) ?_
  refine lv_aload_n C.1 C.2.1 d_M_copyOf_1 rfl (lv_at hl 0 rfl) ?_
  refine sm_g1 C I d_M_copyOf_2 ?_
  refine n_ifeq (b := dn) (tgt := 12) C.1 C.2.1 d_M_copyOf_5 (by decide) (fun q5 => ?_) (fun q5 => ?_)
  · subst q5
    refine lv_aload_n C.1 C.2.1 d_M_copyOf_12 rfl (lv_at hl 0 rfl) ?_
    refine lv_iload_n C.1 C.2.1 d_M_copyOf_13 rfl (lv_at hl 1 rfl) ?_
    refine sm_ci C I (c_M_isSnapshot l D cA h _ co false fu ct vo wo th ow ba mr x) lk_M70 rfl rfl ⟨by decide, by decide⟩ ⟨Nat.zero_le _, Nat.zero_le _⟩ rfl hl.1 (rest := [.ref (h 0)]) rfl (Nat.le_of_ble_eq_true rfl) d_M_copyOf_14 (fun r u' H locs w14 I => ?_)
    obtain ⟨rfl, rfl⟩ := w14
    refine n_ifne (b := (mHasS th x).isSome) (tgt := 24) C.1 C.2.1 d_M_copyOf_17 (by decide) (fun q17 => ?_) (fun q17 => ?_)
    · obtain ⟨s1, hs1, rfl, ht1, hm1⟩ := mHasS_in q17
      refine lv_iload_n C.1 C.2.1 d_M_copyOf_24 rfl (lv_at hl 2 rfl) ?_
      refine lv_iconst (v := nI 0) C.1 C.2.1 d_M_copyOf_25 (by decide) ?_
      refine lv_iconst (v := nI 5) C.1 C.2.1 d_M_copyOf_26 (by decide) ?_
      refine sm_cs C I (c_M_within l _ y 5 (by decide)) lk_M40 rfl rfl ⟨by decide, by decide⟩ ⟨Nat.zero_le _, Nat.zero_le _⟩ rfl hl.1 (rest := [.ref (h 0)]) rfl (Nat.le_of_ble_eq_true rfl) d_M_copyOf_27 (fun r H locs w27 I => ?_)
      subst w27
      refine n_ifeq (b := (ixI y 6).isSome) (tgt := 37) C.1 C.2.1 d_M_copyOf_30 (by decide) (fun q30 => ?_) (fun q30 => ?_)
      · refine lv_iconst (v := nI 2) C.1 C.2.1 d_M_copyOf_37 (by decide) ?_
        refine sm_p0 C I 2 rfl d_M_copyOf_38 (fun H locs I => ?_)
        refine lv_aload_n C.1 C.2.1 d_M_copyOf_41 rfl (lv_at hl 0 rfl) ?_
        refine sm_g0 C I d_M_copyOf_42 ?_
        refine n_ifz_le (a := 2) (tgt := 52) C.1 C.2.1 (by omega) d_M_copyOf_45 (by decide) (fun q45 => absurd q45 (by omega)) (fun q45 => ?_)
        refine lv_iconst (v := nI 0) C.1 C.2.1 d_M_copyOf_48 (by decide) ?_
        refine lv_goto (tgt := 65) C.1 C.2.1 d_M_copyOf_49 (by decide) ?_
        exact sm_ri (v := nI 0) C hr I (two (f := oI) (mCopyOf_2 hm1 q30)) d_M_copyOf_65
      · obtain ⟨b1, hb1, rfl⟩ := isB_in q30
        refine lv_iconst (v := nI 0) C.1 C.2.1 d_M_copyOf_33 (by decide) ?_
        refine lv_goto (tgt := 38) C.1 C.2.1 d_M_copyOf_34 (by decide) ?_
        refine sm_p0 C I 0 rfl d_M_copyOf_38 (fun H locs I => ?_)
        refine lv_aload_n C.1 C.2.1 d_M_copyOf_41 rfl (lv_at hl 0 rfl) ?_
        refine sm_g0 C I d_M_copyOf_42 ?_
        refine n_ifz_le (a := 0) (tgt := 52) C.1 C.2.1 (by omega) d_M_copyOf_45 (by decide) (fun q45 => ?_) (fun q45 => absurd q45 (by omega))
        refine lv_aload_n C.1 C.2.1 d_M_copyOf_52 rfl (lv_at hl 0 rfl) ?_
        refine sm_g7 C I d_M_copyOf_53 ?_
        refine lv_bipush (v := nI 6) C.1 C.2.1 d_M_copyOf_56 (by decide) ?_
        refine lv_iload_n C.1 C.2.1 d_M_copyOf_58 rfl (lv_at hl 1 rfl) ?_
        refine n_imul C.1 C.2.1 (a := 6) (b := s1) d_M_copyOf_59 ?_
        refine lv_iload_n C.1 C.2.1 d_M_copyOf_60 rfl (lv_at hl 2 rfl) ?_
        refine n_iadd C.1 C.2.1 (a := 6 * s1) (b := b1) d_M_copyOf_61 ?_
        refine sm_l4 C I (k := (6 * s1) + b1) (by omega) d_M_copyOf_62 ?_
        rcases hoc : ow (6 * s1 + b1) with _ | c2
        · refine lv_iconst (v := nI 1) C.1 C.2.1 d_M_copyOf_63 (by decide) ?_
          refine lv_isub C.1 C.2.1 d_M_copyOf_64 ?_
          exact sm_ri (v := (nI 0 - nI 1)) C hr I (two (f := oI) (mCopyOf_0 hm1 hb1 hoc)) d_M_copyOf_65
        · refine lv_iconst (v := nI 1) C.1 C.2.1 d_M_copyOf_63 (by decide) ?_
          refine n_isub C.1 C.2.1 (a := c2 + 1) (b := 1) (by omega) d_M_copyOf_64 ?_
          exact sm_ri (v := nI ((c2 + 1) - 1)) C hr I (two (f := oI) (mCopyOf_k hm1 hb1 hoc)) d_M_copyOf_65
    · refine lv_iconst (v := nI 1) C.1 C.2.1 d_M_copyOf_20 (by decide) ?_
      refine lv_goto (tgt := 38) C.1 C.2.1 d_M_copyOf_21 (by decide) ?_
      refine sm_p0 C I 1 rfl d_M_copyOf_38 (fun H locs I => ?_)
      refine lv_aload_n C.1 C.2.1 d_M_copyOf_41 rfl (lv_at hl 0 rfl) ?_
      refine sm_g0 C I d_M_copyOf_42 ?_
      refine n_ifz_le (a := 1) (tgt := 52) C.1 C.2.1 (by omega) d_M_copyOf_45 (by decide) (fun q45 => absurd q45 (by omega)) (fun q45 => ?_)
      refine lv_iconst (v := nI 0) C.1 C.2.1 d_M_copyOf_48 (by decide) ?_
      refine lv_goto (tgt := 65) C.1 C.2.1 d_M_copyOf_49 (by decide) ?_
      exact sm_ri (v := nI 0) C hr I (two (f := oI) (mCopyOf_1 q17)) d_M_copyOf_65
  · subst q5
    refine lv_iconst (v := nI 3) C.1 C.2.1 d_M_copyOf_8 (by decide) ?_
    refine lv_goto (tgt := 38) C.1 C.2.1 d_M_copyOf_9 (by decide) ?_
    refine sm_p0 C I 3 rfl d_M_copyOf_38 (fun H locs I => ?_)
    refine lv_aload_n C.1 C.2.1 d_M_copyOf_41 rfl (lv_at hl 0 rfl) ?_
    refine sm_g0 C I d_M_copyOf_42 ?_
    refine n_ifz_le (a := 3) (tgt := 52) C.1 C.2.1 (by omega) d_M_copyOf_45 (by decide) (fun q45 => absurd q45 (by omega)) (fun q45 => ?_)
    refine lv_iconst (v := nI 0) C.1 C.2.1 d_M_copyOf_48 (by decide) ?_
    refine lv_goto (tgt := 65) C.1 C.2.1 d_M_copyOf_49 (by decide) ?_
    exact sm_ri (v := nI 0) C hr I (two (f := oI) (mCopyOf_3)) d_M_copyOf_65
set_option maxHeartbeats 4000000 in
set_option maxRecDepth 100000 in
/-- R_M.places -/
theorem c_M_places (l : Launch) (D : va_G) (cA : Nat → ClassId) (h : Nat → Nat) (sz : Nat) (co : Nat) (dn : Bool) (fu : Option Nat) (ct : Nat) (vo : (Nat → Int32)) (wo : (Nat → Int32)) (th : (Nat → Bool)) (ow : (Nat → Nat)) (ba : Nat) (mr : Nat)  : smMi l D cA h (co, dn, fu, ct, vo, wo, th, ow, ba, mr) sz y_M_places (.code y_M_places b_M_places 2 (some .int)) (rmL 0) [] (fun r u' => r = nI (mPlaces (co, dn, fu, ct, vo, wo, th, ow, ba, mr)).1 ∧ u' = (mPlaces (co, dn, fu, ct, vo, wo, th, ow, ba, mr)).2) := by
  refine sm_mi (by decide) rfl (Nat.le_of_ble_eq_true rfl) ?_
  intro p e s m args below meth c C hr hsz I ls hl
  generalize smA cA h (co, dn, fu, ct, vo, wo, th, ow, ba, mr) sz = A at I ⊢
  have hl : lv_has ls 2 [(0, .ref (h 0))] := hl
  refine lv_aload_n C.1 C.2.1 d_M_places_0 rfl (lv_at hl 0 rfl) ?_
  refine lv_aload_n C.1 C.2.1 d_M_places_1 rfl (lv_at hl 0 rfl) ?_
  refine sm_g1 C I d_M_places_2 ?_
  refine n_ifeq (b := dn) (tgt := 12) C.1 C.2.1 d_M_places_5 (by decide) (fun q5 => ?_) (fun q5 => ?_)
  · subst q5
    refine lv_iconst (v := nI 0) C.1 C.2.1 d_M_places_12 (by decide) ?_
    refine sm_p0 C I 0 rfl d_M_places_13 (fun H locs I => ?_)
    refine lv_aload_n C.1 C.2.1 d_M_places_16 rfl (lv_at hl 0 rfl) ?_
    refine sm_g6 C I d_M_places_17 ?_
    refine lv_iconst (v := nI 0) C.1 C.2.1 d_M_places_20 (by decide) ?_
    refine sm_l3 C I (k := 0) (by omega) d_M_places_21 ?_
    refine n_ifeq (b := (th 0)) (tgt := 29) C.1 C.2.1 d_M_places_22 (by decide) (fun q22 => ?_) (fun q22 => ?_)
    · refine lv_iconst (v := nI 0) C.1 C.2.1 d_M_places_29 (by decide) ?_
      refine lv_aload_n C.1 C.2.1 d_M_places_30 rfl (lv_at hl 0 rfl) ?_
      refine sm_g6 C I d_M_places_31 ?_
      refine lv_iconst (v := nI 1) C.1 C.2.1 d_M_places_34 (by decide) ?_
      refine sm_l3 C I (k := 1) (by omega) d_M_places_35 ?_
      refine n_ifeq (b := (th 1)) (tgt := 43) C.1 C.2.1 d_M_places_36 (by decide) (fun q36 => ?_) (fun q36 => ?_)
      · refine lv_iconst (v := nI 0) C.1 C.2.1 d_M_places_43 (by decide) ?_
        refine n_iadd C.1 C.2.1 (a := 0) (b := 0) d_M_places_44 ?_
        refine lv_aload_n C.1 C.2.1 d_M_places_45 rfl (lv_at hl 0 rfl) ?_
        refine sm_g6 C I d_M_places_46 ?_
        refine lv_iconst (v := nI 2) C.1 C.2.1 d_M_places_49 (by decide) ?_
        refine sm_l3 C I (k := 2) (by omega) d_M_places_50 ?_
        refine n_ifeq (b := (th 2)) (tgt := 58) C.1 C.2.1 d_M_places_51 (by decide) (fun q51 => ?_) (fun q51 => ?_)
        · refine lv_iconst (v := nI 0) C.1 C.2.1 d_M_places_58 (by decide) ?_
          refine n_iadd C.1 C.2.1 (a := 0 + 0) (b := 0) d_M_places_59 ?_
          refine lv_istore_n (lv' := [(1, .int (nI ((0 + 0) + 0))), (0, .ref (h 0))]) C.1 C.2.1 d_M_places_60 rfl hl (by decide) rfl (fun ls hl => ?_)
          refine lv_aload_n C.1 C.2.1 d_M_places_61 rfl (lv_at hl 1 rfl) ?_
          refine sm_g0 C I d_M_places_62 ?_
          refine n_ifz_le (a := 0) (tgt := 72) C.1 C.2.1 (by omega) d_M_places_65 (by decide) (fun q65 => ?_) (fun q65 => absurd q65 (by omega))
          refine lv_iload_n C.1 C.2.1 d_M_places_72 rfl (lv_at hl 0 rfl) ?_
          exact sm_ri (v := nI ((0 + 0) + 0)) C hr I (two (f := nI) (mPlaces_0 q22 q36 q51)) d_M_places_73
        · refine lv_iconst (v := nI 4) C.1 C.2.1 d_M_places_54 (by decide) ?_
          refine lv_goto (tgt := 59) C.1 C.2.1 d_M_places_55 (by decide) ?_
          refine n_iadd C.1 C.2.1 (a := 0 + 0) (b := 4) d_M_places_59 ?_
          refine lv_istore_n (lv' := [(1, .int (nI ((0 + 0) + 4))), (0, .ref (h 0))]) C.1 C.2.1 d_M_places_60 rfl hl (by decide) rfl (fun ls hl => ?_)
          refine lv_aload_n C.1 C.2.1 d_M_places_61 rfl (lv_at hl 1 rfl) ?_
          refine sm_g0 C I d_M_places_62 ?_
          refine n_ifz_le (a := 0) (tgt := 72) C.1 C.2.1 (by omega) d_M_places_65 (by decide) (fun q65 => ?_) (fun q65 => absurd q65 (by omega))
          refine lv_iload_n C.1 C.2.1 d_M_places_72 rfl (lv_at hl 0 rfl) ?_
          exact sm_ri (v := nI ((0 + 0) + 4)) C hr I (two (f := nI) (mPlaces_0 q22 q36 q51)) d_M_places_73
      · refine lv_iconst (v := nI 2) C.1 C.2.1 d_M_places_39 (by decide) ?_
        refine lv_goto (tgt := 44) C.1 C.2.1 d_M_places_40 (by decide) ?_
        refine n_iadd C.1 C.2.1 (a := 0) (b := 2) d_M_places_44 ?_
        refine lv_aload_n C.1 C.2.1 d_M_places_45 rfl (lv_at hl 0 rfl) ?_
        refine sm_g6 C I d_M_places_46 ?_
        refine lv_iconst (v := nI 2) C.1 C.2.1 d_M_places_49 (by decide) ?_
        refine sm_l3 C I (k := 2) (by omega) d_M_places_50 ?_
        refine n_ifeq (b := (th 2)) (tgt := 58) C.1 C.2.1 d_M_places_51 (by decide) (fun q51 => ?_) (fun q51 => ?_)
        · refine lv_iconst (v := nI 0) C.1 C.2.1 d_M_places_58 (by decide) ?_
          refine n_iadd C.1 C.2.1 (a := 0 + 2) (b := 0) d_M_places_59 ?_
          refine lv_istore_n (lv' := [(1, .int (nI ((0 + 2) + 0))), (0, .ref (h 0))]) C.1 C.2.1 d_M_places_60 rfl hl (by decide) rfl (fun ls hl => ?_)
          refine lv_aload_n C.1 C.2.1 d_M_places_61 rfl (lv_at hl 1 rfl) ?_
          refine sm_g0 C I d_M_places_62 ?_
          refine n_ifz_le (a := 0) (tgt := 72) C.1 C.2.1 (by omega) d_M_places_65 (by decide) (fun q65 => ?_) (fun q65 => absurd q65 (by omega))
          refine lv_iload_n C.1 C.2.1 d_M_places_72 rfl (lv_at hl 0 rfl) ?_
          exact sm_ri (v := nI ((0 + 2) + 0)) C hr I (two (f := nI) (mPlaces_0 q22 q36 q51)) d_M_places_73
        · refine lv_iconst (v := nI 4) C.1 C.2.1 d_M_places_54 (by decide) ?_
          refine lv_goto (tgt := 59) C.1 C.2.1 d_M_places_55 (by decide) ?_
          refine n_iadd C.1 C.2.1 (a := 0 + 2) (b := 4) d_M_places_59 ?_
          refine lv_istore_n (lv' := [(1, .int (nI ((0 + 2) + 4))), (0, .ref (h 0))]) C.1 C.2.1 d_M_places_60 rfl hl (by decide) rfl (fun ls hl => ?_)
          refine lv_aload_n C.1 C.2.1 d_M_places_61 rfl (lv_at hl 1 rfl) ?_
          refine sm_g0 C I d_M_places_62 ?_
          refine n_ifz_le (a := 0) (tgt := 72) C.1 C.2.1 (by omega) d_M_places_65 (by decide) (fun q65 => ?_) (fun q65 => absurd q65 (by omega))
          refine lv_iload_n C.1 C.2.1 d_M_places_72 rfl (lv_at hl 0 rfl) ?_
          exact sm_ri (v := nI ((0 + 2) + 4)) C hr I (two (f := nI) (mPlaces_0 q22 q36 q51)) d_M_places_73
    · refine lv_iconst (v := nI 1) C.1 C.2.1 d_M_places_25 (by decide) ?_
      refine lv_goto (tgt := 30) C.1 C.2.1 d_M_places_26 (by decide) ?_
      refine lv_aload_n C.1 C.2.1 d_M_places_30 rfl (lv_at hl 0 rfl) ?_
      refine sm_g6 C I d_M_places_31 ?_
      refine lv_iconst (v := nI 1) C.1 C.2.1 d_M_places_34 (by decide) ?_
      refine sm_l3 C I (k := 1) (by omega) d_M_places_35 ?_
      refine n_ifeq (b := (th 1)) (tgt := 43) C.1 C.2.1 d_M_places_36 (by decide) (fun q36 => ?_) (fun q36 => ?_)
      · refine lv_iconst (v := nI 0) C.1 C.2.1 d_M_places_43 (by decide) ?_
        refine n_iadd C.1 C.2.1 (a := 1) (b := 0) d_M_places_44 ?_
        refine lv_aload_n C.1 C.2.1 d_M_places_45 rfl (lv_at hl 0 rfl) ?_
        refine sm_g6 C I d_M_places_46 ?_
        refine lv_iconst (v := nI 2) C.1 C.2.1 d_M_places_49 (by decide) ?_
        refine sm_l3 C I (k := 2) (by omega) d_M_places_50 ?_
        refine n_ifeq (b := (th 2)) (tgt := 58) C.1 C.2.1 d_M_places_51 (by decide) (fun q51 => ?_) (fun q51 => ?_)
        · refine lv_iconst (v := nI 0) C.1 C.2.1 d_M_places_58 (by decide) ?_
          refine n_iadd C.1 C.2.1 (a := 1 + 0) (b := 0) d_M_places_59 ?_
          refine lv_istore_n (lv' := [(1, .int (nI ((1 + 0) + 0))), (0, .ref (h 0))]) C.1 C.2.1 d_M_places_60 rfl hl (by decide) rfl (fun ls hl => ?_)
          refine lv_aload_n C.1 C.2.1 d_M_places_61 rfl (lv_at hl 1 rfl) ?_
          refine sm_g0 C I d_M_places_62 ?_
          refine n_ifz_le (a := 0) (tgt := 72) C.1 C.2.1 (by omega) d_M_places_65 (by decide) (fun q65 => ?_) (fun q65 => absurd q65 (by omega))
          refine lv_iload_n C.1 C.2.1 d_M_places_72 rfl (lv_at hl 0 rfl) ?_
          exact sm_ri (v := nI ((1 + 0) + 0)) C hr I (two (f := nI) (mPlaces_0 q22 q36 q51)) d_M_places_73
        · refine lv_iconst (v := nI 4) C.1 C.2.1 d_M_places_54 (by decide) ?_
          refine lv_goto (tgt := 59) C.1 C.2.1 d_M_places_55 (by decide) ?_
          refine n_iadd C.1 C.2.1 (a := 1 + 0) (b := 4) d_M_places_59 ?_
          refine lv_istore_n (lv' := [(1, .int (nI ((1 + 0) + 4))), (0, .ref (h 0))]) C.1 C.2.1 d_M_places_60 rfl hl (by decide) rfl (fun ls hl => ?_)
          refine lv_aload_n C.1 C.2.1 d_M_places_61 rfl (lv_at hl 1 rfl) ?_
          refine sm_g0 C I d_M_places_62 ?_
          refine n_ifz_le (a := 0) (tgt := 72) C.1 C.2.1 (by omega) d_M_places_65 (by decide) (fun q65 => ?_) (fun q65 => absurd q65 (by omega))
          refine lv_iload_n C.1 C.2.1 d_M_places_72 rfl (lv_at hl 0 rfl) ?_
          exact sm_ri (v := nI ((1 + 0) + 4)) C hr I (two (f := nI) (mPlaces_0 q22 q36 q51)) d_M_places_73
      · refine lv_iconst (v := nI 2) C.1 C.2.1 d_M_places_39 (by decide) ?_
        refine lv_goto (tgt := 44) C.1 C.2.1 d_M_places_40 (by decide) ?_
        refine n_iadd C.1 C.2.1 (a := 1) (b := 2) d_M_places_44 ?_
        refine lv_aload_n C.1 C.2.1 d_M_places_45 rfl (lv_at hl 0 rfl) ?_
        refine sm_g6 C I d_M_places_46 ?_
        refine lv_iconst (v := nI 2) C.1 C.2.1 d_M_places_49 (by decide) ?_
        refine sm_l3 C I (k := 2) (by omega) d_M_places_50 ?_
        refine n_ifeq (b := (th 2)) (tgt := 58) C.1 C.2.1 d_M_places_51 (by decide) (fun q51 => ?_) (fun q51 => ?_)
        · refine lv_iconst (v := nI 0) C.1 C.2.1 d_M_places_58 (by decide) ?_
          refine n_iadd C.1 C.2.1 (a := 1 + 2) (b := 0) d_M_places_59 ?_
          refine lv_istore_n (lv' := [(1, .int (nI ((1 + 2) + 0))), (0, .ref (h 0))]) C.1 C.2.1 d_M_places_60 rfl hl (by decide) rfl (fun ls hl => ?_)
          refine lv_aload_n C.1 C.2.1 d_M_places_61 rfl (lv_at hl 1 rfl) ?_
          refine sm_g0 C I d_M_places_62 ?_
          refine n_ifz_le (a := 0) (tgt := 72) C.1 C.2.1 (by omega) d_M_places_65 (by decide) (fun q65 => ?_) (fun q65 => absurd q65 (by omega))
          refine lv_iload_n C.1 C.2.1 d_M_places_72 rfl (lv_at hl 0 rfl) ?_
          exact sm_ri (v := nI ((1 + 2) + 0)) C hr I (two (f := nI) (mPlaces_0 q22 q36 q51)) d_M_places_73
        · refine lv_iconst (v := nI 4) C.1 C.2.1 d_M_places_54 (by decide) ?_
          refine lv_goto (tgt := 59) C.1 C.2.1 d_M_places_55 (by decide) ?_
          refine n_iadd C.1 C.2.1 (a := 1 + 2) (b := 4) d_M_places_59 ?_
          refine lv_istore_n (lv' := [(1, .int (nI ((1 + 2) + 4))), (0, .ref (h 0))]) C.1 C.2.1 d_M_places_60 rfl hl (by decide) rfl (fun ls hl => ?_)
          refine lv_aload_n C.1 C.2.1 d_M_places_61 rfl (lv_at hl 1 rfl) ?_
          refine sm_g0 C I d_M_places_62 ?_
          refine n_ifz_le (a := 0) (tgt := 72) C.1 C.2.1 (by omega) d_M_places_65 (by decide) (fun q65 => ?_) (fun q65 => absurd q65 (by omega))
          refine lv_iload_n C.1 C.2.1 d_M_places_72 rfl (lv_at hl 0 rfl) ?_
          exact sm_ri (v := nI ((1 + 2) + 4)) C hr I (two (f := nI) (mPlaces_0 q22 q36 q51)) d_M_places_73
  · subst q5
    refine lv_iconst (v := nI 1) C.1 C.2.1 d_M_places_8 (by decide) ?_
    refine lv_goto (tgt := 13) C.1 C.2.1 d_M_places_9 (by decide) ?_
    refine sm_p0 C I 1 rfl d_M_places_13 (fun H locs I => ?_)
    refine lv_aload_n C.1 C.2.1 d_M_places_16 rfl (lv_at hl 0 rfl) ?_
    refine sm_g6 C I d_M_places_17 ?_
    refine lv_iconst (v := nI 0) C.1 C.2.1 d_M_places_20 (by decide) ?_
    refine sm_l3 C I (k := 0) (by omega) d_M_places_21 ?_
    refine n_ifeq (b := (th 0)) (tgt := 29) C.1 C.2.1 d_M_places_22 (by decide) (fun q22 => ?_) (fun q22 => ?_)
    · refine lv_iconst (v := nI 0) C.1 C.2.1 d_M_places_29 (by decide) ?_
      refine lv_aload_n C.1 C.2.1 d_M_places_30 rfl (lv_at hl 0 rfl) ?_
      refine sm_g6 C I d_M_places_31 ?_
      refine lv_iconst (v := nI 1) C.1 C.2.1 d_M_places_34 (by decide) ?_
      refine sm_l3 C I (k := 1) (by omega) d_M_places_35 ?_
      refine n_ifeq (b := (th 1)) (tgt := 43) C.1 C.2.1 d_M_places_36 (by decide) (fun q36 => ?_) (fun q36 => ?_)
      · refine lv_iconst (v := nI 0) C.1 C.2.1 d_M_places_43 (by decide) ?_
        refine n_iadd C.1 C.2.1 (a := 0) (b := 0) d_M_places_44 ?_
        refine lv_aload_n C.1 C.2.1 d_M_places_45 rfl (lv_at hl 0 rfl) ?_
        refine sm_g6 C I d_M_places_46 ?_
        refine lv_iconst (v := nI 2) C.1 C.2.1 d_M_places_49 (by decide) ?_
        refine sm_l3 C I (k := 2) (by omega) d_M_places_50 ?_
        refine n_ifeq (b := (th 2)) (tgt := 58) C.1 C.2.1 d_M_places_51 (by decide) (fun q51 => ?_) (fun q51 => ?_)
        · refine lv_iconst (v := nI 0) C.1 C.2.1 d_M_places_58 (by decide) ?_
          refine n_iadd C.1 C.2.1 (a := 0 + 0) (b := 0) d_M_places_59 ?_
          refine lv_istore_n (lv' := [(1, .int (nI ((0 + 0) + 0))), (0, .ref (h 0))]) C.1 C.2.1 d_M_places_60 rfl hl (by decide) rfl (fun ls hl => ?_)
          refine lv_aload_n C.1 C.2.1 d_M_places_61 rfl (lv_at hl 1 rfl) ?_
          refine sm_g0 C I d_M_places_62 ?_
          refine n_ifz_le (a := 1) (tgt := 72) C.1 C.2.1 (by omega) d_M_places_65 (by decide) (fun q65 => absurd q65 (by omega)) (fun q65 => ?_)
          refine lv_iconst (v := nI 0) C.1 C.2.1 d_M_places_68 (by decide) ?_
          refine lv_goto (tgt := 73) C.1 C.2.1 d_M_places_69 (by decide) ?_
          exact sm_ri (v := nI 0) C hr I (two (f := nI) (rfl)) d_M_places_73
        · refine lv_iconst (v := nI 4) C.1 C.2.1 d_M_places_54 (by decide) ?_
          refine lv_goto (tgt := 59) C.1 C.2.1 d_M_places_55 (by decide) ?_
          refine n_iadd C.1 C.2.1 (a := 0 + 0) (b := 4) d_M_places_59 ?_
          refine lv_istore_n (lv' := [(1, .int (nI ((0 + 0) + 4))), (0, .ref (h 0))]) C.1 C.2.1 d_M_places_60 rfl hl (by decide) rfl (fun ls hl => ?_)
          refine lv_aload_n C.1 C.2.1 d_M_places_61 rfl (lv_at hl 1 rfl) ?_
          refine sm_g0 C I d_M_places_62 ?_
          refine n_ifz_le (a := 1) (tgt := 72) C.1 C.2.1 (by omega) d_M_places_65 (by decide) (fun q65 => absurd q65 (by omega)) (fun q65 => ?_)
          refine lv_iconst (v := nI 0) C.1 C.2.1 d_M_places_68 (by decide) ?_
          refine lv_goto (tgt := 73) C.1 C.2.1 d_M_places_69 (by decide) ?_
          exact sm_ri (v := nI 0) C hr I (two (f := nI) (rfl)) d_M_places_73
      · refine lv_iconst (v := nI 2) C.1 C.2.1 d_M_places_39 (by decide) ?_
        refine lv_goto (tgt := 44) C.1 C.2.1 d_M_places_40 (by decide) ?_
        refine n_iadd C.1 C.2.1 (a := 0) (b := 2) d_M_places_44 ?_
        refine lv_aload_n C.1 C.2.1 d_M_places_45 rfl (lv_at hl 0 rfl) ?_
        refine sm_g6 C I d_M_places_46 ?_
        refine lv_iconst (v := nI 2) C.1 C.2.1 d_M_places_49 (by decide) ?_
        refine sm_l3 C I (k := 2) (by omega) d_M_places_50 ?_
        refine n_ifeq (b := (th 2)) (tgt := 58) C.1 C.2.1 d_M_places_51 (by decide) (fun q51 => ?_) (fun q51 => ?_)
        · refine lv_iconst (v := nI 0) C.1 C.2.1 d_M_places_58 (by decide) ?_
          refine n_iadd C.1 C.2.1 (a := 0 + 2) (b := 0) d_M_places_59 ?_
          refine lv_istore_n (lv' := [(1, .int (nI ((0 + 2) + 0))), (0, .ref (h 0))]) C.1 C.2.1 d_M_places_60 rfl hl (by decide) rfl (fun ls hl => ?_)
          refine lv_aload_n C.1 C.2.1 d_M_places_61 rfl (lv_at hl 1 rfl) ?_
          refine sm_g0 C I d_M_places_62 ?_
          refine n_ifz_le (a := 1) (tgt := 72) C.1 C.2.1 (by omega) d_M_places_65 (by decide) (fun q65 => absurd q65 (by omega)) (fun q65 => ?_)
          refine lv_iconst (v := nI 0) C.1 C.2.1 d_M_places_68 (by decide) ?_
          refine lv_goto (tgt := 73) C.1 C.2.1 d_M_places_69 (by decide) ?_
          exact sm_ri (v := nI 0) C hr I (two (f := nI) (rfl)) d_M_places_73
        · refine lv_iconst (v := nI 4) C.1 C.2.1 d_M_places_54 (by decide) ?_
          refine lv_goto (tgt := 59) C.1 C.2.1 d_M_places_55 (by decide) ?_
          refine n_iadd C.1 C.2.1 (a := 0 + 2) (b := 4) d_M_places_59 ?_
          refine lv_istore_n (lv' := [(1, .int (nI ((0 + 2) + 4))), (0, .ref (h 0))]) C.1 C.2.1 d_M_places_60 rfl hl (by decide) rfl (fun ls hl => ?_)
          refine lv_aload_n C.1 C.2.1 d_M_places_61 rfl (lv_at hl 1 rfl) ?_
          refine sm_g0 C I d_M_places_62 ?_
          refine n_ifz_le (a := 1) (tgt := 72) C.1 C.2.1 (by omega) d_M_places_65 (by decide) (fun q65 => absurd q65 (by omega)) (fun q65 => ?_)
          refine lv_iconst (v := nI 0) C.1 C.2.1 d_M_places_68 (by decide) ?_
          refine lv_goto (tgt := 73) C.1 C.2.1 d_M_places_69 (by decide) ?_
          exact sm_ri (v := nI 0) C hr I (two (f := nI) (rfl)) d_M_places_73
    · refine lv_iconst (v := nI 1) C.1 C.2.1 d_M_places_25 (by decide) ?_
      refine lv_goto (tgt := 30) C.1 C.2.1 d_M_places_26 (by decide) ?_
      refine lv_aload_n C.1 C.2.1 d_M_places_30 rfl (lv_at hl 0 rfl) ?_
      refine sm_g6 C I d_M_places_31 ?_
      refine lv_iconst (v := nI 1) C.1 C.2.1 d_M_places_34 (by decide) ?_
      refine sm_l3 C I (k := 1) (by omega) d_M_places_35 ?_
      refine n_ifeq (b := (th 1)) (tgt := 43) C.1 C.2.1 d_M_places_36 (by decide) (fun q36 => ?_) (fun q36 => ?_)
      · refine lv_iconst (v := nI 0) C.1 C.2.1 d_M_places_43 (by decide) ?_
        refine n_iadd C.1 C.2.1 (a := 1) (b := 0) d_M_places_44 ?_
        refine lv_aload_n C.1 C.2.1 d_M_places_45 rfl (lv_at hl 0 rfl) ?_
        refine sm_g6 C I d_M_places_46 ?_
        refine lv_iconst (v := nI 2) C.1 C.2.1 d_M_places_49 (by decide) ?_
        refine sm_l3 C I (k := 2) (by omega) d_M_places_50 ?_
        refine n_ifeq (b := (th 2)) (tgt := 58) C.1 C.2.1 d_M_places_51 (by decide) (fun q51 => ?_) (fun q51 => ?_)
        · refine lv_iconst (v := nI 0) C.1 C.2.1 d_M_places_58 (by decide) ?_
          refine n_iadd C.1 C.2.1 (a := 1 + 0) (b := 0) d_M_places_59 ?_
          refine lv_istore_n (lv' := [(1, .int (nI ((1 + 0) + 0))), (0, .ref (h 0))]) C.1 C.2.1 d_M_places_60 rfl hl (by decide) rfl (fun ls hl => ?_)
          refine lv_aload_n C.1 C.2.1 d_M_places_61 rfl (lv_at hl 1 rfl) ?_
          refine sm_g0 C I d_M_places_62 ?_
          refine n_ifz_le (a := 1) (tgt := 72) C.1 C.2.1 (by omega) d_M_places_65 (by decide) (fun q65 => absurd q65 (by omega)) (fun q65 => ?_)
          refine lv_iconst (v := nI 0) C.1 C.2.1 d_M_places_68 (by decide) ?_
          refine lv_goto (tgt := 73) C.1 C.2.1 d_M_places_69 (by decide) ?_
          exact sm_ri (v := nI 0) C hr I (two (f := nI) (rfl)) d_M_places_73
        · refine lv_iconst (v := nI 4) C.1 C.2.1 d_M_places_54 (by decide) ?_
          refine lv_goto (tgt := 59) C.1 C.2.1 d_M_places_55 (by decide) ?_
          refine n_iadd C.1 C.2.1 (a := 1 + 0) (b := 4) d_M_places_59 ?_
          refine lv_istore_n (lv' := [(1, .int (nI ((1 + 0) + 4))), (0, .ref (h 0))]) C.1 C.2.1 d_M_places_60 rfl hl (by decide) rfl (fun ls hl => ?_)
          refine lv_aload_n C.1 C.2.1 d_M_places_61 rfl (lv_at hl 1 rfl) ?_
          refine sm_g0 C I d_M_places_62 ?_
          refine n_ifz_le (a := 1) (tgt := 72) C.1 C.2.1 (by omega) d_M_places_65 (by decide) (fun q65 => absurd q65 (by omega)) (fun q65 => ?_)
          refine lv_iconst (v := nI 0) C.1 C.2.1 d_M_places_68 (by decide) ?_
          refine lv_goto (tgt := 73) C.1 C.2.1 d_M_places_69 (by decide) ?_
          exact sm_ri (v := nI 0) C hr I (two (f := nI) (rfl)) d_M_places_73
      · refine lv_iconst (v := nI 2) C.1 C.2.1 d_M_places_39 (by decide) ?_
        refine lv_goto (tgt := 44) C.1 C.2.1 d_M_places_40 (by decide) ?_
        refine n_iadd C.1 C.2.1 (a := 1) (b := 2) d_M_places_44 ?_
        refine lv_aload_n C.1 C.2.1 d_M_places_45 rfl (lv_at hl 0 rfl) ?_
        refine sm_g6 C I d_M_places_46 ?_
        refine lv_iconst (v := nI 2) C.1 C.2.1 d_M_places_49 (by decide) ?_
        refine sm_l3 C I (k := 2) (by omega) d_M_places_50 ?_
        refine n_ifeq (b := (th 2)) (tgt := 58) C.1 C.2.1 d_M_places_51 (by decide) (fun q51 => ?_) (fun q51 => ?_)
        · refine lv_iconst (v := nI 0) C.1 C.2.1 d_M_places_58 (by decide) ?_
          refine n_iadd C.1 C.2.1 (a := 1 + 2) (b := 0) d_M_places_59 ?_
          refine lv_istore_n (lv' := [(1, .int (nI ((1 + 2) + 0))), (0, .ref (h 0))]) C.1 C.2.1 d_M_places_60 rfl hl (by decide) rfl (fun ls hl => ?_)
          refine lv_aload_n C.1 C.2.1 d_M_places_61 rfl (lv_at hl 1 rfl) ?_
          refine sm_g0 C I d_M_places_62 ?_
          refine n_ifz_le (a := 1) (tgt := 72) C.1 C.2.1 (by omega) d_M_places_65 (by decide) (fun q65 => absurd q65 (by omega)) (fun q65 => ?_)
          refine lv_iconst (v := nI 0) C.1 C.2.1 d_M_places_68 (by decide) ?_
          refine lv_goto (tgt := 73) C.1 C.2.1 d_M_places_69 (by decide) ?_
          exact sm_ri (v := nI 0) C hr I (two (f := nI) (rfl)) d_M_places_73
        · refine lv_iconst (v := nI 4) C.1 C.2.1 d_M_places_54 (by decide) ?_
          refine lv_goto (tgt := 59) C.1 C.2.1 d_M_places_55 (by decide) ?_
          refine n_iadd C.1 C.2.1 (a := 1 + 2) (b := 4) d_M_places_59 ?_
          refine lv_istore_n (lv' := [(1, .int (nI ((1 + 2) + 4))), (0, .ref (h 0))]) C.1 C.2.1 d_M_places_60 rfl hl (by decide) rfl (fun ls hl => ?_)
          refine lv_aload_n C.1 C.2.1 d_M_places_61 rfl (lv_at hl 1 rfl) ?_
          refine sm_g0 C I d_M_places_62 ?_
          refine n_ifz_le (a := 1) (tgt := 72) C.1 C.2.1 (by omega) d_M_places_65 (by decide) (fun q65 => absurd q65 (by omega)) (fun q65 => ?_)
          refine lv_iconst (v := nI 0) C.1 C.2.1 d_M_places_68 (by decide) ?_
          refine lv_goto (tgt := 73) C.1 C.2.1 d_M_places_69 (by decide) ?_
          exact sm_ri (v := nI 0) C hr I (two (f := nI) (rfl)) d_M_places_73
end
