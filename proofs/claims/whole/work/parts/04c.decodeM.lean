theorem d_M_rollback_234 : decode b_M_rollback 234 = .ok (.iload_n 1, 1) := by decide +kernel
theorem d_M_rollback_235 : decode b_M_rollback 235 = .ok (.iload_n 3, 1) := by decide +kernel
theorem d_M_rollback_236 : decode b_M_rollback 236 = .ok (.iconst 5, 1) := by decide +kernel
theorem d_M_rollback_237 : decode b_M_rollback 237 = .ok (.idiv, 1) := by decide +kernel
theorem d_M_rollback_238 : decode b_M_rollback 238 = .ok (.iload 6, 2) := by decide +kernel
theorem d_M_rollback_240 : decode b_M_rollback 240 = .ok (.if_icmp .ge 9, 3) := by decide +kernel
theorem d_M_rollback_243 : decode b_M_rollback 243 = .ok (.iload_n 3, 1) := by decide +kernel
theorem d_M_rollback_244 : decode b_M_rollback 244 = .ok (.iconst 5, 1) := by decide +kernel
theorem d_M_rollback_245 : decode b_M_rollback 245 = .ok (.idiv, 1) := by decide +kernel
theorem d_M_rollback_246 : decode b_M_rollback 246 = .ok (.goto 5, 3) := by decide +kernel
theorem d_M_rollback_249 : decode b_M_rollback 249 = .ok (.iload 6, 2) := by decide +kernel
theorem d_M_rollback_251 : decode b_M_rollback 251 = .ok (.invokevirtual 63, 3) := by decide +kernel
theorem d_M_rollback_254 : decode b_M_rollback 254 = .ok (.iinc 5 1, 3) := by decide +kernel
theorem d_M_rollback_257 : decode b_M_rollback 257 = .ok (.goto (-106), 3) := by decide +kernel
theorem d_M_rollback_260 : decode b_M_rollback 260 = .ok (.iconst 0, 1) := by decide +kernel
theorem d_M_rollback_261 : decode b_M_rollback 261 = .ok (.ireturn, 1) := by decide +kernel
theorem d_M_recover_0 : decode b_M_recover 0 = .ok (.aload_n 0, 1) := by decide +kernel
theorem d_M_recover_1 : decode b_M_recover 1 = .ok (.aload_n 0, 1) := by decide +kernel
theorem d_M_recover_2 : decode b_M_recover 2 = .ok (.getfield 33, 3) := by decide +kernel
theorem d_M_recover_5 : decode b_M_recover 5 = .ok (.ifCond .eq 7, 3) := by decide +kernel
theorem d_M_recover_8 : decode b_M_recover 8 = .ok (.iconst 0, 1) := by decide +kernel
theorem d_M_recover_9 : decode b_M_recover 9 = .ok (.goto 4, 3) := by decide +kernel
theorem d_M_recover_12 : decode b_M_recover 12 = .ok (.iconst 1, 1) := by decide +kernel
theorem d_M_recover_13 : decode b_M_recover 13 = .ok (.putfield 27, 3) := by decide +kernel
theorem d_M_recover_16 : decode b_M_recover 16 = .ok (.aload_n 0, 1) := by decide +kernel
theorem d_M_recover_17 : decode b_M_recover 17 = .ok (.getfield 27, 3) := by decide +kernel
theorem d_M_recover_20 : decode b_M_recover 20 = .ok (.ifCond .le 5, 3) := by decide +kernel
theorem d_M_recover_23 : decode b_M_recover 23 = .ok (.iconst 0, 1) := by decide +kernel
theorem d_M_recover_24 : decode b_M_recover 24 = .ok (.ireturn, 1) := by decide +kernel
theorem d_M_recover_25 : decode b_M_recover 25 = .ok (.aload_n 0, 1) := by decide +kernel
theorem d_M_recover_26 : decode b_M_recover 26 = .ok (.iconst 0, 1) := by decide +kernel
theorem d_M_recover_27 : decode b_M_recover 27 = .ok (.putfield 33, 3) := by decide +kernel
theorem d_M_recover_30 : decode b_M_recover 30 = .ok (.aload_n 0, 1) := by decide +kernel
theorem d_M_recover_31 : decode b_M_recover 31 = .ok (.getfield 30, 3) := by decide +kernel
theorem d_M_recover_34 : decode b_M_recover 34 = .ok (.ifCond .ne 5, 3) := by decide +kernel
theorem d_M_recover_37 : decode b_M_recover 37 = .ok (.iconst 0, 1) := by decide +kernel
theorem d_M_recover_38 : decode b_M_recover 38 = .ok (.ireturn, 1) := by decide +kernel
theorem d_M_recover_39 : decode b_M_recover 39 = .ok (.aload_n 0, 1) := by decide +kernel
theorem d_M_recover_40 : decode b_M_recover 40 = .ok (.getfield 30, 3) := by decide +kernel
theorem d_M_recover_43 : decode b_M_recover 43 = .ok (.iconst 1, 1) := by decide +kernel
theorem d_M_recover_44 : decode b_M_recover 44 = .ok (.isub, 1) := by decide +kernel
theorem d_M_recover_45 : decode b_M_recover 45 = .ok (.istore_n 1, 1) := by decide +kernel
theorem d_M_recover_46 : decode b_M_recover 46 = .ok (.aload_n 0, 1) := by decide +kernel
theorem d_M_recover_47 : decode b_M_recover 47 = .ok (.iconst 0, 1) := by decide +kernel
theorem d_M_recover_48 : decode b_M_recover 48 = .ok (.putfield 30, 3) := by decide +kernel
theorem d_M_recover_51 : decode b_M_recover 51 = .ok (.aload_n 0, 1) := by decide +kernel
theorem d_M_recover_52 : decode b_M_recover 52 = .ok (.aload_n 0, 1) := by decide +kernel
theorem d_M_recover_53 : decode b_M_recover 53 = .ok (.getfield 37, 3) := by decide +kernel
theorem d_M_recover_56 : decode b_M_recover 56 = .ok (.aload_n 0, 1) := by decide +kernel
theorem d_M_recover_57 : decode b_M_recover 57 = .ok (.iload_n 1, 1) := by decide +kernel
theorem d_M_recover_58 : decode b_M_recover 58 = .ok (.aload_n 0, 1) := by decide +kernel
theorem d_M_recover_59 : decode b_M_recover 59 = .ok (.getfield 86, 3) := by decide +kernel
theorem d_M_recover_62 : decode b_M_recover 62 = .ok (.invokevirtual 80, 3) := by decide +kernel
theorem d_M_recover_65 : decode b_M_recover 65 = .ok (.iadd, 1) := by decide +kernel
theorem d_M_recover_66 : decode b_M_recover 66 = .ok (.iconst 1, 1) := by decide +kernel
theorem d_M_recover_67 : decode b_M_recover 67 = .ok (.iadd, 1) := by decide +kernel
theorem d_M_recover_68 : decode b_M_recover 68 = .ok (.putfield 37, 3) := by decide +kernel
theorem d_M_recover_71 : decode b_M_recover 71 = .ok (.aload_n 0, 1) := by decide +kernel
theorem d_M_recover_72 : decode b_M_recover 72 = .ok (.iload_n 1, 1) := by decide +kernel
theorem d_M_recover_73 : decode b_M_recover 73 = .ok (.aload_n 0, 1) := by decide +kernel
theorem d_M_recover_74 : decode b_M_recover 74 = .ok (.getfield 86, 3) := by decide +kernel
theorem d_M_recover_77 : decode b_M_recover 77 = .ok (.invokevirtual 83, 3) := by decide +kernel
theorem d_M_recover_80 : decode b_M_recover 80 = .ok (.ireturn, 1) := by decide +kernel
theorem d_M_fuse_0 : decode b_M_fuse 0 = .ok (.aload_n 0, 1) := by decide +kernel
theorem d_M_fuse_1 : decode b_M_fuse 1 = .ok (.iconst 0, 1) := by decide +kernel
theorem d_M_fuse_2 : decode b_M_fuse 2 = .ok (.putfield 27, 3) := by decide +kernel
theorem d_M_fuse_5 : decode b_M_fuse 5 = .ok (.iload_n 1, 1) := by decide +kernel
theorem d_M_fuse_6 : decode b_M_fuse 6 = .ok (.iconst (-1), 1) := by decide +kernel
theorem d_M_fuse_7 : decode b_M_fuse 7 = .ok (.if_icmp .lt 10, 3) := by decide +kernel
theorem d_M_fuse_10 : decode b_M_fuse 10 = .ok (.aload_n 0, 1) := by decide +kernel
theorem d_M_fuse_11 : decode b_M_fuse 11 = .ok (.getfield 33, 3) := by decide +kernel
theorem d_M_fuse_14 : decode b_M_fuse 14 = .ok (.ifCond .eq 5, 3) := by decide +kernel
theorem d_M_fuse_17 : decode b_M_fuse 17 = .ok (.iconst 0, 1) := by decide +kernel
theorem d_M_fuse_18 : decode b_M_fuse 18 = .ok (.ireturn, 1) := by decide +kernel
theorem d_M_fuse_19 : decode b_M_fuse 19 = .ok (.aload_n 0, 1) := by decide +kernel
theorem d_M_fuse_20 : decode b_M_fuse 20 = .ok (.iload_n 1, 1) := by decide +kernel
theorem d_M_fuse_21 : decode b_M_fuse 21 = .ok (.putfield 7, 3) := by decide +kernel
theorem d_M_fuse_24 : decode b_M_fuse 24 = .ok (.iconst 1, 1) := by decide +kernel
theorem d_M_fuse_25 : decode b_M_fuse 25 = .ok (.ireturn, 1) := by decide +kernel
theorem d_M_isDown_0 : decode b_M_isDown 0 = .ok (.aload_n 0, 1) := by decide +kernel
theorem d_M_isDown_1 : decode b_M_isDown 1 = .ok (.iconst 0, 1) := by decide +kernel
theorem d_M_isDown_2 : decode b_M_isDown 2 = .ok (.putfield 27, 3) := by decide +kernel
theorem d_M_isDown_5 : decode b_M_isDown 5 = .ok (.aload_n 0, 1) := by decide +kernel
theorem d_M_isDown_6 : decode b_M_isDown 6 = .ok (.getfield 33, 3) := by decide +kernel
theorem d_M_isDown_9 : decode b_M_isDown 9 = .ok (.ireturn, 1) := by decide +kernel
theorem d_M_writes_0 : decode b_M_writes 0 = .ok (.aload_n 0, 1) := by decide +kernel
theorem d_M_writes_1 : decode b_M_writes 1 = .ok (.iconst 0, 1) := by decide +kernel
theorem d_M_writes_2 : decode b_M_writes 2 = .ok (.putfield 27, 3) := by decide +kernel
theorem d_M_writes_5 : decode b_M_writes 5 = .ok (.aload_n 0, 1) := by decide +kernel
theorem d_M_writes_6 : decode b_M_writes 6 = .ok (.getfield 37, 3) := by decide +kernel
theorem d_M_writes_9 : decode b_M_writes 9 = .ok (.ireturn, 1) := by decide +kernel
theorem d_M_used_0 : decode b_M_used 0 = .ok (.aload_n 0, 1) := by decide +kernel
theorem d_M_used_1 : decode b_M_used 1 = .ok (.aload_n 0, 1) := by decide +kernel
theorem d_M_used_2 : decode b_M_used 2 = .ok (.getfield 33, 3) := by decide +kernel
theorem d_M_used_5 : decode b_M_used 5 = .ok (.ifCond .eq 7, 3) := by decide +kernel
theorem d_M_used_8 : decode b_M_used 8 = .ok (.iconst 1, 1) := by decide +kernel
theorem d_M_used_9 : decode b_M_used 9 = .ok (.goto 4, 3) := by decide +kernel
theorem d_M_used_12 : decode b_M_used 12 = .ok (.iconst 0, 1) := by decide +kernel
theorem d_M_used_13 : decode b_M_used 13 = .ok (.putfield 27, 3) := by decide +kernel
theorem d_M_used_16 : decode b_M_used 16 = .ok (.aload_n 0, 1) := by decide +kernel
theorem d_M_used_17 : decode b_M_used 17 = .ok (.getfield 27, 3) := by decide +kernel
theorem d_M_used_20 : decode b_M_used 20 = .ok (.ifCond .le 7, 3) := by decide +kernel
theorem d_M_used_23 : decode b_M_used 23 = .ok (.iconst 0, 1) := by decide +kernel
theorem d_M_used_24 : decode b_M_used 24 = .ok (.goto 7, 3) := by decide +kernel
theorem d_M_used_27 : decode b_M_used 27 = .ok (.aload_n 0, 1) := by decide +kernel
theorem d_M_used_28 : decode b_M_used 28 = .ok (.invokevirtual 56, 3) := by decide +kernel
theorem d_M_used_31 : decode b_M_used 31 = .ok (.ireturn, 1) := by decide +kernel
theorem d_M_copyOf_0 : decode b_M_copyOf 0 = .ok (.aload_n 0, 1) := by decide +kernel
theorem d_M_copyOf_1 : decode b_M_copyOf 1 = .ok (.aload_n 0, 1) := by decide +kernel
theorem d_M_copyOf_2 : decode b_M_copyOf 2 = .ok (.getfield 33, 3) := by decide +kernel
theorem d_M_copyOf_5 : decode b_M_copyOf 5 = .ok (.ifCond .eq 7, 3) := by decide +kernel
theorem d_M_copyOf_8 : decode b_M_copyOf 8 = .ok (.iconst 3, 1) := by decide +kernel
theorem d_M_copyOf_9 : decode b_M_copyOf 9 = .ok (.goto 29, 3) := by decide +kernel
theorem d_M_copyOf_12 : decode b_M_copyOf 12 = .ok (.aload_n 0, 1) := by decide +kernel
theorem d_M_copyOf_13 : decode b_M_copyOf 13 = .ok (.iload_n 1, 1) := by decide +kernel
theorem d_M_copyOf_14 : decode b_M_copyOf 14 = .ok (.invokevirtual 70, 3) := by decide +kernel
theorem d_M_copyOf_17 : decode b_M_copyOf 17 = .ok (.ifCond .ne 7, 3) := by decide +kernel
theorem d_M_copyOf_20 : decode b_M_copyOf 20 = .ok (.iconst 1, 1) := by decide +kernel
theorem d_M_copyOf_21 : decode b_M_copyOf 21 = .ok (.goto 17, 3) := by decide +kernel
theorem d_M_copyOf_24 : decode b_M_copyOf 24 = .ok (.iload_n 2, 1) := by decide +kernel
theorem d_M_copyOf_25 : decode b_M_copyOf 25 = .ok (.iconst 0, 1) := by decide +kernel
theorem d_M_copyOf_26 : decode b_M_copyOf 26 = .ok (.iconst 5, 1) := by decide +kernel
theorem d_M_copyOf_27 : decode b_M_copyOf 27 = .ok (.invokestatic 40, 3) := by decide +kernel
theorem d_M_copyOf_30 : decode b_M_copyOf 30 = .ok (.ifCond .eq 7, 3) := by decide +kernel
theorem d_M_copyOf_33 : decode b_M_copyOf 33 = .ok (.iconst 0, 1) := by decide +kernel
theorem d_M_copyOf_34 : decode b_M_copyOf 34 = .ok (.goto 4, 3) := by decide +kernel
theorem d_M_copyOf_37 : decode b_M_copyOf 37 = .ok (.iconst 2, 1) := by decide +kernel
theorem d_M_copyOf_38 : decode b_M_copyOf 38 = .ok (.putfield 27, 3) := by decide +kernel
theorem d_M_copyOf_41 : decode b_M_copyOf 41 = .ok (.aload_n 0, 1) := by decide +kernel
theorem d_M_copyOf_42 : decode b_M_copyOf 42 = .ok (.getfield 27, 3) := by decide +kernel
theorem d_M_copyOf_45 : decode b_M_copyOf 45 = .ok (.ifCond .le 7, 3) := by decide +kernel
theorem d_M_copyOf_48 : decode b_M_copyOf 48 = .ok (.iconst 0, 1) := by decide +kernel
theorem d_M_copyOf_49 : decode b_M_copyOf 49 = .ok (.goto 16, 3) := by decide +kernel
theorem d_M_copyOf_52 : decode b_M_copyOf 52 = .ok (.aload_n 0, 1) := by decide +kernel
theorem d_M_copyOf_53 : decode b_M_copyOf 53 = .ok (.getfield 24, 3) := by decide +kernel
theorem d_M_copyOf_56 : decode b_M_copyOf 56 = .ok (.bipush 6, 2) := by decide +kernel
theorem d_M_copyOf_58 : decode b_M_copyOf 58 = .ok (.iload_n 1, 1) := by decide +kernel
theorem d_M_copyOf_59 : decode b_M_copyOf 59 = .ok (.imul, 1) := by decide +kernel
theorem d_M_copyOf_60 : decode b_M_copyOf 60 = .ok (.iload_n 2, 1) := by decide +kernel
theorem d_M_copyOf_61 : decode b_M_copyOf 61 = .ok (.iadd, 1) := by decide +kernel
theorem d_M_copyOf_62 : decode b_M_copyOf 62 = .ok (.iaload, 1) := by decide +kernel
theorem d_M_copyOf_63 : decode b_M_copyOf 63 = .ok (.iconst 1, 1) := by decide +kernel
theorem d_M_copyOf_64 : decode b_M_copyOf 64 = .ok (.isub, 1) := by decide +kernel
theorem d_M_copyOf_65 : decode b_M_copyOf 65 = .ok (.ireturn, 1) := by decide +kernel
theorem d_M_places_0 : decode b_M_places 0 = .ok (.aload_n 0, 1) := by decide +kernel
theorem d_M_places_1 : decode b_M_places 1 = .ok (.aload_n 0, 1) := by decide +kernel
theorem d_M_places_2 : decode b_M_places 2 = .ok (.getfield 33, 3) := by decide +kernel
theorem d_M_places_5 : decode b_M_places 5 = .ok (.ifCond .eq 7, 3) := by decide +kernel
theorem d_M_places_8 : decode b_M_places 8 = .ok (.iconst 1, 1) := by decide +kernel
theorem d_M_places_9 : decode b_M_places 9 = .ok (.goto 4, 3) := by decide +kernel
theorem d_M_places_12 : decode b_M_places 12 = .ok (.iconst 0, 1) := by decide +kernel
theorem d_M_places_13 : decode b_M_places 13 = .ok (.putfield 27, 3) := by decide +kernel
theorem d_M_places_16 : decode b_M_places 16 = .ok (.aload_n 0, 1) := by decide +kernel
theorem d_M_places_17 : decode b_M_places 17 = .ok (.getfield 20, 3) := by decide +kernel
theorem d_M_places_20 : decode b_M_places 20 = .ok (.iconst 0, 1) := by decide +kernel
theorem d_M_places_21 : decode b_M_places 21 = .ok (.baload, 1) := by decide +kernel
theorem d_M_places_22 : decode b_M_places 22 = .ok (.ifCond .eq 7, 3) := by decide +kernel
theorem d_M_places_25 : decode b_M_places 25 = .ok (.iconst 1, 1) := by decide +kernel
theorem d_M_places_26 : decode b_M_places 26 = .ok (.goto 4, 3) := by decide +kernel
theorem d_M_places_29 : decode b_M_places 29 = .ok (.iconst 0, 1) := by decide +kernel
theorem d_M_places_30 : decode b_M_places 30 = .ok (.aload_n 0, 1) := by decide +kernel
theorem d_M_places_31 : decode b_M_places 31 = .ok (.getfield 20, 3) := by decide +kernel
theorem d_M_places_34 : decode b_M_places 34 = .ok (.iconst 1, 1) := by decide +kernel
theorem d_M_places_35 : decode b_M_places 35 = .ok (.baload, 1) := by decide +kernel
theorem d_M_places_36 : decode b_M_places 36 = .ok (.ifCond .eq 7, 3) := by decide +kernel
theorem d_M_places_39 : decode b_M_places 39 = .ok (.iconst 2, 1) := by decide +kernel
theorem d_M_places_40 : decode b_M_places 40 = .ok (.goto 4, 3) := by decide +kernel
theorem d_M_places_43 : decode b_M_places 43 = .ok (.iconst 0, 1) := by decide +kernel
theorem d_M_places_44 : decode b_M_places 44 = .ok (.iadd, 1) := by decide +kernel
theorem d_M_places_45 : decode b_M_places 45 = .ok (.aload_n 0, 1) := by decide +kernel
theorem d_M_places_46 : decode b_M_places 46 = .ok (.getfield 20, 3) := by decide +kernel
theorem d_M_places_49 : decode b_M_places 49 = .ok (.iconst 2, 1) := by decide +kernel
theorem d_M_places_50 : decode b_M_places 50 = .ok (.baload, 1) := by decide +kernel
theorem d_M_places_51 : decode b_M_places 51 = .ok (.ifCond .eq 7, 3) := by decide +kernel
theorem d_M_places_54 : decode b_M_places 54 = .ok (.iconst 4, 1) := by decide +kernel
theorem d_M_places_55 : decode b_M_places 55 = .ok (.goto 4, 3) := by decide +kernel
theorem d_M_places_58 : decode b_M_places 58 = .ok (.iconst 0, 1) := by decide +kernel
theorem d_M_places_59 : decode b_M_places 59 = .ok (.iadd, 1) := by decide +kernel
theorem d_M_places_60 : decode b_M_places 60 = .ok (.istore_n 1, 1) := by decide +kernel
theorem d_M_places_61 : decode b_M_places 61 = .ok (.aload_n 0, 1) := by decide +kernel
theorem d_M_places_62 : decode b_M_places 62 = .ok (.getfield 27, 3) := by decide +kernel
theorem d_M_places_65 : decode b_M_places 65 = .ok (.ifCond .le 7, 3) := by decide +kernel
theorem d_M_places_68 : decode b_M_places 68 = .ok (.iconst 0, 1) := by decide +kernel
theorem d_M_places_69 : decode b_M_places 69 = .ok (.goto 4, 3) := by decide +kernel
theorem d_M_places_72 : decode b_M_places 72 = .ok (.iload_n 1, 1) := by decide +kernel
theorem d_M_places_73 : decode b_M_places 73 = .ok (.ireturn, 1) := by decide +kernel
theorem d_M_changed_0 : decode b_M_changed 0 = .ok (.aload_n 0, 1) := by decide +kernel
theorem d_M_changed_1 : decode b_M_changed 1 = .ok (.aload_n 0, 1) := by decide +kernel
theorem d_M_changed_2 : decode b_M_changed 2 = .ok (.getfield 33, 3) := by decide +kernel
theorem d_M_changed_5 : decode b_M_changed 5 = .ok (.ifCond .eq 7, 3) := by decide +kernel
theorem d_M_changed_8 : decode b_M_changed 8 = .ok (.iconst 2, 1) := by decide +kernel
theorem d_M_changed_9 : decode b_M_changed 9 = .ok (.goto 16, 3) := by decide +kernel
theorem d_M_changed_12 : decode b_M_changed 12 = .ok (.aload_n 0, 1) := by decide +kernel
theorem d_M_changed_13 : decode b_M_changed 13 = .ok (.iload_n 1, 1) := by decide +kernel
theorem d_M_changed_14 : decode b_M_changed 14 = .ok (.invokevirtual 70, 3) := by decide +kernel
theorem d_M_changed_17 : decode b_M_changed 17 = .ok (.ifCond .eq 7, 3) := by decide +kernel
theorem d_M_changed_20 : decode b_M_changed 20 = .ok (.iconst 0, 1) := by decide +kernel
theorem d_M_changed_21 : decode b_M_changed 21 = .ok (.goto 4, 3) := by decide +kernel
theorem d_M_changed_24 : decode b_M_changed 24 = .ok (.iconst 1, 1) := by decide +kernel
theorem d_M_changed_25 : decode b_M_changed 25 = .ok (.putfield 27, 3) := by decide +kernel
theorem d_M_changed_28 : decode b_M_changed 28 = .ok (.iconst 0, 1) := by decide +kernel
theorem d_M_changed_29 : decode b_M_changed 29 = .ok (.istore_n 2, 1) := by decide +kernel
theorem d_M_changed_30 : decode b_M_changed 30 = .ok (.iconst 0, 1) := by decide +kernel
theorem d_M_changed_31 : decode b_M_changed 31 = .ok (.istore_n 3, 1) := by decide +kernel
theorem d_M_changed_32 : decode b_M_changed 32 = .ok (.iload_n 3, 1) := by decide +kernel
theorem d_M_changed_33 : decode b_M_changed 33 = .ok (.bipush 6, 2) := by decide +kernel
theorem d_M_changed_35 : decode b_M_changed 35 = .ok (.if_icmp .ge 89, 3) := by decide +kernel
theorem d_M_changed_38 : decode b_M_changed 38 = .ok (.aload_n 0, 1) := by decide +kernel
theorem d_M_changed_39 : decode b_M_changed 39 = .ok (.getfield 27, 3) := by decide +kernel
theorem d_M_changed_42 : decode b_M_changed 42 = .ok (.ifCond .ne 82, 3) := by decide +kernel
theorem d_M_changed_45 : decode b_M_changed 45 = .ok (.iconst 1, 1) := by decide +kernel
theorem d_M_changed_46 : decode b_M_changed 46 = .ok (.istore 4, 2) := by decide +kernel
theorem d_M_changed_48 : decode b_M_changed 48 = .ok (.iconst 0, 1) := by decide +kernel
theorem d_M_changed_49 : decode b_M_changed 49 = .ok (.istore 5, 2) := by decide +kernel
theorem d_M_changed_51 : decode b_M_changed 51 = .ok (.iload 5, 2) := by decide +kernel
theorem d_M_changed_53 : decode b_M_changed 53 = .ok (.iconst 4, 1) := by decide +kernel
theorem d_M_changed_54 : decode b_M_changed 54 = .ok (.if_icmp .ge 51, 3) := by decide +kernel
theorem d_M_changed_57 : decode b_M_changed 57 = .ok (.iload 4, 2) := by decide +kernel
theorem d_M_changed_59 : decode b_M_changed 59 = .ok (.ifCond .eq 37, 3) := by decide +kernel
theorem d_M_changed_62 : decode b_M_changed 62 = .ok (.aload_n 0, 1) := by decide +kernel
theorem d_M_changed_63 : decode b_M_changed 63 = .ok (.getfield 17, 3) := by decide +kernel
theorem d_M_changed_66 : decode b_M_changed 66 = .ok (.bipush 24, 2) := by decide +kernel
theorem d_M_changed_68 : decode b_M_changed 68 = .ok (.iload_n 1, 1) := by decide +kernel
theorem d_M_changed_69 : decode b_M_changed 69 = .ok (.imul, 1) := by decide +kernel
theorem d_M_changed_70 : decode b_M_changed 70 = .ok (.iconst 4, 1) := by decide +kernel
theorem d_M_changed_71 : decode b_M_changed 71 = .ok (.iload_n 3, 1) := by decide +kernel
theorem d_M_changed_72 : decode b_M_changed 72 = .ok (.imul, 1) := by decide +kernel
theorem d_M_changed_73 : decode b_M_changed 73 = .ok (.iadd, 1) := by decide +kernel
theorem d_M_changed_74 : decode b_M_changed 74 = .ok (.iload 5, 2) := by decide +kernel
theorem d_M_changed_76 : decode b_M_changed 76 = .ok (.iadd, 1) := by decide +kernel
theorem d_M_changed_77 : decode b_M_changed 77 = .ok (.iaload, 1) := by decide +kernel
theorem d_M_changed_78 : decode b_M_changed 78 = .ok (.aload_n 0, 1) := by decide +kernel
theorem d_M_changed_79 : decode b_M_changed 79 = .ok (.getfield 13, 3) := by decide +kernel
theorem d_M_changed_82 : decode b_M_changed 82 = .ok (.iconst 4, 1) := by decide +kernel
theorem d_M_changed_83 : decode b_M_changed 83 = .ok (.iload_n 3, 1) := by decide +kernel
theorem d_M_changed_84 : decode b_M_changed 84 = .ok (.imul, 1) := by decide +kernel
theorem d_M_changed_85 : decode b_M_changed 85 = .ok (.iload 5, 2) := by decide +kernel
theorem d_M_changed_87 : decode b_M_changed 87 = .ok (.iadd, 1) := by decide +kernel
theorem d_M_changed_88 : decode b_M_changed 88 = .ok (.iaload, 1) := by decide +kernel
theorem d_M_changed_89 : decode b_M_changed 89 = .ok (.if_icmp .ne 7, 3) := by decide +kernel
theorem d_M_changed_92 : decode b_M_changed 92 = .ok (.iconst 1, 1) := by decide +kernel
theorem d_M_changed_93 : decode b_M_changed 93 = .ok (.goto 4, 3) := by decide +kernel
theorem d_M_changed_96 : decode b_M_changed 96 = .ok (.iconst 0, 1) := by decide +kernel
theorem d_M_changed_97 : decode b_M_changed 97 = .ok (.istore 4, 2) := by decide +kernel
theorem d_M_changed_99 : decode b_M_changed 99 = .ok (.iinc 5 1, 3) := by decide +kernel
theorem d_M_changed_102 : decode b_M_changed 102 = .ok (.goto (-51), 3) := by decide +kernel
theorem d_M_changed_105 : decode b_M_changed 105 = .ok (.iload 4, 2) := by decide +kernel
theorem d_M_changed_107 : decode b_M_changed 107 = .ok (.ifCond .eq 7, 3) := by decide +kernel
theorem d_M_changed_110 : decode b_M_changed 110 = .ok (.iload_n 2, 1) := by decide +kernel
theorem d_M_changed_111 : decode b_M_changed 111 = .ok (.goto 6, 3) := by decide +kernel
theorem d_M_changed_114 : decode b_M_changed 114 = .ok (.iload_n 2, 1) := by decide +kernel
theorem d_M_changed_115 : decode b_M_changed 115 = .ok (.iconst 1, 1) := by decide +kernel
theorem d_M_changed_116 : decode b_M_changed 116 = .ok (.iadd, 1) := by decide +kernel
theorem d_M_changed_117 : decode b_M_changed 117 = .ok (.istore_n 2, 1) := by decide +kernel
theorem d_M_changed_118 : decode b_M_changed 118 = .ok (.iinc 3 1, 3) := by decide +kernel
theorem d_M_changed_121 : decode b_M_changed 121 = .ok (.goto (-89), 3) := by decide +kernel
theorem d_M_changed_124 : decode b_M_changed 124 = .ok (.iload_n 2, 1) := by decide +kernel
theorem d_M_changed_125 : decode b_M_changed 125 = .ok (.ireturn, 1) := by decide +kernel
