theorem d_L_write_0 : decode b_L_write 0 = .ok (.aload 4, 2) := by decide +kernel
theorem d_L_write_2 : decode b_L_write 2 = .ok (.iconst 0, 1) := by decide +kernel
theorem d_L_write_3 : decode b_L_write 3 = .ok (.aload_n 0, 1) := by decide +kernel
theorem d_L_write_4 : decode b_L_write 4 = .ok (.iload_n 1, 1) := by decide +kernel
theorem d_L_write_5 : decode b_L_write 5 = .ok (.iload_n 2, 1) := by decide +kernel
theorem d_L_write_6 : decode b_L_write 6 = .ok (.iload_n 3, 1) := by decide +kernel
theorem d_L_write_7 : decode b_L_write 7 = .ok (.invokevirtual 7, 3) := by decide +kernel
theorem d_L_write_10 : decode b_L_write 10 = .ok (.i2l, 1) := by decide +kernel
theorem d_L_write_11 : decode b_L_write 11 = .ok (.lastore, 1) := by decide +kernel
theorem d_L_write_12 : decode b_L_write 12 = .ok (.goto 15, 3) := by decide +kernel
theorem d_L_write_15 : decode b_L_write 15 = .ok (.astore 5, 2) := by decide +kernel
theorem d_L_write_17 : decode b_L_write 17 = .ok (.iconst 1, 1) := by decide +kernel
theorem d_L_write_18 : decode b_L_write 18 = .ok (.ireturn, 1) := by decide +kernel
theorem d_L_write_19 : decode b_L_write 19 = .ok (.astore 5, 2) := by decide +kernel
theorem d_L_write_21 : decode b_L_write 21 = .ok (.iconst 2, 1) := by decide +kernel
theorem d_L_write_22 : decode b_L_write 22 = .ok (.ireturn, 1) := by decide +kernel
theorem d_L_write_23 : decode b_L_write 23 = .ok (.astore 5, 2) := by decide +kernel
theorem d_L_write_25 : decode b_L_write 25 = .ok (.iconst 3, 1) := by decide +kernel
theorem d_L_write_26 : decode b_L_write 26 = .ok (.ireturn, 1) := by decide +kernel
theorem d_L_write_27 : decode b_L_write 27 = .ok (.iconst 0, 1) := by decide +kernel
theorem d_L_write_28 : decode b_L_write 28 = .ok (.ireturn, 1) := by decide +kernel
theorem d_L_read_0 : decode b_L_read 0 = .ok (.aload_n 3, 1) := by decide +kernel
theorem d_L_read_1 : decode b_L_read 1 = .ok (.iconst 0, 1) := by decide +kernel
theorem d_L_read_2 : decode b_L_read 2 = .ok (.aload_n 0, 1) := by decide +kernel
theorem d_L_read_3 : decode b_L_read 3 = .ok (.iload_n 1, 1) := by decide +kernel
theorem d_L_read_4 : decode b_L_read 4 = .ok (.iload_n 2, 1) := by decide +kernel
theorem d_L_read_5 : decode b_L_read 5 = .ok (.invokevirtual 19, 3) := by decide +kernel
theorem d_L_read_8 : decode b_L_read 8 = .ok (.i2l, 1) := by decide +kernel
theorem d_L_read_9 : decode b_L_read 9 = .ok (.lastore, 1) := by decide +kernel
theorem d_L_read_10 : decode b_L_read 10 = .ok (.goto 11, 3) := by decide +kernel
theorem d_L_read_13 : decode b_L_read 13 = .ok (.astore 4, 2) := by decide +kernel
theorem d_L_read_15 : decode b_L_read 15 = .ok (.iconst 1, 1) := by decide +kernel
theorem d_L_read_16 : decode b_L_read 16 = .ok (.ireturn, 1) := by decide +kernel
theorem d_L_read_17 : decode b_L_read 17 = .ok (.astore 4, 2) := by decide +kernel
theorem d_L_read_19 : decode b_L_read 19 = .ok (.iconst 2, 1) := by decide +kernel
theorem d_L_read_20 : decode b_L_read 20 = .ok (.ireturn, 1) := by decide +kernel
theorem d_L_read_21 : decode b_L_read 21 = .ok (.iconst 0, 1) := by decide +kernel
theorem d_L_read_22 : decode b_L_read 22 = .ok (.ireturn, 1) := by decide +kernel
theorem d_L_snapshot_0 : decode b_L_snapshot 0 = .ok (.aload_n 1, 1) := by decide +kernel
theorem d_L_snapshot_1 : decode b_L_snapshot 1 = .ok (.iconst 0, 1) := by decide +kernel
theorem d_L_snapshot_2 : decode b_L_snapshot 2 = .ok (.aload_n 0, 1) := by decide +kernel
theorem d_L_snapshot_3 : decode b_L_snapshot 3 = .ok (.invokevirtual 23, 3) := by decide +kernel
theorem d_L_snapshot_6 : decode b_L_snapshot 6 = .ok (.i2l, 1) := by decide +kernel
theorem d_L_snapshot_7 : decode b_L_snapshot 7 = .ok (.lastore, 1) := by decide +kernel
theorem d_L_snapshot_8 : decode b_L_snapshot 8 = .ok (.goto 9, 3) := by decide +kernel
theorem d_L_snapshot_11 : decode b_L_snapshot 11 = .ok (.astore_n 2, 1) := by decide +kernel
theorem d_L_snapshot_12 : decode b_L_snapshot 12 = .ok (.iconst 1, 1) := by decide +kernel
theorem d_L_snapshot_13 : decode b_L_snapshot 13 = .ok (.ireturn, 1) := by decide +kernel
theorem d_L_snapshot_14 : decode b_L_snapshot 14 = .ok (.astore_n 2, 1) := by decide +kernel
theorem d_L_snapshot_15 : decode b_L_snapshot 15 = .ok (.iconst 2, 1) := by decide +kernel
theorem d_L_snapshot_16 : decode b_L_snapshot 16 = .ok (.ireturn, 1) := by decide +kernel
theorem d_L_snapshot_17 : decode b_L_snapshot 17 = .ok (.iconst 0, 1) := by decide +kernel
theorem d_L_snapshot_18 : decode b_L_snapshot 18 = .ok (.ireturn, 1) := by decide +kernel
theorem d_L_drop_0 : decode b_L_drop 0 = .ok (.aload_n 0, 1) := by decide +kernel
theorem d_L_drop_1 : decode b_L_drop 1 = .ok (.iload_n 1, 1) := by decide +kernel
theorem d_L_drop_2 : decode b_L_drop 2 = .ok (.invokevirtual 27, 3) := by decide +kernel
theorem d_L_drop_5 : decode b_L_drop 5 = .ok (.goto 9, 3) := by decide +kernel
theorem d_L_drop_8 : decode b_L_drop 8 = .ok (.astore_n 2, 1) := by decide +kernel
theorem d_L_drop_9 : decode b_L_drop 9 = .ok (.iconst 1, 1) := by decide +kernel
theorem d_L_drop_10 : decode b_L_drop 10 = .ok (.ireturn, 1) := by decide +kernel
theorem d_L_drop_11 : decode b_L_drop 11 = .ok (.astore_n 2, 1) := by decide +kernel
theorem d_L_drop_12 : decode b_L_drop 12 = .ok (.iconst 2, 1) := by decide +kernel
theorem d_L_drop_13 : decode b_L_drop 13 = .ok (.ireturn, 1) := by decide +kernel
theorem d_L_drop_14 : decode b_L_drop 14 = .ok (.iconst 0, 1) := by decide +kernel
theorem d_L_drop_15 : decode b_L_drop 15 = .ok (.ireturn, 1) := by decide +kernel
theorem d_L_readSnapshot_0 : decode b_L_readSnapshot 0 = .ok (.aload 4, 2) := by decide +kernel
theorem d_L_readSnapshot_2 : decode b_L_readSnapshot 2 = .ok (.iconst 0, 1) := by decide +kernel
theorem d_L_readSnapshot_3 : decode b_L_readSnapshot 3 = .ok (.aload_n 0, 1) := by decide +kernel
theorem d_L_readSnapshot_4 : decode b_L_readSnapshot 4 = .ok (.iload_n 1, 1) := by decide +kernel
theorem d_L_readSnapshot_5 : decode b_L_readSnapshot 5 = .ok (.iload_n 2, 1) := by decide +kernel
theorem d_L_readSnapshot_6 : decode b_L_readSnapshot 6 = .ok (.iload_n 3, 1) := by decide +kernel
theorem d_L_readSnapshot_7 : decode b_L_readSnapshot 7 = .ok (.invokevirtual 33, 3) := by decide +kernel
theorem d_L_readSnapshot_10 : decode b_L_readSnapshot 10 = .ok (.i2l, 1) := by decide +kernel
theorem d_L_readSnapshot_11 : decode b_L_readSnapshot 11 = .ok (.lastore, 1) := by decide +kernel
theorem d_L_readSnapshot_12 : decode b_L_readSnapshot 12 = .ok (.goto 15, 3) := by decide +kernel
theorem d_L_readSnapshot_15 : decode b_L_readSnapshot 15 = .ok (.astore 5, 2) := by decide +kernel
theorem d_L_readSnapshot_17 : decode b_L_readSnapshot 17 = .ok (.iconst 1, 1) := by decide +kernel
theorem d_L_readSnapshot_18 : decode b_L_readSnapshot 18 = .ok (.ireturn, 1) := by decide +kernel
theorem d_L_readSnapshot_19 : decode b_L_readSnapshot 19 = .ok (.astore 5, 2) := by decide +kernel
theorem d_L_readSnapshot_21 : decode b_L_readSnapshot 21 = .ok (.iconst 2, 1) := by decide +kernel
theorem d_L_readSnapshot_22 : decode b_L_readSnapshot 22 = .ok (.ireturn, 1) := by decide +kernel
theorem d_L_readSnapshot_23 : decode b_L_readSnapshot 23 = .ok (.astore 5, 2) := by decide +kernel
theorem d_L_readSnapshot_25 : decode b_L_readSnapshot 25 = .ok (.iconst 3, 1) := by decide +kernel
theorem d_L_readSnapshot_26 : decode b_L_readSnapshot 26 = .ok (.ireturn, 1) := by decide +kernel
theorem d_L_readSnapshot_27 : decode b_L_readSnapshot 27 = .ok (.iconst 0, 1) := by decide +kernel
theorem d_L_readSnapshot_28 : decode b_L_readSnapshot 28 = .ok (.ireturn, 1) := by decide +kernel
theorem d_L_writeSnapshot_0 : decode b_L_writeSnapshot 0 = .ok (.aload 5, 2) := by decide +kernel
theorem d_L_writeSnapshot_2 : decode b_L_writeSnapshot 2 = .ok (.iconst 0, 1) := by decide +kernel
theorem d_L_writeSnapshot_3 : decode b_L_writeSnapshot 3 = .ok (.aload_n 0, 1) := by decide +kernel
theorem d_L_writeSnapshot_4 : decode b_L_writeSnapshot 4 = .ok (.iload_n 1, 1) := by decide +kernel
theorem d_L_writeSnapshot_5 : decode b_L_writeSnapshot 5 = .ok (.iload_n 2, 1) := by decide +kernel
theorem d_L_writeSnapshot_6 : decode b_L_writeSnapshot 6 = .ok (.iload_n 3, 1) := by decide +kernel
theorem d_L_writeSnapshot_7 : decode b_L_writeSnapshot 7 = .ok (.iload 4, 2) := by decide +kernel
theorem d_L_writeSnapshot_9 : decode b_L_writeSnapshot 9 = .ok (.invokevirtual 36, 3) := by decide +kernel
theorem d_L_writeSnapshot_12 : decode b_L_writeSnapshot 12 = .ok (.ifCond .eq 7, 3) := by decide +kernel
theorem d_L_writeSnapshot_15 : decode b_L_writeSnapshot 15 = .ok (.lconst 1, 1) := by decide +kernel
theorem d_L_writeSnapshot_16 : decode b_L_writeSnapshot 16 = .ok (.goto 4, 3) := by decide +kernel
theorem d_L_writeSnapshot_19 : decode b_L_writeSnapshot 19 = .ok (.lconst 0, 1) := by decide +kernel
theorem d_L_writeSnapshot_20 : decode b_L_writeSnapshot 20 = .ok (.lastore, 1) := by decide +kernel
theorem d_L_writeSnapshot_21 : decode b_L_writeSnapshot 21 = .ok (.goto 19, 3) := by decide +kernel
theorem d_L_writeSnapshot_24 : decode b_L_writeSnapshot 24 = .ok (.astore 6, 2) := by decide +kernel
theorem d_L_writeSnapshot_26 : decode b_L_writeSnapshot 26 = .ok (.iconst 1, 1) := by decide +kernel
theorem d_L_writeSnapshot_27 : decode b_L_writeSnapshot 27 = .ok (.ireturn, 1) := by decide +kernel
theorem d_L_writeSnapshot_28 : decode b_L_writeSnapshot 28 = .ok (.astore 6, 2) := by decide +kernel
theorem d_L_writeSnapshot_30 : decode b_L_writeSnapshot 30 = .ok (.iconst 2, 1) := by decide +kernel
theorem d_L_writeSnapshot_31 : decode b_L_writeSnapshot 31 = .ok (.ireturn, 1) := by decide +kernel
theorem d_L_writeSnapshot_32 : decode b_L_writeSnapshot 32 = .ok (.astore 6, 2) := by decide +kernel
theorem d_L_writeSnapshot_34 : decode b_L_writeSnapshot 34 = .ok (.iconst 3, 1) := by decide +kernel
theorem d_L_writeSnapshot_35 : decode b_L_writeSnapshot 35 = .ok (.ireturn, 1) := by decide +kernel
theorem d_L_writeSnapshot_36 : decode b_L_writeSnapshot 36 = .ok (.astore 6, 2) := by decide +kernel
theorem d_L_writeSnapshot_38 : decode b_L_writeSnapshot 38 = .ok (.iconst 4, 1) := by decide +kernel
theorem d_L_writeSnapshot_39 : decode b_L_writeSnapshot 39 = .ok (.ireturn, 1) := by decide +kernel
theorem d_L_writeSnapshot_40 : decode b_L_writeSnapshot 40 = .ok (.iconst 0, 1) := by decide +kernel
theorem d_L_writeSnapshot_41 : decode b_L_writeSnapshot 41 = .ok (.ireturn, 1) := by decide +kernel
theorem d_L_rollback_0 : decode b_L_rollback 0 = .ok (.aload_n 2, 1) := by decide +kernel
theorem d_L_rollback_1 : decode b_L_rollback 1 = .ok (.iconst 0, 1) := by decide +kernel
theorem d_L_rollback_2 : decode b_L_rollback 2 = .ok (.aload_n 0, 1) := by decide +kernel
theorem d_L_rollback_3 : decode b_L_rollback 3 = .ok (.iload_n 1, 1) := by decide +kernel
theorem d_L_rollback_4 : decode b_L_rollback 4 = .ok (.invokevirtual 40, 3) := by decide +kernel
theorem d_L_rollback_7 : decode b_L_rollback 7 = .ok (.i2l, 1) := by decide +kernel
theorem d_L_rollback_8 : decode b_L_rollback 8 = .ok (.lastore, 1) := by decide +kernel
theorem d_L_rollback_9 : decode b_L_rollback 9 = .ok (.goto 12, 3) := by decide +kernel
theorem d_L_rollback_12 : decode b_L_rollback 12 = .ok (.astore_n 3, 1) := by decide +kernel
theorem d_L_rollback_13 : decode b_L_rollback 13 = .ok (.iconst 1, 1) := by decide +kernel
theorem d_L_rollback_14 : decode b_L_rollback 14 = .ok (.ireturn, 1) := by decide +kernel
theorem d_L_rollback_15 : decode b_L_rollback 15 = .ok (.astore_n 3, 1) := by decide +kernel
theorem d_L_rollback_16 : decode b_L_rollback 16 = .ok (.iconst 2, 1) := by decide +kernel
theorem d_L_rollback_17 : decode b_L_rollback 17 = .ok (.ireturn, 1) := by decide +kernel
theorem d_L_rollback_18 : decode b_L_rollback 18 = .ok (.astore_n 3, 1) := by decide +kernel
theorem d_L_rollback_19 : decode b_L_rollback 19 = .ok (.iconst 3, 1) := by decide +kernel
theorem d_L_rollback_20 : decode b_L_rollback 20 = .ok (.ireturn, 1) := by decide +kernel
theorem d_L_rollback_21 : decode b_L_rollback 21 = .ok (.iconst 0, 1) := by decide +kernel
theorem d_L_rollback_22 : decode b_L_rollback 22 = .ok (.ireturn, 1) := by decide +kernel
theorem d_L_recover_0 : decode b_L_recover 0 = .ok (.aload_n 1, 1) := by decide +kernel
theorem d_L_recover_1 : decode b_L_recover 1 = .ok (.iconst 0, 1) := by decide +kernel
theorem d_L_recover_2 : decode b_L_recover 2 = .ok (.aload_n 0, 1) := by decide +kernel
theorem d_L_recover_3 : decode b_L_recover 3 = .ok (.invokevirtual 44, 3) := by decide +kernel
theorem d_L_recover_6 : decode b_L_recover 6 = .ok (.i2l, 1) := by decide +kernel
theorem d_L_recover_7 : decode b_L_recover 7 = .ok (.lastore, 1) := by decide +kernel
theorem d_L_recover_8 : decode b_L_recover 8 = .ok (.goto 6, 3) := by decide +kernel
theorem d_L_recover_11 : decode b_L_recover 11 = .ok (.astore_n 2, 1) := by decide +kernel
theorem d_L_recover_12 : decode b_L_recover 12 = .ok (.iconst 1, 1) := by decide +kernel
theorem d_L_recover_13 : decode b_L_recover 13 = .ok (.ireturn, 1) := by decide +kernel
theorem d_L_recover_14 : decode b_L_recover 14 = .ok (.iconst 0, 1) := by decide +kernel
theorem d_L_recover_15 : decode b_L_recover 15 = .ok (.ireturn, 1) := by decide +kernel
theorem d_L_used_0 : decode b_L_used 0 = .ok (.aload_n 1, 1) := by decide +kernel
theorem d_L_used_1 : decode b_L_used 1 = .ok (.iconst 0, 1) := by decide +kernel
theorem d_L_used_2 : decode b_L_used 2 = .ok (.aload_n 0, 1) := by decide +kernel
theorem d_L_used_3 : decode b_L_used 3 = .ok (.invokevirtual 47, 3) := by decide +kernel
theorem d_L_used_6 : decode b_L_used 6 = .ok (.i2l, 1) := by decide +kernel
theorem d_L_used_7 : decode b_L_used 7 = .ok (.lastore, 1) := by decide +kernel
theorem d_L_used_8 : decode b_L_used 8 = .ok (.goto 6, 3) := by decide +kernel
theorem d_L_used_11 : decode b_L_used 11 = .ok (.astore_n 2, 1) := by decide +kernel
theorem d_L_used_12 : decode b_L_used 12 = .ok (.iconst 1, 1) := by decide +kernel
theorem d_L_used_13 : decode b_L_used 13 = .ok (.ireturn, 1) := by decide +kernel
theorem d_L_used_14 : decode b_L_used 14 = .ok (.iconst 0, 1) := by decide +kernel
theorem d_L_used_15 : decode b_L_used 15 = .ok (.ireturn, 1) := by decide +kernel
theorem d_L_copyOf_0 : decode b_L_copyOf 0 = .ok (.aload_n 3, 1) := by decide +kernel
theorem d_L_copyOf_1 : decode b_L_copyOf 1 = .ok (.iconst 0, 1) := by decide +kernel
theorem d_L_copyOf_2 : decode b_L_copyOf 2 = .ok (.aload_n 0, 1) := by decide +kernel
theorem d_L_copyOf_3 : decode b_L_copyOf 3 = .ok (.iload_n 1, 1) := by decide +kernel
theorem d_L_copyOf_4 : decode b_L_copyOf 4 = .ok (.iload_n 2, 1) := by decide +kernel
theorem d_L_copyOf_5 : decode b_L_copyOf 5 = .ok (.invokevirtual 50, 3) := by decide +kernel
theorem d_L_copyOf_8 : decode b_L_copyOf 8 = .ok (.i2l, 1) := by decide +kernel
theorem d_L_copyOf_9 : decode b_L_copyOf 9 = .ok (.lastore, 1) := by decide +kernel
theorem d_L_copyOf_10 : decode b_L_copyOf 10 = .ok (.goto 15, 3) := by decide +kernel
theorem d_L_copyOf_13 : decode b_L_copyOf 13 = .ok (.astore 4, 2) := by decide +kernel
theorem d_L_copyOf_15 : decode b_L_copyOf 15 = .ok (.iconst 1, 1) := by decide +kernel
theorem d_L_copyOf_16 : decode b_L_copyOf 16 = .ok (.ireturn, 1) := by decide +kernel
theorem d_L_copyOf_17 : decode b_L_copyOf 17 = .ok (.astore 4, 2) := by decide +kernel
theorem d_L_copyOf_19 : decode b_L_copyOf 19 = .ok (.iconst 2, 1) := by decide +kernel
theorem d_L_copyOf_20 : decode b_L_copyOf 20 = .ok (.ireturn, 1) := by decide +kernel
theorem d_L_copyOf_21 : decode b_L_copyOf 21 = .ok (.astore 4, 2) := by decide +kernel
theorem d_L_copyOf_23 : decode b_L_copyOf 23 = .ok (.iconst 3, 1) := by decide +kernel
theorem d_L_copyOf_24 : decode b_L_copyOf 24 = .ok (.ireturn, 1) := by decide +kernel
theorem d_L_copyOf_25 : decode b_L_copyOf 25 = .ok (.iconst 0, 1) := by decide +kernel
theorem d_L_copyOf_26 : decode b_L_copyOf 26 = .ok (.ireturn, 1) := by decide +kernel
theorem d_L_places_0 : decode b_L_places 0 = .ok (.aload_n 1, 1) := by decide +kernel
theorem d_L_places_1 : decode b_L_places 1 = .ok (.iconst 0, 1) := by decide +kernel
theorem d_L_places_2 : decode b_L_places 2 = .ok (.aload_n 0, 1) := by decide +kernel
theorem d_L_places_3 : decode b_L_places 3 = .ok (.invokevirtual 53, 3) := by decide +kernel
theorem d_L_places_6 : decode b_L_places 6 = .ok (.i2l, 1) := by decide +kernel
theorem d_L_places_7 : decode b_L_places 7 = .ok (.lastore, 1) := by decide +kernel
theorem d_L_places_8 : decode b_L_places 8 = .ok (.goto 6, 3) := by decide +kernel
theorem d_L_places_11 : decode b_L_places 11 = .ok (.astore_n 2, 1) := by decide +kernel
theorem d_L_places_12 : decode b_L_places 12 = .ok (.iconst 1, 1) := by decide +kernel
theorem d_L_places_13 : decode b_L_places 13 = .ok (.ireturn, 1) := by decide +kernel
theorem d_L_places_14 : decode b_L_places 14 = .ok (.iconst 0, 1) := by decide +kernel
theorem d_L_places_15 : decode b_L_places 15 = .ok (.ireturn, 1) := by decide +kernel
theorem d_L_changed_0 : decode b_L_changed 0 = .ok (.aload_n 2, 1) := by decide +kernel
theorem d_L_changed_1 : decode b_L_changed 1 = .ok (.iconst 0, 1) := by decide +kernel
theorem d_L_changed_2 : decode b_L_changed 2 = .ok (.aload_n 0, 1) := by decide +kernel
theorem d_L_changed_3 : decode b_L_changed 3 = .ok (.iload_n 1, 1) := by decide +kernel
theorem d_L_changed_4 : decode b_L_changed 4 = .ok (.invokevirtual 56, 3) := by decide +kernel
theorem d_L_changed_7 : decode b_L_changed 7 = .ok (.i2l, 1) := by decide +kernel
theorem d_L_changed_8 : decode b_L_changed 8 = .ok (.lastore, 1) := by decide +kernel
theorem d_L_changed_9 : decode b_L_changed 9 = .ok (.goto 9, 3) := by decide +kernel
theorem d_L_changed_12 : decode b_L_changed 12 = .ok (.astore_n 3, 1) := by decide +kernel
theorem d_L_changed_13 : decode b_L_changed 13 = .ok (.iconst 1, 1) := by decide +kernel
theorem d_L_changed_14 : decode b_L_changed 14 = .ok (.ireturn, 1) := by decide +kernel
theorem d_L_changed_15 : decode b_L_changed 15 = .ok (.astore_n 3, 1) := by decide +kernel
theorem d_L_changed_16 : decode b_L_changed 16 = .ok (.iconst 2, 1) := by decide +kernel
theorem d_L_changed_17 : decode b_L_changed 17 = .ok (.ireturn, 1) := by decide +kernel
theorem d_L_changed_18 : decode b_L_changed 18 = .ok (.iconst 0, 1) := by decide +kernel
theorem d_L_changed_19 : decode b_L_changed 19 = .ok (.ireturn, 1) := by decide +kernel
theorem d_L_law_0 : decode b_L_law 0 = .ok (.new 8, 3) := by decide +kernel
theorem d_L_law_3 : decode b_L_law 3 = .ok (.dup, 1) := by decide +kernel
theorem d_L_law_4 : decode b_L_law 4 = .ok (.invokespecial 59, 3) := by decide +kernel
theorem d_L_law_7 : decode b_L_law 7 = .ok (.astore_n 1, 1) := by decide +kernel
theorem d_L_law_8 : decode b_L_law 8 = .ok (.new 60, 3) := by decide +kernel
theorem d_L_law_11 : decode b_L_law 11 = .ok (.dup, 1) := by decide +kernel
theorem d_L_law_12 : decode b_L_law 12 = .ok (.invokespecial 62, 3) := by decide +kernel
theorem d_L_law_15 : decode b_L_law 15 = .ok (.astore_n 2, 1) := by decide +kernel
theorem d_L_law_16 : decode b_L_law 16 = .ok (.iconst 1, 1) := by decide +kernel
theorem d_L_law_17 : decode b_L_law 17 = .ok (.newarray .long, 2) := by decide +kernel
theorem d_L_law_19 : decode b_L_law 19 = .ok (.astore_n 3, 1) := by decide +kernel
theorem d_L_law_20 : decode b_L_law 20 = .ok (.iconst 0, 1) := by decide +kernel
theorem d_L_law_21 : decode b_L_law 21 = .ok (.istore 4, 2) := by decide +kernel
theorem d_L_law_23 : decode b_L_law 23 = .ok (.iload 4, 2) := by decide +kernel
theorem d_L_law_25 : decode b_L_law 25 = .ok (.aload_n 0, 1) := by decide +kernel
theorem d_L_law_26 : decode b_L_law 26 = .ok (.arraylength, 1) := by decide +kernel
theorem d_L_law_27 : decode b_L_law 27 = .ok (.iconst 5, 1) := by decide +kernel
theorem d_L_law_28 : decode b_L_law 28 = .ok (.isub, 1) := by decide +kernel
theorem d_L_law_29 : decode b_L_law 29 = .ok (.if_icmp .gt 874, 3) := by decide +kernel
theorem d_L_law_32 : decode b_L_law 32 = .ok (.aload_n 0, 1) := by decide +kernel
theorem d_L_law_33 : decode b_L_law 33 = .ok (.iload 4, 2) := by decide +kernel
theorem d_L_law_35 : decode b_L_law 35 = .ok (.iaload, 1) := by decide +kernel
theorem d_L_law_36 : decode b_L_law 36 = .ok (.bipush 15, 2) := by decide +kernel
theorem d_L_law_38 : decode b_L_law 38 = .ok (.iand, 1) := by decide +kernel
theorem d_L_law_39 : decode b_L_law 39 = .ok (.tableswitch 858 0 15 #[77, 88, 168, 236, 280, 316, 396, 495, 551, 576, 620, 633, 646, 690, 758, 802], 77) := by decide +kernel
theorem d_L_law_116 : decode b_L_law 116 = .ok (.aload_n 1, 1) := by decide +kernel
theorem d_L_law_117 : decode b_L_law 117 = .ok (.invokevirtual 63, 3) := by decide +kernel
theorem d_L_law_120 : decode b_L_law 120 = .ok (.aload_n 2, 1) := by decide +kernel
theorem d_L_law_121 : decode b_L_law 121 = .ok (.invokevirtual 66, 3) := by decide +kernel
theorem d_L_law_124 : decode b_L_law 124 = .ok (.goto 773, 3) := by decide +kernel
theorem d_L_law_127 : decode b_L_law 127 = .ok (.aload_n 1, 1) := by decide +kernel
theorem d_L_law_128 : decode b_L_law 128 = .ok (.aload_n 0, 1) := by decide +kernel
theorem d_L_law_129 : decode b_L_law 129 = .ok (.iload 4, 2) := by decide +kernel
theorem d_L_law_131 : decode b_L_law 131 = .ok (.iconst 1, 1) := by decide +kernel
theorem d_L_law_132 : decode b_L_law 132 = .ok (.iadd, 1) := by decide +kernel
theorem d_L_law_133 : decode b_L_law 133 = .ok (.iaload, 1) := by decide +kernel
theorem d_L_law_134 : decode b_L_law 134 = .ok (.aload_n 0, 1) := by decide +kernel
theorem d_L_law_135 : decode b_L_law 135 = .ok (.iload 4, 2) := by decide +kernel
theorem d_L_law_137 : decode b_L_law 137 = .ok (.iconst 2, 1) := by decide +kernel
theorem d_L_law_138 : decode b_L_law 138 = .ok (.iadd, 1) := by decide +kernel
theorem d_L_law_139 : decode b_L_law 139 = .ok (.iaload, 1) := by decide +kernel
theorem d_L_law_140 : decode b_L_law 140 = .ok (.aload_n 0, 1) := by decide +kernel
theorem d_L_law_141 : decode b_L_law 141 = .ok (.iload 4, 2) := by decide +kernel
theorem d_L_law_143 : decode b_L_law 143 = .ok (.iconst 3, 1) := by decide +kernel
theorem d_L_law_144 : decode b_L_law 144 = .ok (.iadd, 1) := by decide +kernel
theorem d_L_law_145 : decode b_L_law 145 = .ok (.iaload, 1) := by decide +kernel
theorem d_L_law_146 : decode b_L_law 146 = .ok (.aload_n 3, 1) := by decide +kernel
theorem d_L_law_147 : decode b_L_law 147 = .ok (.invokestatic 67, 3) := by decide +kernel
theorem d_L_law_150 : decode b_L_law 150 = .ok (.istore 5, 2) := by decide +kernel
theorem d_L_law_152 : decode b_L_law 152 = .ok (.aload_n 2, 1) := by decide +kernel
theorem d_L_law_153 : decode b_L_law 153 = .ok (.aload_n 0, 1) := by decide +kernel
theorem d_L_law_154 : decode b_L_law 154 = .ok (.iload 4, 2) := by decide +kernel
theorem d_L_law_156 : decode b_L_law 156 = .ok (.iconst 1, 1) := by decide +kernel
theorem d_L_law_157 : decode b_L_law 157 = .ok (.iadd, 1) := by decide +kernel
theorem d_L_law_158 : decode b_L_law 158 = .ok (.iaload, 1) := by decide +kernel
theorem d_L_law_159 : decode b_L_law 159 = .ok (.aload_n 0, 1) := by decide +kernel
theorem d_L_law_160 : decode b_L_law 160 = .ok (.iload 4, 2) := by decide +kernel
theorem d_L_law_162 : decode b_L_law 162 = .ok (.iconst 2, 1) := by decide +kernel
theorem d_L_law_163 : decode b_L_law 163 = .ok (.iadd, 1) := by decide +kernel
theorem d_L_law_164 : decode b_L_law 164 = .ok (.iaload, 1) := by decide +kernel
theorem d_L_law_165 : decode b_L_law 165 = .ok (.aload_n 0, 1) := by decide +kernel
theorem d_L_law_166 : decode b_L_law 166 = .ok (.iload 4, 2) := by decide +kernel
theorem d_L_law_168 : decode b_L_law 168 = .ok (.iconst 3, 1) := by decide +kernel
theorem d_L_law_169 : decode b_L_law 169 = .ok (.iadd, 1) := by decide +kernel
theorem d_L_law_170 : decode b_L_law 170 = .ok (.iaload, 1) := by decide +kernel
theorem d_L_law_171 : decode b_L_law 171 = .ok (.invokevirtual 72, 3) := by decide +kernel
theorem d_L_law_174 : decode b_L_law 174 = .ok (.istore 6, 2) := by decide +kernel
theorem d_L_law_176 : decode b_L_law 176 = .ok (.aload_n 2, 1) := by decide +kernel
theorem d_L_law_177 : decode b_L_law 177 = .ok (.invokevirtual 73, 3) := by decide +kernel
theorem d_L_law_180 : decode b_L_law 180 = .ok (.iload 5, 2) := by decide +kernel
theorem d_L_law_182 : decode b_L_law 182 = .ok (.if_icmp .eq 5, 3) := by decide +kernel
theorem d_L_law_185 : decode b_L_law 185 = .ok (.iconst 0, 1) := by decide +kernel
theorem d_L_law_186 : decode b_L_law 186 = .ok (.ireturn, 1) := by decide +kernel
theorem d_L_law_187 : decode b_L_law 187 = .ok (.iload 5, 2) := by decide +kernel
theorem d_L_law_189 : decode b_L_law 189 = .ok (.ifCond .ne 15, 3) := by decide +kernel
theorem d_L_law_192 : decode b_L_law 192 = .ok (.aload_n 3, 1) := by decide +kernel
theorem d_L_law_193 : decode b_L_law 193 = .ok (.iconst 0, 1) := by decide +kernel
theorem d_L_law_194 : decode b_L_law 194 = .ok (.laload, 1) := by decide +kernel
theorem d_L_law_195 : decode b_L_law 195 = .ok (.iload 6, 2) := by decide +kernel
theorem d_L_law_197 : decode b_L_law 197 = .ok (.i2l, 1) := by decide +kernel
theorem d_L_law_198 : decode b_L_law 198 = .ok (.lcmp, 1) := by decide +kernel
theorem d_L_law_199 : decode b_L_law 199 = .ok (.ifCond .eq 5, 3) := by decide +kernel
theorem d_L_law_202 : decode b_L_law 202 = .ok (.iconst 0, 1) := by decide +kernel
theorem d_L_law_203 : decode b_L_law 203 = .ok (.ireturn, 1) := by decide +kernel
theorem d_L_law_204 : decode b_L_law 204 = .ok (.goto 693, 3) := by decide +kernel
theorem d_L_law_207 : decode b_L_law 207 = .ok (.aload_n 1, 1) := by decide +kernel
theorem d_L_law_208 : decode b_L_law 208 = .ok (.aload_n 0, 1) := by decide +kernel
theorem d_L_law_209 : decode b_L_law 209 = .ok (.iload 4, 2) := by decide +kernel
theorem d_L_law_211 : decode b_L_law 211 = .ok (.iconst 1, 1) := by decide +kernel
theorem d_L_law_212 : decode b_L_law 212 = .ok (.iadd, 1) := by decide +kernel
theorem d_L_law_213 : decode b_L_law 213 = .ok (.iaload, 1) := by decide +kernel
theorem d_L_law_214 : decode b_L_law 214 = .ok (.aload_n 0, 1) := by decide +kernel
theorem d_L_law_215 : decode b_L_law 215 = .ok (.iload 4, 2) := by decide +kernel
theorem d_L_law_217 : decode b_L_law 217 = .ok (.iconst 2, 1) := by decide +kernel
theorem d_L_law_218 : decode b_L_law 218 = .ok (.iadd, 1) := by decide +kernel
theorem d_L_law_219 : decode b_L_law 219 = .ok (.iaload, 1) := by decide +kernel
theorem d_L_law_220 : decode b_L_law 220 = .ok (.aload_n 3, 1) := by decide +kernel
theorem d_L_law_221 : decode b_L_law 221 = .ok (.invokestatic 76, 3) := by decide +kernel
theorem d_L_law_224 : decode b_L_law 224 = .ok (.istore 5, 2) := by decide +kernel
theorem d_L_law_226 : decode b_L_law 226 = .ok (.aload_n 2, 1) := by decide +kernel
theorem d_L_law_227 : decode b_L_law 227 = .ok (.aload_n 0, 1) := by decide +kernel
theorem d_L_law_228 : decode b_L_law 228 = .ok (.iload 4, 2) := by decide +kernel
theorem d_L_law_230 : decode b_L_law 230 = .ok (.iconst 1, 1) := by decide +kernel
theorem d_L_law_231 : decode b_L_law 231 = .ok (.iadd, 1) := by decide +kernel
theorem d_L_law_232 : decode b_L_law 232 = .ok (.iaload, 1) := by decide +kernel
theorem d_L_law_233 : decode b_L_law 233 = .ok (.aload_n 0, 1) := by decide +kernel
theorem d_L_law_234 : decode b_L_law 234 = .ok (.iload 4, 2) := by decide +kernel
theorem d_L_law_236 : decode b_L_law 236 = .ok (.iconst 2, 1) := by decide +kernel
theorem d_L_law_237 : decode b_L_law 237 = .ok (.iadd, 1) := by decide +kernel
theorem d_L_law_238 : decode b_L_law 238 = .ok (.iaload, 1) := by decide +kernel
theorem d_L_law_239 : decode b_L_law 239 = .ok (.invokevirtual 79, 3) := by decide +kernel
theorem d_L_law_242 : decode b_L_law 242 = .ok (.istore 6, 2) := by decide +kernel
theorem d_L_law_244 : decode b_L_law 244 = .ok (.aload_n 2, 1) := by decide +kernel
theorem d_L_law_245 : decode b_L_law 245 = .ok (.invokevirtual 73, 3) := by decide +kernel
theorem d_L_law_248 : decode b_L_law 248 = .ok (.iload 5, 2) := by decide +kernel
theorem d_L_law_250 : decode b_L_law 250 = .ok (.if_icmp .eq 5, 3) := by decide +kernel
theorem d_L_law_253 : decode b_L_law 253 = .ok (.iconst 0, 1) := by decide +kernel
theorem d_L_law_254 : decode b_L_law 254 = .ok (.ireturn, 1) := by decide +kernel
theorem d_L_law_255 : decode b_L_law 255 = .ok (.iload 5, 2) := by decide +kernel
theorem d_L_law_257 : decode b_L_law 257 = .ok (.ifCond .ne 15, 3) := by decide +kernel
theorem d_L_law_260 : decode b_L_law 260 = .ok (.aload_n 3, 1) := by decide +kernel
theorem d_L_law_261 : decode b_L_law 261 = .ok (.iconst 0, 1) := by decide +kernel
theorem d_L_law_262 : decode b_L_law 262 = .ok (.laload, 1) := by decide +kernel
theorem d_L_law_263 : decode b_L_law 263 = .ok (.iload 6, 2) := by decide +kernel
theorem d_L_law_265 : decode b_L_law 265 = .ok (.i2l, 1) := by decide +kernel
theorem d_L_law_266 : decode b_L_law 266 = .ok (.lcmp, 1) := by decide +kernel
theorem d_L_law_267 : decode b_L_law 267 = .ok (.ifCond .eq 5, 3) := by decide +kernel
theorem d_L_law_270 : decode b_L_law 270 = .ok (.iconst 0, 1) := by decide +kernel
theorem d_L_law_271 : decode b_L_law 271 = .ok (.ireturn, 1) := by decide +kernel
theorem d_L_law_272 : decode b_L_law 272 = .ok (.goto 625, 3) := by decide +kernel
theorem d_L_law_275 : decode b_L_law 275 = .ok (.aload_n 1, 1) := by decide +kernel
theorem d_L_law_276 : decode b_L_law 276 = .ok (.aload_n 3, 1) := by decide +kernel
theorem d_L_law_277 : decode b_L_law 277 = .ok (.invokestatic 80, 3) := by decide +kernel
theorem d_L_law_280 : decode b_L_law 280 = .ok (.istore 5, 2) := by decide +kernel
theorem d_L_law_282 : decode b_L_law 282 = .ok (.aload_n 2, 1) := by decide +kernel
theorem d_L_law_283 : decode b_L_law 283 = .ok (.invokevirtual 83, 3) := by decide +kernel
theorem d_L_law_286 : decode b_L_law 286 = .ok (.istore 6, 2) := by decide +kernel
theorem d_L_law_288 : decode b_L_law 288 = .ok (.aload_n 2, 1) := by decide +kernel
theorem d_L_law_289 : decode b_L_law 289 = .ok (.invokevirtual 73, 3) := by decide +kernel
theorem d_L_law_292 : decode b_L_law 292 = .ok (.iload 5, 2) := by decide +kernel
theorem d_L_law_294 : decode b_L_law 294 = .ok (.if_icmp .eq 5, 3) := by decide +kernel
theorem d_L_law_297 : decode b_L_law 297 = .ok (.iconst 0, 1) := by decide +kernel
theorem d_L_law_298 : decode b_L_law 298 = .ok (.ireturn, 1) := by decide +kernel
theorem d_L_law_299 : decode b_L_law 299 = .ok (.iload 5, 2) := by decide +kernel
theorem d_L_law_301 : decode b_L_law 301 = .ok (.ifCond .ne 15, 3) := by decide +kernel
theorem d_L_law_304 : decode b_L_law 304 = .ok (.aload_n 3, 1) := by decide +kernel
theorem d_L_law_305 : decode b_L_law 305 = .ok (.iconst 0, 1) := by decide +kernel
theorem d_L_law_306 : decode b_L_law 306 = .ok (.laload, 1) := by decide +kernel
theorem d_L_law_307 : decode b_L_law 307 = .ok (.iload 6, 2) := by decide +kernel
theorem d_L_law_309 : decode b_L_law 309 = .ok (.i2l, 1) := by decide +kernel
theorem d_L_law_310 : decode b_L_law 310 = .ok (.lcmp, 1) := by decide +kernel
theorem d_L_law_311 : decode b_L_law 311 = .ok (.ifCond .eq 5, 3) := by decide +kernel
theorem d_L_law_314 : decode b_L_law 314 = .ok (.iconst 0, 1) := by decide +kernel
theorem d_L_law_315 : decode b_L_law 315 = .ok (.ireturn, 1) := by decide +kernel
theorem d_L_law_316 : decode b_L_law 316 = .ok (.goto 581, 3) := by decide +kernel
theorem d_L_law_319 : decode b_L_law 319 = .ok (.aload_n 1, 1) := by decide +kernel
theorem d_L_law_320 : decode b_L_law 320 = .ok (.aload_n 0, 1) := by decide +kernel
theorem d_L_law_321 : decode b_L_law 321 = .ok (.iload 4, 2) := by decide +kernel
theorem d_L_law_323 : decode b_L_law 323 = .ok (.iconst 1, 1) := by decide +kernel
theorem d_L_law_324 : decode b_L_law 324 = .ok (.iadd, 1) := by decide +kernel
theorem d_L_law_325 : decode b_L_law 325 = .ok (.iaload, 1) := by decide +kernel
theorem d_L_law_326 : decode b_L_law 326 = .ok (.invokestatic 84, 3) := by decide +kernel
theorem d_L_law_329 : decode b_L_law 329 = .ok (.istore 5, 2) := by decide +kernel
theorem d_L_law_331 : decode b_L_law 331 = .ok (.aload_n 2, 1) := by decide +kernel
theorem d_L_law_332 : decode b_L_law 332 = .ok (.aload_n 0, 1) := by decide +kernel
theorem d_L_law_333 : decode b_L_law 333 = .ok (.iload 4, 2) := by decide +kernel
theorem d_L_law_335 : decode b_L_law 335 = .ok (.iconst 1, 1) := by decide +kernel
theorem d_L_law_336 : decode b_L_law 336 = .ok (.iadd, 1) := by decide +kernel
theorem d_L_law_337 : decode b_L_law 337 = .ok (.iaload, 1) := by decide +kernel
theorem d_L_law_338 : decode b_L_law 338 = .ok (.invokevirtual 87, 3) := by decide +kernel
theorem d_L_law_341 : decode b_L_law 341 = .ok (.aload_n 2, 1) := by decide +kernel
theorem d_L_law_342 : decode b_L_law 342 = .ok (.invokevirtual 73, 3) := by decide +kernel
theorem d_L_law_345 : decode b_L_law 345 = .ok (.iload 5, 2) := by decide +kernel
theorem d_L_law_347 : decode b_L_law 347 = .ok (.if_icmp .eq 5, 3) := by decide +kernel
theorem d_L_law_350 : decode b_L_law 350 = .ok (.iconst 0, 1) := by decide +kernel
theorem d_L_law_351 : decode b_L_law 351 = .ok (.ireturn, 1) := by decide +kernel
theorem d_L_law_352 : decode b_L_law 352 = .ok (.goto 545, 3) := by decide +kernel
theorem d_L_law_355 : decode b_L_law 355 = .ok (.aload_n 1, 1) := by decide +kernel
theorem d_L_law_356 : decode b_L_law 356 = .ok (.aload_n 0, 1) := by decide +kernel
theorem d_L_law_357 : decode b_L_law 357 = .ok (.iload 4, 2) := by decide +kernel
theorem d_L_law_359 : decode b_L_law 359 = .ok (.iconst 1, 1) := by decide +kernel
theorem d_L_law_360 : decode b_L_law 360 = .ok (.iadd, 1) := by decide +kernel
theorem d_L_law_361 : decode b_L_law 361 = .ok (.iaload, 1) := by decide +kernel
theorem d_L_law_362 : decode b_L_law 362 = .ok (.aload_n 0, 1) := by decide +kernel
theorem d_L_law_363 : decode b_L_law 363 = .ok (.iload 4, 2) := by decide +kernel
theorem d_L_law_365 : decode b_L_law 365 = .ok (.iconst 2, 1) := by decide +kernel
theorem d_L_law_366 : decode b_L_law 366 = .ok (.iadd, 1) := by decide +kernel
theorem d_L_law_367 : decode b_L_law 367 = .ok (.iaload, 1) := by decide +kernel
theorem d_L_law_368 : decode b_L_law 368 = .ok (.aload_n 0, 1) := by decide +kernel
theorem d_L_law_369 : decode b_L_law 369 = .ok (.iload 4, 2) := by decide +kernel
theorem d_L_law_371 : decode b_L_law 371 = .ok (.iconst 3, 1) := by decide +kernel
theorem d_L_law_372 : decode b_L_law 372 = .ok (.iadd, 1) := by decide +kernel
theorem d_L_law_373 : decode b_L_law 373 = .ok (.iaload, 1) := by decide +kernel
theorem d_L_law_374 : decode b_L_law 374 = .ok (.aload_n 3, 1) := by decide +kernel
theorem d_L_law_375 : decode b_L_law 375 = .ok (.invokestatic 88, 3) := by decide +kernel
theorem d_L_law_378 : decode b_L_law 378 = .ok (.istore 5, 2) := by decide +kernel
theorem d_L_law_380 : decode b_L_law 380 = .ok (.aload_n 2, 1) := by decide +kernel
theorem d_L_law_381 : decode b_L_law 381 = .ok (.aload_n 0, 1) := by decide +kernel
theorem d_L_law_382 : decode b_L_law 382 = .ok (.iload 4, 2) := by decide +kernel
theorem d_L_law_384 : decode b_L_law 384 = .ok (.iconst 1, 1) := by decide +kernel
theorem d_L_law_385 : decode b_L_law 385 = .ok (.iadd, 1) := by decide +kernel
theorem d_L_law_386 : decode b_L_law 386 = .ok (.iaload, 1) := by decide +kernel
theorem d_L_law_387 : decode b_L_law 387 = .ok (.aload_n 0, 1) := by decide +kernel
theorem d_L_law_388 : decode b_L_law 388 = .ok (.iload 4, 2) := by decide +kernel
theorem d_L_law_390 : decode b_L_law 390 = .ok (.iconst 2, 1) := by decide +kernel
theorem d_L_law_391 : decode b_L_law 391 = .ok (.iadd, 1) := by decide +kernel
theorem d_L_law_392 : decode b_L_law 392 = .ok (.iaload, 1) := by decide +kernel
theorem d_L_law_393 : decode b_L_law 393 = .ok (.aload_n 0, 1) := by decide +kernel
theorem d_L_law_394 : decode b_L_law 394 = .ok (.iload 4, 2) := by decide +kernel
theorem d_L_law_396 : decode b_L_law 396 = .ok (.iconst 3, 1) := by decide +kernel
theorem d_L_law_397 : decode b_L_law 397 = .ok (.iadd, 1) := by decide +kernel
theorem d_L_law_398 : decode b_L_law 398 = .ok (.iaload, 1) := by decide +kernel
theorem d_L_law_399 : decode b_L_law 399 = .ok (.invokevirtual 90, 3) := by decide +kernel
theorem d_L_law_402 : decode b_L_law 402 = .ok (.istore 6, 2) := by decide +kernel
theorem d_L_law_404 : decode b_L_law 404 = .ok (.aload_n 2, 1) := by decide +kernel
theorem d_L_law_405 : decode b_L_law 405 = .ok (.invokevirtual 73, 3) := by decide +kernel
theorem d_L_law_408 : decode b_L_law 408 = .ok (.iload 5, 2) := by decide +kernel
theorem d_L_law_410 : decode b_L_law 410 = .ok (.if_icmp .eq 5, 3) := by decide +kernel
theorem d_L_law_413 : decode b_L_law 413 = .ok (.iconst 0, 1) := by decide +kernel
theorem d_L_law_414 : decode b_L_law 414 = .ok (.ireturn, 1) := by decide +kernel
theorem d_L_law_415 : decode b_L_law 415 = .ok (.iload 5, 2) := by decide +kernel
theorem d_L_law_417 : decode b_L_law 417 = .ok (.ifCond .ne 15, 3) := by decide +kernel
theorem d_L_law_420 : decode b_L_law 420 = .ok (.aload_n 3, 1) := by decide +kernel
theorem d_L_law_421 : decode b_L_law 421 = .ok (.iconst 0, 1) := by decide +kernel
theorem d_L_law_422 : decode b_L_law 422 = .ok (.laload, 1) := by decide +kernel
theorem d_L_law_423 : decode b_L_law 423 = .ok (.iload 6, 2) := by decide +kernel
theorem d_L_law_425 : decode b_L_law 425 = .ok (.i2l, 1) := by decide +kernel
theorem d_L_law_426 : decode b_L_law 426 = .ok (.lcmp, 1) := by decide +kernel
theorem d_L_law_427 : decode b_L_law 427 = .ok (.ifCond .eq 5, 3) := by decide +kernel
theorem d_L_law_430 : decode b_L_law 430 = .ok (.iconst 0, 1) := by decide +kernel
theorem d_L_law_431 : decode b_L_law 431 = .ok (.ireturn, 1) := by decide +kernel
theorem d_L_law_432 : decode b_L_law 432 = .ok (.goto 465, 3) := by decide +kernel
theorem d_L_law_435 : decode b_L_law 435 = .ok (.aload_n 1, 1) := by decide +kernel
theorem d_L_law_436 : decode b_L_law 436 = .ok (.aload_n 0, 1) := by decide +kernel
theorem d_L_law_437 : decode b_L_law 437 = .ok (.iload 4, 2) := by decide +kernel
theorem d_L_law_439 : decode b_L_law 439 = .ok (.iconst 1, 1) := by decide +kernel
theorem d_L_law_440 : decode b_L_law 440 = .ok (.iadd, 1) := by decide +kernel
theorem d_L_law_441 : decode b_L_law 441 = .ok (.iaload, 1) := by decide +kernel
theorem d_L_law_442 : decode b_L_law 442 = .ok (.aload_n 0, 1) := by decide +kernel
theorem d_L_law_443 : decode b_L_law 443 = .ok (.iload 4, 2) := by decide +kernel
theorem d_L_law_445 : decode b_L_law 445 = .ok (.iconst 2, 1) := by decide +kernel
theorem d_L_law_446 : decode b_L_law 446 = .ok (.iadd, 1) := by decide +kernel
theorem d_L_law_447 : decode b_L_law 447 = .ok (.iaload, 1) := by decide +kernel
theorem d_L_law_448 : decode b_L_law 448 = .ok (.aload_n 0, 1) := by decide +kernel
theorem d_L_law_449 : decode b_L_law 449 = .ok (.iload 4, 2) := by decide +kernel
