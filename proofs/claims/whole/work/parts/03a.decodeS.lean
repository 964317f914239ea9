theorem d_S_init_0 : decode b_S_init 0 = .ok (.aload_n 0, 1) := by decide +kernel
theorem d_S_init_1 : decode b_S_init 1 = .ok (.invokespecial 1, 3) := by decide +kernel
theorem d_S_init_4 : decode b_S_init 4 = .ok (.aload_n 0, 1) := by decide +kernel
theorem d_S_init_5 : decode b_S_init 5 = .ok (.bipush 24, 2) := by decide +kernel
theorem d_S_init_7 : decode b_S_init 7 = .ok (.newarray .int, 2) := by decide +kernel
theorem d_S_init_9 : decode b_S_init 9 = .ok (.putfield 9, 3) := by decide +kernel
theorem d_S_init_12 : decode b_S_init 12 = .ok (.aload_n 0, 1) := by decide +kernel
theorem d_S_init_13 : decode b_S_init 13 = .ok (.bipush 36, 2) := by decide +kernel
theorem d_S_init_15 : decode b_S_init 15 = .ok (.newarray .int, 2) := by decide +kernel
theorem d_S_init_17 : decode b_S_init 17 = .ok (.putfield 13, 3) := by decide +kernel
theorem d_S_init_20 : decode b_S_init 20 = .ok (.aload_n 0, 1) := by decide +kernel
theorem d_S_init_21 : decode b_S_init 21 = .ok (.bipush 9, 2) := by decide +kernel
theorem d_S_init_23 : decode b_S_init 23 = .ok (.newarray .int, 2) := by decide +kernel
theorem d_S_init_25 : decode b_S_init 25 = .ok (.putfield 16, 3) := by decide +kernel
theorem d_S_init_28 : decode b_S_init 28 = .ok (.aload_n 0, 1) := by decide +kernel
theorem d_S_init_29 : decode b_S_init 29 = .ok (.bipush 9, 2) := by decide +kernel
theorem d_S_init_31 : decode b_S_init 31 = .ok (.newarray .int, 2) := by decide +kernel
theorem d_S_init_33 : decode b_S_init 33 = .ok (.putfield 19, 3) := by decide +kernel
theorem d_S_init_36 : decode b_S_init 36 = .ok (.aload_n 0, 1) := by decide +kernel
theorem d_S_init_37 : decode b_S_init 37 = .ok (.iconst 3, 1) := by decide +kernel
theorem d_S_init_38 : decode b_S_init 38 = .ok (.newarray .int, 2) := by decide +kernel
theorem d_S_init_40 : decode b_S_init 40 = .ok (.putfield 22, 3) := by decide +kernel
theorem d_S_init_43 : decode b_S_init 43 = .ok (.aload_n 0, 1) := by decide +kernel
theorem d_S_init_44 : decode b_S_init 44 = .ok (.invokevirtual 25, 3) := by decide +kernel
theorem d_S_init_47 : decode b_S_init 47 = .ok (.return_, 1) := by decide +kernel
theorem d_S_format_0 : decode b_S_format 0 = .ok (.aload_n 0, 1) := by decide +kernel
theorem d_S_format_1 : decode b_S_format 1 = .ok (.invokevirtual 25, 3) := by decide +kernel
theorem d_S_format_4 : decode b_S_format 4 = .ok (.return_, 1) := by decide +kernel
theorem d_S_write_0 : decode b_S_write 0 = .ok (.aload_n 0, 1) := by decide +kernel
theorem d_S_write_1 : decode b_S_write 1 = .ok (.invokevirtual 28, 3) := by decide +kernel
theorem d_S_write_4 : decode b_S_write 4 = .ok (.aload_n 0, 1) := by decide +kernel
theorem d_S_write_5 : decode b_S_write 5 = .ok (.iload_n 1, 1) := by decide +kernel
theorem d_S_write_6 : decode b_S_write 6 = .ok (.iload_n 2, 1) := by decide +kernel
theorem d_S_write_7 : decode b_S_write 7 = .ok (.invokevirtual 31, 3) := by decide +kernel
theorem d_S_write_10 : decode b_S_write 10 = .ok (.aload_n 0, 1) := by decide +kernel
theorem d_S_write_11 : decode b_S_write 11 = .ok (.aload_n 0, 1) := by decide +kernel
theorem d_S_write_12 : decode b_S_write 12 = .ok (.iload_n 1, 1) := by decide +kernel
theorem d_S_write_13 : decode b_S_write 13 = .ok (.invokevirtual 35, 3) := by decide +kernel
theorem d_S_write_16 : decode b_S_write 16 = .ok (.invokevirtual 39, 3) := by decide +kernel
theorem d_S_write_19 : decode b_S_write 19 = .ok (.aload_n 0, 1) := by decide +kernel
theorem d_S_write_20 : decode b_S_write 20 = .ok (.iload_n 1, 1) := by decide +kernel
theorem d_S_write_21 : decode b_S_write 21 = .ok (.invokevirtual 43, 3) := by decide +kernel
theorem d_S_write_24 : decode b_S_write 24 = .ok (.istore 4, 2) := by decide +kernel
theorem d_S_write_26 : decode b_S_write 26 = .ok (.aload_n 0, 1) := by decide +kernel
theorem d_S_write_27 : decode b_S_write 27 = .ok (.iload_n 1, 1) := by decide +kernel
theorem d_S_write_28 : decode b_S_write 28 = .ok (.iload_n 2, 1) := by decide +kernel
theorem d_S_write_29 : decode b_S_write 29 = .ok (.iload_n 3, 1) := by decide +kernel
theorem d_S_write_30 : decode b_S_write 30 = .ok (.invokevirtual 46, 3) := by decide +kernel
theorem d_S_write_33 : decode b_S_write 33 = .ok (.iload 4, 2) := by decide +kernel
theorem d_S_write_35 : decode b_S_write 35 = .ok (.ireturn, 1) := by decide +kernel
theorem d_S_read_0 : decode b_S_read 0 = .ok (.aload_n 0, 1) := by decide +kernel
theorem d_S_read_1 : decode b_S_read 1 = .ok (.invokevirtual 28, 3) := by decide +kernel
theorem d_S_read_4 : decode b_S_read 4 = .ok (.aload_n 0, 1) := by decide +kernel
theorem d_S_read_5 : decode b_S_read 5 = .ok (.iload_n 1, 1) := by decide +kernel
theorem d_S_read_6 : decode b_S_read 6 = .ok (.iload_n 2, 1) := by decide +kernel
theorem d_S_read_7 : decode b_S_read 7 = .ok (.invokevirtual 31, 3) := by decide +kernel
theorem d_S_read_10 : decode b_S_read 10 = .ok (.aload_n 0, 1) := by decide +kernel
theorem d_S_read_11 : decode b_S_read 11 = .ok (.getfield 9, 3) := by decide +kernel
theorem d_S_read_14 : decode b_S_read 14 = .ok (.iload_n 1, 1) := by decide +kernel
theorem d_S_read_15 : decode b_S_read 15 = .ok (.iconst 4, 1) := by decide +kernel
theorem d_S_read_16 : decode b_S_read 16 = .ok (.imul, 1) := by decide +kernel
theorem d_S_read_17 : decode b_S_read 17 = .ok (.iload_n 2, 1) := by decide +kernel
theorem d_S_read_18 : decode b_S_read 18 = .ok (.iadd, 1) := by decide +kernel
theorem d_S_read_19 : decode b_S_read 19 = .ok (.iaload, 1) := by decide +kernel
theorem d_S_read_20 : decode b_S_read 20 = .ok (.ireturn, 1) := by decide +kernel
theorem d_S_snapshot_0 : decode b_S_snapshot 0 = .ok (.aload_n 0, 1) := by decide +kernel
theorem d_S_snapshot_1 : decode b_S_snapshot 1 = .ok (.invokevirtual 28, 3) := by decide +kernel
theorem d_S_snapshot_4 : decode b_S_snapshot 4 = .ok (.aload_n 0, 1) := by decide +kernel
theorem d_S_snapshot_5 : decode b_S_snapshot 5 = .ok (.invokevirtual 50, 3) := by decide +kernel
theorem d_S_snapshot_8 : decode b_S_snapshot 8 = .ok (.istore_n 1, 1) := by decide +kernel
theorem d_S_snapshot_9 : decode b_S_snapshot 9 = .ok (.iload_n 1, 1) := by decide +kernel
theorem d_S_snapshot_10 : decode b_S_snapshot 10 = .ok (.iconst (-1), 1) := by decide +kernel
theorem d_S_snapshot_11 : decode b_S_snapshot 11 = .ok (.if_icmp .ne 13, 3) := by decide +kernel
theorem d_S_snapshot_14 : decode b_S_snapshot 14 = .ok (.new 54, 3) := by decide +kernel
theorem d_S_snapshot_17 : decode b_S_snapshot 17 = .ok (.dup, 1) := by decide +kernel
theorem d_S_snapshot_18 : decode b_S_snapshot 18 = .ok (.ldc 56, 2) := by decide +kernel
theorem d_S_snapshot_20 : decode b_S_snapshot 20 = .ok (.invokespecial 58, 3) := by decide +kernel
theorem d_S_snapshot_23 : decode b_S_snapshot 23 = .ok (.athrow, 1) := by decide +kernel
theorem d_S_snapshot_24 : decode b_S_snapshot 24 = .ok (.aload_n 0, 1) := by decide +kernel
theorem d_S_snapshot_25 : decode b_S_snapshot 25 = .ok (.iload_n 1, 1) := by decide +kernel
theorem d_S_snapshot_26 : decode b_S_snapshot 26 = .ok (.aload_n 0, 1) := by decide +kernel
theorem d_S_snapshot_27 : decode b_S_snapshot 27 = .ok (.getfield 61, 3) := by decide +kernel
theorem d_S_snapshot_30 : decode b_S_snapshot 30 = .ok (.iconst 1, 1) := by decide +kernel
theorem d_S_snapshot_31 : decode b_S_snapshot 31 = .ok (.iadd, 1) := by decide +kernel
theorem d_S_snapshot_32 : decode b_S_snapshot 32 = .ok (.invokevirtual 65, 3) := by decide +kernel
theorem d_S_snapshot_35 : decode b_S_snapshot 35 = .ok (.aload_n 0, 1) := by decide +kernel
theorem d_S_snapshot_36 : decode b_S_snapshot 36 = .ok (.dup, 1) := by decide +kernel
theorem d_S_snapshot_37 : decode b_S_snapshot 37 = .ok (.getfield 61, 3) := by decide +kernel
theorem d_S_snapshot_40 : decode b_S_snapshot 40 = .ok (.iconst 1, 1) := by decide +kernel
theorem d_S_snapshot_41 : decode b_S_snapshot 41 = .ok (.iadd, 1) := by decide +kernel
theorem d_S_snapshot_42 : decode b_S_snapshot 42 = .ok (.putfield 61, 3) := by decide +kernel
theorem d_S_snapshot_45 : decode b_S_snapshot 45 = .ok (.iload_n 1, 1) := by decide +kernel
theorem d_S_snapshot_46 : decode b_S_snapshot 46 = .ok (.ireturn, 1) := by decide +kernel
theorem d_S_drop_0 : decode b_S_drop 0 = .ok (.aload_n 0, 1) := by decide +kernel
theorem d_S_drop_1 : decode b_S_drop 1 = .ok (.invokevirtual 28, 3) := by decide +kernel
theorem d_S_drop_4 : decode b_S_drop 4 = .ok (.aload_n 0, 1) := by decide +kernel
theorem d_S_drop_5 : decode b_S_drop 5 = .ok (.iload_n 1, 1) := by decide +kernel
theorem d_S_drop_6 : decode b_S_drop 6 = .ok (.invokevirtual 68, 3) := by decide +kernel
theorem d_S_drop_9 : decode b_S_drop 9 = .ok (.aload_n 0, 1) := by decide +kernel
theorem d_S_drop_10 : decode b_S_drop 10 = .ok (.iload_n 1, 1) := by decide +kernel
theorem d_S_drop_11 : decode b_S_drop 11 = .ok (.iconst 0, 1) := by decide +kernel
theorem d_S_drop_12 : decode b_S_drop 12 = .ok (.invokevirtual 65, 3) := by decide +kernel
theorem d_S_drop_15 : decode b_S_drop 15 = .ok (.return_, 1) := by decide +kernel
theorem d_S_readSnapshot_0 : decode b_S_readSnapshot 0 = .ok (.aload_n 0, 1) := by decide +kernel
theorem d_S_readSnapshot_1 : decode b_S_readSnapshot 1 = .ok (.invokevirtual 28, 3) := by decide +kernel
theorem d_S_readSnapshot_4 : decode b_S_readSnapshot 4 = .ok (.aload_n 0, 1) := by decide +kernel
theorem d_S_readSnapshot_5 : decode b_S_readSnapshot 5 = .ok (.iload_n 1, 1) := by decide +kernel
theorem d_S_readSnapshot_6 : decode b_S_readSnapshot 6 = .ok (.invokevirtual 68, 3) := by decide +kernel
theorem d_S_readSnapshot_9 : decode b_S_readSnapshot 9 = .ok (.aload_n 0, 1) := by decide +kernel
theorem d_S_readSnapshot_10 : decode b_S_readSnapshot 10 = .ok (.iload_n 2, 1) := by decide +kernel
theorem d_S_readSnapshot_11 : decode b_S_readSnapshot 11 = .ok (.iload_n 3, 1) := by decide +kernel
theorem d_S_readSnapshot_12 : decode b_S_readSnapshot 12 = .ok (.invokevirtual 31, 3) := by decide +kernel
theorem d_S_readSnapshot_15 : decode b_S_readSnapshot 15 = .ok (.aload_n 0, 1) := by decide +kernel
theorem d_S_readSnapshot_16 : decode b_S_readSnapshot 16 = .ok (.iload_n 1, 1) := by decide +kernel
theorem d_S_readSnapshot_17 : decode b_S_readSnapshot 17 = .ok (.iload_n 2, 1) := by decide +kernel
theorem d_S_readSnapshot_18 : decode b_S_readSnapshot 18 = .ok (.iload_n 3, 1) := by decide +kernel
theorem d_S_readSnapshot_19 : decode b_S_readSnapshot 19 = .ok (.invokevirtual 71, 3) := by decide +kernel
theorem d_S_readSnapshot_22 : decode b_S_readSnapshot 22 = .ok (.ireturn, 1) := by decide +kernel
theorem d_S_writeSnapshot_0 : decode b_S_writeSnapshot 0 = .ok (.aload_n 0, 1) := by decide +kernel
theorem d_S_writeSnapshot_1 : decode b_S_writeSnapshot 1 = .ok (.invokevirtual 28, 3) := by decide +kernel
theorem d_S_writeSnapshot_4 : decode b_S_writeSnapshot 4 = .ok (.aload_n 0, 1) := by decide +kernel
theorem d_S_writeSnapshot_5 : decode b_S_writeSnapshot 5 = .ok (.iload_n 1, 1) := by decide +kernel
theorem d_S_writeSnapshot_6 : decode b_S_writeSnapshot 6 = .ok (.invokevirtual 68, 3) := by decide +kernel
theorem d_S_writeSnapshot_9 : decode b_S_writeSnapshot 9 = .ok (.aload_n 0, 1) := by decide +kernel
theorem d_S_writeSnapshot_10 : decode b_S_writeSnapshot 10 = .ok (.iload_n 2, 1) := by decide +kernel
theorem d_S_writeSnapshot_11 : decode b_S_writeSnapshot 11 = .ok (.iload_n 3, 1) := by decide +kernel
theorem d_S_writeSnapshot_12 : decode b_S_writeSnapshot 12 = .ok (.invokevirtual 31, 3) := by decide +kernel
theorem d_S_writeSnapshot_15 : decode b_S_writeSnapshot 15 = .ok (.aload_n 0, 1) := by decide +kernel
theorem d_S_writeSnapshot_16 : decode b_S_writeSnapshot 16 = .ok (.iload_n 1, 1) := by decide +kernel
theorem d_S_writeSnapshot_17 : decode b_S_writeSnapshot 17 = .ok (.iload_n 2, 1) := by decide +kernel
theorem d_S_writeSnapshot_18 : decode b_S_writeSnapshot 18 = .ok (.invokevirtual 75, 3) := by decide +kernel
theorem d_S_writeSnapshot_21 : decode b_S_writeSnapshot 21 = .ok (.istore 5, 2) := by decide +kernel
theorem d_S_writeSnapshot_23 : decode b_S_writeSnapshot 23 = .ok (.iload 5, 2) := by decide +kernel
theorem d_S_writeSnapshot_25 : decode b_S_writeSnapshot 25 = .ok (.iconst (-1), 1) := by decide +kernel
theorem d_S_writeSnapshot_26 : decode b_S_writeSnapshot 26 = .ok (.if_icmp .eq 14, 3) := by decide +kernel
theorem d_S_writeSnapshot_29 : decode b_S_writeSnapshot 29 = .ok (.aload_n 0, 1) := by decide +kernel
theorem d_S_writeSnapshot_30 : decode b_S_writeSnapshot 30 = .ok (.iload 5, 2) := by decide +kernel
theorem d_S_writeSnapshot_32 : decode b_S_writeSnapshot 32 = .ok (.iload_n 3, 1) := by decide +kernel
theorem d_S_writeSnapshot_33 : decode b_S_writeSnapshot 33 = .ok (.iload 4, 2) := by decide +kernel
theorem d_S_writeSnapshot_35 : decode b_S_writeSnapshot 35 = .ok (.invokevirtual 79, 3) := by decide +kernel
theorem d_S_writeSnapshot_38 : decode b_S_writeSnapshot 38 = .ok (.iconst 0, 1) := by decide +kernel
theorem d_S_writeSnapshot_39 : decode b_S_writeSnapshot 39 = .ok (.ireturn, 1) := by decide +kernel
theorem d_S_writeSnapshot_40 : decode b_S_writeSnapshot 40 = .ok (.aload_n 0, 1) := by decide +kernel
theorem d_S_writeSnapshot_41 : decode b_S_writeSnapshot 41 = .ok (.iconst 1, 1) := by decide +kernel
theorem d_S_writeSnapshot_42 : decode b_S_writeSnapshot 42 = .ok (.invokevirtual 39, 3) := by decide +kernel
theorem d_S_writeSnapshot_45 : decode b_S_writeSnapshot 45 = .ok (.aload_n 0, 1) := by decide +kernel
theorem d_S_writeSnapshot_46 : decode b_S_writeSnapshot 46 = .ok (.iload_n 1, 1) := by decide +kernel
theorem d_S_writeSnapshot_47 : decode b_S_writeSnapshot 47 = .ok (.iload_n 2, 1) := by decide +kernel
theorem d_S_writeSnapshot_48 : decode b_S_writeSnapshot 48 = .ok (.iload_n 3, 1) := by decide +kernel
theorem d_S_writeSnapshot_49 : decode b_S_writeSnapshot 49 = .ok (.iload 4, 2) := by decide +kernel
theorem d_S_writeSnapshot_51 : decode b_S_writeSnapshot 51 = .ok (.invokevirtual 82, 3) := by decide +kernel
theorem d_S_writeSnapshot_54 : decode b_S_writeSnapshot 54 = .ok (.iconst 1, 1) := by decide +kernel
theorem d_S_writeSnapshot_55 : decode b_S_writeSnapshot 55 = .ok (.ireturn, 1) := by decide +kernel
theorem d_S_rollback_0 : decode b_S_rollback 0 = .ok (.aload_n 0, 1) := by decide +kernel
theorem d_S_rollback_1 : decode b_S_rollback 1 = .ok (.invokevirtual 28, 3) := by decide +kernel
theorem d_S_rollback_4 : decode b_S_rollback 4 = .ok (.aload_n 0, 1) := by decide +kernel
theorem d_S_rollback_5 : decode b_S_rollback 5 = .ok (.iload_n 1, 1) := by decide +kernel
theorem d_S_rollback_6 : decode b_S_rollback 6 = .ok (.invokevirtual 68, 3) := by decide +kernel
theorem d_S_rollback_9 : decode b_S_rollback 9 = .ok (.aload_n 0, 1) := by decide +kernel
theorem d_S_rollback_10 : decode b_S_rollback 10 = .ok (.aload_n 0, 1) := by decide +kernel
theorem d_S_rollback_11 : decode b_S_rollback 11 = .ok (.iload_n 1, 1) := by decide +kernel
theorem d_S_rollback_12 : decode b_S_rollback 12 = .ok (.invokevirtual 86, 3) := by decide +kernel
theorem d_S_rollback_15 : decode b_S_rollback 15 = .ok (.invokevirtual 39, 3) := by decide +kernel
theorem d_S_rollback_18 : decode b_S_rollback 18 = .ok (.aload_n 0, 1) := by decide +kernel
theorem d_S_rollback_19 : decode b_S_rollback 19 = .ok (.iconst 0, 1) := by decide +kernel
theorem d_S_rollback_20 : decode b_S_rollback 20 = .ok (.invokevirtual 89, 3) := by decide +kernel
theorem d_S_rollback_23 : decode b_S_rollback 23 = .ok (.aload_n 0, 1) := by decide +kernel
theorem d_S_rollback_24 : decode b_S_rollback 24 = .ok (.iconst 1, 1) := by decide +kernel
theorem d_S_rollback_25 : decode b_S_rollback 25 = .ok (.iload_n 1, 1) := by decide +kernel
theorem d_S_rollback_26 : decode b_S_rollback 26 = .ok (.iadd, 1) := by decide +kernel
theorem d_S_rollback_27 : decode b_S_rollback 27 = .ok (.invokevirtual 92, 3) := by decide +kernel
theorem d_S_rollback_30 : decode b_S_rollback 30 = .ok (.aload_n 0, 1) := by decide +kernel
theorem d_S_rollback_31 : decode b_S_rollback 31 = .ok (.iload_n 1, 1) := by decide +kernel
theorem d_S_rollback_32 : decode b_S_rollback 32 = .ok (.invokevirtual 95, 3) := by decide +kernel
theorem d_S_rollback_35 : decode b_S_rollback 35 = .ok (.ireturn, 1) := by decide +kernel
theorem d_S_fuse_0 : decode b_S_fuse 0 = .ok (.aload_n 0, 1) := by decide +kernel
theorem d_S_fuse_1 : decode b_S_fuse 1 = .ok (.getfield 98, 3) := by decide +kernel
theorem d_S_fuse_4 : decode b_S_fuse 4 = .ok (.ifCond .ne 8, 3) := by decide +kernel
theorem d_S_fuse_7 : decode b_S_fuse 7 = .ok (.iload_n 1, 1) := by decide +kernel
theorem d_S_fuse_8 : decode b_S_fuse 8 = .ok (.iconst (-1), 1) := by decide +kernel
theorem d_S_fuse_9 : decode b_S_fuse 9 = .ok (.if_icmp .ge 5, 3) := by decide +kernel
theorem d_S_fuse_12 : decode b_S_fuse 12 = .ok (.iconst 0, 1) := by decide +kernel
theorem d_S_fuse_13 : decode b_S_fuse 13 = .ok (.ireturn, 1) := by decide +kernel
theorem d_S_fuse_14 : decode b_S_fuse 14 = .ok (.aload_n 0, 1) := by decide +kernel
theorem d_S_fuse_15 : decode b_S_fuse 15 = .ok (.iload_n 1, 1) := by decide +kernel
theorem d_S_fuse_16 : decode b_S_fuse 16 = .ok (.putfield 102, 3) := by decide +kernel
theorem d_S_fuse_19 : decode b_S_fuse 19 = .ok (.iconst 1, 1) := by decide +kernel
theorem d_S_fuse_20 : decode b_S_fuse 20 = .ok (.ireturn, 1) := by decide +kernel
theorem d_S_recover_0 : decode b_S_recover 0 = .ok (.aload_n 0, 1) := by decide +kernel
theorem d_S_recover_1 : decode b_S_recover 1 = .ok (.getfield 98, 3) := by decide +kernel
theorem d_S_recover_4 : decode b_S_recover 4 = .ok (.ifCond .ne 13, 3) := by decide +kernel
theorem d_S_recover_7 : decode b_S_recover 7 = .ok (.new 54, 3) := by decide +kernel
theorem d_S_recover_10 : decode b_S_recover 10 = .ok (.dup, 1) := by decide +kernel
theorem d_S_recover_11 : decode b_S_recover 11 = .ok (.ldc 105, 2) := by decide +kernel
theorem d_S_recover_13 : decode b_S_recover 13 = .ok (.invokespecial 58, 3) := by decide +kernel
theorem d_S_recover_16 : decode b_S_recover 16 = .ok (.athrow, 1) := by decide +kernel
theorem d_S_recover_17 : decode b_S_recover 17 = .ok (.aload_n 0, 1) := by decide +kernel
theorem d_S_recover_18 : decode b_S_recover 18 = .ok (.iconst 0, 1) := by decide +kernel
theorem d_S_recover_19 : decode b_S_recover 19 = .ok (.putfield 98, 3) := by decide +kernel
theorem d_S_recover_22 : decode b_S_recover 22 = .ok (.aload_n 0, 1) := by decide +kernel
theorem d_S_recover_23 : decode b_S_recover 23 = .ok (.getfield 107, 3) := by decide +kernel
theorem d_S_recover_26 : decode b_S_recover 26 = .ok (.ifCond .ne 7, 3) := by decide +kernel
theorem d_S_recover_29 : decode b_S_recover 29 = .ok (.iconst 0, 1) := by decide +kernel
theorem d_S_recover_30 : decode b_S_recover 30 = .ok (.goto 13, 3) := by decide +kernel
theorem d_S_recover_33 : decode b_S_recover 33 = .ok (.aload_n 0, 1) := by decide +kernel
theorem d_S_recover_34 : decode b_S_recover 34 = .ok (.aload_n 0, 1) := by decide +kernel
theorem d_S_recover_35 : decode b_S_recover 35 = .ok (.getfield 107, 3) := by decide +kernel
theorem d_S_recover_38 : decode b_S_recover 38 = .ok (.iconst 1, 1) := by decide +kernel
theorem d_S_recover_39 : decode b_S_recover 39 = .ok (.isub, 1) := by decide +kernel
theorem d_S_recover_40 : decode b_S_recover 40 = .ok (.invokevirtual 95, 3) := by decide +kernel
theorem d_S_recover_43 : decode b_S_recover 43 = .ok (.ireturn, 1) := by decide +kernel
theorem d_S_isDown_0 : decode b_S_isDown 0 = .ok (.aload_n 0, 1) := by decide +kernel
theorem d_S_isDown_1 : decode b_S_isDown 1 = .ok (.getfield 98, 3) := by decide +kernel
theorem d_S_isDown_4 : decode b_S_isDown 4 = .ok (.ireturn, 1) := by decide +kernel
theorem d_S_writes_0 : decode b_S_writes 0 = .ok (.aload_n 0, 1) := by decide +kernel
theorem d_S_writes_1 : decode b_S_writes 1 = .ok (.getfield 110, 3) := by decide +kernel
theorem d_S_writes_4 : decode b_S_writes 4 = .ok (.ireturn, 1) := by decide +kernel
theorem d_S_used_0 : decode b_S_used 0 = .ok (.aload_n 0, 1) := by decide +kernel
theorem d_S_used_1 : decode b_S_used 1 = .ok (.invokevirtual 28, 3) := by decide +kernel
theorem d_S_used_4 : decode b_S_used 4 = .ok (.bipush 9, 2) := by decide +kernel
theorem d_S_used_6 : decode b_S_used 6 = .ok (.aload_n 0, 1) := by decide +kernel
theorem d_S_used_7 : decode b_S_used 7 = .ok (.invokevirtual 113, 3) := by decide +kernel
theorem d_S_used_10 : decode b_S_used 10 = .ok (.isub, 1) := by decide +kernel
theorem d_S_used_11 : decode b_S_used 11 = .ok (.ireturn, 1) := by decide +kernel
theorem d_S_copyOf_0 : decode b_S_copyOf 0 = .ok (.aload_n 0, 1) := by decide +kernel
theorem d_S_copyOf_1 : decode b_S_copyOf 1 = .ok (.invokevirtual 28, 3) := by decide +kernel
theorem d_S_copyOf_4 : decode b_S_copyOf 4 = .ok (.aload_n 0, 1) := by decide +kernel
theorem d_S_copyOf_5 : decode b_S_copyOf 5 = .ok (.iload_n 1, 1) := by decide +kernel
theorem d_S_copyOf_6 : decode b_S_copyOf 6 = .ok (.invokevirtual 68, 3) := by decide +kernel
theorem d_S_copyOf_9 : decode b_S_copyOf 9 = .ok (.aload_n 0, 1) := by decide +kernel
theorem d_S_copyOf_10 : decode b_S_copyOf 10 = .ok (.iload_n 2, 1) := by decide +kernel
theorem d_S_copyOf_11 : decode b_S_copyOf 11 = .ok (.invokevirtual 116, 3) := by decide +kernel
theorem d_S_copyOf_14 : decode b_S_copyOf 14 = .ok (.aload_n 0, 1) := by decide +kernel
theorem d_S_copyOf_15 : decode b_S_copyOf 15 = .ok (.iload_n 1, 1) := by decide +kernel
theorem d_S_copyOf_16 : decode b_S_copyOf 16 = .ok (.iload_n 2, 1) := by decide +kernel
theorem d_S_copyOf_17 : decode b_S_copyOf 17 = .ok (.invokevirtual 75, 3) := by decide +kernel
theorem d_S_copyOf_20 : decode b_S_copyOf 20 = .ok (.ireturn, 1) := by decide +kernel
theorem d_S_places_0 : decode b_S_places 0 = .ok (.aload_n 0, 1) := by decide +kernel
theorem d_S_places_1 : decode b_S_places 1 = .ok (.invokevirtual 28, 3) := by decide +kernel
theorem d_S_places_4 : decode b_S_places 4 = .ok (.iconst 0, 1) := by decide +kernel
theorem d_S_places_5 : decode b_S_places 5 = .ok (.istore_n 1, 1) := by decide +kernel
theorem d_S_places_6 : decode b_S_places 6 = .ok (.iconst 0, 1) := by decide +kernel
theorem d_S_places_7 : decode b_S_places 7 = .ok (.istore_n 2, 1) := by decide +kernel
theorem d_S_places_8 : decode b_S_places 8 = .ok (.iload_n 2, 1) := by decide +kernel
theorem d_S_places_9 : decode b_S_places 9 = .ok (.iconst 3, 1) := by decide +kernel
theorem d_S_places_10 : decode b_S_places 10 = .ok (.if_icmp .ge 23, 3) := by decide +kernel
theorem d_S_places_13 : decode b_S_places 13 = .ok (.aload_n 0, 1) := by decide +kernel
theorem d_S_places_14 : decode b_S_places 14 = .ok (.iload_n 2, 1) := by decide +kernel
theorem d_S_places_15 : decode b_S_places 15 = .ok (.invokevirtual 119, 3) := by decide +kernel
theorem d_S_places_18 : decode b_S_places 18 = .ok (.ifCond .eq 9, 3) := by decide +kernel
theorem d_S_places_21 : decode b_S_places 21 = .ok (.iload_n 1, 1) := by decide +kernel
theorem d_S_places_22 : decode b_S_places 22 = .ok (.iconst 1, 1) := by decide +kernel
theorem d_S_places_23 : decode b_S_places 23 = .ok (.iload_n 2, 1) := by decide +kernel
theorem d_S_places_24 : decode b_S_places 24 = .ok (.ishl, 1) := by decide +kernel
theorem d_S_places_25 : decode b_S_places 25 = .ok (.iadd, 1) := by decide +kernel
theorem d_S_places_26 : decode b_S_places 26 = .ok (.istore_n 1, 1) := by decide +kernel
theorem d_S_places_27 : decode b_S_places 27 = .ok (.iinc 2 1, 3) := by decide +kernel
theorem d_S_places_30 : decode b_S_places 30 = .ok (.goto (-22), 3) := by decide +kernel
theorem d_S_places_33 : decode b_S_places 33 = .ok (.iload_n 1, 1) := by decide +kernel
theorem d_S_places_34 : decode b_S_places 34 = .ok (.ireturn, 1) := by decide +kernel
theorem d_S_changed_0 : decode b_S_changed 0 = .ok (.aload_n 0, 1) := by decide +kernel
theorem d_S_changed_1 : decode b_S_changed 1 = .ok (.invokevirtual 28, 3) := by decide +kernel
theorem d_S_changed_4 : decode b_S_changed 4 = .ok (.aload_n 0, 1) := by decide +kernel
theorem d_S_changed_5 : decode b_S_changed 5 = .ok (.iload_n 1, 1) := by decide +kernel
theorem d_S_changed_6 : decode b_S_changed 6 = .ok (.invokevirtual 68, 3) := by decide +kernel
theorem d_S_changed_9 : decode b_S_changed 9 = .ok (.iconst 0, 1) := by decide +kernel
theorem d_S_changed_10 : decode b_S_changed 10 = .ok (.istore_n 2, 1) := by decide +kernel
theorem d_S_changed_11 : decode b_S_changed 11 = .ok (.iconst 0, 1) := by decide +kernel
theorem d_S_changed_12 : decode b_S_changed 12 = .ok (.istore_n 3, 1) := by decide +kernel
theorem d_S_changed_13 : decode b_S_changed 13 = .ok (.iload_n 3, 1) := by decide +kernel
theorem d_S_changed_14 : decode b_S_changed 14 = .ok (.bipush 6, 2) := by decide +kernel
theorem d_S_changed_16 : decode b_S_changed 16 = .ok (.if_icmp .ge 21, 3) := by decide +kernel
theorem d_S_changed_19 : decode b_S_changed 19 = .ok (.aload_n 0, 1) := by decide +kernel
theorem d_S_changed_20 : decode b_S_changed 20 = .ok (.iload_n 1, 1) := by decide +kernel
theorem d_S_changed_21 : decode b_S_changed 21 = .ok (.iload_n 3, 1) := by decide +kernel
theorem d_S_changed_22 : decode b_S_changed 22 = .ok (.invokevirtual 123, 3) := by decide +kernel
theorem d_S_changed_25 : decode b_S_changed 25 = .ok (.ifCond .eq 6, 3) := by decide +kernel
theorem d_S_changed_28 : decode b_S_changed 28 = .ok (.iinc 2 1, 3) := by decide +kernel
theorem d_S_changed_31 : decode b_S_changed 31 = .ok (.iinc 3 1, 3) := by decide +kernel
theorem d_S_changed_34 : decode b_S_changed 34 = .ok (.goto (-21), 3) := by decide +kernel
theorem d_S_changed_37 : decode b_S_changed 37 = .ok (.iload_n 2, 1) := by decide +kernel
theorem d_S_changed_38 : decode b_S_changed 38 = .ok (.ireturn, 1) := by decide +kernel
theorem d_S_clearAll_0 : decode b_S_clearAll 0 = .ok (.iconst 0, 1) := by decide +kernel
theorem d_S_clearAll_1 : decode b_S_clearAll 1 = .ok (.istore_n 1, 1) := by decide +kernel
theorem d_S_clearAll_2 : decode b_S_clearAll 2 = .ok (.iload_n 1, 1) := by decide +kernel
theorem d_S_clearAll_3 : decode b_S_clearAll 3 = .ok (.bipush 24, 2) := by decide +kernel
theorem d_S_clearAll_5 : decode b_S_clearAll 5 = .ok (.if_icmp .ge 16, 3) := by decide +kernel
theorem d_S_clearAll_8 : decode b_S_clearAll 8 = .ok (.aload_n 0, 1) := by decide +kernel
theorem d_S_clearAll_9 : decode b_S_clearAll 9 = .ok (.getfield 9, 3) := by decide +kernel
theorem d_S_clearAll_12 : decode b_S_clearAll 12 = .ok (.iload_n 1, 1) := by decide +kernel
theorem d_S_clearAll_13 : decode b_S_clearAll 13 = .ok (.iconst 0, 1) := by decide +kernel
theorem d_S_clearAll_14 : decode b_S_clearAll 14 = .ok (.iastore, 1) := by decide +kernel
theorem d_S_clearAll_15 : decode b_S_clearAll 15 = .ok (.iinc 1 1, 3) := by decide +kernel
theorem d_S_clearAll_18 : decode b_S_clearAll 18 = .ok (.goto (-16), 3) := by decide +kernel
theorem d_S_clearAll_21 : decode b_S_clearAll 21 = .ok (.iconst 0, 1) := by decide +kernel
theorem d_S_clearAll_22 : decode b_S_clearAll 22 = .ok (.istore_n 1, 1) := by decide +kernel
theorem d_S_clearAll_23 : decode b_S_clearAll 23 = .ok (.iload_n 1, 1) := by decide +kernel
theorem d_S_clearAll_24 : decode b_S_clearAll 24 = .ok (.bipush 36, 2) := by decide +kernel
theorem d_S_clearAll_26 : decode b_S_clearAll 26 = .ok (.if_icmp .ge 16, 3) := by decide +kernel
theorem d_S_clearAll_29 : decode b_S_clearAll 29 = .ok (.aload_n 0, 1) := by decide +kernel
theorem d_S_clearAll_30 : decode b_S_clearAll 30 = .ok (.getfield 13, 3) := by decide +kernel
theorem d_S_clearAll_33 : decode b_S_clearAll 33 = .ok (.iload_n 1, 1) := by decide +kernel
theorem d_S_clearAll_34 : decode b_S_clearAll 34 = .ok (.iconst 0, 1) := by decide +kernel
theorem d_S_clearAll_35 : decode b_S_clearAll 35 = .ok (.iastore, 1) := by decide +kernel
theorem d_S_clearAll_36 : decode b_S_clearAll 36 = .ok (.iinc 1 1, 3) := by decide +kernel
theorem d_S_clearAll_39 : decode b_S_clearAll 39 = .ok (.goto (-16), 3) := by decide +kernel
theorem d_S_clearAll_42 : decode b_S_clearAll 42 = .ok (.iconst 0, 1) := by decide +kernel
theorem d_S_clearAll_43 : decode b_S_clearAll 43 = .ok (.istore_n 1, 1) := by decide +kernel
theorem d_S_clearAll_44 : decode b_S_clearAll 44 = .ok (.iload_n 1, 1) := by decide +kernel
theorem d_S_clearAll_45 : decode b_S_clearAll 45 = .ok (.bipush 9, 2) := by decide +kernel
theorem d_S_clearAll_47 : decode b_S_clearAll 47 = .ok (.if_icmp .ge 23, 3) := by decide +kernel
theorem d_S_clearAll_50 : decode b_S_clearAll 50 = .ok (.aload_n 0, 1) := by decide +kernel
theorem d_S_clearAll_51 : decode b_S_clearAll 51 = .ok (.getfield 16, 3) := by decide +kernel
theorem d_S_clearAll_54 : decode b_S_clearAll 54 = .ok (.iload_n 1, 1) := by decide +kernel
theorem d_S_clearAll_55 : decode b_S_clearAll 55 = .ok (.iconst (-1), 1) := by decide +kernel
theorem d_S_clearAll_56 : decode b_S_clearAll 56 = .ok (.iastore, 1) := by decide +kernel
theorem d_S_clearAll_57 : decode b_S_clearAll 57 = .ok (.aload_n 0, 1) := by decide +kernel
theorem d_S_clearAll_58 : decode b_S_clearAll 58 = .ok (.getfield 19, 3) := by decide +kernel
theorem d_S_clearAll_61 : decode b_S_clearAll 61 = .ok (.iload_n 1, 1) := by decide +kernel
theorem d_S_clearAll_62 : decode b_S_clearAll 62 = .ok (.iconst 0, 1) := by decide +kernel
theorem d_S_clearAll_63 : decode b_S_clearAll 63 = .ok (.iastore, 1) := by decide +kernel
theorem d_S_clearAll_64 : decode b_S_clearAll 64 = .ok (.iinc 1 1, 3) := by decide +kernel
theorem d_S_clearAll_67 : decode b_S_clearAll 67 = .ok (.goto (-23), 3) := by decide +kernel
theorem d_S_clearAll_70 : decode b_S_clearAll 70 = .ok (.iconst 0, 1) := by decide +kernel
theorem d_S_clearAll_71 : decode b_S_clearAll 71 = .ok (.istore_n 1, 1) := by decide +kernel
theorem d_S_clearAll_72 : decode b_S_clearAll 72 = .ok (.iload_n 1, 1) := by decide +kernel
theorem d_S_clearAll_73 : decode b_S_clearAll 73 = .ok (.iconst 3, 1) := by decide +kernel
theorem d_S_clearAll_74 : decode b_S_clearAll 74 = .ok (.if_icmp .ge 16, 3) := by decide +kernel
theorem d_S_clearAll_77 : decode b_S_clearAll 77 = .ok (.aload_n 0, 1) := by decide +kernel
theorem d_S_clearAll_78 : decode b_S_clearAll 78 = .ok (.getfield 22, 3) := by decide +kernel
theorem d_S_clearAll_81 : decode b_S_clearAll 81 = .ok (.iload_n 1, 1) := by decide +kernel
theorem d_S_clearAll_82 : decode b_S_clearAll 82 = .ok (.iconst 0, 1) := by decide +kernel
theorem d_S_clearAll_83 : decode b_S_clearAll 83 = .ok (.iastore, 1) := by decide +kernel
theorem d_S_clearAll_84 : decode b_S_clearAll 84 = .ok (.iinc 1 1, 3) := by decide +kernel
theorem d_S_clearAll_87 : decode b_S_clearAll 87 = .ok (.goto (-15), 3) := by decide +kernel
theorem d_S_clearAll_90 : decode b_S_clearAll 90 = .ok (.aload_n 0, 1) := by decide +kernel
theorem d_S_clearAll_91 : decode b_S_clearAll 91 = .ok (.iconst 0, 1) := by decide +kernel
theorem d_S_clearAll_92 : decode b_S_clearAll 92 = .ok (.putfield 107, 3) := by decide +kernel
theorem d_S_clearAll_95 : decode b_S_clearAll 95 = .ok (.aload_n 0, 1) := by decide +kernel
theorem d_S_clearAll_96 : decode b_S_clearAll 96 = .ok (.iconst 0, 1) := by decide +kernel
theorem d_S_clearAll_97 : decode b_S_clearAll 97 = .ok (.putfield 127, 3) := by decide +kernel
theorem d_S_clearAll_100 : decode b_S_clearAll 100 = .ok (.aload_n 0, 1) := by decide +kernel
theorem d_S_clearAll_101 : decode b_S_clearAll 101 = .ok (.iconst 0, 1) := by decide +kernel
theorem d_S_clearAll_102 : decode b_S_clearAll 102 = .ok (.putfield 61, 3) := by decide +kernel
theorem d_S_clearAll_105 : decode b_S_clearAll 105 = .ok (.aload_n 0, 1) := by decide +kernel
theorem d_S_clearAll_106 : decode b_S_clearAll 106 = .ok (.iconst (-1), 1) := by decide +kernel
theorem d_S_clearAll_107 : decode b_S_clearAll 107 = .ok (.putfield 102, 3) := by decide +kernel
theorem d_S_clearAll_110 : decode b_S_clearAll 110 = .ok (.aload_n 0, 1) := by decide +kernel
theorem d_S_clearAll_111 : decode b_S_clearAll 111 = .ok (.iconst 0, 1) := by decide +kernel
theorem d_S_clearAll_112 : decode b_S_clearAll 112 = .ok (.putfield 98, 3) := by decide +kernel
theorem d_S_clearAll_115 : decode b_S_clearAll 115 = .ok (.aload_n 0, 1) := by decide +kernel
theorem d_S_clearAll_116 : decode b_S_clearAll 116 = .ok (.iconst 0, 1) := by decide +kernel
theorem d_S_clearAll_117 : decode b_S_clearAll 117 = .ok (.putfield 110, 3) := by decide +kernel
theorem d_S_clearAll_120 : decode b_S_clearAll 120 = .ok (.return_, 1) := by decide +kernel
theorem d_S_requireUp_0 : decode b_S_requireUp 0 = .ok (.aload_n 0, 1) := by decide +kernel
theorem d_S_requireUp_1 : decode b_S_requireUp 1 = .ok (.getfield 98, 3) := by decide +kernel
theorem d_S_requireUp_4 : decode b_S_requireUp 4 = .ok (.ifCond .eq 13, 3) := by decide +kernel
theorem d_S_requireUp_7 : decode b_S_requireUp 7 = .ok (.new 130, 3) := by decide +kernel
theorem d_S_requireUp_10 : decode b_S_requireUp 10 = .ok (.dup, 1) := by decide +kernel
theorem d_S_requireUp_11 : decode b_S_requireUp 11 = .ok (.ldc 132, 2) := by decide +kernel
theorem d_S_requireUp_13 : decode b_S_requireUp 13 = .ok (.invokespecial 134, 3) := by decide +kernel
theorem d_S_requireUp_16 : decode b_S_requireUp 16 = .ok (.athrow, 1) := by decide +kernel
theorem d_S_requireUp_17 : decode b_S_requireUp 17 = .ok (.return_, 1) := by decide +kernel
theorem d_S_requireSnapshot_0 : decode b_S_requireSnapshot 0 = .ok (.aload_n 0, 1) := by decide +kernel
theorem d_S_requireSnapshot_1 : decode b_S_requireSnapshot 1 = .ok (.iload_n 1, 1) := by decide +kernel
theorem d_S_requireSnapshot_2 : decode b_S_requireSnapshot 2 = .ok (.invokevirtual 119, 3) := by decide +kernel
theorem d_S_requireSnapshot_5 : decode b_S_requireSnapshot 5 = .ok (.ifCond .ne 13, 3) := by decide +kernel
theorem d_S_requireSnapshot_8 : decode b_S_requireSnapshot 8 = .ok (.new 135, 3) := by decide +kernel
theorem d_S_requireSnapshot_11 : decode b_S_requireSnapshot 11 = .ok (.dup, 1) := by decide +kernel
theorem d_S_requireSnapshot_12 : decode b_S_requireSnapshot 12 = .ok (.ldc 137, 2) := by decide +kernel
theorem d_S_requireSnapshot_14 : decode b_S_requireSnapshot 14 = .ok (.invokespecial 139, 3) := by decide +kernel
theorem d_S_requireSnapshot_17 : decode b_S_requireSnapshot 17 = .ok (.athrow, 1) := by decide +kernel
theorem d_S_requireSnapshot_18 : decode b_S_requireSnapshot 18 = .ok (.return_, 1) := by decide +kernel
theorem d_S_requireBlock_0 : decode b_S_requireBlock 0 = .ok (.iload_n 1, 1) := by decide +kernel
theorem d_S_requireBlock_1 : decode b_S_requireBlock 1 = .ok (.ifCond .lt 9, 3) := by decide +kernel
theorem d_S_requireBlock_4 : decode b_S_requireBlock 4 = .ok (.iload_n 1, 1) := by decide +kernel
theorem d_S_requireBlock_5 : decode b_S_requireBlock 5 = .ok (.bipush 6, 2) := by decide +kernel
theorem d_S_requireBlock_7 : decode b_S_requireBlock 7 = .ok (.if_icmp .lt 13, 3) := by decide +kernel
theorem d_S_requireBlock_10 : decode b_S_requireBlock 10 = .ok (.new 140, 3) := by decide +kernel
theorem d_S_requireBlock_13 : decode b_S_requireBlock 13 = .ok (.dup, 1) := by decide +kernel
theorem d_S_requireBlock_14 : decode b_S_requireBlock 14 = .ok (.ldc 142, 2) := by decide +kernel
theorem d_S_requireBlock_16 : decode b_S_requireBlock 16 = .ok (.invokespecial 144, 3) := by decide +kernel
theorem d_S_requireBlock_19 : decode b_S_requireBlock 19 = .ok (.athrow, 1) := by decide +kernel
theorem d_S_requireBlock_20 : decode b_S_requireBlock 20 = .ok (.return_, 1) := by decide +kernel
theorem d_S_requireWord_0 : decode b_S_requireWord 0 = .ok (.aload_n 0, 1) := by decide +kernel
theorem d_S_requireWord_1 : decode b_S_requireWord 1 = .ok (.iload_n 1, 1) := by decide +kernel
theorem d_S_requireWord_2 : decode b_S_requireWord 2 = .ok (.invokevirtual 116, 3) := by decide +kernel
theorem d_S_requireWord_5 : decode b_S_requireWord 5 = .ok (.iload_n 2, 1) := by decide +kernel
theorem d_S_requireWord_6 : decode b_S_requireWord 6 = .ok (.ifCond .lt 8, 3) := by decide +kernel
theorem d_S_requireWord_9 : decode b_S_requireWord 9 = .ok (.iload_n 2, 1) := by decide +kernel
theorem d_S_requireWord_10 : decode b_S_requireWord 10 = .ok (.iconst 4, 1) := by decide +kernel
theorem d_S_requireWord_11 : decode b_S_requireWord 11 = .ok (.if_icmp .lt 13, 3) := by decide +kernel
theorem d_S_requireWord_14 : decode b_S_requireWord 14 = .ok (.new 140, 3) := by decide +kernel
theorem d_S_requireWord_17 : decode b_S_requireWord 17 = .ok (.dup, 1) := by decide +kernel
theorem d_S_requireWord_18 : decode b_S_requireWord 18 = .ok (.ldc 145, 2) := by decide +kernel
theorem d_S_requireWord_20 : decode b_S_requireWord 20 = .ok (.invokespecial 144, 3) := by decide +kernel
theorem d_S_requireWord_23 : decode b_S_requireWord 23 = .ok (.athrow, 1) := by decide +kernel
theorem d_S_requireWord_24 : decode b_S_requireWord 24 = .ok (.return_, 1) := by decide +kernel
theorem d_S_requireFree_0 : decode b_S_requireFree 0 = .ok (.aload_n 0, 1) := by decide +kernel
theorem d_S_requireFree_1 : decode b_S_requireFree 1 = .ok (.invokevirtual 113, 3) := by decide +kernel
theorem d_S_requireFree_4 : decode b_S_requireFree 4 = .ok (.iload_n 1, 1) := by decide +kernel
theorem d_S_requireFree_5 : decode b_S_requireFree 5 = .ok (.if_icmp .ge 13, 3) := by decide +kernel
theorem d_S_requireFree_8 : decode b_S_requireFree 8 = .ok (.new 54, 3) := by decide +kernel
theorem d_S_requireFree_11 : decode b_S_requireFree 11 = .ok (.dup, 1) := by decide +kernel
theorem d_S_requireFree_12 : decode b_S_requireFree 12 = .ok (.ldc 147, 2) := by decide +kernel
theorem d_S_requireFree_14 : decode b_S_requireFree 14 = .ok (.invokespecial 58, 3) := by decide +kernel
theorem d_S_requireFree_17 : decode b_S_requireFree 17 = .ok (.athrow, 1) := by decide +kernel
theorem d_S_requireFree_18 : decode b_S_requireFree 18 = .ok (.return_, 1) := by decide +kernel
theorem d_S_hasSnapshot_0 : decode b_S_hasSnapshot 0 = .ok (.iload_n 1, 1) := by decide +kernel
theorem d_S_hasSnapshot_1 : decode b_S_hasSnapshot 1 = .ok (.ifCond .lt 21, 3) := by decide +kernel
theorem d_S_hasSnapshot_4 : decode b_S_hasSnapshot 4 = .ok (.iload_n 1, 1) := by decide +kernel
theorem d_S_hasSnapshot_5 : decode b_S_hasSnapshot 5 = .ok (.iconst 3, 1) := by decide +kernel
theorem d_S_hasSnapshot_6 : decode b_S_hasSnapshot 6 = .ok (.if_icmp .ge 16, 3) := by decide +kernel
theorem d_S_hasSnapshot_9 : decode b_S_hasSnapshot 9 = .ok (.aload_n 0, 1) := by decide +kernel
theorem d_S_hasSnapshot_10 : decode b_S_hasSnapshot 10 = .ok (.getfield 22, 3) := by decide +kernel
theorem d_S_hasSnapshot_13 : decode b_S_hasSnapshot 13 = .ok (.iload_n 1, 1) := by decide +kernel
theorem d_S_hasSnapshot_14 : decode b_S_hasSnapshot 14 = .ok (.iaload, 1) := by decide +kernel
theorem d_S_hasSnapshot_15 : decode b_S_hasSnapshot 15 = .ok (.ifCond .eq 7, 3) := by decide +kernel
theorem d_S_hasSnapshot_18 : decode b_S_hasSnapshot 18 = .ok (.iconst 1, 1) := by decide +kernel
theorem d_S_hasSnapshot_19 : decode b_S_hasSnapshot 19 = .ok (.goto 4, 3) := by decide +kernel
theorem d_S_hasSnapshot_22 : decode b_S_hasSnapshot 22 = .ok (.iconst 0, 1) := by decide +kernel
theorem d_S_hasSnapshot_23 : decode b_S_hasSnapshot 23 = .ok (.ireturn, 1) := by decide +kernel
theorem d_S_lowestEmptyPlace_0 : decode b_S_lowestEmptyPlace 0 = .ok (.iconst 0, 1) := by decide +kernel
theorem d_S_lowestEmptyPlace_1 : decode b_S_lowestEmptyPlace 1 = .ok (.istore_n 1, 1) := by decide +kernel
theorem d_S_lowestEmptyPlace_2 : decode b_S_lowestEmptyPlace 2 = .ok (.iload_n 1, 1) := by decide +kernel
theorem d_S_lowestEmptyPlace_3 : decode b_S_lowestEmptyPlace 3 = .ok (.iconst 3, 1) := by decide +kernel
theorem d_S_lowestEmptyPlace_4 : decode b_S_lowestEmptyPlace 4 = .ok (.if_icmp .ge 19, 3) := by decide +kernel
theorem d_S_lowestEmptyPlace_7 : decode b_S_lowestEmptyPlace 7 = .ok (.aload_n 0, 1) := by decide +kernel
theorem d_S_lowestEmptyPlace_8 : decode b_S_lowestEmptyPlace 8 = .ok (.iload_n 1, 1) := by decide +kernel
theorem d_S_lowestEmptyPlace_9 : decode b_S_lowestEmptyPlace 9 = .ok (.invokevirtual 119, 3) := by decide +kernel
theorem d_S_lowestEmptyPlace_12 : decode b_S_lowestEmptyPlace 12 = .ok (.ifCond .ne 5, 3) := by decide +kernel
theorem d_S_lowestEmptyPlace_15 : decode b_S_lowestEmptyPlace 15 = .ok (.iload_n 1, 1) := by decide +kernel
theorem d_S_lowestEmptyPlace_16 : decode b_S_lowestEmptyPlace 16 = .ok (.ireturn, 1) := by decide +kernel
theorem d_S_lowestEmptyPlace_17 : decode b_S_lowestEmptyPlace 17 = .ok (.iinc 1 1, 3) := by decide +kernel
theorem d_S_lowestEmptyPlace_20 : decode b_S_lowestEmptyPlace 20 = .ok (.goto (-18), 3) := by decide +kernel
theorem d_S_lowestEmptyPlace_23 : decode b_S_lowestEmptyPlace 23 = .ok (.iconst (-1), 1) := by decide +kernel
theorem d_S_lowestEmptyPlace_24 : decode b_S_lowestEmptyPlace 24 = .ok (.ireturn, 1) := by decide +kernel
theorem d_S_isFree_0 : decode b_S_isFree 0 = .ok (.iconst 0, 1) := by decide +kernel
theorem d_S_isFree_1 : decode b_S_isFree 1 = .ok (.istore_n 2, 1) := by decide +kernel
theorem d_S_isFree_2 : decode b_S_isFree 2 = .ok (.iload_n 2, 1) := by decide +kernel
theorem d_S_isFree_3 : decode b_S_isFree 3 = .ok (.iconst 3, 1) := by decide +kernel
theorem d_S_isFree_4 : decode b_S_isFree 4 = .ok (.if_icmp .ge 26, 3) := by decide +kernel
theorem d_S_isFree_7 : decode b_S_isFree 7 = .ok (.aload_n 0, 1) := by decide +kernel
theorem d_S_isFree_8 : decode b_S_isFree 8 = .ok (.getfield 16, 3) := by decide +kernel
theorem d_S_isFree_11 : decode b_S_isFree 11 = .ok (.iload_n 1, 1) := by decide +kernel
theorem d_S_isFree_12 : decode b_S_isFree 12 = .ok (.iaload, 1) := by decide +kernel
theorem d_S_isFree_13 : decode b_S_isFree 13 = .ok (.aload_n 0, 1) := by decide +kernel
theorem d_S_isFree_14 : decode b_S_isFree 14 = .ok (.getfield 22, 3) := by decide +kernel
theorem d_S_isFree_17 : decode b_S_isFree 17 = .ok (.iload_n 2, 1) := by decide +kernel
theorem d_S_isFree_18 : decode b_S_isFree 18 = .ok (.iaload, 1) := by decide +kernel
