theorem d_M_init_0 : decode b_M_init 0 = .ok (.aload_n 0, 1) := by decide +kernel
theorem d_M_init_1 : decode b_M_init 1 = .ok (.invokespecial 1, 3) := by decide +kernel
theorem d_M_init_4 : decode b_M_init 4 = .ok (.aload_n 0, 1) := by decide +kernel
theorem d_M_init_5 : decode b_M_init 5 = .ok (.iconst (-1), 1) := by decide +kernel
theorem d_M_init_6 : decode b_M_init 6 = .ok (.putfield 7, 3) := by decide +kernel
theorem d_M_init_9 : decode b_M_init 9 = .ok (.aload_n 0, 1) := by decide +kernel
theorem d_M_init_10 : decode b_M_init 10 = .ok (.bipush 24, 2) := by decide +kernel
theorem d_M_init_12 : decode b_M_init 12 = .ok (.newarray .int, 2) := by decide +kernel
theorem d_M_init_14 : decode b_M_init 14 = .ok (.putfield 13, 3) := by decide +kernel
theorem d_M_init_17 : decode b_M_init 17 = .ok (.aload_n 0, 1) := by decide +kernel
theorem d_M_init_18 : decode b_M_init 18 = .ok (.bipush 72, 2) := by decide +kernel
theorem d_M_init_20 : decode b_M_init 20 = .ok (.newarray .int, 2) := by decide +kernel
theorem d_M_init_22 : decode b_M_init 22 = .ok (.putfield 17, 3) := by decide +kernel
theorem d_M_init_25 : decode b_M_init 25 = .ok (.aload_n 0, 1) := by decide +kernel
theorem d_M_init_26 : decode b_M_init 26 = .ok (.iconst 3, 1) := by decide +kernel
theorem d_M_init_27 : decode b_M_init 27 = .ok (.newarray .boolean, 2) := by decide +kernel
theorem d_M_init_29 : decode b_M_init 29 = .ok (.putfield 20, 3) := by decide +kernel
theorem d_M_init_32 : decode b_M_init 32 = .ok (.aload_n 0, 1) := by decide +kernel
theorem d_M_init_33 : decode b_M_init 33 = .ok (.bipush 18, 2) := by decide +kernel
theorem d_M_init_35 : decode b_M_init 35 = .ok (.newarray .int, 2) := by decide +kernel
theorem d_M_init_37 : decode b_M_init 37 = .ok (.putfield 24, 3) := by decide +kernel
theorem d_M_init_40 : decode b_M_init 40 = .ok (.return_, 1) := by decide +kernel
theorem d_M_thrown_0 : decode b_M_thrown 0 = .ok (.aload_n 0, 1) := by decide +kernel
theorem d_M_thrown_1 : decode b_M_thrown 1 = .ok (.getfield 27, 3) := by decide +kernel
theorem d_M_thrown_4 : decode b_M_thrown 4 = .ok (.ireturn, 1) := by decide +kernel
theorem d_M_format_0 : decode b_M_format 0 = .ok (.aload_n 0, 1) := by decide +kernel
theorem d_M_format_1 : decode b_M_format 1 = .ok (.iconst 0, 1) := by decide +kernel
theorem d_M_format_2 : decode b_M_format 2 = .ok (.putfield 27, 3) := by decide +kernel
theorem d_M_format_5 : decode b_M_format 5 = .ok (.iconst 0, 1) := by decide +kernel
theorem d_M_format_6 : decode b_M_format 6 = .ok (.istore_n 1, 1) := by decide +kernel
theorem d_M_format_7 : decode b_M_format 7 = .ok (.iload_n 1, 1) := by decide +kernel
theorem d_M_format_8 : decode b_M_format 8 = .ok (.bipush 24, 2) := by decide +kernel
theorem d_M_format_10 : decode b_M_format 10 = .ok (.if_icmp .ge 16, 3) := by decide +kernel
theorem d_M_format_13 : decode b_M_format 13 = .ok (.aload_n 0, 1) := by decide +kernel
theorem d_M_format_14 : decode b_M_format 14 = .ok (.getfield 13, 3) := by decide +kernel
theorem d_M_format_17 : decode b_M_format 17 = .ok (.iload_n 1, 1) := by decide +kernel
theorem d_M_format_18 : decode b_M_format 18 = .ok (.iconst 0, 1) := by decide +kernel
theorem d_M_format_19 : decode b_M_format 19 = .ok (.iastore, 1) := by decide +kernel
theorem d_M_format_20 : decode b_M_format 20 = .ok (.iinc 1 1, 3) := by decide +kernel
theorem d_M_format_23 : decode b_M_format 23 = .ok (.goto (-16), 3) := by decide +kernel
theorem d_M_format_26 : decode b_M_format 26 = .ok (.iconst 0, 1) := by decide +kernel
theorem d_M_format_27 : decode b_M_format 27 = .ok (.istore_n 1, 1) := by decide +kernel
theorem d_M_format_28 : decode b_M_format 28 = .ok (.iload_n 1, 1) := by decide +kernel
theorem d_M_format_29 : decode b_M_format 29 = .ok (.iconst 3, 1) := by decide +kernel
theorem d_M_format_30 : decode b_M_format 30 = .ok (.if_icmp .ge 16, 3) := by decide +kernel
theorem d_M_format_33 : decode b_M_format 33 = .ok (.aload_n 0, 1) := by decide +kernel
theorem d_M_format_34 : decode b_M_format 34 = .ok (.getfield 20, 3) := by decide +kernel
theorem d_M_format_37 : decode b_M_format 37 = .ok (.iload_n 1, 1) := by decide +kernel
theorem d_M_format_38 : decode b_M_format 38 = .ok (.iconst 0, 1) := by decide +kernel
theorem d_M_format_39 : decode b_M_format 39 = .ok (.bastore, 1) := by decide +kernel
theorem d_M_format_40 : decode b_M_format 40 = .ok (.iinc 1 1, 3) := by decide +kernel
theorem d_M_format_43 : decode b_M_format 43 = .ok (.goto (-15), 3) := by decide +kernel
theorem d_M_format_46 : decode b_M_format 46 = .ok (.aload_n 0, 1) := by decide +kernel
theorem d_M_format_47 : decode b_M_format 47 = .ok (.iconst 0, 1) := by decide +kernel
theorem d_M_format_48 : decode b_M_format 48 = .ok (.putfield 30, 3) := by decide +kernel
theorem d_M_format_51 : decode b_M_format 51 = .ok (.aload_n 0, 1) := by decide +kernel
theorem d_M_format_52 : decode b_M_format 52 = .ok (.iconst (-1), 1) := by decide +kernel
theorem d_M_format_53 : decode b_M_format 53 = .ok (.putfield 7, 3) := by decide +kernel
theorem d_M_format_56 : decode b_M_format 56 = .ok (.aload_n 0, 1) := by decide +kernel
theorem d_M_format_57 : decode b_M_format 57 = .ok (.iconst 0, 1) := by decide +kernel
theorem d_M_format_58 : decode b_M_format 58 = .ok (.putfield 33, 3) := by decide +kernel
theorem d_M_format_61 : decode b_M_format 61 = .ok (.aload_n 0, 1) := by decide +kernel
theorem d_M_format_62 : decode b_M_format 62 = .ok (.iconst 0, 1) := by decide +kernel
theorem d_M_format_63 : decode b_M_format 63 = .ok (.putfield 37, 3) := by decide +kernel
theorem d_M_format_66 : decode b_M_format 66 = .ok (.return_, 1) := by decide +kernel
theorem d_M_within_0 : decode b_M_within 0 = .ok (.iload_n 0, 1) := by decide +kernel
theorem d_M_within_1 : decode b_M_within 1 = .ok (.iload_n 1, 1) := by decide +kernel
theorem d_M_within_2 : decode b_M_within 2 = .ok (.if_icmp .lt 12, 3) := by decide +kernel
theorem d_M_within_5 : decode b_M_within 5 = .ok (.iload_n 0, 1) := by decide +kernel
theorem d_M_within_6 : decode b_M_within 6 = .ok (.iload_n 2, 1) := by decide +kernel
theorem d_M_within_7 : decode b_M_within 7 = .ok (.if_icmp .gt 7, 3) := by decide +kernel
theorem d_M_within_10 : decode b_M_within 10 = .ok (.iconst 1, 1) := by decide +kernel
theorem d_M_within_11 : decode b_M_within 11 = .ok (.goto 4, 3) := by decide +kernel
theorem d_M_within_14 : decode b_M_within 14 = .ok (.iconst 0, 1) := by decide +kernel
theorem d_M_within_15 : decode b_M_within 15 = .ok (.ireturn, 1) := by decide +kernel
theorem d_M_isSnapshot_0 : decode b_M_isSnapshot 0 = .ok (.iload_n 1, 1) := by decide +kernel
theorem d_M_isSnapshot_1 : decode b_M_isSnapshot 1 = .ok (.iconst 0, 1) := by decide +kernel
theorem d_M_isSnapshot_2 : decode b_M_isSnapshot 2 = .ok (.iconst 2, 1) := by decide +kernel
theorem d_M_isSnapshot_3 : decode b_M_isSnapshot 3 = .ok (.invokestatic 40, 3) := by decide +kernel
theorem d_M_isSnapshot_6 : decode b_M_isSnapshot 6 = .ok (.ifCond .eq 16, 3) := by decide +kernel
theorem d_M_isSnapshot_9 : decode b_M_isSnapshot 9 = .ok (.aload_n 0, 1) := by decide +kernel
theorem d_M_isSnapshot_10 : decode b_M_isSnapshot 10 = .ok (.getfield 20, 3) := by decide +kernel
theorem d_M_isSnapshot_13 : decode b_M_isSnapshot 13 = .ok (.iload_n 1, 1) := by decide +kernel
theorem d_M_isSnapshot_14 : decode b_M_isSnapshot 14 = .ok (.baload, 1) := by decide +kernel
theorem d_M_isSnapshot_15 : decode b_M_isSnapshot 15 = .ok (.ifCond .eq 7, 3) := by decide +kernel
theorem d_M_isSnapshot_18 : decode b_M_isSnapshot 18 = .ok (.iconst 1, 1) := by decide +kernel
theorem d_M_isSnapshot_19 : decode b_M_isSnapshot 19 = .ok (.goto 4, 3) := by decide +kernel
theorem d_M_isSnapshot_22 : decode b_M_isSnapshot 22 = .ok (.iconst 0, 1) := by decide +kernel
theorem d_M_isSnapshot_23 : decode b_M_isSnapshot 23 = .ok (.ireturn, 1) := by decide +kernel
theorem d_M_isWord_0 : decode b_M_isWord 0 = .ok (.iload_n 0, 1) := by decide +kernel
theorem d_M_isWord_1 : decode b_M_isWord 1 = .ok (.iconst 0, 1) := by decide +kernel
theorem d_M_isWord_2 : decode b_M_isWord 2 = .ok (.iconst 5, 1) := by decide +kernel
theorem d_M_isWord_3 : decode b_M_isWord 3 = .ok (.invokestatic 40, 3) := by decide +kernel
theorem d_M_isWord_6 : decode b_M_isWord 6 = .ok (.ifCond .eq 16, 3) := by decide +kernel
theorem d_M_isWord_9 : decode b_M_isWord 9 = .ok (.iload_n 1, 1) := by decide +kernel
theorem d_M_isWord_10 : decode b_M_isWord 10 = .ok (.iconst 0, 1) := by decide +kernel
theorem d_M_isWord_11 : decode b_M_isWord 11 = .ok (.iconst 3, 1) := by decide +kernel
theorem d_M_isWord_12 : decode b_M_isWord 12 = .ok (.invokestatic 40, 3) := by decide +kernel
theorem d_M_isWord_15 : decode b_M_isWord 15 = .ok (.ifCond .eq 7, 3) := by decide +kernel
theorem d_M_isWord_18 : decode b_M_isWord 18 = .ok (.iconst 1, 1) := by decide +kernel
theorem d_M_isWord_19 : decode b_M_isWord 19 = .ok (.goto 4, 3) := by decide +kernel
theorem d_M_isWord_22 : decode b_M_isWord 22 = .ok (.iconst 0, 1) := by decide +kernel
theorem d_M_isWord_23 : decode b_M_isWord 23 = .ok (.ireturn, 1) := by decide +kernel
theorem d_M_usedCopies_0 : decode b_M_usedCopies 0 = .ok (.iconst 0, 1) := by decide +kernel
theorem d_M_usedCopies_1 : decode b_M_usedCopies 1 = .ok (.istore_n 1, 1) := by decide +kernel
theorem d_M_usedCopies_2 : decode b_M_usedCopies 2 = .ok (.iconst 0, 1) := by decide +kernel
theorem d_M_usedCopies_3 : decode b_M_usedCopies 3 = .ok (.istore_n 2, 1) := by decide +kernel
theorem d_M_usedCopies_4 : decode b_M_usedCopies 4 = .ok (.iload_n 2, 1) := by decide +kernel
theorem d_M_usedCopies_5 : decode b_M_usedCopies 5 = .ok (.bipush 18, 2) := by decide +kernel
theorem d_M_usedCopies_7 : decode b_M_usedCopies 7 = .ok (.if_icmp .ge 38, 3) := by decide +kernel
theorem d_M_usedCopies_10 : decode b_M_usedCopies 10 = .ok (.aload_n 0, 1) := by decide +kernel
theorem d_M_usedCopies_11 : decode b_M_usedCopies 11 = .ok (.getfield 20, 3) := by decide +kernel
theorem d_M_usedCopies_14 : decode b_M_usedCopies 14 = .ok (.iload_n 2, 1) := by decide +kernel
theorem d_M_usedCopies_15 : decode b_M_usedCopies 15 = .ok (.bipush 6, 2) := by decide +kernel
theorem d_M_usedCopies_17 : decode b_M_usedCopies 17 = .ok (.idiv, 1) := by decide +kernel
theorem d_M_usedCopies_18 : decode b_M_usedCopies 18 = .ok (.baload, 1) := by decide +kernel
theorem d_M_usedCopies_19 : decode b_M_usedCopies 19 = .ok (.ifCond .eq 18, 3) := by decide +kernel
theorem d_M_usedCopies_22 : decode b_M_usedCopies 22 = .ok (.aload_n 0, 1) := by decide +kernel
theorem d_M_usedCopies_23 : decode b_M_usedCopies 23 = .ok (.getfield 24, 3) := by decide +kernel
theorem d_M_usedCopies_26 : decode b_M_usedCopies 26 = .ok (.iload_n 2, 1) := by decide +kernel
theorem d_M_usedCopies_27 : decode b_M_usedCopies 27 = .ok (.iaload, 1) := by decide +kernel
theorem d_M_usedCopies_28 : decode b_M_usedCopies 28 = .ok (.ifCond .le 9, 3) := by decide +kernel
theorem d_M_usedCopies_31 : decode b_M_usedCopies 31 = .ok (.iload_n 1, 1) := by decide +kernel
theorem d_M_usedCopies_32 : decode b_M_usedCopies 32 = .ok (.iconst 1, 1) := by decide +kernel
theorem d_M_usedCopies_33 : decode b_M_usedCopies 33 = .ok (.iadd, 1) := by decide +kernel
theorem d_M_usedCopies_34 : decode b_M_usedCopies 34 = .ok (.goto 4, 3) := by decide +kernel
theorem d_M_usedCopies_37 : decode b_M_usedCopies 37 = .ok (.iload_n 1, 1) := by decide +kernel
theorem d_M_usedCopies_38 : decode b_M_usedCopies 38 = .ok (.istore_n 1, 1) := by decide +kernel
theorem d_M_usedCopies_39 : decode b_M_usedCopies 39 = .ok (.iinc 2 1, 3) := by decide +kernel
theorem d_M_usedCopies_42 : decode b_M_usedCopies 42 = .ok (.goto (-38), 3) := by decide +kernel
theorem d_M_usedCopies_45 : decode b_M_usedCopies 45 = .ok (.iload_n 1, 1) := by decide +kernel
theorem d_M_usedCopies_46 : decode b_M_usedCopies 46 = .ok (.ireturn, 1) := by decide +kernel
theorem d_M_lowest_0 : decode b_M_lowest 0 = .ok (.iconst 1, 1) := by decide +kernel
theorem d_M_lowest_1 : decode b_M_lowest 1 = .ok (.istore_n 1, 1) := by decide +kernel
theorem d_M_lowest_2 : decode b_M_lowest 2 = .ok (.iconst 1, 1) := by decide +kernel
theorem d_M_lowest_3 : decode b_M_lowest 3 = .ok (.istore_n 2, 1) := by decide +kernel
theorem d_M_lowest_4 : decode b_M_lowest 4 = .ok (.iload_n 2, 1) := by decide +kernel
theorem d_M_lowest_5 : decode b_M_lowest 5 = .ok (.ifCond .eq 66, 3) := by decide +kernel
theorem d_M_lowest_8 : decode b_M_lowest 8 = .ok (.iconst 0, 1) := by decide +kernel
theorem d_M_lowest_9 : decode b_M_lowest 9 = .ok (.istore_n 2, 1) := by decide +kernel
theorem d_M_lowest_10 : decode b_M_lowest 10 = .ok (.iconst 0, 1) := by decide +kernel
theorem d_M_lowest_11 : decode b_M_lowest 11 = .ok (.istore_n 3, 1) := by decide +kernel
theorem d_M_lowest_12 : decode b_M_lowest 12 = .ok (.iload_n 3, 1) := by decide +kernel
theorem d_M_lowest_13 : decode b_M_lowest 13 = .ok (.bipush 18, 2) := by decide +kernel
theorem d_M_lowest_15 : decode b_M_lowest 15 = .ok (.if_icmp .ge 41, 3) := by decide +kernel
theorem d_M_lowest_18 : decode b_M_lowest 18 = .ok (.iload_n 2, 1) := by decide +kernel
theorem d_M_lowest_19 : decode b_M_lowest 19 = .ok (.ifCond .ne 25, 3) := by decide +kernel
theorem d_M_lowest_22 : decode b_M_lowest 22 = .ok (.aload_n 0, 1) := by decide +kernel
theorem d_M_lowest_23 : decode b_M_lowest 23 = .ok (.getfield 20, 3) := by decide +kernel
theorem d_M_lowest_26 : decode b_M_lowest 26 = .ok (.iload_n 3, 1) := by decide +kernel
theorem d_M_lowest_27 : decode b_M_lowest 27 = .ok (.bipush 6, 2) := by decide +kernel
theorem d_M_lowest_29 : decode b_M_lowest 29 = .ok (.idiv, 1) := by decide +kernel
theorem d_M_lowest_30 : decode b_M_lowest 30 = .ok (.baload, 1) := by decide +kernel
theorem d_M_lowest_31 : decode b_M_lowest 31 = .ok (.ifCond .eq 17, 3) := by decide +kernel
theorem d_M_lowest_34 : decode b_M_lowest 34 = .ok (.aload_n 0, 1) := by decide +kernel
theorem d_M_lowest_35 : decode b_M_lowest 35 = .ok (.getfield 24, 3) := by decide +kernel
theorem d_M_lowest_38 : decode b_M_lowest 38 = .ok (.iload_n 3, 1) := by decide +kernel
theorem d_M_lowest_39 : decode b_M_lowest 39 = .ok (.iaload, 1) := by decide +kernel
theorem d_M_lowest_40 : decode b_M_lowest 40 = .ok (.iload_n 1, 1) := by decide +kernel
theorem d_M_lowest_41 : decode b_M_lowest 41 = .ok (.if_icmp .ne 7, 3) := by decide +kernel
theorem d_M_lowest_44 : decode b_M_lowest 44 = .ok (.iconst 1, 1) := by decide +kernel
theorem d_M_lowest_45 : decode b_M_lowest 45 = .ok (.goto 4, 3) := by decide +kernel
theorem d_M_lowest_48 : decode b_M_lowest 48 = .ok (.iconst 0, 1) := by decide +kernel
theorem d_M_lowest_49 : decode b_M_lowest 49 = .ok (.istore_n 2, 1) := by decide +kernel
theorem d_M_lowest_50 : decode b_M_lowest 50 = .ok (.iinc 3 1, 3) := by decide +kernel
theorem d_M_lowest_53 : decode b_M_lowest 53 = .ok (.goto (-41), 3) := by decide +kernel
theorem d_M_lowest_56 : decode b_M_lowest 56 = .ok (.iload_n 2, 1) := by decide +kernel
theorem d_M_lowest_57 : decode b_M_lowest 57 = .ok (.ifCond .eq 9, 3) := by decide +kernel
theorem d_M_lowest_60 : decode b_M_lowest 60 = .ok (.iload_n 1, 1) := by decide +kernel
theorem d_M_lowest_61 : decode b_M_lowest 61 = .ok (.iconst 1, 1) := by decide +kernel
theorem d_M_lowest_62 : decode b_M_lowest 62 = .ok (.iadd, 1) := by decide +kernel
theorem d_M_lowest_63 : decode b_M_lowest 63 = .ok (.goto 4, 3) := by decide +kernel
theorem d_M_lowest_66 : decode b_M_lowest 66 = .ok (.iload_n 1, 1) := by decide +kernel
theorem d_M_lowest_67 : decode b_M_lowest 67 = .ok (.istore_n 1, 1) := by decide +kernel
theorem d_M_lowest_68 : decode b_M_lowest 68 = .ok (.goto (-64), 3) := by decide +kernel
theorem d_M_lowest_71 : decode b_M_lowest 71 = .ok (.iload_n 1, 1) := by decide +kernel
theorem d_M_lowest_72 : decode b_M_lowest 72 = .ok (.ireturn, 1) := by decide +kernel
theorem d_M_sharers_0 : decode b_M_sharers 0 = .ok (.iconst 0, 1) := by decide +kernel
theorem d_M_sharers_1 : decode b_M_sharers 1 = .ok (.istore_n 3, 1) := by decide +kernel
theorem d_M_sharers_2 : decode b_M_sharers 2 = .ok (.iconst 0, 1) := by decide +kernel
theorem d_M_sharers_3 : decode b_M_sharers 3 = .ok (.istore 4, 2) := by decide +kernel
theorem d_M_sharers_5 : decode b_M_sharers 5 = .ok (.iload 4, 2) := by decide +kernel
theorem d_M_sharers_7 : decode b_M_sharers 7 = .ok (.iconst 3, 1) := by decide +kernel
theorem d_M_sharers_8 : decode b_M_sharers 8 = .ok (.if_icmp .ge 48, 3) := by decide +kernel
theorem d_M_sharers_11 : decode b_M_sharers 11 = .ok (.aload_n 0, 1) := by decide +kernel
theorem d_M_sharers_12 : decode b_M_sharers 12 = .ok (.getfield 20, 3) := by decide +kernel
theorem d_M_sharers_15 : decode b_M_sharers 15 = .ok (.iload 4, 2) := by decide +kernel
theorem d_M_sharers_17 : decode b_M_sharers 17 = .ok (.baload, 1) := by decide +kernel
theorem d_M_sharers_18 : decode b_M_sharers 18 = .ok (.ifCond .eq 30, 3) := by decide +kernel
theorem d_M_sharers_21 : decode b_M_sharers 21 = .ok (.iload 4, 2) := by decide +kernel
theorem d_M_sharers_23 : decode b_M_sharers 23 = .ok (.iload_n 2, 1) := by decide +kernel
theorem d_M_sharers_24 : decode b_M_sharers 24 = .ok (.if_icmp .eq 24, 3) := by decide +kernel
theorem d_M_sharers_27 : decode b_M_sharers 27 = .ok (.aload_n 0, 1) := by decide +kernel
theorem d_M_sharers_28 : decode b_M_sharers 28 = .ok (.getfield 24, 3) := by decide +kernel
theorem d_M_sharers_31 : decode b_M_sharers 31 = .ok (.bipush 6, 2) := by decide +kernel
theorem d_M_sharers_33 : decode b_M_sharers 33 = .ok (.iload 4, 2) := by decide +kernel
theorem d_M_sharers_35 : decode b_M_sharers 35 = .ok (.imul, 1) := by decide +kernel
theorem d_M_sharers_36 : decode b_M_sharers 36 = .ok (.iload_n 1, 1) := by decide +kernel
theorem d_M_sharers_37 : decode b_M_sharers 37 = .ok (.iadd, 1) := by decide +kernel
theorem d_M_sharers_38 : decode b_M_sharers 38 = .ok (.iaload, 1) := by decide +kernel
theorem d_M_sharers_39 : decode b_M_sharers 39 = .ok (.ifCond .ne 9, 3) := by decide +kernel
theorem d_M_sharers_42 : decode b_M_sharers 42 = .ok (.iload_n 3, 1) := by decide +kernel
theorem d_M_sharers_43 : decode b_M_sharers 43 = .ok (.iconst 1, 1) := by decide +kernel
theorem d_M_sharers_44 : decode b_M_sharers 44 = .ok (.iadd, 1) := by decide +kernel
theorem d_M_sharers_45 : decode b_M_sharers 45 = .ok (.goto 4, 3) := by decide +kernel
theorem d_M_sharers_48 : decode b_M_sharers 48 = .ok (.iload_n 3, 1) := by decide +kernel
theorem d_M_sharers_49 : decode b_M_sharers 49 = .ok (.istore_n 3, 1) := by decide +kernel
theorem d_M_sharers_50 : decode b_M_sharers 50 = .ok (.iinc 4 1, 3) := by decide +kernel
theorem d_M_sharers_53 : decode b_M_sharers 53 = .ok (.goto (-48), 3) := by decide +kernel
theorem d_M_sharers_56 : decode b_M_sharers 56 = .ok (.iload_n 3, 1) := by decide +kernel
theorem d_M_sharers_57 : decode b_M_sharers 57 = .ok (.ireturn, 1) := by decide +kernel
theorem d_M_part_0 : decode b_M_part 0 = .ok (.iload_n 3, 1) := by decide +kernel
theorem d_M_part_1 : decode b_M_part 1 = .ok (.istore 4, 2) := by decide +kernel
theorem d_M_part_3 : decode b_M_part 3 = .ok (.iconst 0, 1) := by decide +kernel
theorem d_M_part_4 : decode b_M_part 4 = .ok (.istore 5, 2) := by decide +kernel
theorem d_M_part_6 : decode b_M_part 6 = .ok (.iload 5, 2) := by decide +kernel
theorem d_M_part_8 : decode b_M_part 8 = .ok (.iconst 3, 1) := by decide +kernel
theorem d_M_part_9 : decode b_M_part 9 = .ok (.if_icmp .ge 64, 3) := by decide +kernel
theorem d_M_part_12 : decode b_M_part 12 = .ok (.iload 4, 2) := by decide +kernel
theorem d_M_part_14 : decode b_M_part 14 = .ok (.ifCond .le 59, 3) := by decide +kernel
theorem d_M_part_17 : decode b_M_part 17 = .ok (.aload_n 0, 1) := by decide +kernel
theorem d_M_part_18 : decode b_M_part 18 = .ok (.getfield 20, 3) := by decide +kernel
theorem d_M_part_21 : decode b_M_part 21 = .ok (.iload 5, 2) := by decide +kernel
theorem d_M_part_23 : decode b_M_part 23 = .ok (.baload, 1) := by decide +kernel
theorem d_M_part_24 : decode b_M_part 24 = .ok (.ifCond .eq 43, 3) := by decide +kernel
theorem d_M_part_27 : decode b_M_part 27 = .ok (.iload 5, 2) := by decide +kernel
theorem d_M_part_29 : decode b_M_part 29 = .ok (.iload_n 2, 1) := by decide +kernel
theorem d_M_part_30 : decode b_M_part 30 = .ok (.if_icmp .eq 37, 3) := by decide +kernel
theorem d_M_part_33 : decode b_M_part 33 = .ok (.aload_n 0, 1) := by decide +kernel
theorem d_M_part_34 : decode b_M_part 34 = .ok (.getfield 24, 3) := by decide +kernel
theorem d_M_part_37 : decode b_M_part 37 = .ok (.bipush 6, 2) := by decide +kernel
theorem d_M_part_39 : decode b_M_part 39 = .ok (.iload 5, 2) := by decide +kernel
theorem d_M_part_41 : decode b_M_part 41 = .ok (.imul, 1) := by decide +kernel
theorem d_M_part_42 : decode b_M_part 42 = .ok (.iload_n 1, 1) := by decide +kernel
theorem d_M_part_43 : decode b_M_part 43 = .ok (.iadd, 1) := by decide +kernel
theorem d_M_part_44 : decode b_M_part 44 = .ok (.iaload, 1) := by decide +kernel
theorem d_M_part_45 : decode b_M_part 45 = .ok (.ifCond .ne 22, 3) := by decide +kernel
theorem d_M_part_48 : decode b_M_part 48 = .ok (.aload_n 0, 1) := by decide +kernel
theorem d_M_part_49 : decode b_M_part 49 = .ok (.getfield 24, 3) := by decide +kernel
theorem d_M_part_52 : decode b_M_part 52 = .ok (.bipush 6, 2) := by decide +kernel
theorem d_M_part_54 : decode b_M_part 54 = .ok (.iload 5, 2) := by decide +kernel
theorem d_M_part_56 : decode b_M_part 56 = .ok (.imul, 1) := by decide +kernel
theorem d_M_part_57 : decode b_M_part 57 = .ok (.iload_n 1, 1) := by decide +kernel
theorem d_M_part_58 : decode b_M_part 58 = .ok (.iadd, 1) := by decide +kernel
theorem d_M_part_59 : decode b_M_part 59 = .ok (.aload_n 0, 1) := by decide +kernel
theorem d_M_part_60 : decode b_M_part 60 = .ok (.invokevirtual 44, 3) := by decide +kernel
theorem d_M_part_63 : decode b_M_part 63 = .ok (.iastore, 1) := by decide +kernel
theorem d_M_part_64 : decode b_M_part 64 = .ok (.iinc 4 (-1), 3) := by decide +kernel
theorem d_M_part_67 : decode b_M_part 67 = .ok (.iinc 5 1, 3) := by decide +kernel
theorem d_M_part_70 : decode b_M_part 70 = .ok (.goto (-64), 3) := by decide +kernel
theorem d_M_part_73 : decode b_M_part 73 = .ok (.return_, 1) := by decide +kernel
theorem d_M_lasts_0 : decode b_M_lasts 0 = .ok (.aload_n 0, 1) := by decide +kernel
theorem d_M_lasts_1 : decode b_M_lasts 1 = .ok (.getfield 7, 3) := by decide +kernel
theorem d_M_lasts_4 : decode b_M_lasts 4 = .ok (.ifCond .lt 11, 3) := by decide +kernel
theorem d_M_lasts_7 : decode b_M_lasts 7 = .ok (.aload_n 0, 1) := by decide +kernel
theorem d_M_lasts_8 : decode b_M_lasts 8 = .ok (.getfield 7, 3) := by decide +kernel
theorem d_M_lasts_11 : decode b_M_lasts 11 = .ok (.iload_n 1, 1) := by decide +kernel
theorem d_M_lasts_12 : decode b_M_lasts 12 = .ok (.if_icmp .lt 36, 3) := by decide +kernel
theorem d_M_lasts_15 : decode b_M_lasts 15 = .ok (.aload_n 0, 1) := by decide +kernel
theorem d_M_lasts_16 : decode b_M_lasts 16 = .ok (.aload_n 0, 1) := by decide +kernel
theorem d_M_lasts_17 : decode b_M_lasts 17 = .ok (.getfield 37, 3) := by decide +kernel
theorem d_M_lasts_20 : decode b_M_lasts 20 = .ok (.iload_n 1, 1) := by decide +kernel
theorem d_M_lasts_21 : decode b_M_lasts 21 = .ok (.iadd, 1) := by decide +kernel
theorem d_M_lasts_22 : decode b_M_lasts 22 = .ok (.putfield 37, 3) := by decide +kernel
theorem d_M_lasts_25 : decode b_M_lasts 25 = .ok (.aload_n 0, 1) := by decide +kernel
theorem d_M_lasts_26 : decode b_M_lasts 26 = .ok (.aload_n 0, 1) := by decide +kernel
theorem d_M_lasts_27 : decode b_M_lasts 27 = .ok (.getfield 7, 3) := by decide +kernel
theorem d_M_lasts_30 : decode b_M_lasts 30 = .ok (.ifCond .ge 7, 3) := by decide +kernel
theorem d_M_lasts_33 : decode b_M_lasts 33 = .ok (.iconst (-1), 1) := by decide +kernel
theorem d_M_lasts_34 : decode b_M_lasts 34 = .ok (.goto 9, 3) := by decide +kernel
theorem d_M_lasts_37 : decode b_M_lasts 37 = .ok (.aload_n 0, 1) := by decide +kernel
theorem d_M_lasts_38 : decode b_M_lasts 38 = .ok (.getfield 7, 3) := by decide +kernel
theorem d_M_lasts_41 : decode b_M_lasts 41 = .ok (.iload_n 1, 1) := by decide +kernel
theorem d_M_lasts_42 : decode b_M_lasts 42 = .ok (.isub, 1) := by decide +kernel
theorem d_M_lasts_43 : decode b_M_lasts 43 = .ok (.putfield 7, 3) := by decide +kernel
theorem d_M_lasts_46 : decode b_M_lasts 46 = .ok (.iconst 1, 1) := by decide +kernel
theorem d_M_lasts_47 : decode b_M_lasts 47 = .ok (.ireturn, 1) := by decide +kernel
theorem d_M_lasts_48 : decode b_M_lasts 48 = .ok (.aload_n 0, 1) := by decide +kernel
theorem d_M_lasts_49 : decode b_M_lasts 49 = .ok (.aload_n 0, 1) := by decide +kernel
theorem d_M_lasts_50 : decode b_M_lasts 50 = .ok (.getfield 37, 3) := by decide +kernel
theorem d_M_lasts_53 : decode b_M_lasts 53 = .ok (.aload_n 0, 1) := by decide +kernel
theorem d_M_lasts_54 : decode b_M_lasts 54 = .ok (.getfield 7, 3) := by decide +kernel
theorem d_M_lasts_57 : decode b_M_lasts 57 = .ok (.iadd, 1) := by decide +kernel
theorem d_M_lasts_58 : decode b_M_lasts 58 = .ok (.putfield 37, 3) := by decide +kernel
theorem d_M_lasts_61 : decode b_M_lasts 61 = .ok (.aload_n 0, 1) := by decide +kernel
theorem d_M_lasts_62 : decode b_M_lasts 62 = .ok (.iconst 1, 1) := by decide +kernel
theorem d_M_lasts_63 : decode b_M_lasts 63 = .ok (.putfield 33, 3) := by decide +kernel
theorem d_M_lasts_66 : decode b_M_lasts 66 = .ok (.iconst 0, 1) := by decide +kernel
theorem d_M_lasts_67 : decode b_M_lasts 67 = .ok (.ireturn, 1) := by decide +kernel
theorem d_M_cut_0 : decode b_M_cut 0 = .ok (.aload_n 0, 1) := by decide +kernel
theorem d_M_cut_1 : decode b_M_cut 1 = .ok (.getfield 7, 3) := by decide +kernel
theorem d_M_cut_4 : decode b_M_cut 4 = .ok (.istore_n 1, 1) := by decide +kernel
theorem d_M_cut_5 : decode b_M_cut 5 = .ok (.aload_n 0, 1) := by decide +kernel
theorem d_M_cut_6 : decode b_M_cut 6 = .ok (.iconst (-1), 1) := by decide +kernel
theorem d_M_cut_7 : decode b_M_cut 7 = .ok (.putfield 7, 3) := by decide +kernel
theorem d_M_cut_10 : decode b_M_cut 10 = .ok (.iload_n 1, 1) := by decide +kernel
theorem d_M_cut_11 : decode b_M_cut 11 = .ok (.ireturn, 1) := by decide +kernel
theorem d_M_write_0 : decode b_M_write 0 = .ok (.aload_n 0, 1) := by decide +kernel
theorem d_M_write_1 : decode b_M_write 1 = .ok (.aload_n 0, 1) := by decide +kernel
theorem d_M_write_2 : decode b_M_write 2 = .ok (.getfield 33, 3) := by decide +kernel
theorem d_M_write_5 : decode b_M_write 5 = .ok (.ifCond .eq 7, 3) := by decide +kernel
theorem d_M_write_8 : decode b_M_write 8 = .ok (.iconst 3, 1) := by decide +kernel
theorem d_M_write_9 : decode b_M_write 9 = .ok (.goto 36, 3) := by decide +kernel
theorem d_M_write_12 : decode b_M_write 12 = .ok (.iload_n 1, 1) := by decide +kernel
theorem d_M_write_13 : decode b_M_write 13 = .ok (.iload_n 2, 1) := by decide +kernel
theorem d_M_write_14 : decode b_M_write 14 = .ok (.invokestatic 48, 3) := by decide +kernel
theorem d_M_write_17 : decode b_M_write 17 = .ok (.ifCond .ne 7, 3) := by decide +kernel
theorem d_M_write_20 : decode b_M_write 20 = .ok (.iconst 1, 1) := by decide +kernel
theorem d_M_write_21 : decode b_M_write 21 = .ok (.goto 24, 3) := by decide +kernel
theorem d_M_write_24 : decode b_M_write 24 = .ok (.aload_n 0, 1) := by decide +kernel
theorem d_M_write_25 : decode b_M_write 25 = .ok (.iload_n 1, 1) := by decide +kernel
theorem d_M_write_26 : decode b_M_write 26 = .ok (.iconst (-1), 1) := by decide +kernel
theorem d_M_write_27 : decode b_M_write 27 = .ok (.invokevirtual 52, 3) := by decide +kernel
theorem d_M_write_30 : decode b_M_write 30 = .ok (.bipush 9, 2) := by decide +kernel
theorem d_M_write_32 : decode b_M_write 32 = .ok (.aload_n 0, 1) := by decide +kernel
theorem d_M_write_33 : decode b_M_write 33 = .ok (.invokevirtual 56, 3) := by decide +kernel
theorem d_M_write_36 : decode b_M_write 36 = .ok (.isub, 1) := by decide +kernel
theorem d_M_write_37 : decode b_M_write 37 = .ok (.if_icmp .le 7, 3) := by decide +kernel
theorem d_M_write_40 : decode b_M_write 40 = .ok (.iconst 2, 1) := by decide +kernel
theorem d_M_write_41 : decode b_M_write 41 = .ok (.goto 4, 3) := by decide +kernel
theorem d_M_write_44 : decode b_M_write 44 = .ok (.iconst 0, 1) := by decide +kernel
theorem d_M_write_45 : decode b_M_write 45 = .ok (.putfield 27, 3) := by decide +kernel
theorem d_M_write_48 : decode b_M_write 48 = .ok (.aload_n 0, 1) := by decide +kernel
theorem d_M_write_49 : decode b_M_write 49 = .ok (.getfield 27, 3) := by decide +kernel
theorem d_M_write_52 : decode b_M_write 52 = .ok (.ifCond .le 5, 3) := by decide +kernel
theorem d_M_write_55 : decode b_M_write 55 = .ok (.iconst 0, 1) := by decide +kernel
theorem d_M_write_56 : decode b_M_write 56 = .ok (.ireturn, 1) := by decide +kernel
theorem d_M_write_57 : decode b_M_write 57 = .ok (.aload_n 0, 1) := by decide +kernel
theorem d_M_write_58 : decode b_M_write 58 = .ok (.iload_n 1, 1) := by decide +kernel
theorem d_M_write_59 : decode b_M_write 59 = .ok (.iconst (-1), 1) := by decide +kernel
theorem d_M_write_60 : decode b_M_write 60 = .ok (.invokevirtual 52, 3) := by decide +kernel
theorem d_M_write_63 : decode b_M_write 63 = .ok (.istore 4, 2) := by decide +kernel
theorem d_M_write_65 : decode b_M_write 65 = .ok (.aload_n 0, 1) := by decide +kernel
theorem d_M_write_66 : decode b_M_write 66 = .ok (.iconst 5, 1) := by decide +kernel
theorem d_M_write_67 : decode b_M_write 67 = .ok (.iload 4, 2) := by decide +kernel
theorem d_M_write_69 : decode b_M_write 69 = .ok (.imul, 1) := by decide +kernel
theorem d_M_write_70 : decode b_M_write 70 = .ok (.iconst 1, 1) := by decide +kernel
theorem d_M_write_71 : decode b_M_write 71 = .ok (.iadd, 1) := by decide +kernel
theorem d_M_write_72 : decode b_M_write 72 = .ok (.invokevirtual 59, 3) := by decide +kernel
theorem d_M_write_75 : decode b_M_write 75 = .ok (.ifCond .eq 25, 3) := by decide +kernel
theorem d_M_write_78 : decode b_M_write 78 = .ok (.aload_n 0, 1) := by decide +kernel
theorem d_M_write_79 : decode b_M_write 79 = .ok (.iload_n 1, 1) := by decide +kernel
theorem d_M_write_80 : decode b_M_write 80 = .ok (.iconst (-1), 1) := by decide +kernel
theorem d_M_write_81 : decode b_M_write 81 = .ok (.iload 4, 2) := by decide +kernel
theorem d_M_write_83 : decode b_M_write 83 = .ok (.invokevirtual 63, 3) := by decide +kernel
theorem d_M_write_86 : decode b_M_write 86 = .ok (.aload_n 0, 1) := by decide +kernel
theorem d_M_write_87 : decode b_M_write 87 = .ok (.getfield 13, 3) := by decide +kernel
theorem d_M_write_90 : decode b_M_write 90 = .ok (.iconst 4, 1) := by decide +kernel
theorem d_M_write_91 : decode b_M_write 91 = .ok (.iload_n 1, 1) := by decide +kernel
theorem d_M_write_92 : decode b_M_write 92 = .ok (.imul, 1) := by decide +kernel
theorem d_M_write_93 : decode b_M_write 93 = .ok (.iload_n 2, 1) := by decide +kernel
theorem d_M_write_94 : decode b_M_write 94 = .ok (.iadd, 1) := by decide +kernel
theorem d_M_write_95 : decode b_M_write 95 = .ok (.iload_n 3, 1) := by decide +kernel
theorem d_M_write_96 : decode b_M_write 96 = .ok (.iastore, 1) := by decide +kernel
theorem d_M_write_97 : decode b_M_write 97 = .ok (.iload 4, 2) := by decide +kernel
theorem d_M_write_99 : decode b_M_write 99 = .ok (.ireturn, 1) := by decide +kernel
theorem d_M_write_100 : decode b_M_write 100 = .ok (.aload_n 0, 1) := by decide +kernel
theorem d_M_write_101 : decode b_M_write 101 = .ok (.iload_n 1, 1) := by decide +kernel
theorem d_M_write_102 : decode b_M_write 102 = .ok (.iconst (-1), 1) := by decide +kernel
theorem d_M_write_103 : decode b_M_write 103 = .ok (.aload_n 0, 1) := by decide +kernel
theorem d_M_write_104 : decode b_M_write 104 = .ok (.invokevirtual 67, 3) := by decide +kernel
theorem d_M_write_107 : decode b_M_write 107 = .ok (.iconst 5, 1) := by decide +kernel
theorem d_M_write_108 : decode b_M_write 108 = .ok (.idiv, 1) := by decide +kernel
theorem d_M_write_109 : decode b_M_write 109 = .ok (.invokevirtual 63, 3) := by decide +kernel
theorem d_M_write_112 : decode b_M_write 112 = .ok (.aload_n 0, 1) := by decide +kernel
theorem d_M_write_113 : decode b_M_write 113 = .ok (.iconst 3, 1) := by decide +kernel
theorem d_M_write_114 : decode b_M_write 114 = .ok (.putfield 27, 3) := by decide +kernel
theorem d_M_write_117 : decode b_M_write 117 = .ok (.iconst 0, 1) := by decide +kernel
theorem d_M_write_118 : decode b_M_write 118 = .ok (.ireturn, 1) := by decide +kernel
theorem d_M_read_0 : decode b_M_read 0 = .ok (.aload_n 0, 1) := by decide +kernel
theorem d_M_read_1 : decode b_M_read 1 = .ok (.aload_n 0, 1) := by decide +kernel
theorem d_M_read_2 : decode b_M_read 2 = .ok (.getfield 33, 3) := by decide +kernel
theorem d_M_read_5 : decode b_M_read 5 = .ok (.ifCond .eq 7, 3) := by decide +kernel
theorem d_M_read_8 : decode b_M_read 8 = .ok (.iconst 2, 1) := by decide +kernel
theorem d_M_read_9 : decode b_M_read 9 = .ok (.goto 16, 3) := by decide +kernel
theorem d_M_read_12 : decode b_M_read 12 = .ok (.iload_n 1, 1) := by decide +kernel
theorem d_M_read_13 : decode b_M_read 13 = .ok (.iload_n 2, 1) := by decide +kernel
theorem d_M_read_14 : decode b_M_read 14 = .ok (.invokestatic 48, 3) := by decide +kernel
theorem d_M_read_17 : decode b_M_read 17 = .ok (.ifCond .eq 7, 3) := by decide +kernel
theorem d_M_read_20 : decode b_M_read 20 = .ok (.iconst 0, 1) := by decide +kernel
theorem d_M_read_21 : decode b_M_read 21 = .ok (.goto 4, 3) := by decide +kernel
theorem d_M_read_24 : decode b_M_read 24 = .ok (.iconst 1, 1) := by decide +kernel
theorem d_M_read_25 : decode b_M_read 25 = .ok (.putfield 27, 3) := by decide +kernel
theorem d_M_read_28 : decode b_M_read 28 = .ok (.aload_n 0, 1) := by decide +kernel
theorem d_M_read_29 : decode b_M_read 29 = .ok (.getfield 27, 3) := by decide +kernel
theorem d_M_read_32 : decode b_M_read 32 = .ok (.ifCond .le 7, 3) := by decide +kernel
theorem d_M_read_35 : decode b_M_read 35 = .ok (.iconst 0, 1) := by decide +kernel
theorem d_M_read_36 : decode b_M_read 36 = .ok (.goto 13, 3) := by decide +kernel
theorem d_M_read_39 : decode b_M_read 39 = .ok (.aload_n 0, 1) := by decide +kernel
theorem d_M_read_40 : decode b_M_read 40 = .ok (.getfield 13, 3) := by decide +kernel
theorem d_M_read_43 : decode b_M_read 43 = .ok (.iconst 4, 1) := by decide +kernel
theorem d_M_read_44 : decode b_M_read 44 = .ok (.iload_n 1, 1) := by decide +kernel
theorem d_M_read_45 : decode b_M_read 45 = .ok (.imul, 1) := by decide +kernel
theorem d_M_read_46 : decode b_M_read 46 = .ok (.iload_n 2, 1) := by decide +kernel
theorem d_M_read_47 : decode b_M_read 47 = .ok (.iadd, 1) := by decide +kernel
theorem d_M_read_48 : decode b_M_read 48 = .ok (.iaload, 1) := by decide +kernel
theorem d_M_read_49 : decode b_M_read 49 = .ok (.ireturn, 1) := by decide +kernel
theorem d_M_snapshot_0 : decode b_M_snapshot 0 = .ok (.aload_n 0, 1) := by decide +kernel
theorem d_M_snapshot_1 : decode b_M_snapshot 1 = .ok (.getfield 20, 3) := by decide +kernel
theorem d_M_snapshot_4 : decode b_M_snapshot 4 = .ok (.iconst 0, 1) := by decide +kernel
theorem d_M_snapshot_5 : decode b_M_snapshot 5 = .ok (.baload, 1) := by decide +kernel
theorem d_M_snapshot_6 : decode b_M_snapshot 6 = .ok (.ifCond .eq 33, 3) := by decide +kernel
theorem d_M_snapshot_9 : decode b_M_snapshot 9 = .ok (.aload_n 0, 1) := by decide +kernel
theorem d_M_snapshot_10 : decode b_M_snapshot 10 = .ok (.getfield 20, 3) := by decide +kernel
theorem d_M_snapshot_13 : decode b_M_snapshot 13 = .ok (.iconst 1, 1) := by decide +kernel
theorem d_M_snapshot_14 : decode b_M_snapshot 14 = .ok (.baload, 1) := by decide +kernel
theorem d_M_snapshot_15 : decode b_M_snapshot 15 = .ok (.ifCond .eq 20, 3) := by decide +kernel
theorem d_M_snapshot_18 : decode b_M_snapshot 18 = .ok (.aload_n 0, 1) := by decide +kernel
theorem d_M_snapshot_19 : decode b_M_snapshot 19 = .ok (.getfield 20, 3) := by decide +kernel
theorem d_M_snapshot_22 : decode b_M_snapshot 22 = .ok (.iconst 2, 1) := by decide +kernel
theorem d_M_snapshot_23 : decode b_M_snapshot 23 = .ok (.baload, 1) := by decide +kernel
theorem d_M_snapshot_24 : decode b_M_snapshot 24 = .ok (.ifCond .eq 7, 3) := by decide +kernel
theorem d_M_snapshot_27 : decode b_M_snapshot 27 = .ok (.iconst 3, 1) := by decide +kernel
theorem d_M_snapshot_28 : decode b_M_snapshot 28 = .ok (.goto 12, 3) := by decide +kernel
theorem d_M_snapshot_31 : decode b_M_snapshot 31 = .ok (.iconst 2, 1) := by decide +kernel
theorem d_M_snapshot_32 : decode b_M_snapshot 32 = .ok (.goto 8, 3) := by decide +kernel
theorem d_M_snapshot_35 : decode b_M_snapshot 35 = .ok (.iconst 1, 1) := by decide +kernel
theorem d_M_snapshot_36 : decode b_M_snapshot 36 = .ok (.goto 4, 3) := by decide +kernel
theorem d_M_snapshot_39 : decode b_M_snapshot 39 = .ok (.iconst 0, 1) := by decide +kernel
theorem d_M_snapshot_40 : decode b_M_snapshot 40 = .ok (.istore_n 1, 1) := by decide +kernel
theorem d_M_snapshot_41 : decode b_M_snapshot 41 = .ok (.aload_n 0, 1) := by decide +kernel
theorem d_M_snapshot_42 : decode b_M_snapshot 42 = .ok (.aload_n 0, 1) := by decide +kernel
theorem d_M_snapshot_43 : decode b_M_snapshot 43 = .ok (.getfield 33, 3) := by decide +kernel
theorem d_M_snapshot_46 : decode b_M_snapshot 46 = .ok (.ifCond .eq 7, 3) := by decide +kernel
theorem d_M_snapshot_49 : decode b_M_snapshot 49 = .ok (.iconst 2, 1) := by decide +kernel
theorem d_M_snapshot_50 : decode b_M_snapshot 50 = .ok (.goto 13, 3) := by decide +kernel
theorem d_M_snapshot_53 : decode b_M_snapshot 53 = .ok (.iload_n 1, 1) := by decide +kernel
theorem d_M_snapshot_54 : decode b_M_snapshot 54 = .ok (.iconst 3, 1) := by decide +kernel
theorem d_M_snapshot_55 : decode b_M_snapshot 55 = .ok (.if_icmp .ne 7, 3) := by decide +kernel
theorem d_M_snapshot_58 : decode b_M_snapshot 58 = .ok (.iconst 1, 1) := by decide +kernel
theorem d_M_snapshot_59 : decode b_M_snapshot 59 = .ok (.goto 4, 3) := by decide +kernel
theorem d_M_snapshot_62 : decode b_M_snapshot 62 = .ok (.iconst 0, 1) := by decide +kernel
theorem d_M_snapshot_63 : decode b_M_snapshot 63 = .ok (.putfield 27, 3) := by decide +kernel
theorem d_M_snapshot_66 : decode b_M_snapshot 66 = .ok (.aload_n 0, 1) := by decide +kernel
theorem d_M_snapshot_67 : decode b_M_snapshot 67 = .ok (.getfield 27, 3) := by decide +kernel
theorem d_M_snapshot_70 : decode b_M_snapshot 70 = .ok (.ifCond .le 5, 3) := by decide +kernel
theorem d_M_snapshot_73 : decode b_M_snapshot 73 = .ok (.iconst 0, 1) := by decide +kernel
theorem d_M_snapshot_74 : decode b_M_snapshot 74 = .ok (.ireturn, 1) := by decide +kernel
theorem d_M_snapshot_75 : decode b_M_snapshot 75 = .ok (.aload_n 0, 1) := by decide +kernel
theorem d_M_snapshot_76 : decode b_M_snapshot 76 = .ok (.iconst 1, 1) := by decide +kernel
theorem d_M_snapshot_77 : decode b_M_snapshot 77 = .ok (.invokevirtual 59, 3) := by decide +kernel
theorem d_M_snapshot_80 : decode b_M_snapshot 80 = .ok (.ifCond .ne 15, 3) := by decide +kernel
theorem d_M_snapshot_83 : decode b_M_snapshot 83 = .ok (.aload_n 0, 1) := by decide +kernel
theorem d_M_snapshot_84 : decode b_M_snapshot 84 = .ok (.iconst (-1), 1) := by decide +kernel
theorem d_M_snapshot_85 : decode b_M_snapshot 85 = .ok (.putfield 7, 3) := by decide +kernel
theorem d_M_snapshot_88 : decode b_M_snapshot 88 = .ok (.aload_n 0, 1) := by decide +kernel
theorem d_M_snapshot_89 : decode b_M_snapshot 89 = .ok (.iconst 2, 1) := by decide +kernel
theorem d_M_snapshot_90 : decode b_M_snapshot 90 = .ok (.putfield 27, 3) := by decide +kernel
theorem d_M_snapshot_93 : decode b_M_snapshot 93 = .ok (.iconst 0, 1) := by decide +kernel
theorem d_M_snapshot_94 : decode b_M_snapshot 94 = .ok (.ireturn, 1) := by decide +kernel
