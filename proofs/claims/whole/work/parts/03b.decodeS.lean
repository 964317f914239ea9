theorem d_S_isFree_19 : decode b_S_isFree 19 = .ok (.if_icmp .ne 5, 3) := by decide +kernel
theorem d_S_isFree_22 : decode b_S_isFree 22 = .ok (.iconst 0, 1) := by decide +kernel
theorem d_S_isFree_23 : decode b_S_isFree 23 = .ok (.ireturn, 1) := by decide +kernel
theorem d_S_isFree_24 : decode b_S_isFree 24 = .ok (.iinc 2 1, 3) := by decide +kernel
theorem d_S_isFree_27 : decode b_S_isFree 27 = .ok (.goto (-25), 3) := by decide +kernel
theorem d_S_isFree_30 : decode b_S_isFree 30 = .ok (.iconst 1, 1) := by decide +kernel
theorem d_S_isFree_31 : decode b_S_isFree 31 = .ok (.ireturn, 1) := by decide +kernel
theorem d_S_countFree_0 : decode b_S_countFree 0 = .ok (.iconst 0, 1) := by decide +kernel
theorem d_S_countFree_1 : decode b_S_countFree 1 = .ok (.istore_n 1, 1) := by decide +kernel
theorem d_S_countFree_2 : decode b_S_countFree 2 = .ok (.iconst 0, 1) := by decide +kernel
theorem d_S_countFree_3 : decode b_S_countFree 3 = .ok (.istore_n 2, 1) := by decide +kernel
theorem d_S_countFree_4 : decode b_S_countFree 4 = .ok (.iload_n 2, 1) := by decide +kernel
theorem d_S_countFree_5 : decode b_S_countFree 5 = .ok (.bipush 9, 2) := by decide +kernel
theorem d_S_countFree_7 : decode b_S_countFree 7 = .ok (.if_icmp .ge 20, 3) := by decide +kernel
theorem d_S_countFree_10 : decode b_S_countFree 10 = .ok (.aload_n 0, 1) := by decide +kernel
theorem d_S_countFree_11 : decode b_S_countFree 11 = .ok (.iload_n 2, 1) := by decide +kernel
theorem d_S_countFree_12 : decode b_S_countFree 12 = .ok (.invokevirtual 149, 3) := by decide +kernel
theorem d_S_countFree_15 : decode b_S_countFree 15 = .ok (.ifCond .eq 6, 3) := by decide +kernel
theorem d_S_countFree_18 : decode b_S_countFree 18 = .ok (.iinc 1 1, 3) := by decide +kernel
theorem d_S_countFree_21 : decode b_S_countFree 21 = .ok (.iinc 2 1, 3) := by decide +kernel
theorem d_S_countFree_24 : decode b_S_countFree 24 = .ok (.goto (-20), 3) := by decide +kernel
theorem d_S_countFree_27 : decode b_S_countFree 27 = .ok (.iload_n 1, 1) := by decide +kernel
theorem d_S_countFree_28 : decode b_S_countFree 28 = .ok (.ireturn, 1) := by decide +kernel
theorem d_S_lowestFree_0 : decode b_S_lowestFree 0 = .ok (.iconst 0, 1) := by decide +kernel
theorem d_S_lowestFree_1 : decode b_S_lowestFree 1 = .ok (.istore_n 1, 1) := by decide +kernel
theorem d_S_lowestFree_2 : decode b_S_lowestFree 2 = .ok (.iload_n 1, 1) := by decide +kernel
theorem d_S_lowestFree_3 : decode b_S_lowestFree 3 = .ok (.bipush 9, 2) := by decide +kernel
theorem d_S_lowestFree_5 : decode b_S_lowestFree 5 = .ok (.if_icmp .ge 19, 3) := by decide +kernel
theorem d_S_lowestFree_8 : decode b_S_lowestFree 8 = .ok (.aload_n 0, 1) := by decide +kernel
theorem d_S_lowestFree_9 : decode b_S_lowestFree 9 = .ok (.iload_n 1, 1) := by decide +kernel
theorem d_S_lowestFree_10 : decode b_S_lowestFree 10 = .ok (.invokevirtual 149, 3) := by decide +kernel
theorem d_S_lowestFree_13 : decode b_S_lowestFree 13 = .ok (.ifCond .eq 5, 3) := by decide +kernel
theorem d_S_lowestFree_16 : decode b_S_lowestFree 16 = .ok (.iload_n 1, 1) := by decide +kernel
theorem d_S_lowestFree_17 : decode b_S_lowestFree 17 = .ok (.ireturn, 1) := by decide +kernel
theorem d_S_lowestFree_18 : decode b_S_lowestFree 18 = .ok (.iinc 1 1, 3) := by decide +kernel
theorem d_S_lowestFree_21 : decode b_S_lowestFree 21 = .ok (.goto (-19), 3) := by decide +kernel
theorem d_S_lowestFree_24 : decode b_S_lowestFree 24 = .ok (.iconst (-1), 1) := by decide +kernel
theorem d_S_lowestFree_25 : decode b_S_lowestFree 25 = .ok (.ireturn, 1) := by decide +kernel
theorem d_S_findCopy_0 : decode b_S_findCopy 0 = .ok (.aload_n 0, 1) := by decide +kernel
theorem d_S_findCopy_1 : decode b_S_findCopy 1 = .ok (.iload_n 1, 1) := by decide +kernel
theorem d_S_findCopy_2 : decode b_S_findCopy 2 = .ok (.invokevirtual 119, 3) := by decide +kernel
theorem d_S_findCopy_5 : decode b_S_findCopy 5 = .ok (.ifCond .ne 5, 3) := by decide +kernel
theorem d_S_findCopy_8 : decode b_S_findCopy 8 = .ok (.iconst (-1), 1) := by decide +kernel
theorem d_S_findCopy_9 : decode b_S_findCopy 9 = .ok (.ireturn, 1) := by decide +kernel
theorem d_S_findCopy_10 : decode b_S_findCopy 10 = .ok (.iconst 0, 1) := by decide +kernel
theorem d_S_findCopy_11 : decode b_S_findCopy 11 = .ok (.istore_n 3, 1) := by decide +kernel
theorem d_S_findCopy_12 : decode b_S_findCopy 12 = .ok (.iload_n 3, 1) := by decide +kernel
theorem d_S_findCopy_13 : decode b_S_findCopy 13 = .ok (.bipush 9, 2) := by decide +kernel
theorem d_S_findCopy_15 : decode b_S_findCopy 15 = .ok (.if_icmp .ge 36, 3) := by decide +kernel
theorem d_S_findCopy_18 : decode b_S_findCopy 18 = .ok (.aload_n 0, 1) := by decide +kernel
theorem d_S_findCopy_19 : decode b_S_findCopy 19 = .ok (.getfield 16, 3) := by decide +kernel
theorem d_S_findCopy_22 : decode b_S_findCopy 22 = .ok (.iload_n 3, 1) := by decide +kernel
theorem d_S_findCopy_23 : decode b_S_findCopy 23 = .ok (.iaload, 1) := by decide +kernel
theorem d_S_findCopy_24 : decode b_S_findCopy 24 = .ok (.aload_n 0, 1) := by decide +kernel
theorem d_S_findCopy_25 : decode b_S_findCopy 25 = .ok (.getfield 22, 3) := by decide +kernel
theorem d_S_findCopy_28 : decode b_S_findCopy 28 = .ok (.iload_n 1, 1) := by decide +kernel
theorem d_S_findCopy_29 : decode b_S_findCopy 29 = .ok (.iaload, 1) := by decide +kernel
theorem d_S_findCopy_30 : decode b_S_findCopy 30 = .ok (.if_icmp .ne 15, 3) := by decide +kernel
theorem d_S_findCopy_33 : decode b_S_findCopy 33 = .ok (.aload_n 0, 1) := by decide +kernel
theorem d_S_findCopy_34 : decode b_S_findCopy 34 = .ok (.getfield 19, 3) := by decide +kernel
theorem d_S_findCopy_37 : decode b_S_findCopy 37 = .ok (.iload_n 3, 1) := by decide +kernel
theorem d_S_findCopy_38 : decode b_S_findCopy 38 = .ok (.iaload, 1) := by decide +kernel
theorem d_S_findCopy_39 : decode b_S_findCopy 39 = .ok (.iload_n 2, 1) := by decide +kernel
theorem d_S_findCopy_40 : decode b_S_findCopy 40 = .ok (.if_icmp .ne 5, 3) := by decide +kernel
theorem d_S_findCopy_43 : decode b_S_findCopy 43 = .ok (.iload_n 3, 1) := by decide +kernel
theorem d_S_findCopy_44 : decode b_S_findCopy 44 = .ok (.ireturn, 1) := by decide +kernel
theorem d_S_findCopy_45 : decode b_S_findCopy 45 = .ok (.iinc 3 1, 3) := by decide +kernel
theorem d_S_findCopy_48 : decode b_S_findCopy 48 = .ok (.goto (-36), 3) := by decide +kernel
theorem d_S_findCopy_51 : decode b_S_findCopy 51 = .ok (.iconst (-1), 1) := by decide +kernel
theorem d_S_findCopy_52 : decode b_S_findCopy 52 = .ok (.ireturn, 1) := by decide +kernel
theorem d_S_snapshotWord_0 : decode b_S_snapshotWord 0 = .ok (.aload_n 0, 1) := by decide +kernel
theorem d_S_snapshotWord_1 : decode b_S_snapshotWord 1 = .ok (.iload_n 1, 1) := by decide +kernel
theorem d_S_snapshotWord_2 : decode b_S_snapshotWord 2 = .ok (.iload_n 2, 1) := by decide +kernel
theorem d_S_snapshotWord_3 : decode b_S_snapshotWord 3 = .ok (.invokevirtual 75, 3) := by decide +kernel
theorem d_S_snapshotWord_6 : decode b_S_snapshotWord 6 = .ok (.istore 4, 2) := by decide +kernel
theorem d_S_snapshotWord_8 : decode b_S_snapshotWord 8 = .ok (.iload 4, 2) := by decide +kernel
theorem d_S_snapshotWord_10 : decode b_S_snapshotWord 10 = .ok (.iconst (-1), 1) := by decide +kernel
theorem d_S_snapshotWord_11 : decode b_S_snapshotWord 11 = .ok (.if_icmp .ne 16, 3) := by decide +kernel
theorem d_S_snapshotWord_14 : decode b_S_snapshotWord 14 = .ok (.aload_n 0, 1) := by decide +kernel
theorem d_S_snapshotWord_15 : decode b_S_snapshotWord 15 = .ok (.getfield 9, 3) := by decide +kernel
theorem d_S_snapshotWord_18 : decode b_S_snapshotWord 18 = .ok (.iload_n 2, 1) := by decide +kernel
theorem d_S_snapshotWord_19 : decode b_S_snapshotWord 19 = .ok (.iconst 4, 1) := by decide +kernel
theorem d_S_snapshotWord_20 : decode b_S_snapshotWord 20 = .ok (.imul, 1) := by decide +kernel
theorem d_S_snapshotWord_21 : decode b_S_snapshotWord 21 = .ok (.iload_n 3, 1) := by decide +kernel
theorem d_S_snapshotWord_22 : decode b_S_snapshotWord 22 = .ok (.iadd, 1) := by decide +kernel
theorem d_S_snapshotWord_23 : decode b_S_snapshotWord 23 = .ok (.iaload, 1) := by decide +kernel
theorem d_S_snapshotWord_24 : decode b_S_snapshotWord 24 = .ok (.goto 14, 3) := by decide +kernel
theorem d_S_snapshotWord_27 : decode b_S_snapshotWord 27 = .ok (.aload_n 0, 1) := by decide +kernel
theorem d_S_snapshotWord_28 : decode b_S_snapshotWord 28 = .ok (.getfield 13, 3) := by decide +kernel
theorem d_S_snapshotWord_31 : decode b_S_snapshotWord 31 = .ok (.iload 4, 2) := by decide +kernel
theorem d_S_snapshotWord_33 : decode b_S_snapshotWord 33 = .ok (.iconst 4, 1) := by decide +kernel
theorem d_S_snapshotWord_34 : decode b_S_snapshotWord 34 = .ok (.imul, 1) := by decide +kernel
theorem d_S_snapshotWord_35 : decode b_S_snapshotWord 35 = .ok (.iload_n 3, 1) := by decide +kernel
theorem d_S_snapshotWord_36 : decode b_S_snapshotWord 36 = .ok (.iadd, 1) := by decide +kernel
theorem d_S_snapshotWord_37 : decode b_S_snapshotWord 37 = .ok (.iaload, 1) := by decide +kernel
theorem d_S_snapshotWord_38 : decode b_S_snapshotWord 38 = .ok (.ireturn, 1) := by decide +kernel
theorem d_S_differs_0 : decode b_S_differs 0 = .ok (.iconst 0, 1) := by decide +kernel
theorem d_S_differs_1 : decode b_S_differs 1 = .ok (.istore_n 3, 1) := by decide +kernel
theorem d_S_differs_2 : decode b_S_differs 2 = .ok (.iload_n 3, 1) := by decide +kernel
theorem d_S_differs_3 : decode b_S_differs 3 = .ok (.iconst 4, 1) := by decide +kernel
theorem d_S_differs_4 : decode b_S_differs 4 = .ok (.if_icmp .ge 31, 3) := by decide +kernel
theorem d_S_differs_7 : decode b_S_differs 7 = .ok (.aload_n 0, 1) := by decide +kernel
theorem d_S_differs_8 : decode b_S_differs 8 = .ok (.iload_n 1, 1) := by decide +kernel
theorem d_S_differs_9 : decode b_S_differs 9 = .ok (.iload_n 2, 1) := by decide +kernel
theorem d_S_differs_10 : decode b_S_differs 10 = .ok (.iload_n 3, 1) := by decide +kernel
theorem d_S_differs_11 : decode b_S_differs 11 = .ok (.invokevirtual 71, 3) := by decide +kernel
theorem d_S_differs_14 : decode b_S_differs 14 = .ok (.aload_n 0, 1) := by decide +kernel
theorem d_S_differs_15 : decode b_S_differs 15 = .ok (.getfield 9, 3) := by decide +kernel
theorem d_S_differs_18 : decode b_S_differs 18 = .ok (.iload_n 2, 1) := by decide +kernel
theorem d_S_differs_19 : decode b_S_differs 19 = .ok (.iconst 4, 1) := by decide +kernel
theorem d_S_differs_20 : decode b_S_differs 20 = .ok (.imul, 1) := by decide +kernel
theorem d_S_differs_21 : decode b_S_differs 21 = .ok (.iload_n 3, 1) := by decide +kernel
theorem d_S_differs_22 : decode b_S_differs 22 = .ok (.iadd, 1) := by decide +kernel
theorem d_S_differs_23 : decode b_S_differs 23 = .ok (.iaload, 1) := by decide +kernel
theorem d_S_differs_24 : decode b_S_differs 24 = .ok (.if_icmp .eq 5, 3) := by decide +kernel
theorem d_S_differs_27 : decode b_S_differs 27 = .ok (.iconst 1, 1) := by decide +kernel
theorem d_S_differs_28 : decode b_S_differs 28 = .ok (.ireturn, 1) := by decide +kernel
theorem d_S_differs_29 : decode b_S_differs 29 = .ok (.iinc 3 1, 3) := by decide +kernel
theorem d_S_differs_32 : decode b_S_differs 32 = .ok (.goto (-30), 3) := by decide +kernel
theorem d_S_differs_35 : decode b_S_differs 35 = .ok (.iconst 0, 1) := by decide +kernel
theorem d_S_differs_36 : decode b_S_differs 36 = .ok (.ireturn, 1) := by decide +kernel
theorem d_S_shares_0 : decode b_S_shares 0 = .ok (.aload_n 0, 1) := by decide +kernel
theorem d_S_shares_1 : decode b_S_shares 1 = .ok (.iload_n 1, 1) := by decide +kernel
theorem d_S_shares_2 : decode b_S_shares 2 = .ok (.invokevirtual 119, 3) := by decide +kernel
theorem d_S_shares_5 : decode b_S_shares 5 = .ok (.ifCond .eq 17, 3) := by decide +kernel
theorem d_S_shares_8 : decode b_S_shares 8 = .ok (.aload_n 0, 1) := by decide +kernel
theorem d_S_shares_9 : decode b_S_shares 9 = .ok (.iload_n 1, 1) := by decide +kernel
theorem d_S_shares_10 : decode b_S_shares 10 = .ok (.iload_n 2, 1) := by decide +kernel
theorem d_S_shares_11 : decode b_S_shares 11 = .ok (.invokevirtual 75, 3) := by decide +kernel
theorem d_S_shares_14 : decode b_S_shares 14 = .ok (.iconst (-1), 1) := by decide +kernel
theorem d_S_shares_15 : decode b_S_shares 15 = .ok (.if_icmp .ne 7, 3) := by decide +kernel
theorem d_S_shares_18 : decode b_S_shares 18 = .ok (.iconst 1, 1) := by decide +kernel
theorem d_S_shares_19 : decode b_S_shares 19 = .ok (.goto 4, 3) := by decide +kernel
theorem d_S_shares_22 : decode b_S_shares 22 = .ok (.iconst 0, 1) := by decide +kernel
theorem d_S_shares_23 : decode b_S_shares 23 = .ok (.ireturn, 1) := by decide +kernel
theorem d_S_countSharers_0 : decode b_S_countSharers 0 = .ok (.iconst 0, 1) := by decide +kernel
theorem d_S_countSharers_1 : decode b_S_countSharers 1 = .ok (.istore_n 2, 1) := by decide +kernel
theorem d_S_countSharers_2 : decode b_S_countSharers 2 = .ok (.iconst 0, 1) := by decide +kernel
theorem d_S_countSharers_3 : decode b_S_countSharers 3 = .ok (.istore_n 3, 1) := by decide +kernel
theorem d_S_countSharers_4 : decode b_S_countSharers 4 = .ok (.iload_n 3, 1) := by decide +kernel
theorem d_S_countSharers_5 : decode b_S_countSharers 5 = .ok (.iconst 3, 1) := by decide +kernel
theorem d_S_countSharers_6 : decode b_S_countSharers 6 = .ok (.if_icmp .ge 21, 3) := by decide +kernel
theorem d_S_countSharers_9 : decode b_S_countSharers 9 = .ok (.aload_n 0, 1) := by decide +kernel
theorem d_S_countSharers_10 : decode b_S_countSharers 10 = .ok (.iload_n 3, 1) := by decide +kernel
theorem d_S_countSharers_11 : decode b_S_countSharers 11 = .ok (.iload_n 1, 1) := by decide +kernel
theorem d_S_countSharers_12 : decode b_S_countSharers 12 = .ok (.invokevirtual 152, 3) := by decide +kernel
theorem d_S_countSharers_15 : decode b_S_countSharers 15 = .ok (.ifCond .eq 6, 3) := by decide +kernel
theorem d_S_countSharers_18 : decode b_S_countSharers 18 = .ok (.iinc 2 1, 3) := by decide +kernel
theorem d_S_countSharers_21 : decode b_S_countSharers 21 = .ok (.iinc 3 1, 3) := by decide +kernel
theorem d_S_countSharers_24 : decode b_S_countSharers 24 = .ok (.goto (-20), 3) := by decide +kernel
theorem d_S_countSharers_27 : decode b_S_countSharers 27 = .ok (.iload_n 2, 1) := by decide +kernel
theorem d_S_countSharers_28 : decode b_S_countSharers 28 = .ok (.ireturn, 1) := by decide +kernel
theorem d_S_countCopiesToMerge_0 : decode b_S_countCopiesToMerge 0 = .ok (.iconst 0, 1) := by decide +kernel
theorem d_S_countCopiesToMerge_1 : decode b_S_countCopiesToMerge 1 = .ok (.istore_n 2, 1) := by decide +kernel
theorem d_S_countCopiesToMerge_2 : decode b_S_countCopiesToMerge 2 = .ok (.iconst 0, 1) := by decide +kernel
theorem d_S_countCopiesToMerge_3 : decode b_S_countCopiesToMerge 3 = .ok (.istore_n 3, 1) := by decide +kernel
theorem d_S_countCopiesToMerge_4 : decode b_S_countCopiesToMerge 4 = .ok (.iload_n 3, 1) := by decide +kernel
theorem d_S_countCopiesToMerge_5 : decode b_S_countCopiesToMerge 5 = .ok (.bipush 6, 2) := by decide +kernel
theorem d_S_countCopiesToMerge_7 : decode b_S_countCopiesToMerge 7 = .ok (.if_icmp .ge 27, 3) := by decide +kernel
theorem d_S_countCopiesToMerge_10 : decode b_S_countCopiesToMerge 10 = .ok (.aload_n 0, 1) := by decide +kernel
theorem d_S_countCopiesToMerge_11 : decode b_S_countCopiesToMerge 11 = .ok (.iload_n 1, 1) := by decide +kernel
theorem d_S_countCopiesToMerge_12 : decode b_S_countCopiesToMerge 12 = .ok (.iload_n 3, 1) := by decide +kernel
theorem d_S_countCopiesToMerge_13 : decode b_S_countCopiesToMerge 13 = .ok (.invokevirtual 75, 3) := by decide +kernel
theorem d_S_countCopiesToMerge_16 : decode b_S_countCopiesToMerge 16 = .ok (.iconst (-1), 1) := by decide +kernel
theorem d_S_countCopiesToMerge_17 : decode b_S_countCopiesToMerge 17 = .ok (.if_icmp .eq 11, 3) := by decide +kernel
theorem d_S_countCopiesToMerge_20 : decode b_S_countCopiesToMerge 20 = .ok (.iload_n 2, 1) := by decide +kernel
theorem d_S_countCopiesToMerge_21 : decode b_S_countCopiesToMerge 21 = .ok (.aload_n 0, 1) := by decide +kernel
theorem d_S_countCopiesToMerge_22 : decode b_S_countCopiesToMerge 22 = .ok (.iload_n 3, 1) := by decide +kernel
theorem d_S_countCopiesToMerge_23 : decode b_S_countCopiesToMerge 23 = .ok (.invokevirtual 35, 3) := by decide +kernel
theorem d_S_countCopiesToMerge_26 : decode b_S_countCopiesToMerge 26 = .ok (.iadd, 1) := by decide +kernel
theorem d_S_countCopiesToMerge_27 : decode b_S_countCopiesToMerge 27 = .ok (.istore_n 2, 1) := by decide +kernel
theorem d_S_countCopiesToMerge_28 : decode b_S_countCopiesToMerge 28 = .ok (.iinc 3 1, 3) := by decide +kernel
theorem d_S_countCopiesToMerge_31 : decode b_S_countCopiesToMerge 31 = .ok (.goto (-27), 3) := by decide +kernel
theorem d_S_countCopiesToMerge_34 : decode b_S_countCopiesToMerge 34 = .ok (.iload_n 2, 1) := by decide +kernel
theorem d_S_countCopiesToMerge_35 : decode b_S_countCopiesToMerge 35 = .ok (.ireturn, 1) := by decide +kernel
theorem d_S_copyForSharers_0 : decode b_S_copyForSharers 0 = .ok (.iconst 0, 1) := by decide +kernel
theorem d_S_copyForSharers_1 : decode b_S_copyForSharers 1 = .ok (.istore_n 2, 1) := by decide +kernel
theorem d_S_copyForSharers_2 : decode b_S_copyForSharers 2 = .ok (.iconst 0, 1) := by decide +kernel
theorem d_S_copyForSharers_3 : decode b_S_copyForSharers 3 = .ok (.istore_n 3, 1) := by decide +kernel
theorem d_S_copyForSharers_4 : decode b_S_copyForSharers 4 = .ok (.iload_n 3, 1) := by decide +kernel
theorem d_S_copyForSharers_5 : decode b_S_copyForSharers 5 = .ok (.iconst 3, 1) := by decide +kernel
theorem d_S_copyForSharers_6 : decode b_S_copyForSharers 6 = .ok (.if_icmp .ge 29, 3) := by decide +kernel
theorem d_S_copyForSharers_9 : decode b_S_copyForSharers 9 = .ok (.aload_n 0, 1) := by decide +kernel
theorem d_S_copyForSharers_10 : decode b_S_copyForSharers 10 = .ok (.iload_n 3, 1) := by decide +kernel
theorem d_S_copyForSharers_11 : decode b_S_copyForSharers 11 = .ok (.iload_n 1, 1) := by decide +kernel
theorem d_S_copyForSharers_12 : decode b_S_copyForSharers 12 = .ok (.invokevirtual 152, 3) := by decide +kernel
theorem d_S_copyForSharers_15 : decode b_S_copyForSharers 15 = .ok (.ifCond .eq 14, 3) := by decide +kernel
theorem d_S_copyForSharers_18 : decode b_S_copyForSharers 18 = .ok (.aload_n 0, 1) := by decide +kernel
theorem d_S_copyForSharers_19 : decode b_S_copyForSharers 19 = .ok (.iload_n 3, 1) := by decide +kernel
theorem d_S_copyForSharers_20 : decode b_S_copyForSharers 20 = .ok (.iload_n 1, 1) := by decide +kernel
theorem d_S_copyForSharers_21 : decode b_S_copyForSharers 21 = .ok (.iconst (-1), 1) := by decide +kernel
theorem d_S_copyForSharers_22 : decode b_S_copyForSharers 22 = .ok (.iconst 0, 1) := by decide +kernel
theorem d_S_copyForSharers_23 : decode b_S_copyForSharers 23 = .ok (.invokevirtual 82, 3) := by decide +kernel
theorem d_S_copyForSharers_26 : decode b_S_copyForSharers 26 = .ok (.iinc 2 1, 3) := by decide +kernel
theorem d_S_copyForSharers_29 : decode b_S_copyForSharers 29 = .ok (.iinc 3 1, 3) := by decide +kernel
theorem d_S_copyForSharers_32 : decode b_S_copyForSharers 32 = .ok (.goto (-28), 3) := by decide +kernel
theorem d_S_copyForSharers_35 : decode b_S_copyForSharers 35 = .ok (.iload_n 2, 1) := by decide +kernel
theorem d_S_copyForSharers_36 : decode b_S_copyForSharers 36 = .ok (.ireturn, 1) := by decide +kernel
theorem d_S_copyBlock_0 : decode b_S_copyBlock 0 = .ok (.aload_n 0, 1) := by decide +kernel
theorem d_S_copyBlock_1 : decode b_S_copyBlock 1 = .ok (.invokevirtual 155, 3) := by decide +kernel
theorem d_S_copyBlock_4 : decode b_S_copyBlock 4 = .ok (.istore 5, 2) := by decide +kernel
theorem d_S_copyBlock_6 : decode b_S_copyBlock 6 = .ok (.iload 5, 2) := by decide +kernel
theorem d_S_copyBlock_8 : decode b_S_copyBlock 8 = .ok (.iconst (-1), 1) := by decide +kernel
theorem d_S_copyBlock_9 : decode b_S_copyBlock 9 = .ok (.if_icmp .ne 4, 3) := by decide +kernel
theorem d_S_copyBlock_12 : decode b_S_copyBlock 12 = .ok (.return_, 1) := by decide +kernel
theorem d_S_copyBlock_13 : decode b_S_copyBlock 13 = .ok (.iconst 0, 1) := by decide +kernel
theorem d_S_copyBlock_14 : decode b_S_copyBlock 14 = .ok (.istore 6, 2) := by decide +kernel
theorem d_S_copyBlock_16 : decode b_S_copyBlock 16 = .ok (.iload 6, 2) := by decide +kernel
theorem d_S_copyBlock_18 : decode b_S_copyBlock 18 = .ok (.iconst 4, 1) := by decide +kernel
theorem d_S_copyBlock_19 : decode b_S_copyBlock 19 = .ok (.if_icmp .ge 39, 3) := by decide +kernel
theorem d_S_copyBlock_22 : decode b_S_copyBlock 22 = .ok (.aload_n 0, 1) := by decide +kernel
theorem d_S_copyBlock_23 : decode b_S_copyBlock 23 = .ok (.iload 5, 2) := by decide +kernel
theorem d_S_copyBlock_25 : decode b_S_copyBlock 25 = .ok (.iload 6, 2) := by decide +kernel
theorem d_S_copyBlock_27 : decode b_S_copyBlock 27 = .ok (.iload 6, 2) := by decide +kernel
theorem d_S_copyBlock_29 : decode b_S_copyBlock 29 = .ok (.iload_n 3, 1) := by decide +kernel
theorem d_S_copyBlock_30 : decode b_S_copyBlock 30 = .ok (.if_icmp .ne 8, 3) := by decide +kernel
theorem d_S_copyBlock_33 : decode b_S_copyBlock 33 = .ok (.iload 4, 2) := by decide +kernel
theorem d_S_copyBlock_35 : decode b_S_copyBlock 35 = .ok (.goto 14, 3) := by decide +kernel
theorem d_S_copyBlock_38 : decode b_S_copyBlock 38 = .ok (.aload_n 0, 1) := by decide +kernel
theorem d_S_copyBlock_39 : decode b_S_copyBlock 39 = .ok (.getfield 9, 3) := by decide +kernel
theorem d_S_copyBlock_42 : decode b_S_copyBlock 42 = .ok (.iload_n 2, 1) := by decide +kernel
theorem d_S_copyBlock_43 : decode b_S_copyBlock 43 = .ok (.iconst 4, 1) := by decide +kernel
theorem d_S_copyBlock_44 : decode b_S_copyBlock 44 = .ok (.imul, 1) := by decide +kernel
theorem d_S_copyBlock_45 : decode b_S_copyBlock 45 = .ok (.iload 6, 2) := by decide +kernel
theorem d_S_copyBlock_47 : decode b_S_copyBlock 47 = .ok (.iadd, 1) := by decide +kernel
theorem d_S_copyBlock_48 : decode b_S_copyBlock 48 = .ok (.iaload, 1) := by decide +kernel
theorem d_S_copyBlock_49 : decode b_S_copyBlock 49 = .ok (.invokevirtual 79, 3) := by decide +kernel
theorem d_S_copyBlock_52 : decode b_S_copyBlock 52 = .ok (.iinc 6 1, 3) := by decide +kernel
theorem d_S_copyBlock_55 : decode b_S_copyBlock 55 = .ok (.goto (-39), 3) := by decide +kernel
theorem d_S_copyBlock_58 : decode b_S_copyBlock 58 = .ok (.aload_n 0, 1) := by decide +kernel
theorem d_S_copyBlock_59 : decode b_S_copyBlock 59 = .ok (.iload 5, 2) := by decide +kernel
theorem d_S_copyBlock_61 : decode b_S_copyBlock 61 = .ok (.aload_n 0, 1) := by decide +kernel
theorem d_S_copyBlock_62 : decode b_S_copyBlock 62 = .ok (.getfield 22, 3) := by decide +kernel
theorem d_S_copyBlock_65 : decode b_S_copyBlock 65 = .ok (.iload_n 1, 1) := by decide +kernel
theorem d_S_copyBlock_66 : decode b_S_copyBlock 66 = .ok (.iaload, 1) := by decide +kernel
theorem d_S_copyBlock_67 : decode b_S_copyBlock 67 = .ok (.iload_n 2, 1) := by decide +kernel
theorem d_S_copyBlock_68 : decode b_S_copyBlock 68 = .ok (.invokevirtual 158, 3) := by decide +kernel
theorem d_S_copyBlock_71 : decode b_S_copyBlock 71 = .ok (.return_, 1) := by decide +kernel
theorem d_S_mergeFromMark_0 : decode b_S_mergeFromMark 0 = .ok (.iconst 0, 1) := by decide +kernel
theorem d_S_mergeFromMark_1 : decode b_S_mergeFromMark 1 = .ok (.istore_n 2, 1) := by decide +kernel
theorem d_S_mergeFromMark_2 : decode b_S_mergeFromMark 2 = .ok (.aload_n 0, 1) := by decide +kernel
theorem d_S_mergeFromMark_3 : decode b_S_mergeFromMark 3 = .ok (.getfield 127, 3) := by decide +kernel
theorem d_S_mergeFromMark_6 : decode b_S_mergeFromMark 6 = .ok (.istore_n 3, 1) := by decide +kernel
theorem d_S_mergeFromMark_7 : decode b_S_mergeFromMark 7 = .ok (.iload_n 3, 1) := by decide +kernel
theorem d_S_mergeFromMark_8 : decode b_S_mergeFromMark 8 = .ok (.bipush 6, 2) := by decide +kernel
theorem d_S_mergeFromMark_10 : decode b_S_mergeFromMark 10 = .ok (.if_icmp .ge 46, 3) := by decide +kernel
theorem d_S_mergeFromMark_13 : decode b_S_mergeFromMark 13 = .ok (.aload_n 0, 1) := by decide +kernel
theorem d_S_mergeFromMark_14 : decode b_S_mergeFromMark 14 = .ok (.iload_n 1, 1) := by decide +kernel
theorem d_S_mergeFromMark_15 : decode b_S_mergeFromMark 15 = .ok (.iload_n 3, 1) := by decide +kernel
theorem d_S_mergeFromMark_16 : decode b_S_mergeFromMark 16 = .ok (.invokevirtual 75, 3) := by decide +kernel
theorem d_S_mergeFromMark_19 : decode b_S_mergeFromMark 19 = .ok (.istore 4, 2) := by decide +kernel
theorem d_S_mergeFromMark_21 : decode b_S_mergeFromMark 21 = .ok (.iload 4, 2) := by decide +kernel
theorem d_S_mergeFromMark_23 : decode b_S_mergeFromMark 23 = .ok (.iconst (-1), 1) := by decide +kernel
theorem d_S_mergeFromMark_24 : decode b_S_mergeFromMark 24 = .ok (.if_icmp .eq 26, 3) := by decide +kernel
theorem d_S_mergeFromMark_27 : decode b_S_mergeFromMark 27 = .ok (.aload_n 0, 1) := by decide +kernel
theorem d_S_mergeFromMark_28 : decode b_S_mergeFromMark 28 = .ok (.iload_n 3, 1) := by decide +kernel
theorem d_S_mergeFromMark_29 : decode b_S_mergeFromMark 29 = .ok (.invokevirtual 43, 3) := by decide +kernel
theorem d_S_mergeFromMark_32 : decode b_S_mergeFromMark 32 = .ok (.pop, 1) := by decide +kernel
theorem d_S_mergeFromMark_33 : decode b_S_mergeFromMark 33 = .ok (.aload_n 0, 1) := by decide +kernel
theorem d_S_mergeFromMark_34 : decode b_S_mergeFromMark 34 = .ok (.iload_n 3, 1) := by decide +kernel
theorem d_S_mergeFromMark_35 : decode b_S_mergeFromMark 35 = .ok (.iload 4, 2) := by decide +kernel
theorem d_S_mergeFromMark_37 : decode b_S_mergeFromMark 37 = .ok (.invokevirtual 161, 3) := by decide +kernel
theorem d_S_mergeFromMark_40 : decode b_S_mergeFromMark 40 = .ok (.aload_n 0, 1) := by decide +kernel
theorem d_S_mergeFromMark_41 : decode b_S_mergeFromMark 41 = .ok (.iload_n 3, 1) := by decide +kernel
theorem d_S_mergeFromMark_42 : decode b_S_mergeFromMark 42 = .ok (.iconst 1, 1) := by decide +kernel
theorem d_S_mergeFromMark_43 : decode b_S_mergeFromMark 43 = .ok (.iadd, 1) := by decide +kernel
theorem d_S_mergeFromMark_44 : decode b_S_mergeFromMark 44 = .ok (.invokevirtual 89, 3) := by decide +kernel
theorem d_S_mergeFromMark_47 : decode b_S_mergeFromMark 47 = .ok (.iinc 2 1, 3) := by decide +kernel
theorem d_S_mergeFromMark_50 : decode b_S_mergeFromMark 50 = .ok (.iinc 3 1, 3) := by decide +kernel
theorem d_S_mergeFromMark_53 : decode b_S_mergeFromMark 53 = .ok (.goto (-46), 3) := by decide +kernel
theorem d_S_mergeFromMark_56 : decode b_S_mergeFromMark 56 = .ok (.aload_n 0, 1) := by decide +kernel
theorem d_S_mergeFromMark_57 : decode b_S_mergeFromMark 57 = .ok (.iconst 0, 1) := by decide +kernel
theorem d_S_mergeFromMark_58 : decode b_S_mergeFromMark 58 = .ok (.invokevirtual 92, 3) := by decide +kernel
theorem d_S_mergeFromMark_61 : decode b_S_mergeFromMark 61 = .ok (.iload_n 2, 1) := by decide +kernel
theorem d_S_mergeFromMark_62 : decode b_S_mergeFromMark 62 = .ok (.ireturn, 1) := by decide +kernel
theorem d_S_putBlockBack_0 : decode b_S_putBlockBack 0 = .ok (.iconst 0, 1) := by decide +kernel
theorem d_S_putBlockBack_1 : decode b_S_putBlockBack 1 = .ok (.istore_n 3, 1) := by decide +kernel
theorem d_S_putBlockBack_2 : decode b_S_putBlockBack 2 = .ok (.iload_n 3, 1) := by decide +kernel
theorem d_S_putBlockBack_3 : decode b_S_putBlockBack 3 = .ok (.iconst 4, 1) := by decide +kernel
theorem d_S_putBlockBack_4 : decode b_S_putBlockBack 4 = .ok (.if_icmp .ge 25, 3) := by decide +kernel
theorem d_S_putBlockBack_7 : decode b_S_putBlockBack 7 = .ok (.aload_n 0, 1) := by decide +kernel
theorem d_S_putBlockBack_8 : decode b_S_putBlockBack 8 = .ok (.iload_n 1, 1) := by decide +kernel
theorem d_S_putBlockBack_9 : decode b_S_putBlockBack 9 = .ok (.iload_n 3, 1) := by decide +kernel
theorem d_S_putBlockBack_10 : decode b_S_putBlockBack 10 = .ok (.aload_n 0, 1) := by decide +kernel
theorem d_S_putBlockBack_11 : decode b_S_putBlockBack 11 = .ok (.getfield 13, 3) := by decide +kernel
theorem d_S_putBlockBack_14 : decode b_S_putBlockBack 14 = .ok (.iload_n 2, 1) := by decide +kernel
theorem d_S_putBlockBack_15 : decode b_S_putBlockBack 15 = .ok (.iconst 4, 1) := by decide +kernel
theorem d_S_putBlockBack_16 : decode b_S_putBlockBack 16 = .ok (.imul, 1) := by decide +kernel
theorem d_S_putBlockBack_17 : decode b_S_putBlockBack 17 = .ok (.iload_n 3, 1) := by decide +kernel
theorem d_S_putBlockBack_18 : decode b_S_putBlockBack 18 = .ok (.iadd, 1) := by decide +kernel
theorem d_S_putBlockBack_19 : decode b_S_putBlockBack 19 = .ok (.iaload, 1) := by decide +kernel
theorem d_S_putBlockBack_20 : decode b_S_putBlockBack 20 = .ok (.invokevirtual 46, 3) := by decide +kernel
theorem d_S_putBlockBack_23 : decode b_S_putBlockBack 23 = .ok (.iinc 3 1, 3) := by decide +kernel
theorem d_S_putBlockBack_26 : decode b_S_putBlockBack 26 = .ok (.goto (-24), 3) := by decide +kernel
theorem d_S_putBlockBack_29 : decode b_S_putBlockBack 29 = .ok (.return_, 1) := by decide +kernel
theorem d_S_putBlockWord_0 : decode b_S_putBlockWord 0 = .ok (.aload_n 0, 1) := by decide +kernel
theorem d_S_putBlockWord_1 : decode b_S_putBlockWord 1 = .ok (.invokevirtual 164, 3) := by decide +kernel
theorem d_S_putBlockWord_4 : decode b_S_putBlockWord 4 = .ok (.aload_n 0, 1) := by decide +kernel
theorem d_S_putBlockWord_5 : decode b_S_putBlockWord 5 = .ok (.getfield 9, 3) := by decide +kernel
theorem d_S_putBlockWord_8 : decode b_S_putBlockWord 8 = .ok (.iload_n 1, 1) := by decide +kernel
theorem d_S_putBlockWord_9 : decode b_S_putBlockWord 9 = .ok (.iconst 4, 1) := by decide +kernel
theorem d_S_putBlockWord_10 : decode b_S_putBlockWord 10 = .ok (.imul, 1) := by decide +kernel
theorem d_S_putBlockWord_11 : decode b_S_putBlockWord 11 = .ok (.iload_n 2, 1) := by decide +kernel
theorem d_S_putBlockWord_12 : decode b_S_putBlockWord 12 = .ok (.iadd, 1) := by decide +kernel
theorem d_S_putBlockWord_13 : decode b_S_putBlockWord 13 = .ok (.iload_n 3, 1) := by decide +kernel
theorem d_S_putBlockWord_14 : decode b_S_putBlockWord 14 = .ok (.iastore, 1) := by decide +kernel
theorem d_S_putBlockWord_15 : decode b_S_putBlockWord 15 = .ok (.return_, 1) := by decide +kernel
theorem d_S_putCopyWord_0 : decode b_S_putCopyWord 0 = .ok (.aload_n 0, 1) := by decide +kernel
theorem d_S_putCopyWord_1 : decode b_S_putCopyWord 1 = .ok (.invokevirtual 164, 3) := by decide +kernel
theorem d_S_putCopyWord_4 : decode b_S_putCopyWord 4 = .ok (.aload_n 0, 1) := by decide +kernel
theorem d_S_putCopyWord_5 : decode b_S_putCopyWord 5 = .ok (.getfield 13, 3) := by decide +kernel
theorem d_S_putCopyWord_8 : decode b_S_putCopyWord 8 = .ok (.iload_n 1, 1) := by decide +kernel
theorem d_S_putCopyWord_9 : decode b_S_putCopyWord 9 = .ok (.iconst 4, 1) := by decide +kernel
theorem d_S_putCopyWord_10 : decode b_S_putCopyWord 10 = .ok (.imul, 1) := by decide +kernel
theorem d_S_putCopyWord_11 : decode b_S_putCopyWord 11 = .ok (.iload_n 2, 1) := by decide +kernel
theorem d_S_putCopyWord_12 : decode b_S_putCopyWord 12 = .ok (.iadd, 1) := by decide +kernel
theorem d_S_putCopyWord_13 : decode b_S_putCopyWord 13 = .ok (.iload_n 3, 1) := by decide +kernel
theorem d_S_putCopyWord_14 : decode b_S_putCopyWord 14 = .ok (.iastore, 1) := by decide +kernel
theorem d_S_putCopyWord_15 : decode b_S_putCopyWord 15 = .ok (.return_, 1) := by decide +kernel
theorem d_S_putTag_0 : decode b_S_putTag 0 = .ok (.aload_n 0, 1) := by decide +kernel
theorem d_S_putTag_1 : decode b_S_putTag 1 = .ok (.invokevirtual 164, 3) := by decide +kernel
theorem d_S_putTag_4 : decode b_S_putTag 4 = .ok (.aload_n 0, 1) := by decide +kernel
theorem d_S_putTag_5 : decode b_S_putTag 5 = .ok (.getfield 16, 3) := by decide +kernel
theorem d_S_putTag_8 : decode b_S_putTag 8 = .ok (.iload_n 1, 1) := by decide +kernel
theorem d_S_putTag_9 : decode b_S_putTag 9 = .ok (.iload_n 2, 1) := by decide +kernel
theorem d_S_putTag_10 : decode b_S_putTag 10 = .ok (.iastore, 1) := by decide +kernel
theorem d_S_putTag_11 : decode b_S_putTag 11 = .ok (.aload_n 0, 1) := by decide +kernel
theorem d_S_putTag_12 : decode b_S_putTag 12 = .ok (.getfield 19, 3) := by decide +kernel
theorem d_S_putTag_15 : decode b_S_putTag 15 = .ok (.iload_n 1, 1) := by decide +kernel
theorem d_S_putTag_16 : decode b_S_putTag 16 = .ok (.iload_n 3, 1) := by decide +kernel
theorem d_S_putTag_17 : decode b_S_putTag 17 = .ok (.iastore, 1) := by decide +kernel
theorem d_S_putTag_18 : decode b_S_putTag 18 = .ok (.return_, 1) := by decide +kernel
theorem d_S_putStamp_0 : decode b_S_putStamp 0 = .ok (.aload_n 0, 1) := by decide +kernel
theorem d_S_putStamp_1 : decode b_S_putStamp 1 = .ok (.invokevirtual 164, 3) := by decide +kernel
theorem d_S_putStamp_4 : decode b_S_putStamp 4 = .ok (.aload_n 0, 1) := by decide +kernel
theorem d_S_putStamp_5 : decode b_S_putStamp 5 = .ok (.getfield 22, 3) := by decide +kernel
theorem d_S_putStamp_8 : decode b_S_putStamp 8 = .ok (.iload_n 1, 1) := by decide +kernel
theorem d_S_putStamp_9 : decode b_S_putStamp 9 = .ok (.iload_n 2, 1) := by decide +kernel
theorem d_S_putStamp_10 : decode b_S_putStamp 10 = .ok (.iastore, 1) := by decide +kernel
theorem d_S_putStamp_11 : decode b_S_putStamp 11 = .ok (.return_, 1) := by decide +kernel
theorem d_S_putRoll_0 : decode b_S_putRoll 0 = .ok (.aload_n 0, 1) := by decide +kernel
theorem d_S_putRoll_1 : decode b_S_putRoll 1 = .ok (.invokevirtual 164, 3) := by decide +kernel
theorem d_S_putRoll_4 : decode b_S_putRoll 4 = .ok (.aload_n 0, 1) := by decide +kernel
theorem d_S_putRoll_5 : decode b_S_putRoll 5 = .ok (.iload_n 1, 1) := by decide +kernel
theorem d_S_putRoll_6 : decode b_S_putRoll 6 = .ok (.putfield 107, 3) := by decide +kernel
theorem d_S_putRoll_9 : decode b_S_putRoll 9 = .ok (.return_, 1) := by decide +kernel
theorem d_S_putMark_0 : decode b_S_putMark 0 = .ok (.aload_n 0, 1) := by decide +kernel
theorem d_S_putMark_1 : decode b_S_putMark 1 = .ok (.invokevirtual 164, 3) := by decide +kernel
theorem d_S_putMark_4 : decode b_S_putMark 4 = .ok (.aload_n 0, 1) := by decide +kernel
theorem d_S_putMark_5 : decode b_S_putMark 5 = .ok (.iload_n 1, 1) := by decide +kernel
theorem d_S_putMark_6 : decode b_S_putMark 6 = .ok (.putfield 127, 3) := by decide +kernel
theorem d_S_putMark_9 : decode b_S_putMark 9 = .ok (.return_, 1) := by decide +kernel
theorem d_S_countWrite_0 : decode b_S_countWrite 0 = .ok (.aload_n 0, 1) := by decide +kernel
theorem d_S_countWrite_1 : decode b_S_countWrite 1 = .ok (.getfield 102, 3) := by decide +kernel
theorem d_S_countWrite_4 : decode b_S_countWrite 4 = .ok (.ifCond .ne 23, 3) := by decide +kernel
theorem d_S_countWrite_7 : decode b_S_countWrite 7 = .ok (.aload_n 0, 1) := by decide +kernel
theorem d_S_countWrite_8 : decode b_S_countWrite 8 = .ok (.iconst (-1), 1) := by decide +kernel
theorem d_S_countWrite_9 : decode b_S_countWrite 9 = .ok (.putfield 102, 3) := by decide +kernel
theorem d_S_countWrite_12 : decode b_S_countWrite 12 = .ok (.aload_n 0, 1) := by decide +kernel
theorem d_S_countWrite_13 : decode b_S_countWrite 13 = .ok (.iconst 1, 1) := by decide +kernel
theorem d_S_countWrite_14 : decode b_S_countWrite 14 = .ok (.putfield 98, 3) := by decide +kernel
theorem d_S_countWrite_17 : decode b_S_countWrite 17 = .ok (.new 130, 3) := by decide +kernel
theorem d_S_countWrite_20 : decode b_S_countWrite 20 = .ok (.dup, 1) := by decide +kernel
theorem d_S_countWrite_21 : decode b_S_countWrite 21 = .ok (.ldc 167, 2) := by decide +kernel
theorem d_S_countWrite_23 : decode b_S_countWrite 23 = .ok (.invokespecial 134, 3) := by decide +kernel
theorem d_S_countWrite_26 : decode b_S_countWrite 26 = .ok (.athrow, 1) := by decide +kernel
theorem d_S_countWrite_27 : decode b_S_countWrite 27 = .ok (.aload_n 0, 1) := by decide +kernel
theorem d_S_countWrite_28 : decode b_S_countWrite 28 = .ok (.getfield 102, 3) := by decide +kernel
theorem d_S_countWrite_31 : decode b_S_countWrite 31 = .ok (.ifCond .le 13, 3) := by decide +kernel
theorem d_S_countWrite_34 : decode b_S_countWrite 34 = .ok (.aload_n 0, 1) := by decide +kernel
theorem d_S_countWrite_35 : decode b_S_countWrite 35 = .ok (.dup, 1) := by decide +kernel
theorem d_S_countWrite_36 : decode b_S_countWrite 36 = .ok (.getfield 102, 3) := by decide +kernel
theorem d_S_countWrite_39 : decode b_S_countWrite 39 = .ok (.iconst 1, 1) := by decide +kernel
theorem d_S_countWrite_40 : decode b_S_countWrite 40 = .ok (.isub, 1) := by decide +kernel
theorem d_S_countWrite_41 : decode b_S_countWrite 41 = .ok (.putfield 102, 3) := by decide +kernel
theorem d_S_countWrite_44 : decode b_S_countWrite 44 = .ok (.aload_n 0, 1) := by decide +kernel
theorem d_S_countWrite_45 : decode b_S_countWrite 45 = .ok (.dup, 1) := by decide +kernel
theorem d_S_countWrite_46 : decode b_S_countWrite 46 = .ok (.getfield 110, 3) := by decide +kernel
theorem d_S_countWrite_49 : decode b_S_countWrite 49 = .ok (.iconst 1, 1) := by decide +kernel
theorem d_S_countWrite_50 : decode b_S_countWrite 50 = .ok (.iadd, 1) := by decide +kernel
theorem d_S_countWrite_51 : decode b_S_countWrite 51 = .ok (.putfield 110, 3) := by decide +kernel
theorem d_S_countWrite_54 : decode b_S_countWrite 54 = .ok (.return_, 1) := by decide +kernel
