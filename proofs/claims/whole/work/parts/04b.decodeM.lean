theorem d_M_snapshot_95 : decode b_M_snapshot 95 = .ok (.aload_n 0, 1) := by decide +kernel
theorem d_M_snapshot_96 : decode b_M_snapshot 96 = .ok (.getfield 20, 3) := by decide +kernel
theorem d_M_snapshot_99 : decode b_M_snapshot 99 = .ok (.iload_n 1, 1) := by decide +kernel
theorem d_M_snapshot_100 : decode b_M_snapshot 100 = .ok (.iconst 1, 1) := by decide +kernel
theorem d_M_snapshot_101 : decode b_M_snapshot 101 = .ok (.bastore, 1) := by decide +kernel
theorem d_M_snapshot_102 : decode b_M_snapshot 102 = .ok (.iconst 0, 1) := by decide +kernel
theorem d_M_snapshot_103 : decode b_M_snapshot 103 = .ok (.istore_n 2, 1) := by decide +kernel
theorem d_M_snapshot_104 : decode b_M_snapshot 104 = .ok (.iload_n 2, 1) := by decide +kernel
theorem d_M_snapshot_105 : decode b_M_snapshot 105 = .ok (.bipush 6, 2) := by decide +kernel
theorem d_M_snapshot_107 : decode b_M_snapshot 107 = .ok (.if_icmp .ge 21, 3) := by decide +kernel
theorem d_M_snapshot_110 : decode b_M_snapshot 110 = .ok (.aload_n 0, 1) := by decide +kernel
theorem d_M_snapshot_111 : decode b_M_snapshot 111 = .ok (.getfield 24, 3) := by decide +kernel
theorem d_M_snapshot_114 : decode b_M_snapshot 114 = .ok (.bipush 6, 2) := by decide +kernel
theorem d_M_snapshot_116 : decode b_M_snapshot 116 = .ok (.iload_n 1, 1) := by decide +kernel
theorem d_M_snapshot_117 : decode b_M_snapshot 117 = .ok (.imul, 1) := by decide +kernel
theorem d_M_snapshot_118 : decode b_M_snapshot 118 = .ok (.iload_n 2, 1) := by decide +kernel
theorem d_M_snapshot_119 : decode b_M_snapshot 119 = .ok (.iadd, 1) := by decide +kernel
theorem d_M_snapshot_120 : decode b_M_snapshot 120 = .ok (.iconst 0, 1) := by decide +kernel
theorem d_M_snapshot_121 : decode b_M_snapshot 121 = .ok (.iastore, 1) := by decide +kernel
theorem d_M_snapshot_122 : decode b_M_snapshot 122 = .ok (.iinc 2 1, 3) := by decide +kernel
theorem d_M_snapshot_125 : decode b_M_snapshot 125 = .ok (.goto (-21), 3) := by decide +kernel
theorem d_M_snapshot_128 : decode b_M_snapshot 128 = .ok (.iconst 0, 1) := by decide +kernel
theorem d_M_snapshot_129 : decode b_M_snapshot 129 = .ok (.istore_n 2, 1) := by decide +kernel
theorem d_M_snapshot_130 : decode b_M_snapshot 130 = .ok (.iload_n 2, 1) := by decide +kernel
theorem d_M_snapshot_131 : decode b_M_snapshot 131 = .ok (.bipush 24, 2) := by decide +kernel
theorem d_M_snapshot_133 : decode b_M_snapshot 133 = .ok (.if_icmp .ge 26, 3) := by decide +kernel
theorem d_M_snapshot_136 : decode b_M_snapshot 136 = .ok (.aload_n 0, 1) := by decide +kernel
theorem d_M_snapshot_137 : decode b_M_snapshot 137 = .ok (.getfield 17, 3) := by decide +kernel
theorem d_M_snapshot_140 : decode b_M_snapshot 140 = .ok (.bipush 24, 2) := by decide +kernel
theorem d_M_snapshot_142 : decode b_M_snapshot 142 = .ok (.iload_n 1, 1) := by decide +kernel
theorem d_M_snapshot_143 : decode b_M_snapshot 143 = .ok (.imul, 1) := by decide +kernel
theorem d_M_snapshot_144 : decode b_M_snapshot 144 = .ok (.iload_n 2, 1) := by decide +kernel
theorem d_M_snapshot_145 : decode b_M_snapshot 145 = .ok (.iadd, 1) := by decide +kernel
theorem d_M_snapshot_146 : decode b_M_snapshot 146 = .ok (.aload_n 0, 1) := by decide +kernel
theorem d_M_snapshot_147 : decode b_M_snapshot 147 = .ok (.getfield 13, 3) := by decide +kernel
theorem d_M_snapshot_150 : decode b_M_snapshot 150 = .ok (.iload_n 2, 1) := by decide +kernel
theorem d_M_snapshot_151 : decode b_M_snapshot 151 = .ok (.iaload, 1) := by decide +kernel
theorem d_M_snapshot_152 : decode b_M_snapshot 152 = .ok (.iastore, 1) := by decide +kernel
theorem d_M_snapshot_153 : decode b_M_snapshot 153 = .ok (.iinc 2 1, 3) := by decide +kernel
theorem d_M_snapshot_156 : decode b_M_snapshot 156 = .ok (.goto (-26), 3) := by decide +kernel
theorem d_M_snapshot_159 : decode b_M_snapshot 159 = .ok (.iload_n 1, 1) := by decide +kernel
theorem d_M_snapshot_160 : decode b_M_snapshot 160 = .ok (.ireturn, 1) := by decide +kernel
theorem d_M_drop_0 : decode b_M_drop 0 = .ok (.aload_n 0, 1) := by decide +kernel
theorem d_M_drop_1 : decode b_M_drop 1 = .ok (.aload_n 0, 1) := by decide +kernel
theorem d_M_drop_2 : decode b_M_drop 2 = .ok (.getfield 33, 3) := by decide +kernel
theorem d_M_drop_5 : decode b_M_drop 5 = .ok (.ifCond .eq 7, 3) := by decide +kernel
theorem d_M_drop_8 : decode b_M_drop 8 = .ok (.iconst 2, 1) := by decide +kernel
theorem d_M_drop_9 : decode b_M_drop 9 = .ok (.goto 16, 3) := by decide +kernel
theorem d_M_drop_12 : decode b_M_drop 12 = .ok (.aload_n 0, 1) := by decide +kernel
theorem d_M_drop_13 : decode b_M_drop 13 = .ok (.iload_n 1, 1) := by decide +kernel
theorem d_M_drop_14 : decode b_M_drop 14 = .ok (.invokevirtual 70, 3) := by decide +kernel
theorem d_M_drop_17 : decode b_M_drop 17 = .ok (.ifCond .eq 7, 3) := by decide +kernel
theorem d_M_drop_20 : decode b_M_drop 20 = .ok (.iconst 0, 1) := by decide +kernel
theorem d_M_drop_21 : decode b_M_drop 21 = .ok (.goto 4, 3) := by decide +kernel
theorem d_M_drop_24 : decode b_M_drop 24 = .ok (.iconst 1, 1) := by decide +kernel
theorem d_M_drop_25 : decode b_M_drop 25 = .ok (.putfield 27, 3) := by decide +kernel
theorem d_M_drop_28 : decode b_M_drop 28 = .ok (.aload_n 0, 1) := by decide +kernel
theorem d_M_drop_29 : decode b_M_drop 29 = .ok (.getfield 27, 3) := by decide +kernel
theorem d_M_drop_32 : decode b_M_drop 32 = .ok (.ifCond .ne 31, 3) := by decide +kernel
theorem d_M_drop_35 : decode b_M_drop 35 = .ok (.aload_n 0, 1) := by decide +kernel
theorem d_M_drop_36 : decode b_M_drop 36 = .ok (.iconst 1, 1) := by decide +kernel
theorem d_M_drop_37 : decode b_M_drop 37 = .ok (.invokevirtual 59, 3) := by decide +kernel
theorem d_M_drop_40 : decode b_M_drop 40 = .ok (.ifCond .eq 13, 3) := by decide +kernel
theorem d_M_drop_43 : decode b_M_drop 43 = .ok (.aload_n 0, 1) := by decide +kernel
theorem d_M_drop_44 : decode b_M_drop 44 = .ok (.getfield 20, 3) := by decide +kernel
theorem d_M_drop_47 : decode b_M_drop 47 = .ok (.iload_n 1, 1) := by decide +kernel
theorem d_M_drop_48 : decode b_M_drop 48 = .ok (.iconst 0, 1) := by decide +kernel
theorem d_M_drop_49 : decode b_M_drop 49 = .ok (.bastore, 1) := by decide +kernel
theorem d_M_drop_50 : decode b_M_drop 50 = .ok (.goto 13, 3) := by decide +kernel
theorem d_M_drop_53 : decode b_M_drop 53 = .ok (.aload_n 0, 1) := by decide +kernel
theorem d_M_drop_54 : decode b_M_drop 54 = .ok (.iconst (-1), 1) := by decide +kernel
theorem d_M_drop_55 : decode b_M_drop 55 = .ok (.putfield 7, 3) := by decide +kernel
theorem d_M_drop_58 : decode b_M_drop 58 = .ok (.aload_n 0, 1) := by decide +kernel
theorem d_M_drop_59 : decode b_M_drop 59 = .ok (.iconst 2, 1) := by decide +kernel
theorem d_M_drop_60 : decode b_M_drop 60 = .ok (.putfield 27, 3) := by decide +kernel
theorem d_M_drop_63 : decode b_M_drop 63 = .ok (.return_, 1) := by decide +kernel
theorem d_M_readSnapshot_0 : decode b_M_readSnapshot 0 = .ok (.aload_n 0, 1) := by decide +kernel
theorem d_M_readSnapshot_1 : decode b_M_readSnapshot 1 = .ok (.aload_n 0, 1) := by decide +kernel
theorem d_M_readSnapshot_2 : decode b_M_readSnapshot 2 = .ok (.getfield 33, 3) := by decide +kernel
theorem d_M_readSnapshot_5 : decode b_M_readSnapshot 5 = .ok (.ifCond .eq 7, 3) := by decide +kernel
theorem d_M_readSnapshot_8 : decode b_M_readSnapshot 8 = .ok (.iconst 3, 1) := by decide +kernel
theorem d_M_readSnapshot_9 : decode b_M_readSnapshot 9 = .ok (.goto 28, 3) := by decide +kernel
theorem d_M_readSnapshot_12 : decode b_M_readSnapshot 12 = .ok (.aload_n 0, 1) := by decide +kernel
theorem d_M_readSnapshot_13 : decode b_M_readSnapshot 13 = .ok (.iload_n 1, 1) := by decide +kernel
theorem d_M_readSnapshot_14 : decode b_M_readSnapshot 14 = .ok (.invokevirtual 70, 3) := by decide +kernel
theorem d_M_readSnapshot_17 : decode b_M_readSnapshot 17 = .ok (.ifCond .ne 7, 3) := by decide +kernel
theorem d_M_readSnapshot_20 : decode b_M_readSnapshot 20 = .ok (.iconst 1, 1) := by decide +kernel
theorem d_M_readSnapshot_21 : decode b_M_readSnapshot 21 = .ok (.goto 16, 3) := by decide +kernel
theorem d_M_readSnapshot_24 : decode b_M_readSnapshot 24 = .ok (.iload_n 2, 1) := by decide +kernel
theorem d_M_readSnapshot_25 : decode b_M_readSnapshot 25 = .ok (.iload_n 3, 1) := by decide +kernel
theorem d_M_readSnapshot_26 : decode b_M_readSnapshot 26 = .ok (.invokestatic 48, 3) := by decide +kernel
theorem d_M_readSnapshot_29 : decode b_M_readSnapshot 29 = .ok (.ifCond .eq 7, 3) := by decide +kernel
theorem d_M_readSnapshot_32 : decode b_M_readSnapshot 32 = .ok (.iconst 0, 1) := by decide +kernel
theorem d_M_readSnapshot_33 : decode b_M_readSnapshot 33 = .ok (.goto 4, 3) := by decide +kernel
theorem d_M_readSnapshot_36 : decode b_M_readSnapshot 36 = .ok (.iconst 2, 1) := by decide +kernel
theorem d_M_readSnapshot_37 : decode b_M_readSnapshot 37 = .ok (.putfield 27, 3) := by decide +kernel
theorem d_M_readSnapshot_40 : decode b_M_readSnapshot 40 = .ok (.aload_n 0, 1) := by decide +kernel
theorem d_M_readSnapshot_41 : decode b_M_readSnapshot 41 = .ok (.getfield 27, 3) := by decide +kernel
theorem d_M_readSnapshot_44 : decode b_M_readSnapshot 44 = .ok (.ifCond .le 7, 3) := by decide +kernel
theorem d_M_readSnapshot_47 : decode b_M_readSnapshot 47 = .ok (.iconst 0, 1) := by decide +kernel
theorem d_M_readSnapshot_48 : decode b_M_readSnapshot 48 = .ok (.goto 18, 3) := by decide +kernel
theorem d_M_readSnapshot_51 : decode b_M_readSnapshot 51 = .ok (.aload_n 0, 1) := by decide +kernel
theorem d_M_readSnapshot_52 : decode b_M_readSnapshot 52 = .ok (.getfield 17, 3) := by decide +kernel
theorem d_M_readSnapshot_55 : decode b_M_readSnapshot 55 = .ok (.bipush 24, 2) := by decide +kernel
theorem d_M_readSnapshot_57 : decode b_M_readSnapshot 57 = .ok (.iload_n 1, 1) := by decide +kernel
theorem d_M_readSnapshot_58 : decode b_M_readSnapshot 58 = .ok (.imul, 1) := by decide +kernel
theorem d_M_readSnapshot_59 : decode b_M_readSnapshot 59 = .ok (.iconst 4, 1) := by decide +kernel
theorem d_M_readSnapshot_60 : decode b_M_readSnapshot 60 = .ok (.iload_n 2, 1) := by decide +kernel
theorem d_M_readSnapshot_61 : decode b_M_readSnapshot 61 = .ok (.imul, 1) := by decide +kernel
theorem d_M_readSnapshot_62 : decode b_M_readSnapshot 62 = .ok (.iadd, 1) := by decide +kernel
theorem d_M_readSnapshot_63 : decode b_M_readSnapshot 63 = .ok (.iload_n 3, 1) := by decide +kernel
theorem d_M_readSnapshot_64 : decode b_M_readSnapshot 64 = .ok (.iadd, 1) := by decide +kernel
theorem d_M_readSnapshot_65 : decode b_M_readSnapshot 65 = .ok (.iaload, 1) := by decide +kernel
theorem d_M_readSnapshot_66 : decode b_M_readSnapshot 66 = .ok (.ireturn, 1) := by decide +kernel
theorem d_M_writeSnapshot_0 : decode b_M_writeSnapshot 0 = .ok (.aload_n 0, 1) := by decide +kernel
theorem d_M_writeSnapshot_1 : decode b_M_writeSnapshot 1 = .ok (.aload_n 0, 1) := by decide +kernel
theorem d_M_writeSnapshot_2 : decode b_M_writeSnapshot 2 = .ok (.getfield 33, 3) := by decide +kernel
theorem d_M_writeSnapshot_5 : decode b_M_writeSnapshot 5 = .ok (.ifCond .eq 7, 3) := by decide +kernel
theorem d_M_writeSnapshot_8 : decode b_M_writeSnapshot 8 = .ok (.iconst 4, 1) := by decide +kernel
theorem d_M_writeSnapshot_9 : decode b_M_writeSnapshot 9 = .ok (.goto 28, 3) := by decide +kernel
theorem d_M_writeSnapshot_12 : decode b_M_writeSnapshot 12 = .ok (.aload_n 0, 1) := by decide +kernel
theorem d_M_writeSnapshot_13 : decode b_M_writeSnapshot 13 = .ok (.iload_n 1, 1) := by decide +kernel
theorem d_M_writeSnapshot_14 : decode b_M_writeSnapshot 14 = .ok (.invokevirtual 70, 3) := by decide +kernel
theorem d_M_writeSnapshot_17 : decode b_M_writeSnapshot 17 = .ok (.ifCond .ne 7, 3) := by decide +kernel
theorem d_M_writeSnapshot_20 : decode b_M_writeSnapshot 20 = .ok (.iconst 1, 1) := by decide +kernel
theorem d_M_writeSnapshot_21 : decode b_M_writeSnapshot 21 = .ok (.goto 16, 3) := by decide +kernel
theorem d_M_writeSnapshot_24 : decode b_M_writeSnapshot 24 = .ok (.iload_n 2, 1) := by decide +kernel
theorem d_M_writeSnapshot_25 : decode b_M_writeSnapshot 25 = .ok (.iload_n 3, 1) := by decide +kernel
theorem d_M_writeSnapshot_26 : decode b_M_writeSnapshot 26 = .ok (.invokestatic 48, 3) := by decide +kernel
theorem d_M_writeSnapshot_29 : decode b_M_writeSnapshot 29 = .ok (.ifCond .ne 7, 3) := by decide +kernel
theorem d_M_writeSnapshot_32 : decode b_M_writeSnapshot 32 = .ok (.iconst 2, 1) := by decide +kernel
theorem d_M_writeSnapshot_33 : decode b_M_writeSnapshot 33 = .ok (.goto 4, 3) := by decide +kernel
theorem d_M_writeSnapshot_36 : decode b_M_writeSnapshot 36 = .ok (.iconst 0, 1) := by decide +kernel
theorem d_M_writeSnapshot_37 : decode b_M_writeSnapshot 37 = .ok (.putfield 27, 3) := by decide +kernel
theorem d_M_writeSnapshot_40 : decode b_M_writeSnapshot 40 = .ok (.aload_n 0, 1) := by decide +kernel
theorem d_M_writeSnapshot_41 : decode b_M_writeSnapshot 41 = .ok (.getfield 27, 3) := by decide +kernel
theorem d_M_writeSnapshot_44 : decode b_M_writeSnapshot 44 = .ok (.ifCond .le 5, 3) := by decide +kernel
theorem d_M_writeSnapshot_47 : decode b_M_writeSnapshot 47 = .ok (.iconst 0, 1) := by decide +kernel
theorem d_M_writeSnapshot_48 : decode b_M_writeSnapshot 48 = .ok (.ireturn, 1) := by decide +kernel
theorem d_M_writeSnapshot_49 : decode b_M_writeSnapshot 49 = .ok (.aload_n 0, 1) := by decide +kernel
theorem d_M_writeSnapshot_50 : decode b_M_writeSnapshot 50 = .ok (.getfield 24, 3) := by decide +kernel
theorem d_M_writeSnapshot_53 : decode b_M_writeSnapshot 53 = .ok (.bipush 6, 2) := by decide +kernel
theorem d_M_writeSnapshot_55 : decode b_M_writeSnapshot 55 = .ok (.iload_n 1, 1) := by decide +kernel
theorem d_M_writeSnapshot_56 : decode b_M_writeSnapshot 56 = .ok (.imul, 1) := by decide +kernel
theorem d_M_writeSnapshot_57 : decode b_M_writeSnapshot 57 = .ok (.iload_n 2, 1) := by decide +kernel
theorem d_M_writeSnapshot_58 : decode b_M_writeSnapshot 58 = .ok (.iadd, 1) := by decide +kernel
theorem d_M_writeSnapshot_59 : decode b_M_writeSnapshot 59 = .ok (.iaload, 1) := by decide +kernel
theorem d_M_writeSnapshot_60 : decode b_M_writeSnapshot 60 = .ok (.ifCond .ne 7, 3) := by decide +kernel
theorem d_M_writeSnapshot_63 : decode b_M_writeSnapshot 63 = .ok (.iconst 1, 1) := by decide +kernel
theorem d_M_writeSnapshot_64 : decode b_M_writeSnapshot 64 = .ok (.goto 4, 3) := by decide +kernel
theorem d_M_writeSnapshot_67 : decode b_M_writeSnapshot 67 = .ok (.iconst 0, 1) := by decide +kernel
theorem d_M_writeSnapshot_68 : decode b_M_writeSnapshot 68 = .ok (.istore 5, 2) := by decide +kernel
theorem d_M_writeSnapshot_70 : decode b_M_writeSnapshot 70 = .ok (.iload 5, 2) := by decide +kernel
theorem d_M_writeSnapshot_72 : decode b_M_writeSnapshot 72 = .ok (.ifCond .eq 19, 3) := by decide +kernel
theorem d_M_writeSnapshot_75 : decode b_M_writeSnapshot 75 = .ok (.aload_n 0, 1) := by decide +kernel
theorem d_M_writeSnapshot_76 : decode b_M_writeSnapshot 76 = .ok (.invokevirtual 56, 3) := by decide +kernel
theorem d_M_writeSnapshot_79 : decode b_M_writeSnapshot 79 = .ok (.bipush 9, 2) := by decide +kernel
theorem d_M_writeSnapshot_81 : decode b_M_writeSnapshot 81 = .ok (.if_icmp .ne 10, 3) := by decide +kernel
theorem d_M_writeSnapshot_84 : decode b_M_writeSnapshot 84 = .ok (.aload_n 0, 1) := by decide +kernel
theorem d_M_writeSnapshot_85 : decode b_M_writeSnapshot 85 = .ok (.iconst 3, 1) := by decide +kernel
theorem d_M_writeSnapshot_86 : decode b_M_writeSnapshot 86 = .ok (.putfield 27, 3) := by decide +kernel
theorem d_M_writeSnapshot_89 : decode b_M_writeSnapshot 89 = .ok (.iconst 0, 1) := by decide +kernel
theorem d_M_writeSnapshot_90 : decode b_M_writeSnapshot 90 = .ok (.ireturn, 1) := by decide +kernel
theorem d_M_writeSnapshot_91 : decode b_M_writeSnapshot 91 = .ok (.aload_n 0, 1) := by decide +kernel
theorem d_M_writeSnapshot_92 : decode b_M_writeSnapshot 92 = .ok (.iload 5, 2) := by decide +kernel
theorem d_M_writeSnapshot_94 : decode b_M_writeSnapshot 94 = .ok (.ifCond .eq 7, 3) := by decide +kernel
theorem d_M_writeSnapshot_97 : decode b_M_writeSnapshot 97 = .ok (.iconst 5, 1) := by decide +kernel
theorem d_M_writeSnapshot_98 : decode b_M_writeSnapshot 98 = .ok (.goto 4, 3) := by decide +kernel
theorem d_M_writeSnapshot_101 : decode b_M_writeSnapshot 101 = .ok (.iconst 1, 1) := by decide +kernel
theorem d_M_writeSnapshot_102 : decode b_M_writeSnapshot 102 = .ok (.invokevirtual 59, 3) := by decide +kernel
theorem d_M_writeSnapshot_105 : decode b_M_writeSnapshot 105 = .ok (.ifCond .ne 15, 3) := by decide +kernel
theorem d_M_writeSnapshot_108 : decode b_M_writeSnapshot 108 = .ok (.aload_n 0, 1) := by decide +kernel
theorem d_M_writeSnapshot_109 : decode b_M_writeSnapshot 109 = .ok (.iconst (-1), 1) := by decide +kernel
theorem d_M_writeSnapshot_110 : decode b_M_writeSnapshot 110 = .ok (.putfield 7, 3) := by decide +kernel
theorem d_M_writeSnapshot_113 : decode b_M_writeSnapshot 113 = .ok (.aload_n 0, 1) := by decide +kernel
theorem d_M_writeSnapshot_114 : decode b_M_writeSnapshot 114 = .ok (.iconst 4, 1) := by decide +kernel
theorem d_M_writeSnapshot_115 : decode b_M_writeSnapshot 115 = .ok (.putfield 27, 3) := by decide +kernel
theorem d_M_writeSnapshot_118 : decode b_M_writeSnapshot 118 = .ok (.iconst 0, 1) := by decide +kernel
theorem d_M_writeSnapshot_119 : decode b_M_writeSnapshot 119 = .ok (.ireturn, 1) := by decide +kernel
theorem d_M_writeSnapshot_120 : decode b_M_writeSnapshot 120 = .ok (.aload_n 0, 1) := by decide +kernel
theorem d_M_writeSnapshot_121 : decode b_M_writeSnapshot 121 = .ok (.getfield 24, 3) := by decide +kernel
theorem d_M_writeSnapshot_124 : decode b_M_writeSnapshot 124 = .ok (.bipush 6, 2) := by decide +kernel
theorem d_M_writeSnapshot_126 : decode b_M_writeSnapshot 126 = .ok (.iload_n 1, 1) := by decide +kernel
theorem d_M_writeSnapshot_127 : decode b_M_writeSnapshot 127 = .ok (.imul, 1) := by decide +kernel
theorem d_M_writeSnapshot_128 : decode b_M_writeSnapshot 128 = .ok (.iload_n 2, 1) := by decide +kernel
theorem d_M_writeSnapshot_129 : decode b_M_writeSnapshot 129 = .ok (.iadd, 1) := by decide +kernel
theorem d_M_writeSnapshot_130 : decode b_M_writeSnapshot 130 = .ok (.iload 5, 2) := by decide +kernel
theorem d_M_writeSnapshot_132 : decode b_M_writeSnapshot 132 = .ok (.ifCond .eq 10, 3) := by decide +kernel
theorem d_M_writeSnapshot_135 : decode b_M_writeSnapshot 135 = .ok (.aload_n 0, 1) := by decide +kernel
theorem d_M_writeSnapshot_136 : decode b_M_writeSnapshot 136 = .ok (.invokevirtual 44, 3) := by decide +kernel
theorem d_M_writeSnapshot_139 : decode b_M_writeSnapshot 139 = .ok (.goto 14, 3) := by decide +kernel
theorem d_M_writeSnapshot_142 : decode b_M_writeSnapshot 142 = .ok (.aload_n 0, 1) := by decide +kernel
theorem d_M_writeSnapshot_143 : decode b_M_writeSnapshot 143 = .ok (.getfield 24, 3) := by decide +kernel
theorem d_M_writeSnapshot_146 : decode b_M_writeSnapshot 146 = .ok (.bipush 6, 2) := by decide +kernel
theorem d_M_writeSnapshot_148 : decode b_M_writeSnapshot 148 = .ok (.iload_n 1, 1) := by decide +kernel
theorem d_M_writeSnapshot_149 : decode b_M_writeSnapshot 149 = .ok (.imul, 1) := by decide +kernel
theorem d_M_writeSnapshot_150 : decode b_M_writeSnapshot 150 = .ok (.iload_n 2, 1) := by decide +kernel
theorem d_M_writeSnapshot_151 : decode b_M_writeSnapshot 151 = .ok (.iadd, 1) := by decide +kernel
theorem d_M_writeSnapshot_152 : decode b_M_writeSnapshot 152 = .ok (.iaload, 1) := by decide +kernel
theorem d_M_writeSnapshot_153 : decode b_M_writeSnapshot 153 = .ok (.iastore, 1) := by decide +kernel
theorem d_M_writeSnapshot_154 : decode b_M_writeSnapshot 154 = .ok (.aload_n 0, 1) := by decide +kernel
theorem d_M_writeSnapshot_155 : decode b_M_writeSnapshot 155 = .ok (.getfield 17, 3) := by decide +kernel
theorem d_M_writeSnapshot_158 : decode b_M_writeSnapshot 158 = .ok (.bipush 24, 2) := by decide +kernel
theorem d_M_writeSnapshot_160 : decode b_M_writeSnapshot 160 = .ok (.iload_n 1, 1) := by decide +kernel
theorem d_M_writeSnapshot_161 : decode b_M_writeSnapshot 161 = .ok (.imul, 1) := by decide +kernel
theorem d_M_writeSnapshot_162 : decode b_M_writeSnapshot 162 = .ok (.iconst 4, 1) := by decide +kernel
theorem d_M_writeSnapshot_163 : decode b_M_writeSnapshot 163 = .ok (.iload_n 2, 1) := by decide +kernel
theorem d_M_writeSnapshot_164 : decode b_M_writeSnapshot 164 = .ok (.imul, 1) := by decide +kernel
theorem d_M_writeSnapshot_165 : decode b_M_writeSnapshot 165 = .ok (.iadd, 1) := by decide +kernel
theorem d_M_writeSnapshot_166 : decode b_M_writeSnapshot 166 = .ok (.iload_n 3, 1) := by decide +kernel
theorem d_M_writeSnapshot_167 : decode b_M_writeSnapshot 167 = .ok (.iadd, 1) := by decide +kernel
theorem d_M_writeSnapshot_168 : decode b_M_writeSnapshot 168 = .ok (.iload 4, 2) := by decide +kernel
theorem d_M_writeSnapshot_170 : decode b_M_writeSnapshot 170 = .ok (.iastore, 1) := by decide +kernel
theorem d_M_writeSnapshot_171 : decode b_M_writeSnapshot 171 = .ok (.iload 5, 2) := by decide +kernel
theorem d_M_writeSnapshot_173 : decode b_M_writeSnapshot 173 = .ok (.ireturn, 1) := by decide +kernel
theorem d_M_has_0 : decode b_M_has 0 = .ok (.aload_n 0, 1) := by decide +kernel
theorem d_M_has_1 : decode b_M_has 1 = .ok (.getfield 24, 3) := by decide +kernel
theorem d_M_has_4 : decode b_M_has 4 = .ok (.bipush 6, 2) := by decide +kernel
theorem d_M_has_6 : decode b_M_has 6 = .ok (.iload_n 1, 1) := by decide +kernel
theorem d_M_has_7 : decode b_M_has 7 = .ok (.imul, 1) := by decide +kernel
theorem d_M_has_8 : decode b_M_has 8 = .ok (.iload_n 2, 1) := by decide +kernel
theorem d_M_has_9 : decode b_M_has 9 = .ok (.iadd, 1) := by decide +kernel
theorem d_M_has_10 : decode b_M_has 10 = .ok (.iaload, 1) := by decide +kernel
theorem d_M_has_11 : decode b_M_has 11 = .ok (.ifCond .le 7, 3) := by decide +kernel
theorem d_M_has_14 : decode b_M_has 14 = .ok (.iconst 1, 1) := by decide +kernel
theorem d_M_has_15 : decode b_M_has 15 = .ok (.goto 4, 3) := by decide +kernel
theorem d_M_has_18 : decode b_M_has 18 = .ok (.iconst 0, 1) := by decide +kernel
theorem d_M_has_19 : decode b_M_has 19 = .ok (.ireturn, 1) := by decide +kernel
theorem d_M_writesFrom_0 : decode b_M_writesFrom 0 = .ok (.iconst 0, 1) := by decide +kernel
theorem d_M_writesFrom_1 : decode b_M_writesFrom 1 = .ok (.istore_n 3, 1) := by decide +kernel
theorem d_M_writesFrom_2 : decode b_M_writesFrom 2 = .ok (.iload_n 2, 1) := by decide +kernel
theorem d_M_writesFrom_3 : decode b_M_writesFrom 3 = .ok (.istore 4, 2) := by decide +kernel
theorem d_M_writesFrom_5 : decode b_M_writesFrom 5 = .ok (.iload 4, 2) := by decide +kernel
theorem d_M_writesFrom_7 : decode b_M_writesFrom 7 = .ok (.bipush 6, 2) := by decide +kernel
theorem d_M_writesFrom_9 : decode b_M_writesFrom 9 = .ok (.if_icmp .ge 37, 3) := by decide +kernel
theorem d_M_writesFrom_12 : decode b_M_writesFrom 12 = .ok (.aload_n 0, 1) := by decide +kernel
theorem d_M_writesFrom_13 : decode b_M_writesFrom 13 = .ok (.iload_n 1, 1) := by decide +kernel
theorem d_M_writesFrom_14 : decode b_M_writesFrom 14 = .ok (.iload 4, 2) := by decide +kernel
theorem d_M_writesFrom_16 : decode b_M_writesFrom 16 = .ok (.invokevirtual 73, 3) := by decide +kernel
theorem d_M_writesFrom_19 : decode b_M_writesFrom 19 = .ok (.ifCond .eq 19, 3) := by decide +kernel
theorem d_M_writesFrom_22 : decode b_M_writesFrom 22 = .ok (.iload_n 3, 1) := by decide +kernel
theorem d_M_writesFrom_23 : decode b_M_writesFrom 23 = .ok (.iconst 5, 1) := by decide +kernel
theorem d_M_writesFrom_24 : decode b_M_writesFrom 24 = .ok (.aload_n 0, 1) := by decide +kernel
theorem d_M_writesFrom_25 : decode b_M_writesFrom 25 = .ok (.iload 4, 2) := by decide +kernel
theorem d_M_writesFrom_27 : decode b_M_writesFrom 27 = .ok (.iload_n 1, 1) := by decide +kernel
theorem d_M_writesFrom_28 : decode b_M_writesFrom 28 = .ok (.invokevirtual 52, 3) := by decide +kernel
theorem d_M_writesFrom_31 : decode b_M_writesFrom 31 = .ok (.imul, 1) := by decide +kernel
theorem d_M_writesFrom_32 : decode b_M_writesFrom 32 = .ok (.iadd, 1) := by decide +kernel
theorem d_M_writesFrom_33 : decode b_M_writesFrom 33 = .ok (.iconst 5, 1) := by decide +kernel
theorem d_M_writesFrom_34 : decode b_M_writesFrom 34 = .ok (.iadd, 1) := by decide +kernel
theorem d_M_writesFrom_35 : decode b_M_writesFrom 35 = .ok (.goto 4, 3) := by decide +kernel
theorem d_M_writesFrom_38 : decode b_M_writesFrom 38 = .ok (.iload_n 3, 1) := by decide +kernel
theorem d_M_writesFrom_39 : decode b_M_writesFrom 39 = .ok (.istore_n 3, 1) := by decide +kernel
theorem d_M_writesFrom_40 : decode b_M_writesFrom 40 = .ok (.iinc 4 1, 3) := by decide +kernel
theorem d_M_writesFrom_43 : decode b_M_writesFrom 43 = .ok (.goto (-38), 3) := by decide +kernel
theorem d_M_writesFrom_46 : decode b_M_writesFrom 46 = .ok (.iload_n 3, 1) := by decide +kernel
theorem d_M_writesFrom_47 : decode b_M_writesFrom 47 = .ok (.ireturn, 1) := by decide +kernel
theorem d_M_restore_0 : decode b_M_restore 0 = .ok (.aload_n 0, 1) := by decide +kernel
theorem d_M_restore_1 : decode b_M_restore 1 = .ok (.iload_n 2, 1) := by decide +kernel
theorem d_M_restore_2 : decode b_M_restore 2 = .ok (.iload_n 1, 1) := by decide +kernel
theorem d_M_restore_3 : decode b_M_restore 3 = .ok (.iconst 3, 1) := by decide +kernel
theorem d_M_restore_4 : decode b_M_restore 4 = .ok (.invokevirtual 63, 3) := by decide +kernel
theorem d_M_restore_7 : decode b_M_restore 7 = .ok (.iconst 0, 1) := by decide +kernel
theorem d_M_restore_8 : decode b_M_restore 8 = .ok (.istore_n 3, 1) := by decide +kernel
theorem d_M_restore_9 : decode b_M_restore 9 = .ok (.iload_n 3, 1) := by decide +kernel
theorem d_M_restore_10 : decode b_M_restore 10 = .ok (.iconst 4, 1) := by decide +kernel
theorem d_M_restore_11 : decode b_M_restore 11 = .ok (.if_icmp .ge 34, 3) := by decide +kernel
theorem d_M_restore_14 : decode b_M_restore 14 = .ok (.aload_n 0, 1) := by decide +kernel
theorem d_M_restore_15 : decode b_M_restore 15 = .ok (.getfield 13, 3) := by decide +kernel
theorem d_M_restore_18 : decode b_M_restore 18 = .ok (.iconst 4, 1) := by decide +kernel
theorem d_M_restore_19 : decode b_M_restore 19 = .ok (.iload_n 2, 1) := by decide +kernel
theorem d_M_restore_20 : decode b_M_restore 20 = .ok (.imul, 1) := by decide +kernel
theorem d_M_restore_21 : decode b_M_restore 21 = .ok (.iload_n 3, 1) := by decide +kernel
theorem d_M_restore_22 : decode b_M_restore 22 = .ok (.iadd, 1) := by decide +kernel
theorem d_M_restore_23 : decode b_M_restore 23 = .ok (.aload_n 0, 1) := by decide +kernel
theorem d_M_restore_24 : decode b_M_restore 24 = .ok (.getfield 17, 3) := by decide +kernel
theorem d_M_restore_27 : decode b_M_restore 27 = .ok (.bipush 24, 2) := by decide +kernel
theorem d_M_restore_29 : decode b_M_restore 29 = .ok (.iload_n 1, 1) := by decide +kernel
theorem d_M_restore_30 : decode b_M_restore 30 = .ok (.imul, 1) := by decide +kernel
theorem d_M_restore_31 : decode b_M_restore 31 = .ok (.iconst 4, 1) := by decide +kernel
theorem d_M_restore_32 : decode b_M_restore 32 = .ok (.iload_n 2, 1) := by decide +kernel
theorem d_M_restore_33 : decode b_M_restore 33 = .ok (.imul, 1) := by decide +kernel
theorem d_M_restore_34 : decode b_M_restore 34 = .ok (.iadd, 1) := by decide +kernel
theorem d_M_restore_35 : decode b_M_restore 35 = .ok (.iload_n 3, 1) := by decide +kernel
theorem d_M_restore_36 : decode b_M_restore 36 = .ok (.iadd, 1) := by decide +kernel
theorem d_M_restore_37 : decode b_M_restore 37 = .ok (.iaload, 1) := by decide +kernel
theorem d_M_restore_38 : decode b_M_restore 38 = .ok (.iastore, 1) := by decide +kernel
theorem d_M_restore_39 : decode b_M_restore 39 = .ok (.iinc 3 1, 3) := by decide +kernel
theorem d_M_restore_42 : decode b_M_restore 42 = .ok (.goto (-33), 3) := by decide +kernel
theorem d_M_restore_45 : decode b_M_restore 45 = .ok (.return_, 1) := by decide +kernel
theorem d_M_restoreFrom_0 : decode b_M_restoreFrom 0 = .ok (.iconst 0, 1) := by decide +kernel
theorem d_M_restoreFrom_1 : decode b_M_restoreFrom 1 = .ok (.istore_n 3, 1) := by decide +kernel
theorem d_M_restoreFrom_2 : decode b_M_restoreFrom 2 = .ok (.iload_n 2, 1) := by decide +kernel
theorem d_M_restoreFrom_3 : decode b_M_restoreFrom 3 = .ok (.istore 4, 2) := by decide +kernel
theorem d_M_restoreFrom_5 : decode b_M_restoreFrom 5 = .ok (.iload 4, 2) := by decide +kernel
theorem d_M_restoreFrom_7 : decode b_M_restoreFrom 7 = .ok (.bipush 6, 2) := by decide +kernel
theorem d_M_restoreFrom_9 : decode b_M_restoreFrom 9 = .ok (.if_icmp .ge 29, 3) := by decide +kernel
theorem d_M_restoreFrom_12 : decode b_M_restoreFrom 12 = .ok (.aload_n 0, 1) := by decide +kernel
theorem d_M_restoreFrom_13 : decode b_M_restoreFrom 13 = .ok (.iload_n 1, 1) := by decide +kernel
theorem d_M_restoreFrom_14 : decode b_M_restoreFrom 14 = .ok (.iload 4, 2) := by decide +kernel
theorem d_M_restoreFrom_16 : decode b_M_restoreFrom 16 = .ok (.invokevirtual 73, 3) := by decide +kernel
theorem d_M_restoreFrom_19 : decode b_M_restoreFrom 19 = .ok (.ifCond .eq 13, 3) := by decide +kernel
theorem d_M_restoreFrom_22 : decode b_M_restoreFrom 22 = .ok (.aload_n 0, 1) := by decide +kernel
theorem d_M_restoreFrom_23 : decode b_M_restoreFrom 23 = .ok (.iload_n 1, 1) := by decide +kernel
theorem d_M_restoreFrom_24 : decode b_M_restoreFrom 24 = .ok (.iload 4, 2) := by decide +kernel
theorem d_M_restoreFrom_26 : decode b_M_restoreFrom 26 = .ok (.invokevirtual 76, 3) := by decide +kernel
theorem d_M_restoreFrom_29 : decode b_M_restoreFrom 29 = .ok (.iinc 3 1, 3) := by decide +kernel
theorem d_M_restoreFrom_32 : decode b_M_restoreFrom 32 = .ok (.iinc 4 1, 3) := by decide +kernel
theorem d_M_restoreFrom_35 : decode b_M_restoreFrom 35 = .ok (.goto (-30), 3) := by decide +kernel
theorem d_M_restoreFrom_38 : decode b_M_restoreFrom 38 = .ok (.iload_n 3, 1) := by decide +kernel
theorem d_M_restoreFrom_39 : decode b_M_restoreFrom 39 = .ok (.ireturn, 1) := by decide +kernel
theorem d_M_rollback_0 : decode b_M_rollback 0 = .ok (.aload_n 0, 1) := by decide +kernel
theorem d_M_rollback_1 : decode b_M_rollback 1 = .ok (.aload_n 0, 1) := by decide +kernel
theorem d_M_rollback_2 : decode b_M_rollback 2 = .ok (.getfield 33, 3) := by decide +kernel
theorem d_M_rollback_5 : decode b_M_rollback 5 = .ok (.ifCond .eq 7, 3) := by decide +kernel
theorem d_M_rollback_8 : decode b_M_rollback 8 = .ok (.iconst 3, 1) := by decide +kernel
theorem d_M_rollback_9 : decode b_M_rollback 9 = .ok (.goto 16, 3) := by decide +kernel
theorem d_M_rollback_12 : decode b_M_rollback 12 = .ok (.aload_n 0, 1) := by decide +kernel
theorem d_M_rollback_13 : decode b_M_rollback 13 = .ok (.iload_n 1, 1) := by decide +kernel
theorem d_M_rollback_14 : decode b_M_rollback 14 = .ok (.invokevirtual 70, 3) := by decide +kernel
theorem d_M_rollback_17 : decode b_M_rollback 17 = .ok (.ifCond .eq 7, 3) := by decide +kernel
theorem d_M_rollback_20 : decode b_M_rollback 20 = .ok (.iconst 0, 1) := by decide +kernel
theorem d_M_rollback_21 : decode b_M_rollback 21 = .ok (.goto 4, 3) := by decide +kernel
theorem d_M_rollback_24 : decode b_M_rollback 24 = .ok (.iconst 1, 1) := by decide +kernel
theorem d_M_rollback_25 : decode b_M_rollback 25 = .ok (.putfield 27, 3) := by decide +kernel
theorem d_M_rollback_28 : decode b_M_rollback 28 = .ok (.aload_n 0, 1) := by decide +kernel
theorem d_M_rollback_29 : decode b_M_rollback 29 = .ok (.getfield 27, 3) := by decide +kernel
theorem d_M_rollback_32 : decode b_M_rollback 32 = .ok (.ifCond .le 5, 3) := by decide +kernel
theorem d_M_rollback_35 : decode b_M_rollback 35 = .ok (.iconst 0, 1) := by decide +kernel
theorem d_M_rollback_36 : decode b_M_rollback 36 = .ok (.ireturn, 1) := by decide +kernel
theorem d_M_rollback_37 : decode b_M_rollback 37 = .ok (.iconst 0, 1) := by decide +kernel
theorem d_M_rollback_38 : decode b_M_rollback 38 = .ok (.istore_n 2, 1) := by decide +kernel
theorem d_M_rollback_39 : decode b_M_rollback 39 = .ok (.iconst 0, 1) := by decide +kernel
theorem d_M_rollback_40 : decode b_M_rollback 40 = .ok (.istore_n 3, 1) := by decide +kernel
theorem d_M_rollback_41 : decode b_M_rollback 41 = .ok (.iload_n 3, 1) := by decide +kernel
theorem d_M_rollback_42 : decode b_M_rollback 42 = .ok (.bipush 6, 2) := by decide +kernel
theorem d_M_rollback_44 : decode b_M_rollback 44 = .ok (.if_icmp .ge 31, 3) := by decide +kernel
theorem d_M_rollback_47 : decode b_M_rollback 47 = .ok (.aload_n 0, 1) := by decide +kernel
theorem d_M_rollback_48 : decode b_M_rollback 48 = .ok (.iload_n 1, 1) := by decide +kernel
theorem d_M_rollback_49 : decode b_M_rollback 49 = .ok (.iload_n 3, 1) := by decide +kernel
theorem d_M_rollback_50 : decode b_M_rollback 50 = .ok (.invokevirtual 73, 3) := by decide +kernel
theorem d_M_rollback_53 : decode b_M_rollback 53 = .ok (.ifCond .eq 14, 3) := by decide +kernel
theorem d_M_rollback_56 : decode b_M_rollback 56 = .ok (.iload_n 2, 1) := by decide +kernel
theorem d_M_rollback_57 : decode b_M_rollback 57 = .ok (.aload_n 0, 1) := by decide +kernel
theorem d_M_rollback_58 : decode b_M_rollback 58 = .ok (.iload_n 3, 1) := by decide +kernel
theorem d_M_rollback_59 : decode b_M_rollback 59 = .ok (.iload_n 1, 1) := by decide +kernel
theorem d_M_rollback_60 : decode b_M_rollback 60 = .ok (.invokevirtual 52, 3) := by decide +kernel
theorem d_M_rollback_63 : decode b_M_rollback 63 = .ok (.iadd, 1) := by decide +kernel
theorem d_M_rollback_64 : decode b_M_rollback 64 = .ok (.goto 4, 3) := by decide +kernel
theorem d_M_rollback_67 : decode b_M_rollback 67 = .ok (.iload_n 2, 1) := by decide +kernel
theorem d_M_rollback_68 : decode b_M_rollback 68 = .ok (.istore_n 2, 1) := by decide +kernel
theorem d_M_rollback_69 : decode b_M_rollback 69 = .ok (.iinc 3 1, 3) := by decide +kernel
theorem d_M_rollback_72 : decode b_M_rollback 72 = .ok (.goto (-31), 3) := by decide +kernel
theorem d_M_rollback_75 : decode b_M_rollback 75 = .ok (.iload_n 2, 1) := by decide +kernel
theorem d_M_rollback_76 : decode b_M_rollback 76 = .ok (.bipush 9, 2) := by decide +kernel
theorem d_M_rollback_78 : decode b_M_rollback 78 = .ok (.aload_n 0, 1) := by decide +kernel
theorem d_M_rollback_79 : decode b_M_rollback 79 = .ok (.invokevirtual 56, 3) := by decide +kernel
theorem d_M_rollback_82 : decode b_M_rollback 82 = .ok (.isub, 1) := by decide +kernel
theorem d_M_rollback_83 : decode b_M_rollback 83 = .ok (.if_icmp .le 10, 3) := by decide +kernel
theorem d_M_rollback_86 : decode b_M_rollback 86 = .ok (.aload_n 0, 1) := by decide +kernel
theorem d_M_rollback_87 : decode b_M_rollback 87 = .ok (.iconst 2, 1) := by decide +kernel
theorem d_M_rollback_88 : decode b_M_rollback 88 = .ok (.putfield 27, 3) := by decide +kernel
theorem d_M_rollback_91 : decode b_M_rollback 91 = .ok (.iconst 0, 1) := by decide +kernel
theorem d_M_rollback_92 : decode b_M_rollback 92 = .ok (.ireturn, 1) := by decide +kernel
theorem d_M_rollback_93 : decode b_M_rollback 93 = .ok (.aload_n 0, 1) := by decide +kernel
theorem d_M_rollback_94 : decode b_M_rollback 94 = .ok (.iconst 3, 1) := by decide +kernel
theorem d_M_rollback_95 : decode b_M_rollback 95 = .ok (.aload_n 0, 1) := by decide +kernel
theorem d_M_rollback_96 : decode b_M_rollback 96 = .ok (.iload_n 1, 1) := by decide +kernel
theorem d_M_rollback_97 : decode b_M_rollback 97 = .ok (.iconst 0, 1) := by decide +kernel
theorem d_M_rollback_98 : decode b_M_rollback 98 = .ok (.invokevirtual 80, 3) := by decide +kernel
theorem d_M_rollback_101 : decode b_M_rollback 101 = .ok (.iadd, 1) := by decide +kernel
theorem d_M_rollback_102 : decode b_M_rollback 102 = .ok (.invokevirtual 59, 3) := by decide +kernel
theorem d_M_rollback_105 : decode b_M_rollback 105 = .ok (.ifCond .eq 10, 3) := by decide +kernel
theorem d_M_rollback_108 : decode b_M_rollback 108 = .ok (.aload_n 0, 1) := by decide +kernel
theorem d_M_rollback_109 : decode b_M_rollback 109 = .ok (.iload_n 1, 1) := by decide +kernel
theorem d_M_rollback_110 : decode b_M_rollback 110 = .ok (.iconst 0, 1) := by decide +kernel
theorem d_M_rollback_111 : decode b_M_rollback 111 = .ok (.invokevirtual 83, 3) := by decide +kernel
theorem d_M_rollback_114 : decode b_M_rollback 114 = .ok (.ireturn, 1) := by decide +kernel
theorem d_M_rollback_115 : decode b_M_rollback 115 = .ok (.aload_n 0, 1) := by decide +kernel
theorem d_M_rollback_116 : decode b_M_rollback 116 = .ok (.iconst 3, 1) := by decide +kernel
theorem d_M_rollback_117 : decode b_M_rollback 117 = .ok (.putfield 27, 3) := by decide +kernel
theorem d_M_rollback_120 : decode b_M_rollback 120 = .ok (.aload_n 0, 1) := by decide +kernel
theorem d_M_rollback_121 : decode b_M_rollback 121 = .ok (.invokevirtual 67, 3) := by decide +kernel
theorem d_M_rollback_124 : decode b_M_rollback 124 = .ok (.iconst 2, 1) := by decide +kernel
theorem d_M_rollback_125 : decode b_M_rollback 125 = .ok (.isub, 1) := by decide +kernel
theorem d_M_rollback_126 : decode b_M_rollback 126 = .ok (.istore_n 3, 1) := by decide +kernel
theorem d_M_rollback_127 : decode b_M_rollback 127 = .ok (.iload_n 3, 1) := by decide +kernel
theorem d_M_rollback_128 : decode b_M_rollback 128 = .ok (.ifCond .ge 5, 3) := by decide +kernel
theorem d_M_rollback_131 : decode b_M_rollback 131 = .ok (.iconst 0, 1) := by decide +kernel
theorem d_M_rollback_132 : decode b_M_rollback 132 = .ok (.ireturn, 1) := by decide +kernel
theorem d_M_rollback_133 : decode b_M_rollback 133 = .ok (.aload_n 0, 1) := by decide +kernel
theorem d_M_rollback_134 : decode b_M_rollback 134 = .ok (.iconst 1, 1) := by decide +kernel
theorem d_M_rollback_135 : decode b_M_rollback 135 = .ok (.iload_n 1, 1) := by decide +kernel
theorem d_M_rollback_136 : decode b_M_rollback 136 = .ok (.iadd, 1) := by decide +kernel
theorem d_M_rollback_137 : decode b_M_rollback 137 = .ok (.putfield 30, 3) := by decide +kernel
theorem d_M_rollback_140 : decode b_M_rollback 140 = .ok (.aload_n 0, 1) := by decide +kernel
theorem d_M_rollback_141 : decode b_M_rollback 141 = .ok (.iconst 0, 1) := by decide +kernel
theorem d_M_rollback_142 : decode b_M_rollback 142 = .ok (.putfield 86, 3) := by decide +kernel
theorem d_M_rollback_145 : decode b_M_rollback 145 = .ok (.iconst 1, 1) := by decide +kernel
theorem d_M_rollback_146 : decode b_M_rollback 146 = .ok (.istore 4, 2) := by decide +kernel
theorem d_M_rollback_148 : decode b_M_rollback 148 = .ok (.iconst 0, 1) := by decide +kernel
theorem d_M_rollback_149 : decode b_M_rollback 149 = .ok (.istore 5, 2) := by decide +kernel
theorem d_M_rollback_151 : decode b_M_rollback 151 = .ok (.iload 5, 2) := by decide +kernel
theorem d_M_rollback_153 : decode b_M_rollback 153 = .ok (.bipush 6, 2) := by decide +kernel
theorem d_M_rollback_155 : decode b_M_rollback 155 = .ok (.if_icmp .ge 105, 3) := by decide +kernel
theorem d_M_rollback_158 : decode b_M_rollback 158 = .ok (.iload 4, 2) := by decide +kernel
theorem d_M_rollback_160 : decode b_M_rollback 160 = .ok (.ifCond .eq 100, 3) := by decide +kernel
theorem d_M_rollback_163 : decode b_M_rollback 163 = .ok (.aload_n 0, 1) := by decide +kernel
theorem d_M_rollback_164 : decode b_M_rollback 164 = .ok (.iload_n 1, 1) := by decide +kernel
theorem d_M_rollback_165 : decode b_M_rollback 165 = .ok (.iload 5, 2) := by decide +kernel
theorem d_M_rollback_167 : decode b_M_rollback 167 = .ok (.invokevirtual 73, 3) := by decide +kernel
theorem d_M_rollback_170 : decode b_M_rollback 170 = .ok (.ifCond .eq 84, 3) := by decide +kernel
theorem d_M_rollback_173 : decode b_M_rollback 173 = .ok (.aload_n 0, 1) := by decide +kernel
theorem d_M_rollback_174 : decode b_M_rollback 174 = .ok (.iload 5, 2) := by decide +kernel
theorem d_M_rollback_176 : decode b_M_rollback 176 = .ok (.iload_n 1, 1) := by decide +kernel
theorem d_M_rollback_177 : decode b_M_rollback 177 = .ok (.invokevirtual 52, 3) := by decide +kernel
theorem d_M_rollback_180 : decode b_M_rollback 180 = .ok (.istore 6, 2) := by decide +kernel
theorem d_M_rollback_182 : decode b_M_rollback 182 = .ok (.iload_n 3, 1) := by decide +kernel
theorem d_M_rollback_183 : decode b_M_rollback 183 = .ok (.iconst 5, 1) := by decide +kernel
theorem d_M_rollback_184 : decode b_M_rollback 184 = .ok (.iload 6, 2) := by decide +kernel
theorem d_M_rollback_186 : decode b_M_rollback 186 = .ok (.imul, 1) := by decide +kernel
theorem d_M_rollback_187 : decode b_M_rollback 187 = .ok (.iconst 5, 1) := by decide +kernel
theorem d_M_rollback_188 : decode b_M_rollback 188 = .ok (.iadd, 1) := by decide +kernel
theorem d_M_rollback_189 : decode b_M_rollback 189 = .ok (.if_icmp .lt 7, 3) := by decide +kernel
theorem d_M_rollback_192 : decode b_M_rollback 192 = .ok (.iconst 1, 1) := by decide +kernel
theorem d_M_rollback_193 : decode b_M_rollback 193 = .ok (.goto 4, 3) := by decide +kernel
theorem d_M_rollback_196 : decode b_M_rollback 196 = .ok (.iconst 0, 1) := by decide +kernel
theorem d_M_rollback_197 : decode b_M_rollback 197 = .ok (.istore 4, 2) := by decide +kernel
theorem d_M_rollback_199 : decode b_M_rollback 199 = .ok (.iload 4, 2) := by decide +kernel
theorem d_M_rollback_201 : decode b_M_rollback 201 = .ok (.ifCond .eq 30, 3) := by decide +kernel
theorem d_M_rollback_204 : decode b_M_rollback 204 = .ok (.aload_n 0, 1) := by decide +kernel
theorem d_M_rollback_205 : decode b_M_rollback 205 = .ok (.iload_n 1, 1) := by decide +kernel
theorem d_M_rollback_206 : decode b_M_rollback 206 = .ok (.iload 5, 2) := by decide +kernel
theorem d_M_rollback_208 : decode b_M_rollback 208 = .ok (.invokevirtual 76, 3) := by decide +kernel
theorem d_M_rollback_211 : decode b_M_rollback 211 = .ok (.iload_n 3, 1) := by decide +kernel
theorem d_M_rollback_212 : decode b_M_rollback 212 = .ok (.iconst 5, 1) := by decide +kernel
theorem d_M_rollback_213 : decode b_M_rollback 213 = .ok (.iload 6, 2) := by decide +kernel
theorem d_M_rollback_215 : decode b_M_rollback 215 = .ok (.imul, 1) := by decide +kernel
theorem d_M_rollback_216 : decode b_M_rollback 216 = .ok (.isub, 1) := by decide +kernel
theorem d_M_rollback_217 : decode b_M_rollback 217 = .ok (.iconst 5, 1) := by decide +kernel
theorem d_M_rollback_218 : decode b_M_rollback 218 = .ok (.isub, 1) := by decide +kernel
theorem d_M_rollback_219 : decode b_M_rollback 219 = .ok (.istore_n 3, 1) := by decide +kernel
theorem d_M_rollback_220 : decode b_M_rollback 220 = .ok (.aload_n 0, 1) := by decide +kernel
theorem d_M_rollback_221 : decode b_M_rollback 221 = .ok (.iload 5, 2) := by decide +kernel
theorem d_M_rollback_223 : decode b_M_rollback 223 = .ok (.iconst 1, 1) := by decide +kernel
theorem d_M_rollback_224 : decode b_M_rollback 224 = .ok (.iadd, 1) := by decide +kernel
theorem d_M_rollback_225 : decode b_M_rollback 225 = .ok (.putfield 86, 3) := by decide +kernel
theorem d_M_rollback_228 : decode b_M_rollback 228 = .ok (.goto 26, 3) := by decide +kernel
theorem d_M_rollback_231 : decode b_M_rollback 231 = .ok (.aload_n 0, 1) := by decide +kernel
theorem d_M_rollback_232 : decode b_M_rollback 232 = .ok (.iload 5, 2) := by decide +kernel
