theorem dX12_topOf_31 : decode cX12_topOf 31 = .ok (.iload 4, 2) := by decide +kernel
theorem dX12_topOf_33 : decode cX12_topOf 33 = .ok (.bipush 64, 2) := by decide +kernel
theorem dX12_topOf_35 : decode cX12_topOf 35 = .ok (.irem, 1) := by decide +kernel
theorem dX12_topOf_36 : decode cX12_topOf 36 = .ok (.lshr, 1) := by decide +kernel
theorem dX12_topOf_37 : decode cX12_topOf 37 = .ok (.lconst 1, 1) := by decide +kernel
theorem dX12_topOf_38 : decode cX12_topOf 38 = .ok (.land, 1) := by decide +kernel
theorem dX12_topOf_39 : decode cX12_topOf 39 = .ok (.lconst 0, 1) := by decide +kernel
theorem dX12_topOf_40 : decode cX12_topOf 40 = .ok (.lcmp, 1) := by decide +kernel
theorem dX12_topOf_41 : decode cX12_topOf 41 = .ok (.ifCond .ne 9, 3) := by decide +kernel
theorem dX12_topOf_44 : decode cX12_topOf 44 = .ok (.iinc 4 (-1), 3) := by decide +kernel
theorem dX12_topOf_47 : decode cX12_topOf 47 = .ok (.goto (-31), 3) := by decide +kernel
theorem dX12_topOf_50 : decode cX12_topOf 50 = .ok (.iload 4, 2) := by decide +kernel
theorem dX12_topOf_52 : decode cX12_topOf 52 = .ok (.iconst 1, 1) := by decide +kernel
theorem dX12_topOf_53 : decode cX12_topOf 53 = .ok (.iadd, 1) := by decide +kernel
theorem dX12_topOf_54 : decode cX12_topOf 54 = .ok (.ireturn, 1) := by decide +kernel
theorem dX12_top_0 : decode cX12_top 0 = .ok (.aload_n 0, 1) := by decide +kernel
theorem dX12_top_1 : decode cX12_top 1 = .ok (.iload_n 1, 1) := by decide +kernel
theorem dX12_top_2 : decode cX12_top 2 = .ok (.invokevirtual 46, 3) := by decide +kernel
theorem dX12_top_5 : decode cX12_top 5 = .ok (.ifCond .ne 7, 3) := by decide +kernel
theorem dX12_top_8 : decode cX12_top 8 = .ok (.iconst (-1), 1) := by decide +kernel
theorem dX12_top_9 : decode cX12_top 9 = .ok (.goto 28, 3) := by decide +kernel
theorem dX12_top_12 : decode cX12_top 12 = .ok (.iload_n 2, 1) := by decide +kernel
theorem dX12_top_13 : decode cX12_top 13 = .ok (.invokestatic 66, 3) := by decide +kernel
theorem dX12_top_16 : decode cX12_top 16 = .ok (.ifCond .eq 20, 3) := by decide +kernel
theorem dX12_top_19 : decode cX12_top 19 = .ok (.iload_n 3, 1) := by decide +kernel
theorem dX12_top_20 : decode cX12_top 20 = .ok (.invokestatic 66, 3) := by decide +kernel
theorem dX12_top_23 : decode cX12_top 23 = .ok (.ifCond .eq 13, 3) := by decide +kernel
theorem dX12_top_26 : decode cX12_top 26 = .ok (.aload_n 0, 1) := by decide +kernel
theorem dX12_top_27 : decode cX12_top 27 = .ok (.iload_n 1, 1) := by decide +kernel
theorem dX12_top_28 : decode cX12_top 28 = .ok (.iload_n 2, 1) := by decide +kernel
theorem dX12_top_29 : decode cX12_top 29 = .ok (.iload_n 3, 1) := by decide +kernel
theorem dX12_top_30 : decode cX12_top 30 = .ok (.invokevirtual 75, 3) := by decide +kernel
theorem dX12_top_33 : decode cX12_top 33 = .ok (.goto 4, 3) := by decide +kernel
theorem dX12_top_36 : decode cX12_top 36 = .ok (.iconst 0, 1) := by decide +kernel
theorem dX12_top_37 : decode cX12_top 37 = .ok (.ireturn, 1) := by decide +kernel
theorem dX12_weight_0 : decode cX12_weight 0 = .ok (.aload_n 0, 1) := by decide +kernel
theorem dX12_weight_1 : decode cX12_weight 1 = .ok (.iload_n 1, 1) := by decide +kernel
theorem dX12_weight_2 : decode cX12_weight 2 = .ok (.invokevirtual 46, 3) := by decide +kernel
theorem dX12_weight_5 : decode cX12_weight 5 = .ok (.ifCond .eq 12, 3) := by decide +kernel
theorem dX12_weight_8 : decode cX12_weight 8 = .ok (.aload_n 0, 1) := by decide +kernel
theorem dX12_weight_9 : decode cX12_weight 9 = .ok (.getfield 16, 3) := by decide +kernel
theorem dX12_weight_12 : decode cX12_weight 12 = .ok (.iload_n 1, 1) := by decide +kernel
theorem dX12_weight_13 : decode cX12_weight 13 = .ok (.iaload, 1) := by decide +kernel
theorem dX12_weight_14 : decode cX12_weight 14 = .ok (.goto 4, 3) := by decide +kernel
theorem dX12_weight_17 : decode cX12_weight 17 = .ok (.iconst (-1), 1) := by decide +kernel
theorem dX12_weight_18 : decode cX12_weight 18 = .ok (.ireturn, 1) := by decide +kernel
theorem dX12_height_0 : decode cX12_height 0 = .ok (.aload_n 0, 1) := by decide +kernel
theorem dX12_height_1 : decode cX12_height 1 = .ok (.getfield 26, 3) := by decide +kernel
theorem dX12_height_4 : decode cX12_height 4 = .ok (.aload_n 0, 1) := by decide +kernel
theorem dX12_height_5 : decode cX12_height 5 = .ok (.getfield 83, 3) := by decide +kernel
theorem dX12_height_8 : decode cX12_height 8 = .ok (.lload_n 1, 1) := by decide +kernel
theorem dX12_height_9 : decode cX12_height 9 = .ok (.lastore, 1) := by decide +kernel
theorem dX12_height_10 : decode cX12_height 10 = .ok (.aload_n 0, 1) := by decide +kernel
theorem dX12_height_11 : decode cX12_height 11 = .ok (.dup, 1) := by decide +kernel
theorem dX12_height_12 : decode cX12_height 12 = .ok (.getfield 83, 3) := by decide +kernel
theorem dX12_height_15 : decode cX12_height 15 = .ok (.iconst 1, 1) := by decide +kernel
theorem dX12_height_16 : decode cX12_height 16 = .ok (.iadd, 1) := by decide +kernel
theorem dX12_height_17 : decode cX12_height 17 = .ok (.putfield 83, 3) := by decide +kernel
theorem dX12_height_20 : decode cX12_height 20 = .ok (.return_, 1) := by decide +kernel
theorem dX12_last_0 : decode cX12_last 0 = .ok (.lload 6, 2) := by decide +kernel
theorem dX12_last_2 : decode cX12_last 2 = .ok (.lstore 8, 2) := by decide +kernel
theorem dX12_last_4 : decode cX12_last 4 = .ok (.lload 6, 2) := by decide +kernel
theorem dX12_last_6 : decode cX12_last 6 = .ok (.ldc2_w 86, 3) := by decide +kernel
theorem dX12_last_9 : decode cX12_last 9 = .ok (.ladd, 1) := by decide +kernel
theorem dX12_last_10 : decode cX12_last 10 = .ok (.lstore 10, 2) := by decide +kernel
theorem dX12_last_12 : decode cX12_last 12 = .ok (.lload 8, 2) := by decide +kernel
theorem dX12_last_14 : decode cX12_last 14 = .ok (.lload 10, 2) := by decide +kernel
theorem dX12_last_16 : decode cX12_last 16 = .ok (.lcmp, 1) := by decide +kernel
theorem dX12_last_17 : decode cX12_last 17 = .ok (.ifCond .ge 74, 3) := by decide +kernel
theorem dX12_last_20 : decode cX12_last 20 = .ok (.lload 8, 2) := by decide +kernel
theorem dX12_last_22 : decode cX12_last 22 = .ok (.lload 10, 2) := by decide +kernel
theorem dX12_last_24 : decode cX12_last 24 = .ok (.ladd, 1) := by decide +kernel
theorem dX12_last_25 : decode cX12_last 25 = .ok (.lconst 1, 1) := by decide +kernel
theorem dX12_last_26 : decode cX12_last 26 = .ok (.ladd, 1) := by decide +kernel
theorem dX12_last_27 : decode cX12_last 27 = .ok (.ldc2_w 81, 3) := by decide +kernel
theorem dX12_last_30 : decode cX12_last 30 = .ok (.ldiv, 1) := by decide +kernel
theorem dX12_last_31 : decode cX12_last 31 = .ok (.lstore 12, 2) := by decide +kernel
theorem dX12_last_33 : decode cX12_last 33 = .ok (.lload 12, 2) := by decide +kernel
theorem dX12_last_35 : decode cX12_last 35 = .ok (.lconst 0, 1) := by decide +kernel
theorem dX12_last_36 : decode cX12_last 36 = .ok (.lcmp, 1) := by decide +kernel
theorem dX12_last_37 : decode cX12_last 37 = .ok (.ifCond .ge 25, 3) := by decide +kernel
theorem dX12_last_40 : decode cX12_last 40 = .ok (.lload 8, 2) := by decide +kernel
theorem dX12_last_42 : decode cX12_last 42 = .ok (.lload 10, 2) := by decide +kernel
theorem dX12_last_44 : decode cX12_last 44 = .ok (.ladd, 1) := by decide +kernel
theorem dX12_last_45 : decode cX12_last 45 = .ok (.lconst 1, 1) := by decide +kernel
theorem dX12_last_46 : decode cX12_last 46 = .ok (.ladd, 1) := by decide +kernel
theorem dX12_last_47 : decode cX12_last 47 = .ok (.ldc2_w 81, 3) := by decide +kernel
theorem dX12_last_50 : decode cX12_last 50 = .ok (.lrem, 1) := by decide +kernel
theorem dX12_last_51 : decode cX12_last 51 = .ok (.lconst 0, 1) := by decide +kernel
theorem dX12_last_52 : decode cX12_last 52 = .ok (.lcmp, 1) := by decide +kernel
theorem dX12_last_53 : decode cX12_last 53 = .ok (.ifCond .eq 9, 3) := by decide +kernel
theorem dX12_last_56 : decode cX12_last 56 = .ok (.lload 12, 2) := by decide +kernel
theorem dX12_last_58 : decode cX12_last 58 = .ok (.lconst 1, 1) := by decide +kernel
theorem dX12_last_59 : decode cX12_last 59 = .ok (.lsub, 1) := by decide +kernel
theorem dX12_last_60 : decode cX12_last 60 = .ok (.lstore 12, 2) := by decide +kernel
theorem dX12_last_62 : decode cX12_last 62 = .ok (.aload_n 0, 1) := by decide +kernel
theorem dX12_last_63 : decode cX12_last 63 = .ok (.iload_n 1, 1) := by decide +kernel
theorem dX12_last_64 : decode cX12_last 64 = .ok (.lload_n 2, 1) := by decide +kernel
theorem dX12_last_65 : decode cX12_last 65 = .ok (.lload 4, 2) := by decide +kernel
theorem dX12_last_67 : decode cX12_last 67 = .ok (.lload 12, 2) := by decide +kernel
theorem dX12_last_69 : decode cX12_last 69 = .ok (.invokevirtual 61, 3) := by decide +kernel
theorem dX12_last_72 : decode cX12_last 72 = .ok (.ifCond .eq 10, 3) := by decide +kernel
theorem dX12_last_75 : decode cX12_last 75 = .ok (.lload 12, 2) := by decide +kernel
theorem dX12_last_77 : decode cX12_last 77 = .ok (.lstore 8, 2) := by decide +kernel
theorem dX12_last_79 : decode cX12_last 79 = .ok (.goto 9, 3) := by decide +kernel
theorem dX12_last_82 : decode cX12_last 82 = .ok (.lload 12, 2) := by decide +kernel
theorem dX12_last_84 : decode cX12_last 84 = .ok (.lconst 1, 1) := by decide +kernel
theorem dX12_last_85 : decode cX12_last 85 = .ok (.lsub, 1) := by decide +kernel
theorem dX12_last_86 : decode cX12_last 86 = .ok (.lstore 10, 2) := by decide +kernel
theorem dX12_last_88 : decode cX12_last 88 = .ok (.goto (-76), 3) := by decide +kernel
theorem dX12_last_91 : decode cX12_last 91 = .ok (.lload 8, 2) := by decide +kernel
theorem dX12_last_93 : decode cX12_last 93 = .ok (.lreturn, 1) := by decide +kernel
theorem dX12_ends_0 : decode cX12_ends 0 = .ok (.aload_n 0, 1) := by decide +kernel
theorem dX12_ends_1 : decode cX12_ends 1 = .ok (.getfield 9, 3) := by decide +kernel
theorem dX12_ends_4 : decode cX12_ends 4 = .ok (.iload_n 1, 1) := by decide +kernel
theorem dX12_ends_5 : decode cX12_ends 5 = .ok (.iaload, 1) := by decide +kernel
theorem dX12_ends_6 : decode cX12_ends 6 = .ok (.tableswitch 120 4 6 #[26, 59, 101], 26) := by decide +kernel
theorem dX12_ends_32 : decode cX12_ends 32 = .ok (.aload_n 0, 1) := by decide +kernel
theorem dX12_ends_33 : decode cX12_ends 33 = .ok (.aload_n 0, 1) := by decide +kernel
theorem dX12_ends_34 : decode cX12_ends 34 = .ok (.iload_n 1, 1) := by decide +kernel
theorem dX12_ends_35 : decode cX12_ends 35 = .ok (.iconst 0, 1) := by decide +kernel
theorem dX12_ends_36 : decode cX12_ends 36 = .ok (.invokevirtual 50, 3) := by decide +kernel
theorem dX12_ends_39 : decode cX12_ends 39 = .ok (.lload_n 2, 1) := by decide +kernel
theorem dX12_ends_40 : decode cX12_ends 40 = .ok (.lload 4, 2) := by decide +kernel
theorem dX12_ends_42 : decode cX12_ends 42 = .ok (.lload 6, 2) := by decide +kernel
theorem dX12_ends_44 : decode cX12_ends 44 = .ok (.invokevirtual 88, 3) := by decide +kernel
theorem dX12_ends_47 : decode cX12_ends 47 = .ok (.aload_n 0, 1) := by decide +kernel
theorem dX12_ends_48 : decode cX12_ends 48 = .ok (.aload_n 0, 1) := by decide +kernel
theorem dX12_ends_49 : decode cX12_ends 49 = .ok (.iload_n 1, 1) := by decide +kernel
theorem dX12_ends_50 : decode cX12_ends 50 = .ok (.iconst 1, 1) := by decide +kernel
theorem dX12_ends_51 : decode cX12_ends 51 = .ok (.invokevirtual 50, 3) := by decide +kernel
theorem dX12_ends_54 : decode cX12_ends 54 = .ok (.lload_n 2, 1) := by decide +kernel
theorem dX12_ends_55 : decode cX12_ends 55 = .ok (.lload 4, 2) := by decide +kernel
theorem dX12_ends_57 : decode cX12_ends 57 = .ok (.lload 6, 2) := by decide +kernel
theorem dX12_ends_59 : decode cX12_ends 59 = .ok (.invokevirtual 88, 3) := by decide +kernel
theorem dX12_ends_62 : decode cX12_ends 62 = .ok (.goto 176, 3) := by decide +kernel
theorem dX12_ends_65 : decode cX12_ends 65 = .ok (.aload_n 0, 1) := by decide +kernel
theorem dX12_ends_66 : decode cX12_ends 66 = .ok (.aload_n 0, 1) := by decide +kernel
theorem dX12_ends_67 : decode cX12_ends 67 = .ok (.iload_n 1, 1) := by decide +kernel
theorem dX12_ends_68 : decode cX12_ends 68 = .ok (.iconst 3, 1) := by decide +kernel
theorem dX12_ends_69 : decode cX12_ends 69 = .ok (.invokevirtual 50, 3) := by decide +kernel
theorem dX12_ends_72 : decode cX12_ends 72 = .ok (.lload_n 2, 1) := by decide +kernel
theorem dX12_ends_73 : decode cX12_ends 73 = .ok (.aload_n 0, 1) := by decide +kernel
theorem dX12_ends_74 : decode cX12_ends 74 = .ok (.iload_n 1, 1) := by decide +kernel
theorem dX12_ends_75 : decode cX12_ends 75 = .ok (.iconst 0, 1) := by decide +kernel
theorem dX12_ends_76 : decode cX12_ends 76 = .ok (.invokevirtual 50, 3) := by decide +kernel
theorem dX12_ends_79 : decode cX12_ends 79 = .ok (.i2l, 1) := by decide +kernel
theorem dX12_ends_80 : decode cX12_ends 80 = .ok (.lsub, 1) := by decide +kernel
theorem dX12_ends_81 : decode cX12_ends 81 = .ok (.lload 4, 2) := by decide +kernel
theorem dX12_ends_83 : decode cX12_ends 83 = .ok (.aload_n 0, 1) := by decide +kernel
theorem dX12_ends_84 : decode cX12_ends 84 = .ok (.iload_n 1, 1) := by decide +kernel
theorem dX12_ends_85 : decode cX12_ends 85 = .ok (.iconst 1, 1) := by decide +kernel
theorem dX12_ends_86 : decode cX12_ends 86 = .ok (.invokevirtual 50, 3) := by decide +kernel
theorem dX12_ends_89 : decode cX12_ends 89 = .ok (.i2l, 1) := by decide +kernel
theorem dX12_ends_90 : decode cX12_ends 90 = .ok (.lsub, 1) := by decide +kernel
theorem dX12_ends_91 : decode cX12_ends 91 = .ok (.lload 6, 2) := by decide +kernel
theorem dX12_ends_93 : decode cX12_ends 93 = .ok (.aload_n 0, 1) := by decide +kernel
theorem dX12_ends_94 : decode cX12_ends 94 = .ok (.iload_n 1, 1) := by decide +kernel
theorem dX12_ends_95 : decode cX12_ends 95 = .ok (.iconst 2, 1) := by decide +kernel
theorem dX12_ends_96 : decode cX12_ends 96 = .ok (.invokevirtual 50, 3) := by decide +kernel
theorem dX12_ends_99 : decode cX12_ends 99 = .ok (.i2l, 1) := by decide +kernel
theorem dX12_ends_100 : decode cX12_ends 100 = .ok (.ladd, 1) := by decide +kernel
theorem dX12_ends_101 : decode cX12_ends 101 = .ok (.invokevirtual 88, 3) := by decide +kernel
theorem dX12_ends_104 : decode cX12_ends 104 = .ok (.goto 134, 3) := by decide +kernel
theorem dX12_ends_107 : decode cX12_ends 107 = .ok (.aload_n 0, 1) := by decide +kernel
theorem dX12_ends_108 : decode cX12_ends 108 = .ok (.aload_n 0, 1) := by decide +kernel
theorem dX12_ends_109 : decode cX12_ends 109 = .ok (.iload_n 1, 1) := by decide +kernel
theorem dX12_ends_110 : decode cX12_ends 110 = .ok (.iconst 0, 1) := by decide +kernel
theorem dX12_ends_111 : decode cX12_ends 111 = .ok (.invokevirtual 50, 3) := by decide +kernel
theorem dX12_ends_114 : decode cX12_ends 114 = .ok (.lload 4, 2) := by decide +kernel
theorem dX12_ends_116 : decode cX12_ends 116 = .ok (.lload_n 2, 1) := by decide +kernel
theorem dX12_ends_117 : decode cX12_ends 117 = .ok (.lneg, 1) := by decide +kernel
theorem dX12_ends_118 : decode cX12_ends 118 = .ok (.lload 6, 2) := by decide +kernel
theorem dX12_ends_120 : decode cX12_ends 120 = .ok (.invokevirtual 88, 3) := by decide +kernel
theorem dX12_ends_123 : decode cX12_ends 123 = .ok (.goto 115, 3) := by decide +kernel
theorem dX12_ends_126 : decode cX12_ends 126 = .ok (.aload_n 0, 1) := by decide +kernel
theorem dX12_ends_127 : decode cX12_ends 127 = .ok (.getfield 9, 3) := by decide +kernel
theorem dX12_ends_130 : decode cX12_ends 130 = .ok (.iload_n 1, 1) := by decide +kernel
theorem dX12_ends_131 : decode cX12_ends 131 = .ok (.iaload, 1) := by decide +kernel
theorem dX12_ends_132 : decode cX12_ends 132 = .ok (.iconst 1, 1) := by decide +kernel
theorem dX12_ends_133 : decode cX12_ends 133 = .ok (.if_icmp .eq 13, 3) := by decide +kernel
theorem dX12_ends_136 : decode cX12_ends 136 = .ok (.aload_n 0, 1) := by decide +kernel
theorem dX12_ends_137 : decode cX12_ends 137 = .ok (.getfield 9, 3) := by decide +kernel
theorem dX12_ends_140 : decode cX12_ends 140 = .ok (.iload_n 1, 1) := by decide +kernel
theorem dX12_ends_141 : decode cX12_ends 141 = .ok (.iaload, 1) := by decide +kernel
theorem dX12_ends_142 : decode cX12_ends 142 = .ok (.iconst 3, 1) := by decide +kernel
theorem dX12_ends_143 : decode cX12_ends 143 = .ok (.if_icmp .ne 13, 3) := by decide +kernel
theorem dX12_ends_146 : decode cX12_ends 146 = .ok (.aload_n 0, 1) := by decide +kernel
theorem dX12_ends_147 : decode cX12_ends 147 = .ok (.iload_n 1, 1) := by decide +kernel
theorem dX12_ends_148 : decode cX12_ends 148 = .ok (.iconst 3, 1) := by decide +kernel
theorem dX12_ends_149 : decode cX12_ends 149 = .ok (.invokevirtual 50, 3) := by decide +kernel
theorem dX12_ends_152 : decode cX12_ends 152 = .ok (.i2l, 1) := by decide +kernel
theorem dX12_ends_153 : decode cX12_ends 153 = .ok (.goto 10, 3) := by decide +kernel
theorem dX12_ends_156 : decode cX12_ends 156 = .ok (.aload_n 0, 1) := by decide +kernel
theorem dX12_ends_157 : decode cX12_ends 157 = .ok (.iload_n 1, 1) := by decide +kernel
theorem dX12_ends_158 : decode cX12_ends 158 = .ok (.iconst 2, 1) := by decide +kernel
theorem dX12_ends_159 : decode cX12_ends 159 = .ok (.invokevirtual 50, 3) := by decide +kernel
theorem dX12_ends_162 : decode cX12_ends 162 = .ok (.i2l, 1) := by decide +kernel
theorem dX12_ends_163 : decode cX12_ends 163 = .ok (.lstore 8, 2) := by decide +kernel
theorem dX12_ends_165 : decode cX12_ends 165 = .ok (.aload_n 0, 1) := by decide +kernel
theorem dX12_ends_166 : decode cX12_ends 166 = .ok (.iload_n 1, 1) := by decide +kernel
theorem dX12_ends_167 : decode cX12_ends 167 = .ok (.lload_n 2, 1) := by decide +kernel
theorem dX12_ends_168 : decode cX12_ends 168 = .ok (.lload 4, 2) := by decide +kernel
theorem dX12_ends_170 : decode cX12_ends 170 = .ok (.lload 8, 2) := by decide +kernel
theorem dX12_ends_172 : decode cX12_ends 172 = .ok (.invokevirtual 61, 3) := by decide +kernel
theorem dX12_ends_175 : decode cX12_ends 175 = .ok (.ifCond .ne 6, 3) := by decide +kernel
theorem dX12_ends_178 : decode cX12_ends 178 = .ok (.goto 60, 3) := by decide +kernel
theorem dX12_ends_181 : decode cX12_ends 181 = .ok (.aload_n 0, 1) := by decide +kernel
theorem dX12_ends_182 : decode cX12_ends 182 = .ok (.iload_n 1, 1) := by decide +kernel
theorem dX12_ends_183 : decode cX12_ends 183 = .ok (.lload_n 2, 1) := by decide +kernel
theorem dX12_ends_184 : decode cX12_ends 184 = .ok (.lload 4, 2) := by decide +kernel
theorem dX12_ends_186 : decode cX12_ends 186 = .ok (.lload 8, 2) := by decide +kernel
theorem dX12_ends_188 : decode cX12_ends 188 = .ok (.invokevirtual 92, 3) := by decide +kernel
theorem dX12_ends_191 : decode cX12_ends 191 = .ok (.lstore 10, 2) := by decide +kernel
theorem dX12_ends_193 : decode cX12_ends 193 = .ok (.aload_n 0, 1) := by decide +kernel
theorem dX12_ends_194 : decode cX12_ends 194 = .ok (.aload_n 0, 1) := by decide +kernel
theorem dX12_ends_195 : decode cX12_ends 195 = .ok (.getfield 9, 3) := by decide +kernel
theorem dX12_ends_198 : decode cX12_ends 198 = .ok (.iload_n 1, 1) := by decide +kernel
theorem dX12_ends_199 : decode cX12_ends 199 = .ok (.iaload, 1) := by decide +kernel
theorem dX12_ends_200 : decode cX12_ends 200 = .ok (.iconst 2, 1) := by decide +kernel
theorem dX12_ends_201 : decode cX12_ends 201 = .ok (.if_icmp .ne 15, 3) := by decide +kernel
theorem dX12_ends_204 : decode cX12_ends 204 = .ok (.ldc2_w 81, 3) := by decide +kernel
theorem dX12_ends_207 : decode cX12_ends 207 = .ok (.lload 8, 2) := by decide +kernel
theorem dX12_ends_209 : decode cX12_ends 209 = .ok (.lmul, 1) := by decide +kernel
theorem dX12_ends_210 : decode cX12_ends 210 = .ok (.lload 10, 2) := by decide +kernel
theorem dX12_ends_212 : decode cX12_ends 212 = .ok (.lsub, 1) := by decide +kernel
theorem dX12_ends_213 : decode cX12_ends 213 = .ok (.goto 5, 3) := by decide +kernel
theorem dX12_ends_216 : decode cX12_ends 216 = .ok (.lload 8, 2) := by decide +kernel
theorem dX12_ends_218 : decode cX12_ends 218 = .ok (.lload 6, 2) := by decide +kernel
theorem dX12_ends_220 : decode cX12_ends 220 = .ok (.ladd, 1) := by decide +kernel
theorem dX12_ends_221 : decode cX12_ends 221 = .ok (.invokevirtual 96, 3) := by decide +kernel
theorem dX12_ends_224 : decode cX12_ends 224 = .ok (.aload_n 0, 1) := by decide +kernel
theorem dX12_ends_225 : decode cX12_ends 225 = .ok (.lload 10, 2) := by decide +kernel
theorem dX12_ends_227 : decode cX12_ends 227 = .ok (.lconst 1, 1) := by decide +kernel
theorem dX12_ends_228 : decode cX12_ends 228 = .ok (.ladd, 1) := by decide +kernel
theorem dX12_ends_229 : decode cX12_ends 229 = .ok (.lload 6, 2) := by decide +kernel
theorem dX12_ends_231 : decode cX12_ends 231 = .ok (.ladd, 1) := by decide +kernel
theorem dX12_ends_232 : decode cX12_ends 232 = .ok (.invokevirtual 96, 3) := by decide +kernel
theorem dX12_ends_235 : decode cX12_ends 235 = .ok (.goto 3, 3) := by decide +kernel
theorem dX12_ends_238 : decode cX12_ends 238 = .ok (.return_, 1) := by decide +kernel
theorem dX12_sort_0 : decode cX12_sort 0 = .ok (.iconst 1, 1) := by decide +kernel
theorem dX12_sort_1 : decode cX12_sort 1 = .ok (.istore_n 1, 1) := by decide +kernel
theorem dX12_sort_2 : decode cX12_sort 2 = .ok (.iload_n 1, 1) := by decide +kernel
theorem dX12_sort_3 : decode cX12_sort 3 = .ok (.aload_n 0, 1) := by decide +kernel
theorem dX12_sort_4 : decode cX12_sort 4 = .ok (.getfield 83, 3) := by decide +kernel
theorem dX12_sort_7 : decode cX12_sort 7 = .ok (.if_icmp .ge 68, 3) := by decide +kernel
theorem dX12_sort_10 : decode cX12_sort 10 = .ok (.aload_n 0, 1) := by decide +kernel
theorem dX12_sort_11 : decode cX12_sort 11 = .ok (.getfield 26, 3) := by decide +kernel
theorem dX12_sort_14 : decode cX12_sort 14 = .ok (.iload_n 1, 1) := by decide +kernel
theorem dX12_sort_15 : decode cX12_sort 15 = .ok (.laload, 1) := by decide +kernel
theorem dX12_sort_16 : decode cX12_sort 16 = .ok (.lstore_n 2, 1) := by decide +kernel
theorem dX12_sort_17 : decode cX12_sort 17 = .ok (.iload_n 1, 1) := by decide +kernel
theorem dX12_sort_18 : decode cX12_sort 18 = .ok (.istore 4, 2) := by decide +kernel
theorem dX12_sort_20 : decode cX12_sort 20 = .ok (.iload 4, 2) := by decide +kernel
theorem dX12_sort_22 : decode cX12_sort 22 = .ok (.ifCond .le 39, 3) := by decide +kernel
theorem dX12_sort_25 : decode cX12_sort 25 = .ok (.aload_n 0, 1) := by decide +kernel
theorem dX12_sort_26 : decode cX12_sort 26 = .ok (.getfield 26, 3) := by decide +kernel
theorem dX12_sort_29 : decode cX12_sort 29 = .ok (.iload 4, 2) := by decide +kernel
theorem dX12_sort_31 : decode cX12_sort 31 = .ok (.iconst 1, 1) := by decide +kernel
theorem dX12_sort_32 : decode cX12_sort 32 = .ok (.isub, 1) := by decide +kernel
theorem dX12_sort_33 : decode cX12_sort 33 = .ok (.laload, 1) := by decide +kernel
theorem dX12_sort_34 : decode cX12_sort 34 = .ok (.lload_n 2, 1) := by decide +kernel
theorem dX12_sort_35 : decode cX12_sort 35 = .ok (.lcmp, 1) := by decide +kernel
theorem dX12_sort_36 : decode cX12_sort 36 = .ok (.ifCond .le 25, 3) := by decide +kernel
theorem dX12_sort_39 : decode cX12_sort 39 = .ok (.aload_n 0, 1) := by decide +kernel
theorem dX12_sort_40 : decode cX12_sort 40 = .ok (.getfield 26, 3) := by decide +kernel
theorem dX12_sort_43 : decode cX12_sort 43 = .ok (.iload 4, 2) := by decide +kernel
theorem dX12_sort_45 : decode cX12_sort 45 = .ok (.aload_n 0, 1) := by decide +kernel
theorem dX12_sort_46 : decode cX12_sort 46 = .ok (.getfield 26, 3) := by decide +kernel
theorem dX12_sort_49 : decode cX12_sort 49 = .ok (.iload 4, 2) := by decide +kernel
theorem dX12_sort_51 : decode cX12_sort 51 = .ok (.iconst 1, 1) := by decide +kernel
theorem dX12_sort_52 : decode cX12_sort 52 = .ok (.isub, 1) := by decide +kernel
theorem dX12_sort_53 : decode cX12_sort 53 = .ok (.laload, 1) := by decide +kernel
theorem dX12_sort_54 : decode cX12_sort 54 = .ok (.lastore, 1) := by decide +kernel
theorem dX12_sort_55 : decode cX12_sort 55 = .ok (.iinc 4 (-1), 3) := by decide +kernel
theorem dX12_sort_58 : decode cX12_sort 58 = .ok (.goto (-38), 3) := by decide +kernel
theorem dX12_sort_61 : decode cX12_sort 61 = .ok (.aload_n 0, 1) := by decide +kernel
theorem dX12_sort_62 : decode cX12_sort 62 = .ok (.getfield 26, 3) := by decide +kernel
theorem dX12_sort_65 : decode cX12_sort 65 = .ok (.iload 4, 2) := by decide +kernel
theorem dX12_sort_67 : decode cX12_sort 67 = .ok (.lload_n 2, 1) := by decide +kernel
theorem dX12_sort_68 : decode cX12_sort 68 = .ok (.lastore, 1) := by decide +kernel
theorem dX12_sort_69 : decode cX12_sort 69 = .ok (.iinc 1 1, 3) := by decide +kernel
theorem dX12_sort_72 : decode cX12_sort 72 = .ok (.goto (-70), 3) := by decide +kernel
theorem dX12_sort_75 : decode cX12_sort 75 = .ok (.return_, 1) := by decide +kernel
theorem dX12_spans_0 : decode cX12_spans 0 = .ok (.aload_n 0, 1) := by decide +kernel
theorem dX12_spans_1 : decode cX12_spans 1 = .ok (.iload_n 1, 1) := by decide +kernel
theorem dX12_spans_2 : decode cX12_spans 2 = .ok (.invokevirtual 46, 3) := by decide +kernel
theorem dX12_spans_5 : decode cX12_spans 5 = .ok (.ifCond .ne 5, 3) := by decide +kernel
theorem dX12_spans_8 : decode cX12_spans 8 = .ok (.iconst (-1), 1) := by decide +kernel
theorem dX12_spans_9 : decode cX12_spans 9 = .ok (.ireturn, 1) := by decide +kernel
theorem dX12_spans_10 : decode cX12_spans 10 = .ok (.aload_n 0, 1) := by decide +kernel
theorem dX12_spans_11 : decode cX12_spans 11 = .ok (.iconst 0, 1) := by decide +kernel
theorem dX12_spans_12 : decode cX12_spans 12 = .ok (.putfield 100, 3) := by decide +kernel
theorem dX12_spans_15 : decode cX12_spans 15 = .ok (.iload_n 2, 1) := by decide +kernel
theorem dX12_spans_16 : decode cX12_spans 16 = .ok (.invokestatic 66, 3) := by decide +kernel
theorem dX12_spans_19 : decode cX12_spans 19 = .ok (.ifCond .eq 10, 3) := by decide +kernel
theorem dX12_spans_22 : decode cX12_spans 22 = .ok (.iload_n 3, 1) := by decide +kernel
theorem dX12_spans_23 : decode cX12_spans 23 = .ok (.invokestatic 66, 3) := by decide +kernel
theorem dX12_spans_26 : decode cX12_spans 26 = .ok (.ifCond .ne 5, 3) := by decide +kernel
theorem dX12_spans_29 : decode cX12_spans 29 = .ok (.iconst 0, 1) := by decide +kernel
theorem dX12_spans_30 : decode cX12_spans 30 = .ok (.ireturn, 1) := by decide +kernel
theorem dX12_spans_31 : decode cX12_spans 31 = .ok (.aload_n 0, 1) := by decide +kernel
theorem dX12_spans_32 : decode cX12_spans 32 = .ok (.iconst 0, 1) := by decide +kernel
theorem dX12_spans_33 : decode cX12_spans 33 = .ok (.putfield 83, 3) := by decide +kernel
theorem dX12_spans_36 : decode cX12_spans 36 = .ok (.aload_n 0, 1) := by decide +kernel
theorem dX12_spans_37 : decode cX12_spans 37 = .ok (.iload_n 1, 1) := by decide +kernel
theorem dX12_spans_38 : decode cX12_spans 38 = .ok (.iload_n 2, 1) := by decide +kernel
theorem dX12_spans_39 : decode cX12_spans 39 = .ok (.i2l, 1) := by decide +kernel
theorem dX12_spans_40 : decode cX12_spans 40 = .ok (.iload_n 3, 1) := by decide +kernel
theorem dX12_spans_41 : decode cX12_spans 41 = .ok (.i2l, 1) := by decide +kernel
theorem dX12_spans_42 : decode cX12_spans 42 = .ok (.lconst 0, 1) := by decide +kernel
theorem dX12_spans_43 : decode cX12_spans 43 = .ok (.invokevirtual 88, 3) := by decide +kernel
theorem dX12_spans_46 : decode cX12_spans 46 = .ok (.aload_n 0, 1) := by decide +kernel
theorem dX12_spans_47 : decode cX12_spans 47 = .ok (.invokevirtual 103, 3) := by decide +kernel
theorem dX12_spans_50 : decode cX12_spans 50 = .ok (.iconst 0, 1) := by decide +kernel
theorem dX12_spans_51 : decode cX12_spans 51 = .ok (.istore 4, 2) := by decide +kernel
theorem dX12_spans_53 : decode cX12_spans 53 = .ok (.iconst 0, 1) := by decide +kernel
theorem dX12_spans_54 : decode cX12_spans 54 = .ok (.istore 5, 2) := by decide +kernel
theorem dX12_spans_56 : decode cX12_spans 56 = .ok (.iload 5, 2) := by decide +kernel
theorem dX12_spans_58 : decode cX12_spans 58 = .ok (.aload_n 0, 1) := by decide +kernel
theorem dX12_spans_59 : decode cX12_spans 59 = .ok (.getfield 83, 3) := by decide +kernel
theorem dX12_spans_62 : decode cX12_spans 62 = .ok (.if_icmp .ge 95, 3) := by decide +kernel
theorem dX12_spans_65 : decode cX12_spans 65 = .ok (.aload_n 0, 1) := by decide +kernel
theorem dX12_spans_66 : decode cX12_spans 66 = .ok (.iload_n 1, 1) := by decide +kernel
theorem dX12_spans_67 : decode cX12_spans 67 = .ok (.iload_n 2, 1) := by decide +kernel
theorem dX12_spans_68 : decode cX12_spans 68 = .ok (.i2l, 1) := by decide +kernel
theorem dX12_spans_69 : decode cX12_spans 69 = .ok (.iload_n 3, 1) := by decide +kernel
theorem dX12_spans_70 : decode cX12_spans 70 = .ok (.i2l, 1) := by decide +kernel
theorem dX12_spans_71 : decode cX12_spans 71 = .ok (.aload_n 0, 1) := by decide +kernel
theorem dX12_spans_72 : decode cX12_spans 72 = .ok (.getfield 26, 3) := by decide +kernel
theorem dX12_spans_75 : decode cX12_spans 75 = .ok (.iload 5, 2) := by decide +kernel
theorem dX12_spans_77 : decode cX12_spans 77 = .ok (.laload, 1) := by decide +kernel
theorem dX12_spans_78 : decode cX12_spans 78 = .ok (.invokevirtual 57, 3) := by decide +kernel
theorem dX12_spans_81 : decode cX12_spans 81 = .ok (.istore 6, 2) := by decide +kernel
theorem dX12_spans_83 : decode cX12_spans 83 = .ok (.iload 6, 2) := by decide +kernel
theorem dX12_spans_85 : decode cX12_spans 85 = .ok (.ifCond .eq 24, 3) := by decide +kernel
theorem dX12_spans_88 : decode cX12_spans 88 = .ok (.iload 4, 2) := by decide +kernel
theorem dX12_spans_90 : decode cX12_spans 90 = .ok (.ifCond .ne 19, 3) := by decide +kernel
theorem dX12_spans_93 : decode cX12_spans 93 = .ok (.aload_n 0, 1) := by decide +kernel
theorem dX12_spans_94 : decode cX12_spans 94 = .ok (.getfield 29, 3) := by decide +kernel
theorem dX12_spans_97 : decode cX12_spans 97 = .ok (.aload_n 0, 1) := by decide +kernel
theorem dX12_spans_98 : decode cX12_spans 98 = .ok (.getfield 100, 3) := by decide +kernel
theorem dX12_spans_101 : decode cX12_spans 101 = .ok (.aload_n 0, 1) := by decide +kernel
theorem dX12_spans_102 : decode cX12_spans 102 = .ok (.getfield 26, 3) := by decide +kernel
theorem dX12_spans_105 : decode cX12_spans 105 = .ok (.iload 5, 2) := by decide +kernel
theorem dX12_spans_107 : decode cX12_spans 107 = .ok (.laload, 1) := by decide +kernel
theorem dX12_spans_108 : decode cX12_spans 108 = .ok (.lastore, 1) := by decide +kernel
theorem dX12_spans_109 : decode cX12_spans 109 = .ok (.iload 4, 2) := by decide +kernel
theorem dX12_spans_111 : decode cX12_spans 111 = .ok (.ifCond .eq 36, 3) := by decide +kernel
theorem dX12_spans_114 : decode cX12_spans 114 = .ok (.iload 6, 2) := by decide +kernel
theorem dX12_spans_116 : decode cX12_spans 116 = .ok (.ifCond .ne 31, 3) := by decide +kernel
theorem dX12_spans_119 : decode cX12_spans 119 = .ok (.aload_n 0, 1) := by decide +kernel
theorem dX12_spans_120 : decode cX12_spans 120 = .ok (.getfield 32, 3) := by decide +kernel
theorem dX12_spans_123 : decode cX12_spans 123 = .ok (.aload_n 0, 1) := by decide +kernel
theorem dX12_spans_124 : decode cX12_spans 124 = .ok (.getfield 100, 3) := by decide +kernel
theorem dX12_spans_127 : decode cX12_spans 127 = .ok (.aload_n 0, 1) := by decide +kernel
theorem dX12_spans_128 : decode cX12_spans 128 = .ok (.getfield 26, 3) := by decide +kernel
theorem dX12_spans_131 : decode cX12_spans 131 = .ok (.iload 5, 2) := by decide +kernel
theorem dX12_spans_133 : decode cX12_spans 133 = .ok (.laload, 1) := by decide +kernel
theorem dX12_spans_134 : decode cX12_spans 134 = .ok (.lconst 1, 1) := by decide +kernel
theorem dX12_spans_135 : decode cX12_spans 135 = .ok (.lsub, 1) := by decide +kernel
theorem dX12_spans_136 : decode cX12_spans 136 = .ok (.lastore, 1) := by decide +kernel
theorem dX12_spans_137 : decode cX12_spans 137 = .ok (.aload_n 0, 1) := by decide +kernel
theorem dX12_spans_138 : decode cX12_spans 138 = .ok (.dup, 1) := by decide +kernel
theorem dX12_spans_139 : decode cX12_spans 139 = .ok (.getfield 100, 3) := by decide +kernel
theorem dX12_spans_142 : decode cX12_spans 142 = .ok (.iconst 1, 1) := by decide +kernel
theorem dX12_spans_143 : decode cX12_spans 143 = .ok (.iadd, 1) := by decide +kernel
theorem dX12_spans_144 : decode cX12_spans 144 = .ok (.putfield 100, 3) := by decide +kernel
theorem dX12_spans_147 : decode cX12_spans 147 = .ok (.iload 6, 2) := by decide +kernel
theorem dX12_spans_149 : decode cX12_spans 149 = .ok (.istore 4, 2) := by decide +kernel
theorem dX12_spans_151 : decode cX12_spans 151 = .ok (.iinc 5 1, 3) := by decide +kernel
theorem dX12_spans_154 : decode cX12_spans 154 = .ok (.goto (-98), 3) := by decide +kernel
theorem dX12_spans_157 : decode cX12_spans 157 = .ok (.aload_n 0, 1) := by decide +kernel
theorem dX12_spans_158 : decode cX12_spans 158 = .ok (.getfield 100, 3) := by decide +kernel
theorem dX12_spans_161 : decode cX12_spans 161 = .ok (.ireturn, 1) := by decide +kernel
theorem dX12_span_0 : decode cX12_span 0 = .ok (.iload_n 1, 1) := by decide +kernel
theorem dX12_span_1 : decode cX12_span 1 = .ok (.ifCond .lt 20, 3) := by decide +kernel
theorem dX12_span_4 : decode cX12_span 4 = .ok (.iload_n 1, 1) := by decide +kernel
theorem dX12_span_5 : decode cX12_span 5 = .ok (.aload_n 0, 1) := by decide +kernel
theorem dX12_span_6 : decode cX12_span 6 = .ok (.getfield 100, 3) := by decide +kernel
theorem dX12_span_9 : decode cX12_span 9 = .ok (.if_icmp .ge 12, 3) := by decide +kernel
theorem dX12_span_12 : decode cX12_span 12 = .ok (.iload_n 2, 1) := by decide +kernel
theorem dX12_span_13 : decode cX12_span 13 = .ok (.ifCond .lt 8, 3) := by decide +kernel
theorem dX12_span_16 : decode cX12_span 16 = .ok (.iload_n 2, 1) := by decide +kernel
theorem dX12_span_17 : decode cX12_span 17 = .ok (.iconst 1, 1) := by decide +kernel
theorem dX12_span_18 : decode cX12_span 18 = .ok (.if_icmp .le 5, 3) := by decide +kernel
theorem dX12_span_21 : decode cX12_span 21 = .ok (.iconst 0, 1) := by decide +kernel
theorem dX12_span_22 : decode cX12_span 22 = .ok (.ireturn, 1) := by decide +kernel
theorem dX12_span_23 : decode cX12_span 23 = .ok (.iload_n 2, 1) := by decide +kernel
theorem dX12_span_24 : decode cX12_span 24 = .ok (.ifCond .ne 12, 3) := by decide +kernel
theorem dX12_span_27 : decode cX12_span 27 = .ok (.aload_n 0, 1) := by decide +kernel
theorem dX12_span_28 : decode cX12_span 28 = .ok (.getfield 29, 3) := by decide +kernel
theorem dX12_span_31 : decode cX12_span 31 = .ok (.iload_n 1, 1) := by decide +kernel
theorem dX12_span_32 : decode cX12_span 32 = .ok (.laload, 1) := by decide +kernel
theorem dX12_span_33 : decode cX12_span 33 = .ok (.goto 9, 3) := by decide +kernel
theorem dX12_span_36 : decode cX12_span 36 = .ok (.aload_n 0, 1) := by decide +kernel
theorem dX12_span_37 : decode cX12_span 37 = .ok (.getfield 32, 3) := by decide +kernel
theorem dX12_span_40 : decode cX12_span 40 = .ok (.iload_n 1, 1) := by decide +kernel
theorem dX12_span_41 : decode cX12_span 41 = .ok (.laload, 1) := by decide +kernel
theorem dX12_span_42 : decode cX12_span 42 = .ok (.l2i, 1) := by decide +kernel
theorem dX12_span_43 : decode cX12_span 43 = .ok (.ireturn, 1) := by decide +kernel
theorem dX12_within_0 : decode cX12_within 0 = .ok (.lconst 0, 1) := by decide +kernel
theorem dX12_within_1 : decode cX12_within 1 = .ok (.lstore_n 3, 1) := by decide +kernel
theorem dX12_within_2 : decode cX12_within 2 = .ok (.iconst 0, 1) := by decide +kernel
theorem dX12_within_3 : decode cX12_within 3 = .ok (.istore 5, 2) := by decide +kernel
theorem dX12_within_5 : decode cX12_within 5 = .ok (.iload 5, 2) := by decide +kernel
theorem dX12_within_7 : decode cX12_within 7 = .ok (.aload_n 0, 1) := by decide +kernel
theorem dX12_within_8 : decode cX12_within 8 = .ok (.getfield 100, 3) := by decide +kernel
theorem dX12_within_11 : decode cX12_within 11 = .ok (.if_icmp .ge 55, 3) := by decide +kernel
theorem dX12_within_14 : decode cX12_within 14 = .ok (.aload_n 0, 1) := by decide +kernel
theorem dX12_within_15 : decode cX12_within 15 = .ok (.getfield 29, 3) := by decide +kernel
theorem dX12_within_18 : decode cX12_within 18 = .ok (.iload 5, 2) := by decide +kernel
theorem dX12_within_20 : decode cX12_within 20 = .ok (.laload, 1) := by decide +kernel
theorem dX12_within_21 : decode cX12_within 21 = .ok (.iload_n 1, 1) := by decide +kernel
theorem dX12_within_22 : decode cX12_within 22 = .ok (.i2l, 1) := by decide +kernel
theorem dX12_within_23 : decode cX12_within 23 = .ok (.invokestatic 106, 3) := by decide +kernel
theorem dX12_within_26 : decode cX12_within 26 = .ok (.lstore 6, 2) := by decide +kernel
theorem dX12_within_28 : decode cX12_within 28 = .ok (.aload_n 0, 1) := by decide +kernel
theorem dX12_within_29 : decode cX12_within 29 = .ok (.getfield 32, 3) := by decide +kernel
theorem dX12_within_32 : decode cX12_within 32 = .ok (.iload 5, 2) := by decide +kernel
theorem dX12_within_34 : decode cX12_within 34 = .ok (.laload, 1) := by decide +kernel
theorem dX12_within_35 : decode cX12_within 35 = .ok (.iload_n 2, 1) := by decide +kernel
theorem dX12_within_36 : decode cX12_within 36 = .ok (.i2l, 1) := by decide +kernel
theorem dX12_within_37 : decode cX12_within 37 = .ok (.invokestatic 112, 3) := by decide +kernel
theorem dX12_within_40 : decode cX12_within 40 = .ok (.lstore 8, 2) := by decide +kernel
theorem dX12_within_42 : decode cX12_within 42 = .ok (.lload 8, 2) := by decide +kernel
theorem dX12_within_44 : decode cX12_within 44 = .ok (.lload 6, 2) := by decide +kernel
theorem dX12_within_46 : decode cX12_within 46 = .ok (.lcmp, 1) := by decide +kernel
theorem dX12_within_47 : decode cX12_within 47 = .ok (.ifCond .lt 13, 3) := by decide +kernel
theorem dX12_within_50 : decode cX12_within 50 = .ok (.lload_n 3, 1) := by decide +kernel
theorem dX12_within_51 : decode cX12_within 51 = .ok (.lload 8, 2) := by decide +kernel
theorem dX12_within_53 : decode cX12_within 53 = .ok (.lload 6, 2) := by decide +kernel
theorem dX12_within_55 : decode cX12_within 55 = .ok (.lsub, 1) := by decide +kernel
theorem dX12_within_56 : decode cX12_within 56 = .ok (.lconst 1, 1) := by decide +kernel
theorem dX12_within_57 : decode cX12_within 57 = .ok (.ladd, 1) := by decide +kernel
theorem dX12_within_58 : decode cX12_within 58 = .ok (.ladd, 1) := by decide +kernel
theorem dX12_within_59 : decode cX12_within 59 = .ok (.lstore_n 3, 1) := by decide +kernel
theorem dX12_within_60 : decode cX12_within 60 = .ok (.iinc 5 1, 3) := by decide +kernel
theorem dX12_within_63 : decode cX12_within 63 = .ok (.goto (-58), 3) := by decide +kernel
theorem dX12_within_66 : decode cX12_within 66 = .ok (.lload_n 3, 1) := by decide +kernel
theorem dX12_within_67 : decode cX12_within 67 = .ok (.lreturn, 1) := by decide +kernel
theorem dJ9_max_7cf53_0 : decode cJ9_max_7cf53 0 = .ok (.iload_n 0, 1) := by decide +kernel
theorem dJ9_max_7cf53_1 : decode cJ9_max_7cf53 1 = .ok (.iload_n 1, 1) := by decide +kernel
theorem dJ9_max_7cf53_2 : decode cJ9_max_7cf53 2 = .ok (.if_icmp .lt 7, 3) := by decide +kernel
theorem dJ9_max_7cf53_5 : decode cJ9_max_7cf53 5 = .ok (.iload_n 0, 1) := by decide +kernel
theorem dJ9_max_7cf53_6 : decode cJ9_max_7cf53 6 = .ok (.goto 4, 3) := by decide +kernel
theorem dJ9_max_7cf53_9 : decode cJ9_max_7cf53 9 = .ok (.iload_n 1, 1) := by decide +kernel
theorem dJ9_max_7cf53_10 : decode cJ9_max_7cf53 10 = .ok (.ireturn, 1) := by decide +kernel
theorem dJ9_max_f86c9_0 : decode cJ9_max_f86c9 0 = .ok (.lload_n 0, 1) := by decide +kernel
theorem dJ9_max_f86c9_1 : decode cJ9_max_f86c9 1 = .ok (.lload_n 2, 1) := by decide +kernel
theorem dJ9_max_f86c9_2 : decode cJ9_max_f86c9 2 = .ok (.lcmp, 1) := by decide +kernel
theorem dJ9_max_f86c9_3 : decode cJ9_max_f86c9 3 = .ok (.ifCond .lt 7, 3) := by decide +kernel
theorem dJ9_max_f86c9_6 : decode cJ9_max_f86c9 6 = .ok (.lload_n 0, 1) := by decide +kernel
theorem dJ9_max_f86c9_7 : decode cJ9_max_f86c9 7 = .ok (.goto 4, 3) := by decide +kernel
theorem dJ9_max_f86c9_10 : decode cJ9_max_f86c9 10 = .ok (.lload_n 2, 1) := by decide +kernel
theorem dJ9_max_f86c9_11 : decode cJ9_max_f86c9 11 = .ok (.lreturn, 1) := by decide +kernel
theorem dJ9_min_7cf53_0 : decode cJ9_min_7cf53 0 = .ok (.iload_n 0, 1) := by decide +kernel
theorem dJ9_min_7cf53_1 : decode cJ9_min_7cf53 1 = .ok (.iload_n 1, 1) := by decide +kernel
theorem dJ9_min_7cf53_2 : decode cJ9_min_7cf53 2 = .ok (.if_icmp .gt 7, 3) := by decide +kernel
theorem dJ9_min_7cf53_5 : decode cJ9_min_7cf53 5 = .ok (.iload_n 0, 1) := by decide +kernel
theorem dJ9_min_7cf53_6 : decode cJ9_min_7cf53 6 = .ok (.goto 4, 3) := by decide +kernel
theorem dJ9_min_7cf53_9 : decode cJ9_min_7cf53 9 = .ok (.iload_n 1, 1) := by decide +kernel
theorem dJ9_min_7cf53_10 : decode cJ9_min_7cf53 10 = .ok (.ireturn, 1) := by decide +kernel
theorem dJ9_min_f86c9_0 : decode cJ9_min_f86c9 0 = .ok (.lload_n 0, 1) := by decide +kernel
theorem dJ9_min_f86c9_1 : decode cJ9_min_f86c9 1 = .ok (.lload_n 2, 1) := by decide +kernel
theorem dJ9_min_f86c9_2 : decode cJ9_min_f86c9 2 = .ok (.lcmp, 1) := by decide +kernel
theorem dJ9_min_f86c9_3 : decode cJ9_min_f86c9 3 = .ok (.ifCond .gt 7, 3) := by decide +kernel
theorem dJ9_min_f86c9_6 : decode cJ9_min_f86c9 6 = .ok (.lload_n 0, 1) := by decide +kernel
theorem dJ9_min_f86c9_7 : decode cJ9_min_f86c9 7 = .ok (.goto 4, 3) := by decide +kernel
theorem dJ9_min_f86c9_10 : decode cJ9_min_f86c9 10 = .ok (.lload_n 2, 1) := by decide +kernel
theorem dJ9_min_f86c9_11 : decode cJ9_min_f86c9 11 = .ok (.lreturn, 1) := by decide +kernel
theorem dL_law_0 : decode cL_law 0 = .ok (.new 7, 3) := by decide +kernel
theorem dL_law_3 : decode cL_law 3 = .ok (.dup, 1) := by decide +kernel
theorem dL_law_4 : decode cL_law 4 = .ok (.invokespecial 9, 3) := by decide +kernel
theorem dL_law_7 : decode cL_law 7 = .ok (.astore_n 1, 1) := by decide +kernel
theorem dL_law_8 : decode cL_law 8 = .ok (.new 10, 3) := by decide +kernel
theorem dL_law_11 : decode cL_law 11 = .ok (.dup, 1) := by decide +kernel
theorem dL_law_12 : decode cL_law 12 = .ok (.invokespecial 12, 3) := by decide +kernel
theorem dL_law_15 : decode cL_law 15 = .ok (.astore_n 2, 1) := by decide +kernel
theorem dL_law_16 : decode cL_law 16 = .ok (.iconst 0, 1) := by decide +kernel
theorem dL_law_17 : decode cL_law 17 = .ok (.istore_n 3, 1) := by decide +kernel
theorem dL_law_18 : decode cL_law 18 = .ok (.iload_n 3, 1) := by decide +kernel
theorem dL_law_19 : decode cL_law 19 = .ok (.aload_n 0, 1) := by decide +kernel
theorem dL_law_20 : decode cL_law 20 = .ok (.arraylength, 1) := by decide +kernel
theorem dL_law_21 : decode cL_law 21 = .ok (.iconst 5, 1) := by decide +kernel
theorem dL_law_22 : decode cL_law 22 = .ok (.isub, 1) := by decide +kernel
theorem dL_law_23 : decode cL_law 23 = .ok (.if_icmp .gt 439, 3) := by decide +kernel
theorem dL_law_26 : decode cL_law 26 = .ok (.aload_n 0, 1) := by decide +kernel
theorem dL_law_27 : decode cL_law 27 = .ok (.iload_n 3, 1) := by decide +kernel
theorem dL_law_28 : decode cL_law 28 = .ok (.iaload, 1) := by decide +kernel
theorem dL_law_29 : decode cL_law 29 = .ok (.bipush 15, 2) := by decide +kernel
theorem dL_law_31 : decode cL_law 31 = .ok (.iand, 1) := by decide +kernel
theorem dL_law_32 : decode cL_law 32 = .ok (.tableswitch 424 0 10 #[60, 83, 106, 149, 172, 195, 218, 271, 314, 357, 390], 60) := by decide +kernel
theorem dL_law_92 : decode cL_law 92 = .ok (.aload_n 1, 1) := by decide +kernel
theorem dL_law_93 : decode cL_law 93 = .ok (.aload_n 0, 1) := by decide +kernel
theorem dL_law_94 : decode cL_law 94 = .ok (.iload_n 3, 1) := by decide +kernel
theorem dL_law_95 : decode cL_law 95 = .ok (.iconst 1, 1) := by decide +kernel
theorem dL_law_96 : decode cL_law 96 = .ok (.iadd, 1) := by decide +kernel
theorem dL_law_97 : decode cL_law 97 = .ok (.iaload, 1) := by decide +kernel
theorem dL_law_98 : decode cL_law 98 = .ok (.invokevirtual 13, 3) := by decide +kernel
theorem dL_law_101 : decode cL_law 101 = .ok (.aload_n 2, 1) := by decide +kernel
theorem dL_law_102 : decode cL_law 102 = .ok (.aload_n 0, 1) := by decide +kernel
theorem dL_law_103 : decode cL_law 103 = .ok (.iload_n 3, 1) := by decide +kernel
theorem dL_law_104 : decode cL_law 104 = .ok (.iconst 1, 1) := by decide +kernel
theorem dL_law_105 : decode cL_law 105 = .ok (.iadd, 1) := by decide +kernel
theorem dL_law_106 : decode cL_law 106 = .ok (.iaload, 1) := by decide +kernel
theorem dL_law_107 : decode cL_law 107 = .ok (.invokevirtual 17, 3) := by decide +kernel
theorem dL_law_110 : decode cL_law 110 = .ok (.if_icmp .eq 346, 3) := by decide +kernel
theorem dL_law_113 : decode cL_law 113 = .ok (.iconst 0, 1) := by decide +kernel
theorem dL_law_114 : decode cL_law 114 = .ok (.ireturn, 1) := by decide +kernel
theorem dL_law_115 : decode cL_law 115 = .ok (.aload_n 1, 1) := by decide +kernel
theorem dL_law_116 : decode cL_law 116 = .ok (.aload_n 0, 1) := by decide +kernel
theorem dL_law_117 : decode cL_law 117 = .ok (.iload_n 3, 1) := by decide +kernel
theorem dL_law_118 : decode cL_law 118 = .ok (.iconst 1, 1) := by decide +kernel
theorem dL_law_119 : decode cL_law 119 = .ok (.iadd, 1) := by decide +kernel
theorem dL_law_120 : decode cL_law 120 = .ok (.iaload, 1) := by decide +kernel
theorem dL_law_121 : decode cL_law 121 = .ok (.invokevirtual 18, 3) := by decide +kernel
theorem dL_law_124 : decode cL_law 124 = .ok (.aload_n 2, 1) := by decide +kernel
theorem dL_law_125 : decode cL_law 125 = .ok (.aload_n 0, 1) := by decide +kernel
theorem dL_law_126 : decode cL_law 126 = .ok (.iload_n 3, 1) := by decide +kernel
theorem dL_law_127 : decode cL_law 127 = .ok (.iconst 1, 1) := by decide +kernel
theorem dL_law_128 : decode cL_law 128 = .ok (.iadd, 1) := by decide +kernel
theorem dL_law_129 : decode cL_law 129 = .ok (.iaload, 1) := by decide +kernel
theorem dL_law_130 : decode cL_law 130 = .ok (.invokevirtual 21, 3) := by decide +kernel
theorem dL_law_133 : decode cL_law 133 = .ok (.if_icmp .eq 323, 3) := by decide +kernel
theorem dL_law_136 : decode cL_law 136 = .ok (.iconst 0, 1) := by decide +kernel
theorem dL_law_137 : decode cL_law 137 = .ok (.ireturn, 1) := by decide +kernel
theorem dL_law_138 : decode cL_law 138 = .ok (.aload_n 1, 1) := by decide +kernel
theorem dL_law_139 : decode cL_law 139 = .ok (.aload_n 0, 1) := by decide +kernel
theorem dL_law_140 : decode cL_law 140 = .ok (.iload_n 3, 1) := by decide +kernel
theorem dL_law_141 : decode cL_law 141 = .ok (.iconst 1, 1) := by decide +kernel
theorem dL_law_142 : decode cL_law 142 = .ok (.iadd, 1) := by decide +kernel
theorem dL_law_143 : decode cL_law 143 = .ok (.iaload, 1) := by decide +kernel
theorem dL_law_144 : decode cL_law 144 = .ok (.aload_n 0, 1) := by decide +kernel
theorem dL_law_145 : decode cL_law 145 = .ok (.iload_n 3, 1) := by decide +kernel
theorem dL_law_146 : decode cL_law 146 = .ok (.iconst 2, 1) := by decide +kernel
theorem dL_law_147 : decode cL_law 147 = .ok (.iadd, 1) := by decide +kernel
theorem dL_law_148 : decode cL_law 148 = .ok (.iaload, 1) := by decide +kernel
theorem dL_law_149 : decode cL_law 149 = .ok (.aload_n 0, 1) := by decide +kernel
theorem dL_law_150 : decode cL_law 150 = .ok (.iload_n 3, 1) := by decide +kernel
theorem dL_law_151 : decode cL_law 151 = .ok (.iconst 3, 1) := by decide +kernel
theorem dL_law_152 : decode cL_law 152 = .ok (.iadd, 1) := by decide +kernel
theorem dL_law_153 : decode cL_law 153 = .ok (.iaload, 1) := by decide +kernel
theorem dL_law_154 : decode cL_law 154 = .ok (.invokevirtual 22, 3) := by decide +kernel
theorem dL_law_157 : decode cL_law 157 = .ok (.aload_n 2, 1) := by decide +kernel
theorem dL_law_158 : decode cL_law 158 = .ok (.aload_n 0, 1) := by decide +kernel
theorem dL_law_159 : decode cL_law 159 = .ok (.iload_n 3, 1) := by decide +kernel
theorem dL_law_160 : decode cL_law 160 = .ok (.iconst 1, 1) := by decide +kernel
theorem dL_law_161 : decode cL_law 161 = .ok (.iadd, 1) := by decide +kernel
theorem dL_law_162 : decode cL_law 162 = .ok (.iaload, 1) := by decide +kernel
theorem dL_law_163 : decode cL_law 163 = .ok (.aload_n 0, 1) := by decide +kernel
theorem dL_law_164 : decode cL_law 164 = .ok (.iload_n 3, 1) := by decide +kernel
theorem dL_law_165 : decode cL_law 165 = .ok (.iconst 2, 1) := by decide +kernel
theorem dL_law_166 : decode cL_law 166 = .ok (.iadd, 1) := by decide +kernel
theorem dL_law_167 : decode cL_law 167 = .ok (.iaload, 1) := by decide +kernel
theorem dL_law_168 : decode cL_law 168 = .ok (.aload_n 0, 1) := by decide +kernel
theorem dL_law_169 : decode cL_law 169 = .ok (.iload_n 3, 1) := by decide +kernel
theorem dL_law_170 : decode cL_law 170 = .ok (.iconst 3, 1) := by decide +kernel
theorem dL_law_171 : decode cL_law 171 = .ok (.iadd, 1) := by decide +kernel
theorem dL_law_172 : decode cL_law 172 = .ok (.iaload, 1) := by decide +kernel
theorem dL_law_173 : decode cL_law 173 = .ok (.invokevirtual 26, 3) := by decide +kernel
theorem dL_law_176 : decode cL_law 176 = .ok (.if_icmp .eq 280, 3) := by decide +kernel
theorem dL_law_179 : decode cL_law 179 = .ok (.iconst 0, 1) := by decide +kernel
theorem dL_law_180 : decode cL_law 180 = .ok (.ireturn, 1) := by decide +kernel
theorem dL_law_181 : decode cL_law 181 = .ok (.aload_n 1, 1) := by decide +kernel
theorem dL_law_182 : decode cL_law 182 = .ok (.aload_n 0, 1) := by decide +kernel
theorem dL_law_183 : decode cL_law 183 = .ok (.iload_n 3, 1) := by decide +kernel
theorem dL_law_184 : decode cL_law 184 = .ok (.iconst 1, 1) := by decide +kernel
theorem dL_law_185 : decode cL_law 185 = .ok (.iadd, 1) := by decide +kernel
theorem dL_law_186 : decode cL_law 186 = .ok (.iaload, 1) := by decide +kernel
theorem dL_law_187 : decode cL_law 187 = .ok (.invokevirtual 27, 3) := by decide +kernel
theorem dL_law_190 : decode cL_law 190 = .ok (.aload_n 2, 1) := by decide +kernel
theorem dL_law_191 : decode cL_law 191 = .ok (.aload_n 0, 1) := by decide +kernel
theorem dL_law_192 : decode cL_law 192 = .ok (.iload_n 3, 1) := by decide +kernel
theorem dL_law_193 : decode cL_law 193 = .ok (.iconst 1, 1) := by decide +kernel
theorem dL_law_194 : decode cL_law 194 = .ok (.iadd, 1) := by decide +kernel
theorem dL_law_195 : decode cL_law 195 = .ok (.iaload, 1) := by decide +kernel
theorem dL_law_196 : decode cL_law 196 = .ok (.invokevirtual 30, 3) := by decide +kernel
theorem dL_law_199 : decode cL_law 199 = .ok (.if_icmp .eq 257, 3) := by decide +kernel
theorem dL_law_202 : decode cL_law 202 = .ok (.iconst 0, 1) := by decide +kernel
theorem dL_law_203 : decode cL_law 203 = .ok (.ireturn, 1) := by decide +kernel
theorem dL_law_204 : decode cL_law 204 = .ok (.aload_n 1, 1) := by decide +kernel
theorem dL_law_205 : decode cL_law 205 = .ok (.aload_n 0, 1) := by decide +kernel
theorem dL_law_206 : decode cL_law 206 = .ok (.iload_n 3, 1) := by decide +kernel
theorem dL_law_207 : decode cL_law 207 = .ok (.iconst 1, 1) := by decide +kernel
theorem dL_law_208 : decode cL_law 208 = .ok (.iadd, 1) := by decide +kernel
theorem dL_law_209 : decode cL_law 209 = .ok (.iaload, 1) := by decide +kernel
theorem dL_law_210 : decode cL_law 210 = .ok (.invokevirtual 31, 3) := by decide +kernel
theorem dL_law_213 : decode cL_law 213 = .ok (.aload_n 2, 1) := by decide +kernel
theorem dL_law_214 : decode cL_law 214 = .ok (.aload_n 0, 1) := by decide +kernel
theorem dL_law_215 : decode cL_law 215 = .ok (.iload_n 3, 1) := by decide +kernel
theorem dL_law_216 : decode cL_law 216 = .ok (.iconst 1, 1) := by decide +kernel
theorem dL_law_217 : decode cL_law 217 = .ok (.iadd, 1) := by decide +kernel
theorem dL_law_218 : decode cL_law 218 = .ok (.iaload, 1) := by decide +kernel
theorem dL_law_219 : decode cL_law 219 = .ok (.invokevirtual 34, 3) := by decide +kernel
theorem dL_law_222 : decode cL_law 222 = .ok (.if_icmp .eq 234, 3) := by decide +kernel
theorem dL_law_225 : decode cL_law 225 = .ok (.iconst 0, 1) := by decide +kernel
theorem dL_law_226 : decode cL_law 226 = .ok (.ireturn, 1) := by decide +kernel
theorem dL_law_227 : decode cL_law 227 = .ok (.aload_n 1, 1) := by decide +kernel
theorem dL_law_228 : decode cL_law 228 = .ok (.aload_n 0, 1) := by decide +kernel
theorem dL_law_229 : decode cL_law 229 = .ok (.iload_n 3, 1) := by decide +kernel
theorem dL_law_230 : decode cL_law 230 = .ok (.iconst 1, 1) := by decide +kernel
theorem dL_law_231 : decode cL_law 231 = .ok (.iadd, 1) := by decide +kernel
theorem dL_law_232 : decode cL_law 232 = .ok (.iaload, 1) := by decide +kernel
theorem dL_law_233 : decode cL_law 233 = .ok (.invokevirtual 35, 3) := by decide +kernel
theorem dL_law_236 : decode cL_law 236 = .ok (.aload_n 2, 1) := by decide +kernel
theorem dL_law_237 : decode cL_law 237 = .ok (.aload_n 0, 1) := by decide +kernel
theorem dL_law_238 : decode cL_law 238 = .ok (.iload_n 3, 1) := by decide +kernel
theorem dL_law_239 : decode cL_law 239 = .ok (.iconst 1, 1) := by decide +kernel
theorem dL_law_240 : decode cL_law 240 = .ok (.iadd, 1) := by decide +kernel
theorem dL_law_241 : decode cL_law 241 = .ok (.iaload, 1) := by decide +kernel
theorem dL_law_242 : decode cL_law 242 = .ok (.invokevirtual 38, 3) := by decide +kernel
theorem dL_law_245 : decode cL_law 245 = .ok (.if_icmp .eq 211, 3) := by decide +kernel
theorem dL_law_248 : decode cL_law 248 = .ok (.iconst 0, 1) := by decide +kernel
theorem dL_law_249 : decode cL_law 249 = .ok (.ireturn, 1) := by decide +kernel
theorem dL_law_250 : decode cL_law 250 = .ok (.aload_n 1, 1) := by decide +kernel
theorem dL_law_251 : decode cL_law 251 = .ok (.aload_n 0, 1) := by decide +kernel
theorem dL_law_252 : decode cL_law 252 = .ok (.iload_n 3, 1) := by decide +kernel
theorem dL_law_253 : decode cL_law 253 = .ok (.iconst 1, 1) := by decide +kernel
theorem dL_law_254 : decode cL_law 254 = .ok (.iadd, 1) := by decide +kernel
theorem dL_law_255 : decode cL_law 255 = .ok (.iaload, 1) := by decide +kernel
theorem dL_law_256 : decode cL_law 256 = .ok (.aload_n 0, 1) := by decide +kernel
theorem dL_law_257 : decode cL_law 257 = .ok (.iload_n 3, 1) := by decide +kernel
theorem dL_law_258 : decode cL_law 258 = .ok (.iconst 2, 1) := by decide +kernel
theorem dL_law_259 : decode cL_law 259 = .ok (.iadd, 1) := by decide +kernel
theorem dL_law_260 : decode cL_law 260 = .ok (.iaload, 1) := by decide +kernel
theorem dL_law_261 : decode cL_law 261 = .ok (.aload_n 0, 1) := by decide +kernel
theorem dL_law_262 : decode cL_law 262 = .ok (.iload_n 3, 1) := by decide +kernel
theorem dL_law_263 : decode cL_law 263 = .ok (.iconst 3, 1) := by decide +kernel
theorem dL_law_264 : decode cL_law 264 = .ok (.iadd, 1) := by decide +kernel
theorem dL_law_265 : decode cL_law 265 = .ok (.iaload, 1) := by decide +kernel
theorem dL_law_266 : decode cL_law 266 = .ok (.aload_n 0, 1) := by decide +kernel
theorem dL_law_267 : decode cL_law 267 = .ok (.iload_n 3, 1) := by decide +kernel
theorem dL_law_268 : decode cL_law 268 = .ok (.iconst 4, 1) := by decide +kernel
theorem dL_law_269 : decode cL_law 269 = .ok (.iadd, 1) := by decide +kernel
theorem dL_law_270 : decode cL_law 270 = .ok (.iaload, 1) := by decide +kernel
theorem dL_law_271 : decode cL_law 271 = .ok (.invokevirtual 39, 3) := by decide +kernel
theorem dL_law_274 : decode cL_law 274 = .ok (.aload_n 2, 1) := by decide +kernel
theorem dL_law_275 : decode cL_law 275 = .ok (.aload_n 0, 1) := by decide +kernel
theorem dL_law_276 : decode cL_law 276 = .ok (.iload_n 3, 1) := by decide +kernel
theorem dL_law_277 : decode cL_law 277 = .ok (.iconst 1, 1) := by decide +kernel
theorem dL_law_278 : decode cL_law 278 = .ok (.iadd, 1) := by decide +kernel
theorem dL_law_279 : decode cL_law 279 = .ok (.iaload, 1) := by decide +kernel
theorem dL_law_280 : decode cL_law 280 = .ok (.aload_n 0, 1) := by decide +kernel
theorem dL_law_281 : decode cL_law 281 = .ok (.iload_n 3, 1) := by decide +kernel
theorem dL_law_282 : decode cL_law 282 = .ok (.iconst 2, 1) := by decide +kernel
theorem dL_law_283 : decode cL_law 283 = .ok (.iadd, 1) := by decide +kernel
theorem dL_law_284 : decode cL_law 284 = .ok (.iaload, 1) := by decide +kernel
theorem dL_law_285 : decode cL_law 285 = .ok (.aload_n 0, 1) := by decide +kernel
theorem dL_law_286 : decode cL_law 286 = .ok (.iload_n 3, 1) := by decide +kernel
theorem dL_law_287 : decode cL_law 287 = .ok (.iconst 3, 1) := by decide +kernel
theorem dL_law_288 : decode cL_law 288 = .ok (.iadd, 1) := by decide +kernel
theorem dL_law_289 : decode cL_law 289 = .ok (.iaload, 1) := by decide +kernel
theorem dL_law_290 : decode cL_law 290 = .ok (.aload_n 0, 1) := by decide +kernel
theorem dL_law_291 : decode cL_law 291 = .ok (.iload_n 3, 1) := by decide +kernel
theorem dL_law_292 : decode cL_law 292 = .ok (.iconst 4, 1) := by decide +kernel
theorem dL_law_293 : decode cL_law 293 = .ok (.iadd, 1) := by decide +kernel
theorem dL_law_294 : decode cL_law 294 = .ok (.iaload, 1) := by decide +kernel
theorem dL_law_295 : decode cL_law 295 = .ok (.invokevirtual 43, 3) := by decide +kernel
theorem dL_law_298 : decode cL_law 298 = .ok (.if_icmp .eq 158, 3) := by decide +kernel
theorem dL_law_301 : decode cL_law 301 = .ok (.iconst 0, 1) := by decide +kernel
theorem dL_law_302 : decode cL_law 302 = .ok (.ireturn, 1) := by decide +kernel
theorem dL_law_303 : decode cL_law 303 = .ok (.aload_n 1, 1) := by decide +kernel
theorem dL_law_304 : decode cL_law 304 = .ok (.aload_n 0, 1) := by decide +kernel
theorem dL_law_305 : decode cL_law 305 = .ok (.iload_n 3, 1) := by decide +kernel
theorem dL_law_306 : decode cL_law 306 = .ok (.iconst 1, 1) := by decide +kernel
theorem dL_law_307 : decode cL_law 307 = .ok (.iadd, 1) := by decide +kernel
theorem dL_law_308 : decode cL_law 308 = .ok (.iaload, 1) := by decide +kernel
theorem dL_law_309 : decode cL_law 309 = .ok (.aload_n 0, 1) := by decide +kernel
theorem dL_law_310 : decode cL_law 310 = .ok (.iload_n 3, 1) := by decide +kernel
theorem dL_law_311 : decode cL_law 311 = .ok (.iconst 2, 1) := by decide +kernel
theorem dL_law_312 : decode cL_law 312 = .ok (.iadd, 1) := by decide +kernel
theorem dL_law_313 : decode cL_law 313 = .ok (.iaload, 1) := by decide +kernel
theorem dL_law_314 : decode cL_law 314 = .ok (.aload_n 0, 1) := by decide +kernel
theorem dL_law_315 : decode cL_law 315 = .ok (.iload_n 3, 1) := by decide +kernel
theorem dL_law_316 : decode cL_law 316 = .ok (.iconst 3, 1) := by decide +kernel
theorem dL_law_317 : decode cL_law 317 = .ok (.iadd, 1) := by decide +kernel
theorem dL_law_318 : decode cL_law 318 = .ok (.iaload, 1) := by decide +kernel
theorem dL_law_319 : decode cL_law 319 = .ok (.invokevirtual 44, 3) := by decide +kernel
theorem dL_law_322 : decode cL_law 322 = .ok (.aload_n 2, 1) := by decide +kernel
theorem dL_law_323 : decode cL_law 323 = .ok (.aload_n 0, 1) := by decide +kernel
theorem dL_law_324 : decode cL_law 324 = .ok (.iload_n 3, 1) := by decide +kernel
theorem dL_law_325 : decode cL_law 325 = .ok (.iconst 1, 1) := by decide +kernel
theorem dL_law_326 : decode cL_law 326 = .ok (.iadd, 1) := by decide +kernel
theorem dL_law_327 : decode cL_law 327 = .ok (.iaload, 1) := by decide +kernel
theorem dL_law_328 : decode cL_law 328 = .ok (.aload_n 0, 1) := by decide +kernel
theorem dL_law_329 : decode cL_law 329 = .ok (.iload_n 3, 1) := by decide +kernel
theorem dL_law_330 : decode cL_law 330 = .ok (.iconst 2, 1) := by decide +kernel
theorem dL_law_331 : decode cL_law 331 = .ok (.iadd, 1) := by decide +kernel
theorem dL_law_332 : decode cL_law 332 = .ok (.iaload, 1) := by decide +kernel
theorem dL_law_333 : decode cL_law 333 = .ok (.aload_n 0, 1) := by decide +kernel
theorem dL_law_334 : decode cL_law 334 = .ok (.iload_n 3, 1) := by decide +kernel
theorem dL_law_335 : decode cL_law 335 = .ok (.iconst 3, 1) := by decide +kernel
theorem dL_law_336 : decode cL_law 336 = .ok (.iadd, 1) := by decide +kernel
theorem dL_law_337 : decode cL_law 337 = .ok (.iaload, 1) := by decide +kernel
theorem dL_law_338 : decode cL_law 338 = .ok (.invokevirtual 47, 3) := by decide +kernel
theorem dL_law_341 : decode cL_law 341 = .ok (.if_icmp .eq 115, 3) := by decide +kernel
theorem dL_law_344 : decode cL_law 344 = .ok (.iconst 0, 1) := by decide +kernel
theorem dL_law_345 : decode cL_law 345 = .ok (.ireturn, 1) := by decide +kernel
theorem dL_law_346 : decode cL_law 346 = .ok (.aload_n 1, 1) := by decide +kernel
theorem dL_law_347 : decode cL_law 347 = .ok (.aload_n 0, 1) := by decide +kernel
theorem dL_law_348 : decode cL_law 348 = .ok (.iload_n 3, 1) := by decide +kernel
theorem dL_law_349 : decode cL_law 349 = .ok (.iconst 1, 1) := by decide +kernel
theorem dL_law_350 : decode cL_law 350 = .ok (.iadd, 1) := by decide +kernel
theorem dL_law_351 : decode cL_law 351 = .ok (.iaload, 1) := by decide +kernel
theorem dL_law_352 : decode cL_law 352 = .ok (.aload_n 0, 1) := by decide +kernel
theorem dL_law_353 : decode cL_law 353 = .ok (.iload_n 3, 1) := by decide +kernel
theorem dL_law_354 : decode cL_law 354 = .ok (.iconst 2, 1) := by decide +kernel
theorem dL_law_355 : decode cL_law 355 = .ok (.iadd, 1) := by decide +kernel
theorem dL_law_356 : decode cL_law 356 = .ok (.iaload, 1) := by decide +kernel
theorem dL_law_357 : decode cL_law 357 = .ok (.aload_n 0, 1) := by decide +kernel
theorem dL_law_358 : decode cL_law 358 = .ok (.iload_n 3, 1) := by decide +kernel
theorem dL_law_359 : decode cL_law 359 = .ok (.iconst 3, 1) := by decide +kernel
theorem dL_law_360 : decode cL_law 360 = .ok (.iadd, 1) := by decide +kernel
theorem dL_law_361 : decode cL_law 361 = .ok (.iaload, 1) := by decide +kernel
theorem dL_law_362 : decode cL_law 362 = .ok (.invokevirtual 48, 3) := by decide +kernel
theorem dL_law_365 : decode cL_law 365 = .ok (.aload_n 2, 1) := by decide +kernel
theorem dL_law_366 : decode cL_law 366 = .ok (.aload_n 0, 1) := by decide +kernel
theorem dL_law_367 : decode cL_law 367 = .ok (.iload_n 3, 1) := by decide +kernel
theorem dL_law_368 : decode cL_law 368 = .ok (.iconst 1, 1) := by decide +kernel
theorem dL_law_369 : decode cL_law 369 = .ok (.iadd, 1) := by decide +kernel
theorem dL_law_370 : decode cL_law 370 = .ok (.iaload, 1) := by decide +kernel
theorem dL_law_371 : decode cL_law 371 = .ok (.aload_n 0, 1) := by decide +kernel
theorem dL_law_372 : decode cL_law 372 = .ok (.iload_n 3, 1) := by decide +kernel
theorem dL_law_373 : decode cL_law 373 = .ok (.iconst 2, 1) := by decide +kernel
theorem dL_law_374 : decode cL_law 374 = .ok (.iadd, 1) := by decide +kernel
theorem dL_law_375 : decode cL_law 375 = .ok (.iaload, 1) := by decide +kernel
theorem dL_law_376 : decode cL_law 376 = .ok (.aload_n 0, 1) := by decide +kernel
theorem dL_law_377 : decode cL_law 377 = .ok (.iload_n 3, 1) := by decide +kernel
theorem dL_law_378 : decode cL_law 378 = .ok (.iconst 3, 1) := by decide +kernel
theorem dL_law_379 : decode cL_law 379 = .ok (.iadd, 1) := by decide +kernel
theorem dL_law_380 : decode cL_law 380 = .ok (.iaload, 1) := by decide +kernel
theorem dL_law_381 : decode cL_law 381 = .ok (.invokevirtual 51, 3) := by decide +kernel
theorem dL_law_384 : decode cL_law 384 = .ok (.if_icmp .eq 72, 3) := by decide +kernel
theorem dL_law_387 : decode cL_law 387 = .ok (.iconst 0, 1) := by decide +kernel
theorem dL_law_388 : decode cL_law 388 = .ok (.ireturn, 1) := by decide +kernel
theorem dL_law_389 : decode cL_law 389 = .ok (.aload_n 1, 1) := by decide +kernel
theorem dL_law_390 : decode cL_law 390 = .ok (.aload_n 0, 1) := by decide +kernel
theorem dL_law_391 : decode cL_law 391 = .ok (.iload_n 3, 1) := by decide +kernel
theorem dL_law_392 : decode cL_law 392 = .ok (.iconst 1, 1) := by decide +kernel
theorem dL_law_393 : decode cL_law 393 = .ok (.iadd, 1) := by decide +kernel
theorem dL_law_394 : decode cL_law 394 = .ok (.iaload, 1) := by decide +kernel
theorem dL_law_395 : decode cL_law 395 = .ok (.aload_n 0, 1) := by decide +kernel
theorem dL_law_396 : decode cL_law 396 = .ok (.iload_n 3, 1) := by decide +kernel
theorem dL_law_397 : decode cL_law 397 = .ok (.iconst 2, 1) := by decide +kernel
theorem dL_law_398 : decode cL_law 398 = .ok (.iadd, 1) := by decide +kernel
theorem dL_law_399 : decode cL_law 399 = .ok (.iaload, 1) := by decide +kernel
theorem dL_law_400 : decode cL_law 400 = .ok (.invokevirtual 52, 3) := by decide +kernel
theorem dL_law_403 : decode cL_law 403 = .ok (.aload_n 2, 1) := by decide +kernel
theorem dL_law_404 : decode cL_law 404 = .ok (.aload_n 0, 1) := by decide +kernel
theorem dL_law_405 : decode cL_law 405 = .ok (.iload_n 3, 1) := by decide +kernel
theorem dL_law_406 : decode cL_law 406 = .ok (.iconst 1, 1) := by decide +kernel
theorem dL_law_407 : decode cL_law 407 = .ok (.iadd, 1) := by decide +kernel
theorem dL_law_408 : decode cL_law 408 = .ok (.iaload, 1) := by decide +kernel
theorem dL_law_409 : decode cL_law 409 = .ok (.aload_n 0, 1) := by decide +kernel
theorem dL_law_410 : decode cL_law 410 = .ok (.iload_n 3, 1) := by decide +kernel
theorem dL_law_411 : decode cL_law 411 = .ok (.iconst 2, 1) := by decide +kernel
theorem dL_law_412 : decode cL_law 412 = .ok (.iadd, 1) := by decide +kernel
theorem dL_law_413 : decode cL_law 413 = .ok (.iaload, 1) := by decide +kernel
theorem dL_law_414 : decode cL_law 414 = .ok (.invokevirtual 56, 3) := by decide +kernel
theorem dL_law_417 : decode cL_law 417 = .ok (.if_icmp .eq 39, 3) := by decide +kernel
theorem dL_law_420 : decode cL_law 420 = .ok (.iconst 0, 1) := by decide +kernel
theorem dL_law_421 : decode cL_law 421 = .ok (.ireturn, 1) := by decide +kernel
theorem dL_law_422 : decode cL_law 422 = .ok (.aload_n 1, 1) := by decide +kernel
theorem dL_law_423 : decode cL_law 423 = .ok (.aload_n 0, 1) := by decide +kernel
theorem dL_law_424 : decode cL_law 424 = .ok (.iload_n 3, 1) := by decide +kernel
theorem dL_law_425 : decode cL_law 425 = .ok (.iconst 1, 1) := by decide +kernel
theorem dL_law_426 : decode cL_law 426 = .ok (.iadd, 1) := by decide +kernel
theorem dL_law_427 : decode cL_law 427 = .ok (.iaload, 1) := by decide +kernel
theorem dL_law_428 : decode cL_law 428 = .ok (.aload_n 0, 1) := by decide +kernel
theorem dL_law_429 : decode cL_law 429 = .ok (.iload_n 3, 1) := by decide +kernel
theorem dL_law_430 : decode cL_law 430 = .ok (.iconst 2, 1) := by decide +kernel
theorem dL_law_431 : decode cL_law 431 = .ok (.iadd, 1) := by decide +kernel
theorem dL_law_432 : decode cL_law 432 = .ok (.iaload, 1) := by decide +kernel
theorem dL_law_433 : decode cL_law 433 = .ok (.invokevirtual 57, 3) := by decide +kernel
theorem dL_law_436 : decode cL_law 436 = .ok (.aload_n 2, 1) := by decide +kernel
theorem dL_law_437 : decode cL_law 437 = .ok (.aload_n 0, 1) := by decide +kernel
theorem dL_law_438 : decode cL_law 438 = .ok (.iload_n 3, 1) := by decide +kernel
theorem dL_law_439 : decode cL_law 439 = .ok (.iconst 1, 1) := by decide +kernel
theorem dL_law_440 : decode cL_law 440 = .ok (.iadd, 1) := by decide +kernel
theorem dL_law_441 : decode cL_law 441 = .ok (.iaload, 1) := by decide +kernel
theorem dL_law_442 : decode cL_law 442 = .ok (.aload_n 0, 1) := by decide +kernel
theorem dL_law_443 : decode cL_law 443 = .ok (.iload_n 3, 1) := by decide +kernel
theorem dL_law_444 : decode cL_law 444 = .ok (.iconst 2, 1) := by decide +kernel
theorem dL_law_445 : decode cL_law 445 = .ok (.iadd, 1) := by decide +kernel
theorem dL_law_446 : decode cL_law 446 = .ok (.iaload, 1) := by decide +kernel
theorem dL_law_447 : decode cL_law 447 = .ok (.invokevirtual 61, 3) := by decide +kernel
theorem dL_law_450 : decode cL_law 450 = .ok (.lcmp, 1) := by decide +kernel
theorem dL_law_451 : decode cL_law 451 = .ok (.ifCond .eq 5, 3) := by decide +kernel
theorem dL_law_454 : decode cL_law 454 = .ok (.iconst 0, 1) := by decide +kernel
theorem dL_law_455 : decode cL_law 455 = .ok (.ireturn, 1) := by decide +kernel
theorem dL_law_456 : decode cL_law 456 = .ok (.iinc 3 5, 3) := by decide +kernel
theorem dL_law_459 : decode cL_law 459 = .ok (.goto (-441), 3) := by decide +kernel
theorem dL_law_462 : decode cL_law 462 = .ok (.iconst 1, 1) := by decide +kernel
theorem dL_law_463 : decode cL_law 463 = .ok (.ireturn, 1) := by decide +kernel
