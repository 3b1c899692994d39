theorem dX11_chance_69 : decode cX11_chance 69 = .ok (.iaload, 1) := by decide +kernel
theorem dX11_chance_70 : decode cX11_chance 70 = .ok (.ifCond .ne 6, 3) := by decide +kernel
theorem dX11_chance_73 : decode cX11_chance 73 = .ok (.bipush (-3), 2) := by decide +kernel
theorem dX11_chance_75 : decode cX11_chance 75 = .ok (.ireturn, 1) := by decide +kernel
theorem dX11_chance_76 : decode cX11_chance 76 = .ok (.iconst 0, 1) := by decide +kernel
theorem dX11_chance_77 : decode cX11_chance 77 = .ok (.istore 7, 2) := by decide +kernel
theorem dX11_chance_79 : decode cX11_chance 79 = .ok (.iconst 0, 1) := by decide +kernel
theorem dX11_chance_80 : decode cX11_chance 80 = .ok (.istore 8, 2) := by decide +kernel
theorem dX11_chance_82 : decode cX11_chance 82 = .ok (.iload 8, 2) := by decide +kernel
theorem dX11_chance_84 : decode cX11_chance 84 = .ok (.iload_n 3, 1) := by decide +kernel
theorem dX11_chance_85 : decode cX11_chance 85 = .ok (.if_icmp .ge 32, 3) := by decide +kernel
theorem dX11_chance_88 : decode cX11_chance 88 = .ok (.aload_n 0, 1) := by decide +kernel
theorem dX11_chance_89 : decode cX11_chance 89 = .ok (.iload_n 1, 1) := by decide +kernel
theorem dX11_chance_90 : decode cX11_chance 90 = .ok (.iload_n 2, 1) := by decide +kernel
theorem dX11_chance_91 : decode cX11_chance 91 = .ok (.iload 8, 2) := by decide +kernel
theorem dX11_chance_93 : decode cX11_chance 93 = .ok (.iadd, 1) := by decide +kernel
theorem dX11_chance_94 : decode cX11_chance 94 = .ok (.iload 4, 2) := by decide +kernel
theorem dX11_chance_96 : decode cX11_chance 96 = .ok (.invokevirtual 249, 3) := by decide +kernel
theorem dX11_chance_99 : decode cX11_chance 99 = .ok (.aload_n 0, 1) := by decide +kernel
theorem dX11_chance_100 : decode cX11_chance 100 = .ok (.invokevirtual 229, 3) := by decide +kernel
theorem dX11_chance_103 : decode cX11_chance 103 = .ok (.iload 5, 2) := by decide +kernel
theorem dX11_chance_105 : decode cX11_chance 105 = .ok (.if_icmp .gt 6, 3) := by decide +kernel
theorem dX11_chance_108 : decode cX11_chance 108 = .ok (.iinc 7 1, 3) := by decide +kernel
theorem dX11_chance_111 : decode cX11_chance 111 = .ok (.iinc 8 1, 3) := by decide +kernel
theorem dX11_chance_114 : decode cX11_chance 114 = .ok (.goto (-32), 3) := by decide +kernel
theorem dX11_chance_117 : decode cX11_chance 117 = .ok (.iload_n 3, 1) := by decide +kernel
theorem dX11_chance_118 : decode cX11_chance 118 = .ok (.iload 7, 2) := by decide +kernel
theorem dX11_chance_120 : decode cX11_chance 120 = .ok (.invokestatic 207, 3) := by decide +kernel
theorem dX11_chance_123 : decode cX11_chance 123 = .ok (.istore 8, 2) := by decide +kernel
theorem dX11_chance_125 : decode cX11_chance 125 = .ok (.iload 6, 2) := by decide +kernel
theorem dX11_chance_127 : decode cX11_chance 127 = .ok (.ifCond .ne 11, 3) := by decide +kernel
theorem dX11_chance_130 : decode cX11_chance 130 = .ok (.iload 7, 2) := by decide +kernel
theorem dX11_chance_132 : decode cX11_chance 132 = .ok (.iload 8, 2) := by decide +kernel
theorem dX11_chance_134 : decode cX11_chance 134 = .ok (.idiv, 1) := by decide +kernel
theorem dX11_chance_135 : decode cX11_chance 135 = .ok (.goto 7, 3) := by decide +kernel
theorem dX11_chance_138 : decode cX11_chance 138 = .ok (.iload_n 3, 1) := by decide +kernel
theorem dX11_chance_139 : decode cX11_chance 139 = .ok (.iload 8, 2) := by decide +kernel
theorem dX11_chance_141 : decode cX11_chance 141 = .ok (.idiv, 1) := by decide +kernel
theorem dX11_chance_142 : decode cX11_chance 142 = .ok (.ireturn, 1) := by decide +kernel
theorem dX11_feed_0 : decode cX11_feed 0 = .ok (.iload_n 1, 1) := by decide +kernel
theorem dX11_feed_1 : decode cX11_feed 1 = .ok (.iconst 1, 1) := by decide +kernel
theorem dX11_feed_2 : decode cX11_feed 2 = .ok (.iconst 5, 1) := by decide +kernel
theorem dX11_feed_3 : decode cX11_feed 3 = .ok (.invokestatic 70, 3) := by decide +kernel
theorem dX11_feed_6 : decode cX11_feed 6 = .ok (.ifCond .eq 61, 3) := by decide +kernel
theorem dX11_feed_9 : decode cX11_feed 9 = .ok (.iload_n 2, 1) := by decide +kernel
theorem dX11_feed_10 : decode cX11_feed 10 = .ok (.iconst 0, 1) := by decide +kernel
theorem dX11_feed_11 : decode cX11_feed 11 = .ok (.sipush 255, 3) := by decide +kernel
theorem dX11_feed_14 : decode cX11_feed 14 = .ok (.invokestatic 70, 3) := by decide +kernel
theorem dX11_feed_17 : decode cX11_feed 17 = .ok (.ifCond .eq 50, 3) := by decide +kernel
theorem dX11_feed_20 : decode cX11_feed 20 = .ok (.iload_n 3, 1) := by decide +kernel
theorem dX11_feed_21 : decode cX11_feed 21 = .ok (.iconst 0, 1) := by decide +kernel
theorem dX11_feed_22 : decode cX11_feed 22 = .ok (.sipush 255, 3) := by decide +kernel
theorem dX11_feed_25 : decode cX11_feed 25 = .ok (.invokestatic 70, 3) := by decide +kernel
theorem dX11_feed_28 : decode cX11_feed 28 = .ok (.ifCond .eq 39, 3) := by decide +kernel
theorem dX11_feed_31 : decode cX11_feed 31 = .ok (.iload 4, 2) := by decide +kernel
theorem dX11_feed_33 : decode cX11_feed 33 = .ok (.iconst 0, 1) := by decide +kernel
theorem dX11_feed_34 : decode cX11_feed 34 = .ok (.sipush 255, 3) := by decide +kernel
theorem dX11_feed_37 : decode cX11_feed 37 = .ok (.invokestatic 70, 3) := by decide +kernel
theorem dX11_feed_40 : decode cX11_feed 40 = .ok (.ifCond .eq 27, 3) := by decide +kernel
theorem dX11_feed_43 : decode cX11_feed 43 = .ok (.iload 5, 2) := by decide +kernel
theorem dX11_feed_45 : decode cX11_feed 45 = .ok (.iconst 0, 1) := by decide +kernel
theorem dX11_feed_46 : decode cX11_feed 46 = .ok (.sipush 255, 3) := by decide +kernel
theorem dX11_feed_49 : decode cX11_feed 49 = .ok (.invokestatic 70, 3) := by decide +kernel
theorem dX11_feed_52 : decode cX11_feed 52 = .ok (.ifCond .eq 15, 3) := by decide +kernel
theorem dX11_feed_55 : decode cX11_feed 55 = .ok (.iload 6, 2) := by decide +kernel
theorem dX11_feed_57 : decode cX11_feed 57 = .ok (.iconst 0, 1) := by decide +kernel
theorem dX11_feed_58 : decode cX11_feed 58 = .ok (.sipush 255, 3) := by decide +kernel
theorem dX11_feed_61 : decode cX11_feed 61 = .ok (.invokestatic 70, 3) := by decide +kernel
theorem dX11_feed_64 : decode cX11_feed 64 = .ok (.ifCond .ne 6, 3) := by decide +kernel
theorem dX11_feed_67 : decode cX11_feed 67 = .ok (.bipush (-2), 2) := by decide +kernel
theorem dX11_feed_69 : decode cX11_feed 69 = .ok (.ireturn, 1) := by decide +kernel
theorem dX11_feed_70 : decode cX11_feed 70 = .ok (.aload_n 0, 1) := by decide +kernel
theorem dX11_feed_71 : decode cX11_feed 71 = .ok (.getfield 253, 3) := by decide +kernel
theorem dX11_feed_74 : decode cX11_feed 74 = .ok (.iload_n 1, 1) := by decide +kernel
theorem dX11_feed_75 : decode cX11_feed 75 = .ok (.iadd, 1) := by decide +kernel
theorem dX11_feed_76 : decode cX11_feed 76 = .ok (.bipush 60, 2) := by decide +kernel
theorem dX11_feed_78 : decode cX11_feed 78 = .ok (.if_icmp .le 6, 3) := by decide +kernel
theorem dX11_feed_81 : decode cX11_feed 81 = .ok (.bipush (-4), 2) := by decide +kernel
theorem dX11_feed_83 : decode cX11_feed 83 = .ok (.ireturn, 1) := by decide +kernel
theorem dX11_feed_84 : decode cX11_feed 84 = .ok (.iconst 0, 1) := by decide +kernel
theorem dX11_feed_85 : decode cX11_feed 85 = .ok (.istore 7, 2) := by decide +kernel
theorem dX11_feed_87 : decode cX11_feed 87 = .ok (.iload 7, 2) := by decide +kernel
theorem dX11_feed_89 : decode cX11_feed 89 = .ok (.iload_n 1, 1) := by decide +kernel
theorem dX11_feed_90 : decode cX11_feed 90 = .ok (.if_icmp .ge 64, 3) := by decide +kernel
theorem dX11_feed_93 : decode cX11_feed 93 = .ok (.aload_n 0, 1) := by decide +kernel
theorem dX11_feed_94 : decode cX11_feed 94 = .ok (.getfield 45, 3) := by decide +kernel
theorem dX11_feed_97 : decode cX11_feed 97 = .ok (.aload_n 0, 1) := by decide +kernel
theorem dX11_feed_98 : decode cX11_feed 98 = .ok (.getfield 253, 3) := by decide +kernel
theorem dX11_feed_101 : decode cX11_feed 101 = .ok (.iload 7, 2) := by decide +kernel
theorem dX11_feed_103 : decode cX11_feed 103 = .ok (.iadd, 1) := by decide +kernel
theorem dX11_feed_104 : decode cX11_feed 104 = .ok (.iload 7, 2) := by decide +kernel
theorem dX11_feed_106 : decode cX11_feed 106 = .ok (.ifCond .ne 7, 3) := by decide +kernel
theorem dX11_feed_109 : decode cX11_feed 109 = .ok (.iload_n 2, 1) := by decide +kernel
theorem dX11_feed_110 : decode cX11_feed 110 = .ok (.goto 37, 3) := by decide +kernel
theorem dX11_feed_113 : decode cX11_feed 113 = .ok (.iload 7, 2) := by decide +kernel
theorem dX11_feed_115 : decode cX11_feed 115 = .ok (.iconst 1, 1) := by decide +kernel
theorem dX11_feed_116 : decode cX11_feed 116 = .ok (.if_icmp .ne 7, 3) := by decide +kernel
theorem dX11_feed_119 : decode cX11_feed 119 = .ok (.iload_n 3, 1) := by decide +kernel
theorem dX11_feed_120 : decode cX11_feed 120 = .ok (.goto 27, 3) := by decide +kernel
theorem dX11_feed_123 : decode cX11_feed 123 = .ok (.iload 7, 2) := by decide +kernel
theorem dX11_feed_125 : decode cX11_feed 125 = .ok (.iconst 2, 1) := by decide +kernel
theorem dX11_feed_126 : decode cX11_feed 126 = .ok (.if_icmp .ne 8, 3) := by decide +kernel
theorem dX11_feed_129 : decode cX11_feed 129 = .ok (.iload 4, 2) := by decide +kernel
theorem dX11_feed_131 : decode cX11_feed 131 = .ok (.goto 16, 3) := by decide +kernel
theorem dX11_feed_134 : decode cX11_feed 134 = .ok (.iload 7, 2) := by decide +kernel
theorem dX11_feed_136 : decode cX11_feed 136 = .ok (.iconst 3, 1) := by decide +kernel
theorem dX11_feed_137 : decode cX11_feed 137 = .ok (.if_icmp .ne 8, 3) := by decide +kernel
theorem dX11_feed_140 : decode cX11_feed 140 = .ok (.iload 5, 2) := by decide +kernel
theorem dX11_feed_142 : decode cX11_feed 142 = .ok (.goto 5, 3) := by decide +kernel
theorem dX11_feed_145 : decode cX11_feed 145 = .ok (.iload 6, 2) := by decide +kernel
theorem dX11_feed_147 : decode cX11_feed 147 = .ok (.iastore, 1) := by decide +kernel
theorem dX11_feed_148 : decode cX11_feed 148 = .ok (.iinc 7 1, 3) := by decide +kernel
theorem dX11_feed_151 : decode cX11_feed 151 = .ok (.goto (-64), 3) := by decide +kernel
theorem dX11_feed_154 : decode cX11_feed 154 = .ok (.aload_n 0, 1) := by decide +kernel
theorem dX11_feed_155 : decode cX11_feed 155 = .ok (.dup, 1) := by decide +kernel
theorem dX11_feed_156 : decode cX11_feed 156 = .ok (.getfield 253, 3) := by decide +kernel
theorem dX11_feed_159 : decode cX11_feed 159 = .ok (.iload_n 1, 1) := by decide +kernel
theorem dX11_feed_160 : decode cX11_feed 160 = .ok (.iadd, 1) := by decide +kernel
theorem dX11_feed_161 : decode cX11_feed 161 = .ok (.putfield 253, 3) := by decide +kernel
theorem dX11_feed_164 : decode cX11_feed 164 = .ok (.aload_n 0, 1) := by decide +kernel
theorem dX11_feed_165 : decode cX11_feed 165 = .ok (.getfield 253, 3) := by decide +kernel
theorem dX11_feed_168 : decode cX11_feed 168 = .ok (.ireturn, 1) := by decide +kernel
theorem dX11_isAt_0 : decode cX11_isAt 0 = .ok (.aload_n 0, 1) := by decide +kernel
theorem dX11_isAt_1 : decode cX11_isAt 1 = .ok (.getfield 256, 3) := by decide +kernel
theorem dX11_isAt_4 : decode cX11_isAt 4 = .ok (.aload_n 0, 1) := by decide +kernel
theorem dX11_isAt_5 : decode cX11_isAt 5 = .ok (.getfield 253, 3) := by decide +kernel
theorem dX11_isAt_8 : decode cX11_isAt 8 = .ok (.if_icmp .ge 24, 3) := by decide +kernel
theorem dX11_isAt_11 : decode cX11_isAt 11 = .ok (.aload_n 0, 1) := by decide +kernel
theorem dX11_isAt_12 : decode cX11_isAt 12 = .ok (.getfield 45, 3) := by decide +kernel
theorem dX11_isAt_15 : decode cX11_isAt 15 = .ok (.aload_n 0, 1) := by decide +kernel
theorem dX11_isAt_16 : decode cX11_isAt 16 = .ok (.getfield 256, 3) := by decide +kernel
theorem dX11_isAt_19 : decode cX11_isAt 19 = .ok (.iaload, 1) := by decide +kernel
theorem dX11_isAt_20 : decode cX11_isAt 20 = .ok (.iload_n 1, 1) := by decide +kernel
theorem dX11_isAt_21 : decode cX11_isAt 21 = .ok (.iload_n 2, 1) := by decide +kernel
theorem dX11_isAt_22 : decode cX11_isAt 22 = .ok (.invokestatic 70, 3) := by decide +kernel
theorem dX11_isAt_25 : decode cX11_isAt 25 = .ok (.ifCond .eq 7, 3) := by decide +kernel
theorem dX11_isAt_28 : decode cX11_isAt 28 = .ok (.iconst 1, 1) := by decide +kernel
theorem dX11_isAt_29 : decode cX11_isAt 29 = .ok (.goto 4, 3) := by decide +kernel
theorem dX11_isAt_32 : decode cX11_isAt 32 = .ok (.iconst 0, 1) := by decide +kernel
theorem dX11_isAt_33 : decode cX11_isAt 33 = .ok (.ireturn, 1) := by decide +kernel
theorem dX11_wordOf_0 : decode cX11_wordOf 0 = .ok (.iload_n 0, 1) := by decide +kernel
theorem dX11_wordOf_1 : decode cX11_wordOf 1 = .ok (.tableswitch 55 0 4 #[35, 39, 43, 47, 51], 35) := by decide +kernel
theorem dX11_wordOf_36 : decode cX11_wordOf 36 = .ok (.ldc_w 259, 3) := by decide +kernel
theorem dX11_wordOf_39 : decode cX11_wordOf 39 = .ok (.areturn, 1) := by decide +kernel
theorem dX11_wordOf_40 : decode cX11_wordOf 40 = .ok (.ldc_w 261, 3) := by decide +kernel
theorem dX11_wordOf_43 : decode cX11_wordOf 43 = .ok (.areturn, 1) := by decide +kernel
theorem dX11_wordOf_44 : decode cX11_wordOf 44 = .ok (.ldc_w 262, 3) := by decide +kernel
theorem dX11_wordOf_47 : decode cX11_wordOf 47 = .ok (.areturn, 1) := by decide +kernel
theorem dX11_wordOf_48 : decode cX11_wordOf 48 = .ok (.ldc_w 263, 3) := by decide +kernel
theorem dX11_wordOf_51 : decode cX11_wordOf 51 = .ok (.areturn, 1) := by decide +kernel
theorem dX11_wordOf_52 : decode cX11_wordOf 52 = .ok (.ldc_w 264, 3) := by decide +kernel
theorem dX11_wordOf_55 : decode cX11_wordOf 55 = .ok (.areturn, 1) := by decide +kernel
theorem dX11_wordOf_56 : decode cX11_wordOf 56 = .ok (.ldc_w 266, 3) := by decide +kernel
theorem dX11_wordOf_59 : decode cX11_wordOf 59 = .ok (.areturn, 1) := by decide +kernel
theorem dX11_manyOf_0 : decode cX11_manyOf 0 = .ok (.iload_n 0, 1) := by decide +kernel
theorem dX11_manyOf_1 : decode cX11_manyOf 1 = .ok (.ifCond .ne 7, 3) := by decide +kernel
theorem dX11_manyOf_4 : decode cX11_manyOf 4 = .ok (.iconst 4, 1) := by decide +kernel
theorem dX11_manyOf_5 : decode cX11_manyOf 5 = .ok (.goto 13, 3) := by decide +kernel
theorem dX11_manyOf_8 : decode cX11_manyOf 8 = .ok (.iload_n 0, 1) := by decide +kernel
theorem dX11_manyOf_9 : decode cX11_manyOf 9 = .ok (.iconst 5, 1) := by decide +kernel
theorem dX11_manyOf_10 : decode cX11_manyOf 10 = .ok (.if_icmp .ne 7, 3) := by decide +kernel
theorem dX11_manyOf_13 : decode cX11_manyOf 13 = .ok (.iconst 0, 1) := by decide +kernel
theorem dX11_manyOf_14 : decode cX11_manyOf 14 = .ok (.goto 4, 3) := by decide +kernel
theorem dX11_manyOf_17 : decode cX11_manyOf 17 = .ok (.iconst 2, 1) := by decide +kernel
theorem dX11_manyOf_18 : decode cX11_manyOf 18 = .ok (.ireturn, 1) := by decide +kernel
theorem dX11_isWord_0 : decode cX11_isWord 0 = .ok (.iload_n 1, 1) := by decide +kernel
theorem dX11_isWord_1 : decode cX11_isWord 1 = .ok (.invokestatic 268, 3) := by decide +kernel
theorem dX11_isWord_4 : decode cX11_isWord 4 = .ok (.astore_n 2, 1) := by decide +kernel
theorem dX11_isWord_5 : decode cX11_isWord 5 = .ok (.aload_n 0, 1) := by decide +kernel
theorem dX11_isWord_6 : decode cX11_isWord 6 = .ok (.getfield 256, 3) := by decide +kernel
theorem dX11_isWord_9 : decode cX11_isWord 9 = .ok (.aload_n 0, 1) := by decide +kernel
theorem dX11_isWord_10 : decode cX11_isWord 10 = .ok (.getfield 272, 3) := by decide +kernel
theorem dX11_isWord_13 : decode cX11_isWord 13 = .ok (.isub, 1) := by decide +kernel
theorem dX11_isWord_14 : decode cX11_isWord 14 = .ok (.aload_n 2, 1) := by decide +kernel
theorem dX11_isWord_15 : decode cX11_isWord 15 = .ok (.invokevirtual 275, 3) := by decide +kernel
theorem dX11_isWord_18 : decode cX11_isWord 18 = .ok (.if_icmp .ne 7, 3) := by decide +kernel
theorem dX11_isWord_21 : decode cX11_isWord 21 = .ok (.iconst 1, 1) := by decide +kernel
theorem dX11_isWord_22 : decode cX11_isWord 22 = .ok (.goto 4, 3) := by decide +kernel
theorem dX11_isWord_25 : decode cX11_isWord 25 = .ok (.iconst 0, 1) := by decide +kernel
theorem dX11_isWord_26 : decode cX11_isWord 26 = .ok (.istore_n 3, 1) := by decide +kernel
theorem dX11_isWord_27 : decode cX11_isWord 27 = .ok (.iconst 0, 1) := by decide +kernel
theorem dX11_isWord_28 : decode cX11_isWord 28 = .ok (.istore 4, 2) := by decide +kernel
theorem dX11_isWord_30 : decode cX11_isWord 30 = .ok (.iload_n 3, 1) := by decide +kernel
theorem dX11_isWord_31 : decode cX11_isWord 31 = .ok (.ifCond .eq 45, 3) := by decide +kernel
theorem dX11_isWord_34 : decode cX11_isWord 34 = .ok (.iload 4, 2) := by decide +kernel
theorem dX11_isWord_36 : decode cX11_isWord 36 = .ok (.aload_n 2, 1) := by decide +kernel
theorem dX11_isWord_37 : decode cX11_isWord 37 = .ok (.invokevirtual 275, 3) := by decide +kernel
theorem dX11_isWord_40 : decode cX11_isWord 40 = .ok (.if_icmp .ge 36, 3) := by decide +kernel
theorem dX11_isWord_43 : decode cX11_isWord 43 = .ok (.aload_n 0, 1) := by decide +kernel
theorem dX11_isWord_44 : decode cX11_isWord 44 = .ok (.getfield 45, 3) := by decide +kernel
theorem dX11_isWord_47 : decode cX11_isWord 47 = .ok (.aload_n 0, 1) := by decide +kernel
theorem dX11_isWord_48 : decode cX11_isWord 48 = .ok (.getfield 272, 3) := by decide +kernel
theorem dX11_isWord_51 : decode cX11_isWord 51 = .ok (.iload 4, 2) := by decide +kernel
theorem dX11_isWord_53 : decode cX11_isWord 53 = .ok (.iadd, 1) := by decide +kernel
theorem dX11_isWord_54 : decode cX11_isWord 54 = .ok (.iaload, 1) := by decide +kernel
theorem dX11_isWord_55 : decode cX11_isWord 55 = .ok (.aload_n 2, 1) := by decide +kernel
theorem dX11_isWord_56 : decode cX11_isWord 56 = .ok (.iload 4, 2) := by decide +kernel
theorem dX11_isWord_58 : decode cX11_isWord 58 = .ok (.invokevirtual 279, 3) := by decide +kernel
theorem dX11_isWord_61 : decode cX11_isWord 61 = .ok (.if_icmp .ne 7, 3) := by decide +kernel
theorem dX11_isWord_64 : decode cX11_isWord 64 = .ok (.iconst 1, 1) := by decide +kernel
theorem dX11_isWord_65 : decode cX11_isWord 65 = .ok (.goto 4, 3) := by decide +kernel
theorem dX11_isWord_68 : decode cX11_isWord 68 = .ok (.iconst 0, 1) := by decide +kernel
theorem dX11_isWord_69 : decode cX11_isWord 69 = .ok (.istore_n 3, 1) := by decide +kernel
theorem dX11_isWord_70 : decode cX11_isWord 70 = .ok (.iinc 4 1, 3) := by decide +kernel
theorem dX11_isWord_73 : decode cX11_isWord 73 = .ok (.goto (-43), 3) := by decide +kernel
theorem dX11_isWord_76 : decode cX11_isWord 76 = .ok (.iload_n 3, 1) := by decide +kernel
theorem dX11_isWord_77 : decode cX11_isWord 77 = .ok (.ireturn, 1) := by decide +kernel
theorem dX11_takesNumber_0 : decode cX11_takesNumber 0 = .ok (.aload_n 0, 1) := by decide +kernel
theorem dX11_takesNumber_1 : decode cX11_takesNumber 1 = .ok (.getfield 45, 3) := by decide +kernel
theorem dX11_takesNumber_4 : decode cX11_takesNumber 4 = .ok (.aload_n 0, 1) := by decide +kernel
theorem dX11_takesNumber_5 : decode cX11_takesNumber 5 = .ok (.getfield 256, 3) := by decide +kernel
theorem dX11_takesNumber_8 : decode cX11_takesNumber 8 = .ok (.iaload, 1) := by decide +kernel
theorem dX11_takesNumber_9 : decode cX11_takesNumber 9 = .ok (.bipush 45, 2) := by decide +kernel
theorem dX11_takesNumber_11 : decode cX11_takesNumber 11 = .ok (.if_icmp .ne 7, 3) := by decide +kernel
theorem dX11_takesNumber_14 : decode cX11_takesNumber 14 = .ok (.iconst 1, 1) := by decide +kernel
theorem dX11_takesNumber_15 : decode cX11_takesNumber 15 = .ok (.goto 4, 3) := by decide +kernel
theorem dX11_takesNumber_18 : decode cX11_takesNumber 18 = .ok (.iconst 0, 1) := by decide +kernel
theorem dX11_takesNumber_19 : decode cX11_takesNumber 19 = .ok (.istore_n 1, 1) := by decide +kernel
theorem dX11_takesNumber_20 : decode cX11_takesNumber 20 = .ok (.iload_n 1, 1) := by decide +kernel
theorem dX11_takesNumber_21 : decode cX11_takesNumber 21 = .ok (.ifCond .eq 13, 3) := by decide +kernel
theorem dX11_takesNumber_24 : decode cX11_takesNumber 24 = .ok (.aload_n 0, 1) := by decide +kernel
theorem dX11_takesNumber_25 : decode cX11_takesNumber 25 = .ok (.dup, 1) := by decide +kernel
theorem dX11_takesNumber_26 : decode cX11_takesNumber 26 = .ok (.getfield 256, 3) := by decide +kernel
theorem dX11_takesNumber_29 : decode cX11_takesNumber 29 = .ok (.iconst 1, 1) := by decide +kernel
theorem dX11_takesNumber_30 : decode cX11_takesNumber 30 = .ok (.iadd, 1) := by decide +kernel
theorem dX11_takesNumber_31 : decode cX11_takesNumber 31 = .ok (.putfield 256, 3) := by decide +kernel
theorem dX11_takesNumber_34 : decode cX11_takesNumber 34 = .ok (.aload_n 0, 1) := by decide +kernel
theorem dX11_takesNumber_35 : decode cX11_takesNumber 35 = .ok (.getfield 256, 3) := by decide +kernel
theorem dX11_takesNumber_38 : decode cX11_takesNumber 38 = .ok (.istore_n 2, 1) := by decide +kernel
theorem dX11_takesNumber_39 : decode cX11_takesNumber 39 = .ok (.iconst 0, 1) := by decide +kernel
theorem dX11_takesNumber_40 : decode cX11_takesNumber 40 = .ok (.istore_n 3, 1) := by decide +kernel
theorem dX11_takesNumber_41 : decode cX11_takesNumber 41 = .ok (.aload_n 0, 1) := by decide +kernel
theorem dX11_takesNumber_42 : decode cX11_takesNumber 42 = .ok (.bipush 48, 2) := by decide +kernel
theorem dX11_takesNumber_44 : decode cX11_takesNumber 44 = .ok (.bipush 57, 2) := by decide +kernel
theorem dX11_takesNumber_46 : decode cX11_takesNumber 46 = .ok (.invokevirtual 283, 3) := by decide +kernel
theorem dX11_takesNumber_49 : decode cX11_takesNumber 49 = .ok (.ifCond .eq 48, 3) := by decide +kernel
theorem dX11_takesNumber_52 : decode cX11_takesNumber 52 = .ok (.aload_n 0, 1) := by decide +kernel
theorem dX11_takesNumber_53 : decode cX11_takesNumber 53 = .ok (.getfield 256, 3) := by decide +kernel
theorem dX11_takesNumber_56 : decode cX11_takesNumber 56 = .ok (.iload_n 2, 1) := by decide +kernel
theorem dX11_takesNumber_57 : decode cX11_takesNumber 57 = .ok (.isub, 1) := by decide +kernel
theorem dX11_takesNumber_58 : decode cX11_takesNumber 58 = .ok (.iconst 2, 1) := by decide +kernel
theorem dX11_takesNumber_59 : decode cX11_takesNumber 59 = .ok (.if_icmp .ge 23, 3) := by decide +kernel
theorem dX11_takesNumber_62 : decode cX11_takesNumber 62 = .ok (.bipush 10, 2) := by decide +kernel
theorem dX11_takesNumber_64 : decode cX11_takesNumber 64 = .ok (.iload_n 3, 1) := by decide +kernel
theorem dX11_takesNumber_65 : decode cX11_takesNumber 65 = .ok (.imul, 1) := by decide +kernel
theorem dX11_takesNumber_66 : decode cX11_takesNumber 66 = .ok (.aload_n 0, 1) := by decide +kernel
theorem dX11_takesNumber_67 : decode cX11_takesNumber 67 = .ok (.getfield 45, 3) := by decide +kernel
theorem dX11_takesNumber_70 : decode cX11_takesNumber 70 = .ok (.aload_n 0, 1) := by decide +kernel
theorem dX11_takesNumber_71 : decode cX11_takesNumber 71 = .ok (.getfield 256, 3) := by decide +kernel
theorem dX11_takesNumber_74 : decode cX11_takesNumber 74 = .ok (.iaload, 1) := by decide +kernel
theorem dX11_takesNumber_75 : decode cX11_takesNumber 75 = .ok (.iadd, 1) := by decide +kernel
theorem dX11_takesNumber_76 : decode cX11_takesNumber 76 = .ok (.bipush 48, 2) := by decide +kernel
theorem dX11_takesNumber_78 : decode cX11_takesNumber 78 = .ok (.isub, 1) := by decide +kernel
theorem dX11_takesNumber_79 : decode cX11_takesNumber 79 = .ok (.goto 4, 3) := by decide +kernel
theorem dX11_takesNumber_82 : decode cX11_takesNumber 82 = .ok (.iload_n 3, 1) := by decide +kernel
theorem dX11_takesNumber_83 : decode cX11_takesNumber 83 = .ok (.istore_n 3, 1) := by decide +kernel
theorem dX11_takesNumber_84 : decode cX11_takesNumber 84 = .ok (.aload_n 0, 1) := by decide +kernel
theorem dX11_takesNumber_85 : decode cX11_takesNumber 85 = .ok (.dup, 1) := by decide +kernel
theorem dX11_takesNumber_86 : decode cX11_takesNumber 86 = .ok (.getfield 256, 3) := by decide +kernel
theorem dX11_takesNumber_89 : decode cX11_takesNumber 89 = .ok (.iconst 1, 1) := by decide +kernel
theorem dX11_takesNumber_90 : decode cX11_takesNumber 90 = .ok (.iadd, 1) := by decide +kernel
theorem dX11_takesNumber_91 : decode cX11_takesNumber 91 = .ok (.putfield 256, 3) := by decide +kernel
theorem dX11_takesNumber_94 : decode cX11_takesNumber 94 = .ok (.goto (-53), 3) := by decide +kernel
theorem dX11_takesNumber_97 : decode cX11_takesNumber 97 = .ok (.aload_n 0, 1) := by decide +kernel
theorem dX11_takesNumber_98 : decode cX11_takesNumber 98 = .ok (.aload_n 0, 1) := by decide +kernel
theorem dX11_takesNumber_99 : decode cX11_takesNumber 99 = .ok (.getfield 256, 3) := by decide +kernel
theorem dX11_takesNumber_102 : decode cX11_takesNumber 102 = .ok (.iload_n 2, 1) := by decide +kernel
theorem dX11_takesNumber_103 : decode cX11_takesNumber 103 = .ok (.isub, 1) := by decide +kernel
theorem dX11_takesNumber_104 : decode cX11_takesNumber 104 = .ok (.iconst 1, 1) := by decide +kernel
theorem dX11_takesNumber_105 : decode cX11_takesNumber 105 = .ok (.if_icmp .lt 13, 3) := by decide +kernel
theorem dX11_takesNumber_108 : decode cX11_takesNumber 108 = .ok (.aload_n 0, 1) := by decide +kernel
theorem dX11_takesNumber_109 : decode cX11_takesNumber 109 = .ok (.getfield 256, 3) := by decide +kernel
theorem dX11_takesNumber_112 : decode cX11_takesNumber 112 = .ok (.iload_n 2, 1) := by decide +kernel
theorem dX11_takesNumber_113 : decode cX11_takesNumber 113 = .ok (.isub, 1) := by decide +kernel
theorem dX11_takesNumber_114 : decode cX11_takesNumber 114 = .ok (.iconst 2, 1) := by decide +kernel
theorem dX11_takesNumber_115 : decode cX11_takesNumber 115 = .ok (.if_icmp .le 7, 3) := by decide +kernel
theorem dX11_takesNumber_118 : decode cX11_takesNumber 118 = .ok (.iconst 4, 1) := by decide +kernel
theorem dX11_takesNumber_119 : decode cX11_takesNumber 119 = .ok (.goto 4, 3) := by decide +kernel
theorem dX11_takesNumber_122 : decode cX11_takesNumber 122 = .ok (.iconst 2, 1) := by decide +kernel
theorem dX11_takesNumber_123 : decode cX11_takesNumber 123 = .ok (.putfield 286, 3) := by decide +kernel
theorem dX11_takesNumber_126 : decode cX11_takesNumber 126 = .ok (.aload_n 0, 1) := by decide +kernel
theorem dX11_takesNumber_127 : decode cX11_takesNumber 127 = .ok (.iload_n 1, 1) := by decide +kernel
theorem dX11_takesNumber_128 : decode cX11_takesNumber 128 = .ok (.ifCond .eq 8, 3) := by decide +kernel
theorem dX11_takesNumber_131 : decode cX11_takesNumber 131 = .ok (.iload_n 3, 1) := by decide +kernel
theorem dX11_takesNumber_132 : decode cX11_takesNumber 132 = .ok (.ineg, 1) := by decide +kernel
theorem dX11_takesNumber_133 : decode cX11_takesNumber 133 = .ok (.goto 4, 3) := by decide +kernel
theorem dX11_takesNumber_136 : decode cX11_takesNumber 136 = .ok (.iload_n 3, 1) := by decide +kernel
theorem dX11_takesNumber_137 : decode cX11_takesNumber 137 = .ok (.putfield 289, 3) := by decide +kernel
theorem dX11_takesNumber_140 : decode cX11_takesNumber 140 = .ok (.return_, 1) := by decide +kernel
theorem dX11_look_0 : decode cX11_look 0 = .ok (.aload_n 0, 1) := by decide +kernel
theorem dX11_look_1 : decode cX11_look 1 = .ok (.bipush 32, 2) := by decide +kernel
theorem dX11_look_3 : decode cX11_look 3 = .ok (.bipush 32, 2) := by decide +kernel
theorem dX11_look_5 : decode cX11_look 5 = .ok (.invokevirtual 283, 3) := by decide +kernel
theorem dX11_look_8 : decode cX11_look 8 = .ok (.ifCond .ne 14, 3) := by decide +kernel
theorem dX11_look_11 : decode cX11_look 11 = .ok (.aload_n 0, 1) := by decide +kernel
theorem dX11_look_12 : decode cX11_look 12 = .ok (.bipush 10, 2) := by decide +kernel
theorem dX11_look_14 : decode cX11_look 14 = .ok (.bipush 10, 2) := by decide +kernel
theorem dX11_look_16 : decode cX11_look 16 = .ok (.invokevirtual 283, 3) := by decide +kernel
theorem dX11_look_19 : decode cX11_look 19 = .ok (.ifCond .eq 16, 3) := by decide +kernel
theorem dX11_look_22 : decode cX11_look 22 = .ok (.aload_n 0, 1) := by decide +kernel
theorem dX11_look_23 : decode cX11_look 23 = .ok (.dup, 1) := by decide +kernel
theorem dX11_look_24 : decode cX11_look 24 = .ok (.getfield 256, 3) := by decide +kernel
theorem dX11_look_27 : decode cX11_look 27 = .ok (.iconst 1, 1) := by decide +kernel
theorem dX11_look_28 : decode cX11_look 28 = .ok (.iadd, 1) := by decide +kernel
theorem dX11_look_29 : decode cX11_look 29 = .ok (.putfield 256, 3) := by decide +kernel
theorem dX11_look_32 : decode cX11_look 32 = .ok (.goto (-32), 3) := by decide +kernel
theorem dX11_look_35 : decode cX11_look 35 = .ok (.aload_n 0, 1) := by decide +kernel
theorem dX11_look_36 : decode cX11_look 36 = .ok (.aload_n 0, 1) := by decide +kernel
theorem dX11_look_37 : decode cX11_look 37 = .ok (.getfield 256, 3) := by decide +kernel
theorem dX11_look_40 : decode cX11_look 40 = .ok (.putfield 272, 3) := by decide +kernel
theorem dX11_look_43 : decode cX11_look 43 = .ok (.aload_n 0, 1) := by decide +kernel
theorem dX11_look_44 : decode cX11_look 44 = .ok (.getfield 256, 3) := by decide +kernel
theorem dX11_look_47 : decode cX11_look 47 = .ok (.aload_n 0, 1) := by decide +kernel
theorem dX11_look_48 : decode cX11_look 48 = .ok (.getfield 253, 3) := by decide +kernel
theorem dX11_look_51 : decode cX11_look 51 = .ok (.if_icmp .ne 11, 3) := by decide +kernel
theorem dX11_look_54 : decode cX11_look 54 = .ok (.aload_n 0, 1) := by decide +kernel
theorem dX11_look_55 : decode cX11_look 55 = .ok (.iconst 0, 1) := by decide +kernel
theorem dX11_look_56 : decode cX11_look 56 = .ok (.putfield 286, 3) := by decide +kernel
theorem dX11_look_59 : decode cX11_look 59 = .ok (.goto 156, 3) := by decide +kernel
theorem dX11_look_62 : decode cX11_look 62 = .ok (.aload_n 0, 1) := by decide +kernel
theorem dX11_look_63 : decode cX11_look 63 = .ok (.bipush 97, 2) := by decide +kernel
theorem dX11_look_65 : decode cX11_look 65 = .ok (.bipush 122, 2) := by decide +kernel
theorem dX11_look_67 : decode cX11_look 67 = .ok (.invokevirtual 283, 3) := by decide +kernel
theorem dX11_look_70 : decode cX11_look 70 = .ok (.ifCond .eq 86, 3) := by decide +kernel
theorem dX11_look_73 : decode cX11_look 73 = .ok (.aload_n 0, 1) := by decide +kernel
theorem dX11_look_74 : decode cX11_look 74 = .ok (.bipush 97, 2) := by decide +kernel
theorem dX11_look_76 : decode cX11_look 76 = .ok (.bipush 122, 2) := by decide +kernel
theorem dX11_look_78 : decode cX11_look 78 = .ok (.invokevirtual 283, 3) := by decide +kernel
theorem dX11_look_81 : decode cX11_look 81 = .ok (.ifCond .eq 16, 3) := by decide +kernel
theorem dX11_look_84 : decode cX11_look 84 = .ok (.aload_n 0, 1) := by decide +kernel
theorem dX11_look_85 : decode cX11_look 85 = .ok (.dup, 1) := by decide +kernel
theorem dX11_look_86 : decode cX11_look 86 = .ok (.getfield 256, 3) := by decide +kernel
theorem dX11_look_89 : decode cX11_look 89 = .ok (.iconst 1, 1) := by decide +kernel
theorem dX11_look_90 : decode cX11_look 90 = .ok (.iadd, 1) := by decide +kernel
theorem dX11_look_91 : decode cX11_look 91 = .ok (.putfield 256, 3) := by decide +kernel
theorem dX11_look_94 : decode cX11_look 94 = .ok (.goto (-21), 3) := by decide +kernel
theorem dX11_look_97 : decode cX11_look 97 = .ok (.aload_n 0, 1) := by decide +kernel
theorem dX11_look_98 : decode cX11_look 98 = .ok (.iconst 0, 1) := by decide +kernel
theorem dX11_look_99 : decode cX11_look 99 = .ok (.putfield 289, 3) := by decide +kernel
theorem dX11_look_102 : decode cX11_look 102 = .ok (.aload_n 0, 1) := by decide +kernel
theorem dX11_look_103 : decode cX11_look 103 = .ok (.getfield 289, 3) := by decide +kernel
theorem dX11_look_106 : decode cX11_look 106 = .ok (.bipush 6, 2) := by decide +kernel
theorem dX11_look_108 : decode cX11_look 108 = .ok (.if_icmp .ge 27, 3) := by decide +kernel
theorem dX11_look_111 : decode cX11_look 111 = .ok (.aload_n 0, 1) := by decide +kernel
theorem dX11_look_112 : decode cX11_look 112 = .ok (.aload_n 0, 1) := by decide +kernel
theorem dX11_look_113 : decode cX11_look 113 = .ok (.getfield 289, 3) := by decide +kernel
theorem dX11_look_116 : decode cX11_look 116 = .ok (.invokevirtual 292, 3) := by decide +kernel
theorem dX11_look_119 : decode cX11_look 119 = .ok (.ifCond .ne 16, 3) := by decide +kernel
theorem dX11_look_122 : decode cX11_look 122 = .ok (.aload_n 0, 1) := by decide +kernel
theorem dX11_look_123 : decode cX11_look 123 = .ok (.dup, 1) := by decide +kernel
theorem dX11_look_124 : decode cX11_look 124 = .ok (.getfield 289, 3) := by decide +kernel
theorem dX11_look_127 : decode cX11_look 127 = .ok (.iconst 1, 1) := by decide +kernel
theorem dX11_look_128 : decode cX11_look 128 = .ok (.iadd, 1) := by decide +kernel
theorem dX11_look_129 : decode cX11_look 129 = .ok (.putfield 289, 3) := by decide +kernel
theorem dX11_look_132 : decode cX11_look 132 = .ok (.goto (-30), 3) := by decide +kernel
theorem dX11_look_135 : decode cX11_look 135 = .ok (.aload_n 0, 1) := by decide +kernel
theorem dX11_look_136 : decode cX11_look 136 = .ok (.aload_n 0, 1) := by decide +kernel
theorem dX11_look_137 : decode cX11_look 137 = .ok (.getfield 289, 3) := by decide +kernel
theorem dX11_look_140 : decode cX11_look 140 = .ok (.bipush 6, 2) := by decide +kernel
theorem dX11_look_142 : decode cX11_look 142 = .ok (.if_icmp .ge 7, 3) := by decide +kernel
theorem dX11_look_145 : decode cX11_look 145 = .ok (.iconst 1, 1) := by decide +kernel
theorem dX11_look_146 : decode cX11_look 146 = .ok (.goto 4, 3) := by decide +kernel
theorem dX11_look_149 : decode cX11_look 149 = .ok (.iconst 4, 1) := by decide +kernel
theorem dX11_look_150 : decode cX11_look 150 = .ok (.putfield 286, 3) := by decide +kernel
theorem dX11_look_153 : decode cX11_look 153 = .ok (.goto 62, 3) := by decide +kernel
theorem dX11_look_156 : decode cX11_look 156 = .ok (.aload_n 0, 1) := by decide +kernel
theorem dX11_look_157 : decode cX11_look 157 = .ok (.bipush 48, 2) := by decide +kernel
theorem dX11_look_159 : decode cX11_look 159 = .ok (.bipush 57, 2) := by decide +kernel
theorem dX11_look_161 : decode cX11_look 161 = .ok (.invokevirtual 283, 3) := by decide +kernel
theorem dX11_look_164 : decode cX11_look 164 = .ok (.ifCond .ne 14, 3) := by decide +kernel
theorem dX11_look_167 : decode cX11_look 167 = .ok (.aload_n 0, 1) := by decide +kernel
theorem dX11_look_168 : decode cX11_look 168 = .ok (.bipush 45, 2) := by decide +kernel
theorem dX11_look_170 : decode cX11_look 170 = .ok (.bipush 45, 2) := by decide +kernel
theorem dX11_look_172 : decode cX11_look 172 = .ok (.invokevirtual 283, 3) := by decide +kernel
theorem dX11_look_175 : decode cX11_look 175 = .ok (.ifCond .eq 10, 3) := by decide +kernel
theorem dX11_look_178 : decode cX11_look 178 = .ok (.aload_n 0, 1) := by decide +kernel
theorem dX11_look_179 : decode cX11_look 179 = .ok (.invokevirtual 295, 3) := by decide +kernel
theorem dX11_look_182 : decode cX11_look 182 = .ok (.goto 33, 3) := by decide +kernel
theorem dX11_look_185 : decode cX11_look 185 = .ok (.aload_n 0, 1) := by decide +kernel
theorem dX11_look_186 : decode cX11_look 186 = .ok (.aload_n 0, 1) := by decide +kernel
theorem dX11_look_187 : decode cX11_look 187 = .ok (.bipush 59, 2) := by decide +kernel
theorem dX11_look_189 : decode cX11_look 189 = .ok (.bipush 59, 2) := by decide +kernel
theorem dX11_look_191 : decode cX11_look 191 = .ok (.invokevirtual 283, 3) := by decide +kernel
theorem dX11_look_194 : decode cX11_look 194 = .ok (.ifCond .eq 7, 3) := by decide +kernel
theorem dX11_look_197 : decode cX11_look 197 = .ok (.iconst 3, 1) := by decide +kernel
theorem dX11_look_198 : decode cX11_look 198 = .ok (.goto 4, 3) := by decide +kernel
theorem dX11_look_201 : decode cX11_look 201 = .ok (.iconst 4, 1) := by decide +kernel
theorem dX11_look_202 : decode cX11_look 202 = .ok (.putfield 286, 3) := by decide +kernel
theorem dX11_look_205 : decode cX11_look 205 = .ok (.aload_n 0, 1) := by decide +kernel
theorem dX11_look_206 : decode cX11_look 206 = .ok (.dup, 1) := by decide +kernel
theorem dX11_look_207 : decode cX11_look 207 = .ok (.getfield 256, 3) := by decide +kernel
theorem dX11_look_210 : decode cX11_look 210 = .ok (.iconst 1, 1) := by decide +kernel
theorem dX11_look_211 : decode cX11_look 211 = .ok (.iadd, 1) := by decide +kernel
theorem dX11_look_212 : decode cX11_look 212 = .ok (.putfield 256, 3) := by decide +kernel
theorem dX11_look_215 : decode cX11_look 215 = .ok (.return_, 1) := by decide +kernel
theorem dX11_takesClause_0 : decode cX11_takesClause 0 = .ok (.aload_n 0, 1) := by decide +kernel
theorem dX11_takesClause_1 : decode cX11_takesClause 1 = .ok (.getfield 286, 3) := by decide +kernel
theorem dX11_takesClause_4 : decode cX11_takesClause 4 = .ok (.iconst 1, 1) := by decide +kernel
theorem dX11_takesClause_5 : decode cX11_takesClause 5 = .ok (.if_icmp .eq 5, 3) := by decide +kernel
theorem dX11_takesClause_8 : decode cX11_takesClause 8 = .ok (.iconst 0, 1) := by decide +kernel
theorem dX11_takesClause_9 : decode cX11_takesClause 9 = .ok (.ireturn, 1) := by decide +kernel
theorem dX11_takesClause_10 : decode cX11_takesClause 10 = .ok (.aload_n 0, 1) := by decide +kernel
theorem dX11_takesClause_11 : decode cX11_takesClause 11 = .ok (.getfield 48, 3) := by decide +kernel
theorem dX11_takesClause_14 : decode cX11_takesClause 14 = .ok (.aload_n 0, 1) := by decide +kernel
theorem dX11_takesClause_15 : decode cX11_takesClause 15 = .ok (.getfield 298, 3) := by decide +kernel
theorem dX11_takesClause_18 : decode cX11_takesClause 18 = .ok (.aload_n 0, 1) := by decide +kernel
theorem dX11_takesClause_19 : decode cX11_takesClause 19 = .ok (.getfield 289, 3) := by decide +kernel
theorem dX11_takesClause_22 : decode cX11_takesClause 22 = .ok (.iastore, 1) := by decide +kernel
theorem dX11_takesClause_23 : decode cX11_takesClause 23 = .ok (.aload_n 0, 1) := by decide +kernel
theorem dX11_takesClause_24 : decode cX11_takesClause 24 = .ok (.getfield 289, 3) := by decide +kernel
theorem dX11_takesClause_27 : decode cX11_takesClause 27 = .ok (.invokestatic 301, 3) := by decide +kernel
theorem dX11_takesClause_30 : decode cX11_takesClause 30 = .ok (.istore_n 1, 1) := by decide +kernel
theorem dX11_takesClause_31 : decode cX11_takesClause 31 = .ok (.aload_n 0, 1) := by decide +kernel
theorem dX11_takesClause_32 : decode cX11_takesClause 32 = .ok (.invokevirtual 304, 3) := by decide +kernel
theorem dX11_takesClause_35 : decode cX11_takesClause 35 = .ok (.iconst 0, 1) := by decide +kernel
theorem dX11_takesClause_36 : decode cX11_takesClause 36 = .ok (.istore_n 2, 1) := by decide +kernel
theorem dX11_takesClause_37 : decode cX11_takesClause 37 = .ok (.iload_n 2, 1) := by decide +kernel
theorem dX11_takesClause_38 : decode cX11_takesClause 38 = .ok (.iload_n 1, 1) := by decide +kernel
theorem dX11_takesClause_39 : decode cX11_takesClause 39 = .ok (.if_icmp .ge 40, 3) := by decide +kernel
theorem dX11_takesClause_42 : decode cX11_takesClause 42 = .ok (.aload_n 0, 1) := by decide +kernel
theorem dX11_takesClause_43 : decode cX11_takesClause 43 = .ok (.getfield 286, 3) := by decide +kernel
theorem dX11_takesClause_46 : decode cX11_takesClause 46 = .ok (.iconst 2, 1) := by decide +kernel
theorem dX11_takesClause_47 : decode cX11_takesClause 47 = .ok (.if_icmp .eq 5, 3) := by decide +kernel
theorem dX11_takesClause_50 : decode cX11_takesClause 50 = .ok (.iconst 0, 1) := by decide +kernel
theorem dX11_takesClause_51 : decode cX11_takesClause 51 = .ok (.ireturn, 1) := by decide +kernel
theorem dX11_takesClause_52 : decode cX11_takesClause 52 = .ok (.aload_n 0, 1) := by decide +kernel
theorem dX11_takesClause_53 : decode cX11_takesClause 53 = .ok (.getfield 51, 3) := by decide +kernel
theorem dX11_takesClause_56 : decode cX11_takesClause 56 = .ok (.iconst 4, 1) := by decide +kernel
theorem dX11_takesClause_57 : decode cX11_takesClause 57 = .ok (.aload_n 0, 1) := by decide +kernel
theorem dX11_takesClause_58 : decode cX11_takesClause 58 = .ok (.getfield 298, 3) := by decide +kernel
theorem dX11_takesClause_61 : decode cX11_takesClause 61 = .ok (.imul, 1) := by decide +kernel
theorem dX11_takesClause_62 : decode cX11_takesClause 62 = .ok (.iload_n 2, 1) := by decide +kernel
theorem dX11_takesClause_63 : decode cX11_takesClause 63 = .ok (.iadd, 1) := by decide +kernel
theorem dX11_takesClause_64 : decode cX11_takesClause 64 = .ok (.aload_n 0, 1) := by decide +kernel
theorem dX11_takesClause_65 : decode cX11_takesClause 65 = .ok (.getfield 289, 3) := by decide +kernel
theorem dX11_takesClause_68 : decode cX11_takesClause 68 = .ok (.iastore, 1) := by decide +kernel
theorem dX11_takesClause_69 : decode cX11_takesClause 69 = .ok (.aload_n 0, 1) := by decide +kernel
theorem dX11_takesClause_70 : decode cX11_takesClause 70 = .ok (.invokevirtual 304, 3) := by decide +kernel
theorem dX11_takesClause_73 : decode cX11_takesClause 73 = .ok (.iinc 2 1, 3) := by decide +kernel
theorem dX11_takesClause_76 : decode cX11_takesClause 76 = .ok (.goto (-39), 3) := by decide +kernel
theorem dX11_takesClause_79 : decode cX11_takesClause 79 = .ok (.aload_n 0, 1) := by decide +kernel
theorem dX11_takesClause_80 : decode cX11_takesClause 80 = .ok (.dup, 1) := by decide +kernel
theorem dX11_takesClause_81 : decode cX11_takesClause 81 = .ok (.getfield 298, 3) := by decide +kernel
theorem dX11_takesClause_84 : decode cX11_takesClause 84 = .ok (.iconst 1, 1) := by decide +kernel
theorem dX11_takesClause_85 : decode cX11_takesClause 85 = .ok (.iadd, 1) := by decide +kernel
theorem dX11_takesClause_86 : decode cX11_takesClause 86 = .ok (.putfield 298, 3) := by decide +kernel
theorem dX11_takesClause_89 : decode cX11_takesClause 89 = .ok (.iconst 1, 1) := by decide +kernel
theorem dX11_takesClause_90 : decode cX11_takesClause 90 = .ok (.ireturn, 1) := by decide +kernel
theorem dX11_takesAll_0 : decode cX11_takesAll 0 = .ok (.aload_n 0, 1) := by decide +kernel
theorem dX11_takesAll_1 : decode cX11_takesAll 1 = .ok (.iconst 0, 1) := by decide +kernel
theorem dX11_takesAll_2 : decode cX11_takesAll 2 = .ok (.putfield 256, 3) := by decide +kernel
theorem dX11_takesAll_5 : decode cX11_takesAll 5 = .ok (.aload_n 0, 1) := by decide +kernel
theorem dX11_takesAll_6 : decode cX11_takesAll 6 = .ok (.iconst 0, 1) := by decide +kernel
theorem dX11_takesAll_7 : decode cX11_takesAll 7 = .ok (.putfield 298, 3) := by decide +kernel
theorem dX11_takesAll_10 : decode cX11_takesAll 10 = .ok (.aload_n 0, 1) := by decide +kernel
theorem dX11_takesAll_11 : decode cX11_takesAll 11 = .ok (.invokevirtual 304, 3) := by decide +kernel
theorem dX11_takesAll_14 : decode cX11_takesAll 14 = .ok (.aload_n 0, 1) := by decide +kernel
theorem dX11_takesAll_15 : decode cX11_takesAll 15 = .ok (.invokevirtual 307, 3) := by decide +kernel
theorem dX11_takesAll_18 : decode cX11_takesAll 18 = .ok (.ifCond .ne 5, 3) := by decide +kernel
theorem dX11_takesAll_21 : decode cX11_takesAll 21 = .ok (.iconst 0, 1) := by decide +kernel
theorem dX11_takesAll_22 : decode cX11_takesAll 22 = .ok (.ireturn, 1) := by decide +kernel
theorem dX11_takesAll_23 : decode cX11_takesAll 23 = .ok (.aload_n 0, 1) := by decide +kernel
theorem dX11_takesAll_24 : decode cX11_takesAll 24 = .ok (.getfield 286, 3) := by decide +kernel
theorem dX11_takesAll_27 : decode cX11_takesAll 27 = .ok (.iconst 3, 1) := by decide +kernel
theorem dX11_takesAll_28 : decode cX11_takesAll 28 = .ok (.if_icmp .ne 16, 3) := by decide +kernel
theorem dX11_takesAll_31 : decode cX11_takesAll 31 = .ok (.aload_n 0, 1) := by decide +kernel
theorem dX11_takesAll_32 : decode cX11_takesAll 32 = .ok (.invokevirtual 304, 3) := by decide +kernel
theorem dX11_takesAll_35 : decode cX11_takesAll 35 = .ok (.aload_n 0, 1) := by decide +kernel
theorem dX11_takesAll_36 : decode cX11_takesAll 36 = .ok (.invokevirtual 307, 3) := by decide +kernel
theorem dX11_takesAll_39 : decode cX11_takesAll 39 = .ok (.ifCond .ne (-16), 3) := by decide +kernel
theorem dX11_takesAll_42 : decode cX11_takesAll 42 = .ok (.iconst 0, 1) := by decide +kernel
theorem dX11_takesAll_43 : decode cX11_takesAll 43 = .ok (.ireturn, 1) := by decide +kernel
theorem dX11_takesAll_44 : decode cX11_takesAll 44 = .ok (.aload_n 0, 1) := by decide +kernel
theorem dX11_takesAll_45 : decode cX11_takesAll 45 = .ok (.getfield 286, 3) := by decide +kernel
theorem dX11_takesAll_48 : decode cX11_takesAll 48 = .ok (.ifCond .ne 7, 3) := by decide +kernel
theorem dX11_takesAll_51 : decode cX11_takesAll 51 = .ok (.iconst 1, 1) := by decide +kernel
theorem dX11_takesAll_52 : decode cX11_takesAll 52 = .ok (.goto 4, 3) := by decide +kernel
theorem dX11_takesAll_55 : decode cX11_takesAll 55 = .ok (.iconst 0, 1) := by decide +kernel
theorem dX11_takesAll_56 : decode cX11_takesAll 56 = .ok (.ireturn, 1) := by decide +kernel
theorem dX11_isDone_0 : decode cX11_isDone 0 = .ok (.aload_n 0, 1) := by decide +kernel
theorem dX11_isDone_1 : decode cX11_isDone 1 = .ok (.getfield 51, 3) := by decide +kernel
theorem dX11_isDone_4 : decode cX11_isDone 4 = .ok (.iconst 4, 1) := by decide +kernel
theorem dX11_isDone_5 : decode cX11_isDone 5 = .ok (.iload_n 1, 1) := by decide +kernel
theorem dX11_isDone_6 : decode cX11_isDone 6 = .ok (.imul, 1) := by decide +kernel
theorem dX11_isDone_7 : decode cX11_isDone 7 = .ok (.iaload, 1) := by decide +kernel
theorem dX11_isDone_8 : decode cX11_isDone 8 = .ok (.istore_n 2, 1) := by decide +kernel
theorem dX11_isDone_9 : decode cX11_isDone 9 = .ok (.aload_n 0, 1) := by decide +kernel
theorem dX11_isDone_10 : decode cX11_isDone 10 = .ok (.getfield 51, 3) := by decide +kernel
theorem dX11_isDone_13 : decode cX11_isDone 13 = .ok (.iconst 4, 1) := by decide +kernel
theorem dX11_isDone_14 : decode cX11_isDone 14 = .ok (.iload_n 1, 1) := by decide +kernel
theorem dX11_isDone_15 : decode cX11_isDone 15 = .ok (.imul, 1) := by decide +kernel
theorem dX11_isDone_16 : decode cX11_isDone 16 = .ok (.iconst 1, 1) := by decide +kernel
theorem dX11_isDone_17 : decode cX11_isDone 17 = .ok (.iadd, 1) := by decide +kernel
theorem dX11_isDone_18 : decode cX11_isDone 18 = .ok (.iaload, 1) := by decide +kernel
theorem dX11_isDone_19 : decode cX11_isDone 19 = .ok (.istore_n 3, 1) := by decide +kernel
theorem dX11_isDone_20 : decode cX11_isDone 20 = .ok (.aload_n 0, 1) := by decide +kernel
theorem dX11_isDone_21 : decode cX11_isDone 21 = .ok (.getfield 48, 3) := by decide +kernel
theorem dX11_isDone_24 : decode cX11_isDone 24 = .ok (.iload_n 1, 1) := by decide +kernel
theorem dX11_isDone_25 : decode cX11_isDone 25 = .ok (.iaload, 1) := by decide +kernel
theorem dX11_isDone_26 : decode cX11_isDone 26 = .ok (.tableswitch 141 0 4 #[34, 69, 88, 107, 126], 34) := by decide +kernel
theorem dX11_isDone_60 : decode cX11_isDone 60 = .ok (.aload_n 0, 1) := by decide +kernel
theorem dX11_isDone_61 : decode cX11_isDone 61 = .ok (.iload_n 2, 1) := by decide +kernel
theorem dX11_isDone_62 : decode cX11_isDone 62 = .ok (.iload_n 3, 1) := by decide +kernel
theorem dX11_isDone_63 : decode cX11_isDone 63 = .ok (.aload_n 0, 1) := by decide +kernel
theorem dX11_isDone_64 : decode cX11_isDone 64 = .ok (.getfield 51, 3) := by decide +kernel
theorem dX11_isDone_67 : decode cX11_isDone 67 = .ok (.iconst 4, 1) := by decide +kernel
theorem dX11_isDone_68 : decode cX11_isDone 68 = .ok (.iload_n 1, 1) := by decide +kernel
theorem dX11_isDone_69 : decode cX11_isDone 69 = .ok (.imul, 1) := by decide +kernel
theorem dX11_isDone_70 : decode cX11_isDone 70 = .ok (.iconst 2, 1) := by decide +kernel
theorem dX11_isDone_71 : decode cX11_isDone 71 = .ok (.iadd, 1) := by decide +kernel
theorem dX11_isDone_72 : decode cX11_isDone 72 = .ok (.iaload, 1) := by decide +kernel
theorem dX11_isDone_73 : decode cX11_isDone 73 = .ok (.aload_n 0, 1) := by decide +kernel
theorem dX11_isDone_74 : decode cX11_isDone 74 = .ok (.getfield 51, 3) := by decide +kernel
theorem dX11_isDone_77 : decode cX11_isDone 77 = .ok (.iconst 4, 1) := by decide +kernel
theorem dX11_isDone_78 : decode cX11_isDone 78 = .ok (.iload_n 1, 1) := by decide +kernel
theorem dX11_isDone_79 : decode cX11_isDone 79 = .ok (.imul, 1) := by decide +kernel
theorem dX11_isDone_80 : decode cX11_isDone 80 = .ok (.iconst 3, 1) := by decide +kernel
theorem dX11_isDone_81 : decode cX11_isDone 81 = .ok (.iadd, 1) := by decide +kernel
theorem dX11_isDone_82 : decode cX11_isDone 82 = .ok (.iaload, 1) := by decide +kernel
theorem dX11_isDone_83 : decode cX11_isDone 83 = .ok (.invokevirtual 311, 3) := by decide +kernel
theorem dX11_isDone_86 : decode cX11_isDone 86 = .ok (.ifCond .lt 7, 3) := by decide +kernel
theorem dX11_isDone_89 : decode cX11_isDone 89 = .ok (.iconst 1, 1) := by decide +kernel
theorem dX11_isDone_90 : decode cX11_isDone 90 = .ok (.goto 4, 3) := by decide +kernel
theorem dX11_isDone_93 : decode cX11_isDone 93 = .ok (.iconst 0, 1) := by decide +kernel
theorem dX11_isDone_94 : decode cX11_isDone 94 = .ok (.ireturn, 1) := by decide +kernel
theorem dX11_isDone_95 : decode cX11_isDone 95 = .ok (.aload_n 0, 1) := by decide +kernel
theorem dX11_isDone_96 : decode cX11_isDone 96 = .ok (.iload_n 2, 1) := by decide +kernel
theorem dX11_isDone_97 : decode cX11_isDone 97 = .ok (.iconst 0, 1) := by decide +kernel
theorem dX11_isDone_98 : decode cX11_isDone 98 = .ok (.iload_n 3, 1) := by decide +kernel
theorem dX11_isDone_99 : decode cX11_isDone 99 = .ok (.invokevirtual 314, 3) := by decide +kernel
theorem dX11_isDone_102 : decode cX11_isDone 102 = .ok (.sipush (-1000), 3) := by decide +kernel
theorem dX11_isDone_105 : decode cX11_isDone 105 = .ok (.if_icmp .eq 7, 3) := by decide +kernel
theorem dX11_isDone_108 : decode cX11_isDone 108 = .ok (.iconst 1, 1) := by decide +kernel
theorem dX11_isDone_109 : decode cX11_isDone 109 = .ok (.goto 4, 3) := by decide +kernel
theorem dX11_isDone_112 : decode cX11_isDone 112 = .ok (.iconst 0, 1) := by decide +kernel
theorem dX11_isDone_113 : decode cX11_isDone 113 = .ok (.ireturn, 1) := by decide +kernel
theorem dX11_isDone_114 : decode cX11_isDone 114 = .ok (.aload_n 0, 1) := by decide +kernel
theorem dX11_isDone_115 : decode cX11_isDone 115 = .ok (.iload_n 2, 1) := by decide +kernel
theorem dX11_isDone_116 : decode cX11_isDone 116 = .ok (.iconst 1, 1) := by decide +kernel
theorem dX11_isDone_117 : decode cX11_isDone 117 = .ok (.iload_n 3, 1) := by decide +kernel
theorem dX11_isDone_118 : decode cX11_isDone 118 = .ok (.invokevirtual 314, 3) := by decide +kernel
theorem dX11_isDone_121 : decode cX11_isDone 121 = .ok (.sipush (-1000), 3) := by decide +kernel
theorem dX11_isDone_124 : decode cX11_isDone 124 = .ok (.if_icmp .eq 7, 3) := by decide +kernel
theorem dX11_isDone_127 : decode cX11_isDone 127 = .ok (.iconst 1, 1) := by decide +kernel
theorem dX11_isDone_128 : decode cX11_isDone 128 = .ok (.goto 4, 3) := by decide +kernel
theorem dX11_isDone_131 : decode cX11_isDone 131 = .ok (.iconst 0, 1) := by decide +kernel
theorem dX11_isDone_132 : decode cX11_isDone 132 = .ok (.ireturn, 1) := by decide +kernel
theorem dX11_isDone_133 : decode cX11_isDone 133 = .ok (.aload_n 0, 1) := by decide +kernel
theorem dX11_isDone_134 : decode cX11_isDone 134 = .ok (.iload_n 2, 1) := by decide +kernel
theorem dX11_isDone_135 : decode cX11_isDone 135 = .ok (.iconst 2, 1) := by decide +kernel
theorem dX11_isDone_136 : decode cX11_isDone 136 = .ok (.iload_n 3, 1) := by decide +kernel
theorem dX11_isDone_137 : decode cX11_isDone 137 = .ok (.invokevirtual 314, 3) := by decide +kernel
theorem dX11_isDone_140 : decode cX11_isDone 140 = .ok (.sipush (-1000), 3) := by decide +kernel
theorem dX11_isDone_143 : decode cX11_isDone 143 = .ok (.if_icmp .eq 7, 3) := by decide +kernel
theorem dX11_isDone_146 : decode cX11_isDone 146 = .ok (.iconst 1, 1) := by decide +kernel
theorem dX11_isDone_147 : decode cX11_isDone 147 = .ok (.goto 4, 3) := by decide +kernel
theorem dX11_isDone_150 : decode cX11_isDone 150 = .ok (.iconst 0, 1) := by decide +kernel
theorem dX11_isDone_151 : decode cX11_isDone 151 = .ok (.ireturn, 1) := by decide +kernel
theorem dX11_isDone_152 : decode cX11_isDone 152 = .ok (.aload_n 0, 1) := by decide +kernel
theorem dX11_isDone_153 : decode cX11_isDone 153 = .ok (.iload_n 2, 1) := by decide +kernel
theorem dX11_isDone_154 : decode cX11_isDone 154 = .ok (.iload_n 3, 1) := by decide +kernel
theorem dX11_isDone_155 : decode cX11_isDone 155 = .ok (.invokevirtual 317, 3) := by decide +kernel
theorem dX11_isDone_158 : decode cX11_isDone 158 = .ok (.ifCond .lt 7, 3) := by decide +kernel
theorem dX11_isDone_161 : decode cX11_isDone 161 = .ok (.iconst 1, 1) := by decide +kernel
theorem dX11_isDone_162 : decode cX11_isDone 162 = .ok (.goto 4, 3) := by decide +kernel
theorem dX11_isDone_165 : decode cX11_isDone 165 = .ok (.iconst 0, 1) := by decide +kernel
theorem dX11_isDone_166 : decode cX11_isDone 166 = .ok (.ireturn, 1) := by decide +kernel
theorem dX11_isDone_167 : decode cX11_isDone 167 = .ok (.aload_n 0, 1) := by decide +kernel
theorem dX11_isDone_168 : decode cX11_isDone 168 = .ok (.invokevirtual 319, 3) := by decide +kernel
theorem dX11_isDone_171 : decode cX11_isDone 171 = .ok (.ifCond .lt 7, 3) := by decide +kernel
theorem dX11_isDone_174 : decode cX11_isDone 174 = .ok (.iconst 1, 1) := by decide +kernel
theorem dX11_isDone_175 : decode cX11_isDone 175 = .ok (.goto 4, 3) := by decide +kernel
theorem dX11_isDone_178 : decode cX11_isDone 178 = .ok (.iconst 0, 1) := by decide +kernel
theorem dX11_isDone_179 : decode cX11_isDone 179 = .ok (.ireturn, 1) := by decide +kernel
theorem dX11_text_0 : decode cX11_text 0 = .ok (.aload_n 0, 1) := by decide +kernel
theorem dX11_text_1 : decode cX11_text 1 = .ok (.invokevirtual 321, 3) := by decide +kernel
theorem dX11_text_4 : decode cX11_text 4 = .ok (.istore_n 1, 1) := by decide +kernel
theorem dX11_text_5 : decode cX11_text 5 = .ok (.aload_n 0, 1) := by decide +kernel
theorem dX11_text_6 : decode cX11_text 6 = .ok (.getfield 272, 3) := by decide +kernel
theorem dX11_text_9 : decode cX11_text 9 = .ok (.istore_n 2, 1) := by decide +kernel
theorem dX11_text_10 : decode cX11_text 10 = .ok (.aload_n 0, 1) := by decide +kernel
theorem dX11_text_11 : decode cX11_text 11 = .ok (.iconst 0, 1) := by decide +kernel
theorem dX11_text_12 : decode cX11_text 12 = .ok (.putfield 253, 3) := by decide +kernel
theorem dX11_text_15 : decode cX11_text 15 = .ok (.iload_n 1, 1) := by decide +kernel
theorem dX11_text_16 : decode cX11_text 16 = .ok (.ifCond .ne 8, 3) := by decide +kernel
theorem dX11_text_19 : decode cX11_text 19 = .ok (.bipush (-100), 2) := by decide +kernel
theorem dX11_text_21 : decode cX11_text 21 = .ok (.iload_n 2, 1) := by decide +kernel
theorem dX11_text_22 : decode cX11_text 22 = .ok (.isub, 1) := by decide +kernel
theorem dX11_text_23 : decode cX11_text 23 = .ok (.ireturn, 1) := by decide +kernel
theorem dX11_text_24 : decode cX11_text 24 = .ok (.iconst 0, 1) := by decide +kernel
theorem dX11_text_25 : decode cX11_text 25 = .ok (.istore_n 3, 1) := by decide +kernel
theorem dX11_text_26 : decode cX11_text 26 = .ok (.iconst 0, 1) := by decide +kernel
theorem dX11_text_27 : decode cX11_text 27 = .ok (.istore 4, 2) := by decide +kernel
theorem dX11_text_29 : decode cX11_text 29 = .ok (.iload 4, 2) := by decide +kernel
theorem dX11_text_31 : decode cX11_text 31 = .ok (.aload_n 0, 1) := by decide +kernel
theorem dX11_text_32 : decode cX11_text 32 = .ok (.getfield 298, 3) := by decide +kernel
theorem dX11_text_35 : decode cX11_text 35 = .ok (.if_icmp .ge 21, 3) := by decide +kernel
theorem dX11_text_38 : decode cX11_text 38 = .ok (.aload_n 0, 1) := by decide +kernel
theorem dX11_text_39 : decode cX11_text 39 = .ok (.iload 4, 2) := by decide +kernel
theorem dX11_text_41 : decode cX11_text 41 = .ok (.invokevirtual 324, 3) := by decide +kernel
theorem dX11_text_44 : decode cX11_text 44 = .ok (.ifCond .eq 6, 3) := by decide +kernel
theorem dX11_text_47 : decode cX11_text 47 = .ok (.iinc 3 1, 3) := by decide +kernel
theorem dX11_text_50 : decode cX11_text 50 = .ok (.iinc 4 1, 3) := by decide +kernel
theorem dX11_text_53 : decode cX11_text 53 = .ok (.goto (-24), 3) := by decide +kernel
theorem dX11_text_56 : decode cX11_text 56 = .ok (.iload_n 3, 1) := by decide +kernel
theorem dX11_text_57 : decode cX11_text 57 = .ok (.ireturn, 1) := by decide +kernel
theorem dX11_rowAt_0 : decode cX11_rowAt 0 = .ok (.iload_n 1, 1) := by decide +kernel
theorem dX11_rowAt_1 : decode cX11_rowAt 1 = .ok (.tableswitch 51 0 3 #[31, 36, 41, 46], 31) := by decide +kernel
theorem dX11_rowAt_32 : decode cX11_rowAt 32 = .ok (.aload_n 0, 1) := by decide +kernel
theorem dX11_rowAt_33 : decode cX11_rowAt 33 = .ok (.getfield 11, 3) := by decide +kernel
theorem dX11_rowAt_36 : decode cX11_rowAt 36 = .ok (.areturn, 1) := by decide +kernel
theorem dX11_rowAt_37 : decode cX11_rowAt 37 = .ok (.aload_n 0, 1) := by decide +kernel
theorem dX11_rowAt_38 : decode cX11_rowAt 38 = .ok (.getfield 15, 3) := by decide +kernel
theorem dX11_rowAt_41 : decode cX11_rowAt 41 = .ok (.areturn, 1) := by decide +kernel
theorem dX11_rowAt_42 : decode cX11_rowAt 42 = .ok (.aload_n 0, 1) := by decide +kernel
theorem dX11_rowAt_43 : decode cX11_rowAt 43 = .ok (.getfield 18, 3) := by decide +kernel
theorem dX11_rowAt_46 : decode cX11_rowAt 46 = .ok (.areturn, 1) := by decide +kernel
theorem dX11_rowAt_47 : decode cX11_rowAt 47 = .ok (.aload_n 0, 1) := by decide +kernel
theorem dX11_rowAt_48 : decode cX11_rowAt 48 = .ok (.getfield 21, 3) := by decide +kernel
theorem dX11_rowAt_51 : decode cX11_rowAt 51 = .ok (.areturn, 1) := by decide +kernel
theorem dX11_rowAt_52 : decode cX11_rowAt 52 = .ok (.aload_n 0, 1) := by decide +kernel
theorem dX11_rowAt_53 : decode cX11_rowAt 53 = .ok (.getfield 24, 3) := by decide +kernel
theorem dX11_rowAt_56 : decode cX11_rowAt 56 = .ok (.areturn, 1) := by decide +kernel
theorem dX11_image_0 : decode cX11_image 0 = .ok (.aload_n 0, 1) := by decide +kernel
theorem dX11_image_1 : decode cX11_image 1 = .ok (.iconst 1, 1) := by decide +kernel
theorem dX11_image_2 : decode cX11_image 2 = .ok (.putfield 327, 3) := by decide +kernel
theorem dX11_image_5 : decode cX11_image 5 = .ok (.aload_n 0, 1) := by decide +kernel
theorem dX11_image_6 : decode cX11_image 6 = .ok (.aload_n 0, 1) := by decide +kernel
theorem dX11_image_7 : decode cX11_image 7 = .ok (.getfield 66, 3) := by decide +kernel
theorem dX11_image_10 : decode cX11_image 10 = .ok (.putfield 331, 3) := by decide +kernel
theorem dX11_image_13 : decode cX11_image 13 = .ok (.iconst 0, 1) := by decide +kernel
theorem dX11_image_14 : decode cX11_image 14 = .ok (.istore_n 1, 1) := by decide +kernel
theorem dX11_image_15 : decode cX11_image 15 = .ok (.iload_n 1, 1) := by decide +kernel
theorem dX11_image_16 : decode cX11_image 16 = .ok (.iconst 5, 1) := by decide +kernel
theorem dX11_image_17 : decode cX11_image 17 = .ok (.if_icmp .ge 26, 3) := by decide +kernel
theorem dX11_image_20 : decode cX11_image 20 = .ok (.aload_n 0, 1) := by decide +kernel
theorem dX11_image_21 : decode cX11_image 21 = .ok (.iload_n 1, 1) := by decide +kernel
theorem dX11_image_22 : decode cX11_image 22 = .ok (.invokevirtual 334, 3) := by decide +kernel
theorem dX11_image_25 : decode cX11_image 25 = .ok (.iconst 0, 1) := by decide +kernel
theorem dX11_image_26 : decode cX11_image 26 = .ok (.aload_n 0, 1) := by decide +kernel
theorem dX11_image_27 : decode cX11_image 27 = .ok (.getfield 54, 3) := by decide +kernel
theorem dX11_image_30 : decode cX11_image 30 = .ok (.iconst 4, 1) := by decide +kernel
theorem dX11_image_31 : decode cX11_image 31 = .ok (.iload_n 1, 1) := by decide +kernel
theorem dX11_image_32 : decode cX11_image 32 = .ok (.imul, 1) := by decide +kernel
theorem dX11_image_33 : decode cX11_image 33 = .ok (.iconst 4, 1) := by decide +kernel
theorem dX11_image_34 : decode cX11_image 34 = .ok (.invokestatic 223, 3) := by decide +kernel
theorem dX11_image_37 : decode cX11_image 37 = .ok (.iinc 1 1, 3) := by decide +kernel
theorem dX11_image_40 : decode cX11_image 40 = .ok (.goto (-25), 3) := by decide +kernel
theorem dX11_image_43 : decode cX11_image 43 = .ok (.aload_n 0, 1) := by decide +kernel
theorem dX11_image_44 : decode cX11_image 44 = .ok (.getfield 66, 3) := by decide +kernel
theorem dX11_image_47 : decode cX11_image 47 = .ok (.ireturn, 1) := by decide +kernel
theorem dX11_back_0 : decode cX11_back 0 = .ok (.aload_n 0, 1) := by decide +kernel
theorem dX11_back_1 : decode cX11_back 1 = .ok (.getfield 327, 3) := by decide +kernel
theorem dX11_back_4 : decode cX11_back 4 = .ok (.ifCond .ne 6, 3) := by decide +kernel
theorem dX11_back_7 : decode cX11_back 7 = .ok (.bipush (-3), 2) := by decide +kernel
theorem dX11_back_9 : decode cX11_back 9 = .ok (.ireturn, 1) := by decide +kernel
theorem dX11_back_10 : decode cX11_back 10 = .ok (.aload_n 0, 1) := by decide +kernel
theorem dX11_back_11 : decode cX11_back 11 = .ok (.aload_n 0, 1) := by decide +kernel
theorem dX11_back_12 : decode cX11_back 12 = .ok (.getfield 331, 3) := by decide +kernel
theorem dX11_back_15 : decode cX11_back 15 = .ok (.putfield 66, 3) := by decide +kernel
theorem dX11_back_18 : decode cX11_back 18 = .ok (.iconst 0, 1) := by decide +kernel
theorem dX11_back_19 : decode cX11_back 19 = .ok (.istore_n 1, 1) := by decide +kernel
theorem dX11_back_20 : decode cX11_back 20 = .ok (.iload_n 1, 1) := by decide +kernel
theorem dX11_back_21 : decode cX11_back 21 = .ok (.iconst 5, 1) := by decide +kernel
theorem dX11_back_22 : decode cX11_back 22 = .ok (.if_icmp .ge 26, 3) := by decide +kernel
theorem dX11_back_25 : decode cX11_back 25 = .ok (.aload_n 0, 1) := by decide +kernel
theorem dX11_back_26 : decode cX11_back 26 = .ok (.getfield 54, 3) := by decide +kernel
theorem dX11_back_29 : decode cX11_back 29 = .ok (.iconst 4, 1) := by decide +kernel
theorem dX11_back_30 : decode cX11_back 30 = .ok (.iload_n 1, 1) := by decide +kernel
theorem dX11_back_31 : decode cX11_back 31 = .ok (.imul, 1) := by decide +kernel
theorem dX11_back_32 : decode cX11_back 32 = .ok (.aload_n 0, 1) := by decide +kernel
theorem dX11_back_33 : decode cX11_back 33 = .ok (.iload_n 1, 1) := by decide +kernel
theorem dX11_back_34 : decode cX11_back 34 = .ok (.invokevirtual 334, 3) := by decide +kernel
theorem dX11_back_37 : decode cX11_back 37 = .ok (.iconst 0, 1) := by decide +kernel
theorem dX11_back_38 : decode cX11_back 38 = .ok (.iconst 4, 1) := by decide +kernel
theorem dX11_back_39 : decode cX11_back 39 = .ok (.invokestatic 223, 3) := by decide +kernel
theorem dX11_back_42 : decode cX11_back 42 = .ok (.iinc 1 1, 3) := by decide +kernel
theorem dX11_back_45 : decode cX11_back 45 = .ok (.goto (-25), 3) := by decide +kernel
theorem dX11_back_48 : decode cX11_back 48 = .ok (.aload_n 0, 1) := by decide +kernel
theorem dX11_back_49 : decode cX11_back 49 = .ok (.getfield 66, 3) := by decide +kernel
theorem dX11_back_52 : decode cX11_back 52 = .ok (.ireturn, 1) := by decide +kernel
theorem dX11_isWithin_0 : decode cX11_isWithin 0 = .ok (.iload_n 2, 1) := by decide +kernel
theorem dX11_isWithin_1 : decode cX11_isWithin 1 = .ok (.ifCond .lt 23, 3) := by decide +kernel
theorem dX11_isWithin_4 : decode cX11_isWithin 4 = .ok (.iload_n 3, 1) := by decide +kernel
theorem dX11_isWithin_5 : decode cX11_isWithin 5 = .ok (.ifCond .lt 19, 3) := by decide +kernel
theorem dX11_isWithin_8 : decode cX11_isWithin 8 = .ok (.iload_n 2, 1) := by decide +kernel
theorem dX11_isWithin_9 : decode cX11_isWithin 9 = .ok (.aload_n 0, 1) := by decide +kernel
theorem dX11_isWithin_10 : decode cX11_isWithin 10 = .ok (.getfield 60, 3) := by decide +kernel
theorem dX11_isWithin_13 : decode cX11_isWithin 13 = .ok (.iload_n 1, 1) := by decide +kernel
theorem dX11_isWithin_14 : decode cX11_isWithin 14 = .ok (.iaload, 1) := by decide +kernel
theorem dX11_isWithin_15 : decode cX11_isWithin 15 = .ok (.iload_n 3, 1) := by decide +kernel
theorem dX11_isWithin_16 : decode cX11_isWithin 16 = .ok (.isub, 1) := by decide +kernel
theorem dX11_isWithin_17 : decode cX11_isWithin 17 = .ok (.if_icmp .gt 7, 3) := by decide +kernel
theorem dX11_isWithin_20 : decode cX11_isWithin 20 = .ok (.iconst 1, 1) := by decide +kernel
theorem dX11_isWithin_21 : decode cX11_isWithin 21 = .ok (.goto 4, 3) := by decide +kernel
theorem dX11_isWithin_24 : decode cX11_isWithin 24 = .ok (.iconst 0, 1) := by decide +kernel
theorem dX11_isWithin_25 : decode cX11_isWithin 25 = .ok (.ireturn, 1) := by decide +kernel
theorem dX11_load_0 : decode cX11_load 0 = .ok (.iload_n 1, 1) := by decide +kernel
theorem dX11_load_1 : decode cX11_load 1 = .ok (.invokestatic 150, 3) := by decide +kernel
theorem dX11_load_4 : decode cX11_load 4 = .ok (.ifCond .eq 22, 3) := by decide +kernel
theorem dX11_load_7 : decode cX11_load 7 = .ok (.iload_n 2, 1) := by decide +kernel
theorem dX11_load_8 : decode cX11_load 8 = .ok (.iconst 0, 1) := by decide +kernel
theorem dX11_load_9 : decode cX11_load 9 = .ok (.iconst 1, 1) := by decide +kernel
theorem dX11_load_10 : decode cX11_load 10 = .ok (.invokestatic 70, 3) := by decide +kernel
theorem dX11_load_13 : decode cX11_load 13 = .ok (.ifCond .eq 13, 3) := by decide +kernel
theorem dX11_load_16 : decode cX11_load 16 = .ok (.iload 4, 2) := by decide +kernel
theorem dX11_load_18 : decode cX11_load 18 = .ok (.iconst 0, 1) := by decide +kernel
theorem dX11_load_19 : decode cX11_load 19 = .ok (.iconst 4, 1) := by decide +kernel
theorem dX11_load_20 : decode cX11_load 20 = .ok (.invokestatic 70, 3) := by decide +kernel
theorem dX11_load_23 : decode cX11_load 23 = .ok (.ifCond .ne 6, 3) := by decide +kernel
theorem dX11_load_26 : decode cX11_load 26 = .ok (.bipush (-2), 2) := by decide +kernel
theorem dX11_load_28 : decode cX11_load 28 = .ok (.ireturn, 1) := by decide +kernel
theorem dX11_load_29 : decode cX11_load 29 = .ok (.aload_n 0, 1) := by decide +kernel
theorem dX11_load_30 : decode cX11_load 30 = .ok (.getfield 57, 3) := by decide +kernel
theorem dX11_load_33 : decode cX11_load 33 = .ok (.iload_n 1, 1) := by decide +kernel
theorem dX11_load_34 : decode cX11_load 34 = .ok (.iaload, 1) := by decide +kernel
theorem dX11_load_35 : decode cX11_load 35 = .ok (.ifCond .ge 6, 3) := by decide +kernel
theorem dX11_load_38 : decode cX11_load 38 = .ok (.bipush (-11), 2) := by decide +kernel
theorem dX11_load_40 : decode cX11_load 40 = .ok (.ireturn, 1) := by decide +kernel
theorem dX11_load_41 : decode cX11_load 41 = .ok (.aload_n 0, 1) := by decide +kernel
theorem dX11_load_42 : decode cX11_load 42 = .ok (.getfield 57, 3) := by decide +kernel
theorem dX11_load_45 : decode cX11_load 45 = .ok (.iload_n 1, 1) := by decide +kernel
theorem dX11_load_46 : decode cX11_load 46 = .ok (.iaload, 1) := by decide +kernel
theorem dX11_load_47 : decode cX11_load 47 = .ok (.iload_n 2, 1) := by decide +kernel
theorem dX11_load_48 : decode cX11_load 48 = .ok (.if_icmp .eq 6, 3) := by decide +kernel
theorem dX11_load_51 : decode cX11_load 51 = .ok (.bipush (-13), 2) := by decide +kernel
theorem dX11_load_53 : decode cX11_load 53 = .ok (.ireturn, 1) := by decide +kernel
theorem dX11_load_54 : decode cX11_load 54 = .ok (.iconst 0, 1) := by decide +kernel
theorem dX11_load_55 : decode cX11_load 55 = .ok (.istore 5, 2) := by decide +kernel
theorem dX11_load_57 : decode cX11_load 57 = .ok (.iconst 0, 1) := by decide +kernel
theorem dX11_load_58 : decode cX11_load 58 = .ok (.istore 6, 2) := by decide +kernel
theorem dX11_load_60 : decode cX11_load 60 = .ok (.iload 6, 2) := by decide +kernel
theorem dX11_load_62 : decode cX11_load 62 = .ok (.iload 4, 2) := by decide +kernel
theorem dX11_load_64 : decode cX11_load 64 = .ok (.if_icmp .ge 88, 3) := by decide +kernel
theorem dX11_load_67 : decode cX11_load 67 = .ok (.iload_n 3, 1) := by decide +kernel
theorem dX11_load_68 : decode cX11_load 68 = .ok (.ifCond .lt 18, 3) := by decide +kernel
theorem dX11_load_71 : decode cX11_load 71 = .ok (.aload_n 0, 1) := by decide +kernel
theorem dX11_load_72 : decode cX11_load 72 = .ok (.iload_n 1, 1) := by decide +kernel
theorem dX11_load_73 : decode cX11_load 73 = .ok (.iload_n 3, 1) := by decide +kernel
theorem dX11_load_74 : decode cX11_load 74 = .ok (.iconst 4, 1) := by decide +kernel
theorem dX11_load_75 : decode cX11_load 75 = .ok (.iload 6, 2) := by decide +kernel
theorem dX11_load_77 : decode cX11_load 77 = .ok (.imul, 1) := by decide +kernel
theorem dX11_load_78 : decode cX11_load 78 = .ok (.iconst 4, 1) := by decide +kernel
theorem dX11_load_79 : decode cX11_load 79 = .ok (.iadd, 1) := by decide +kernel
theorem dX11_load_80 : decode cX11_load 80 = .ok (.invokevirtual 337, 3) := by decide +kernel
theorem dX11_load_83 : decode cX11_load 83 = .ok (.ifCond .ne 6, 3) := by decide +kernel
theorem dX11_load_86 : decode cX11_load 86 = .ok (.bipush (-12), 2) := by decide +kernel
theorem dX11_load_88 : decode cX11_load 88 = .ok (.ireturn, 1) := by decide +kernel
theorem dX11_load_89 : decode cX11_load 89 = .ok (.bipush 40, 2) := by decide +kernel
theorem dX11_load_91 : decode cX11_load 91 = .ok (.iload_n 1, 1) := by decide +kernel
theorem dX11_load_92 : decode cX11_load 92 = .ok (.imul, 1) := by decide +kernel
theorem dX11_load_93 : decode cX11_load 93 = .ok (.iload_n 3, 1) := by decide +kernel
theorem dX11_load_94 : decode cX11_load 94 = .ok (.iadd, 1) := by decide +kernel
theorem dX11_load_95 : decode cX11_load 95 = .ok (.iconst 4, 1) := by decide +kernel
theorem dX11_load_96 : decode cX11_load 96 = .ok (.iload 6, 2) := by decide +kernel
theorem dX11_load_98 : decode cX11_load 98 = .ok (.imul, 1) := by decide +kernel
theorem dX11_load_99 : decode cX11_load 99 = .ok (.iadd, 1) := by decide +kernel
theorem dX11_load_100 : decode cX11_load 100 = .ok (.istore 7, 2) := by decide +kernel
theorem dX11_load_102 : decode cX11_load 102 = .ok (.aload_n 0, 1) := by decide +kernel
theorem dX11_load_103 : decode cX11_load 103 = .ok (.aload_n 0, 1) := by decide +kernel
theorem dX11_load_104 : decode cX11_load 104 = .ok (.getfield 63, 3) := by decide +kernel
theorem dX11_load_107 : decode cX11_load 107 = .ok (.iload 7, 2) := by decide +kernel
theorem dX11_load_109 : decode cX11_load 109 = .ok (.iaload, 1) := by decide +kernel
theorem dX11_load_110 : decode cX11_load 110 = .ok (.aload_n 0, 1) := by decide +kernel
theorem dX11_load_111 : decode cX11_load 111 = .ok (.getfield 63, 3) := by decide +kernel
theorem dX11_load_114 : decode cX11_load 114 = .ok (.iload 7, 2) := by decide +kernel
theorem dX11_load_116 : decode cX11_load 116 = .ok (.iconst 1, 1) := by decide +kernel
theorem dX11_load_117 : decode cX11_load 117 = .ok (.iadd, 1) := by decide +kernel
theorem dX11_load_118 : decode cX11_load 118 = .ok (.iaload, 1) := by decide +kernel
theorem dX11_load_119 : decode cX11_load 119 = .ok (.aload_n 0, 1) := by decide +kernel
theorem dX11_load_120 : decode cX11_load 120 = .ok (.getfield 63, 3) := by decide +kernel
theorem dX11_load_123 : decode cX11_load 123 = .ok (.iload 7, 2) := by decide +kernel
theorem dX11_load_125 : decode cX11_load 125 = .ok (.iconst 2, 1) := by decide +kernel
theorem dX11_load_126 : decode cX11_load 126 = .ok (.iadd, 1) := by decide +kernel
theorem dX11_load_127 : decode cX11_load 127 = .ok (.iaload, 1) := by decide +kernel
theorem dX11_load_128 : decode cX11_load 128 = .ok (.aload_n 0, 1) := by decide +kernel
theorem dX11_load_129 : decode cX11_load 129 = .ok (.getfield 63, 3) := by decide +kernel
theorem dX11_load_132 : decode cX11_load 132 = .ok (.iload 7, 2) := by decide +kernel
theorem dX11_load_134 : decode cX11_load 134 = .ok (.iconst 3, 1) := by decide +kernel
theorem dX11_load_135 : decode cX11_load 135 = .ok (.iadd, 1) := by decide +kernel
theorem dX11_load_136 : decode cX11_load 136 = .ok (.iaload, 1) := by decide +kernel
theorem dX11_load_137 : decode cX11_load 137 = .ok (.invokevirtual 311, 3) := by decide +kernel
theorem dX11_load_140 : decode cX11_load 140 = .ok (.ifCond .lt 6, 3) := by decide +kernel
theorem dX11_load_143 : decode cX11_load 143 = .ok (.iinc 5 1, 3) := by decide +kernel
theorem dX11_load_146 : decode cX11_load 146 = .ok (.iinc 6 1, 3) := by decide +kernel
theorem dX11_load_149 : decode cX11_load 149 = .ok (.goto (-89), 3) := by decide +kernel
theorem dX11_load_152 : decode cX11_load 152 = .ok (.iload 5, 2) := by decide +kernel
theorem dX11_load_154 : decode cX11_load 154 = .ok (.ireturn, 1) := by decide +kernel
theorem dX11_count_0 : decode cX11_count 0 = .ok (.iconst 0, 1) := by decide +kernel
theorem dX11_count_1 : decode cX11_count 1 = .ok (.istore_n 2, 1) := by decide +kernel
theorem dX11_count_2 : decode cX11_count 2 = .ok (.iload_n 1, 1) := by decide +kernel
theorem dX11_count_3 : decode cX11_count 3 = .ok (.tableswitch 152 0 4 #[33, 38, 43, 70, 111], 33) := by decide +kernel
theorem dX11_count_36 : decode cX11_count 36 = .ok (.aload_n 0, 1) := by decide +kernel
theorem dX11_count_37 : decode cX11_count 37 = .ok (.getfield 66, 3) := by decide +kernel
theorem dX11_count_40 : decode cX11_count 40 = .ok (.ireturn, 1) := by decide +kernel
theorem dX11_count_41 : decode cX11_count 41 = .ok (.aload_n 0, 1) := by decide +kernel
theorem dX11_count_42 : decode cX11_count 42 = .ok (.getfield 253, 3) := by decide +kernel
theorem dX11_count_45 : decode cX11_count 45 = .ok (.ireturn, 1) := by decide +kernel
theorem dX11_count_46 : decode cX11_count 46 = .ok (.iconst 0, 1) := by decide +kernel
theorem dX11_count_47 : decode cX11_count 47 = .ok (.istore_n 3, 1) := by decide +kernel
theorem dX11_count_48 : decode cX11_count 48 = .ok (.iload_n 3, 1) := by decide +kernel
theorem dX11_count_49 : decode cX11_count 49 = .ok (.aload_n 0, 1) := by decide +kernel
theorem dX11_count_50 : decode cX11_count 50 = .ok (.getfield 66, 3) := by decide +kernel
theorem dX11_count_53 : decode cX11_count 53 = .ok (.if_icmp .ge 18, 3) := by decide +kernel
theorem dX11_count_56 : decode cX11_count 56 = .ok (.iload_n 2, 1) := by decide +kernel
theorem dX11_count_57 : decode cX11_count 57 = .ok (.aload_n 0, 1) := by decide +kernel
theorem dX11_count_58 : decode cX11_count 58 = .ok (.getfield 15, 3) := by decide +kernel
theorem dX11_count_61 : decode cX11_count 61 = .ok (.iload_n 3, 1) := by decide +kernel
theorem dX11_count_62 : decode cX11_count 62 = .ok (.iaload, 1) := by decide +kernel
theorem dX11_count_63 : decode cX11_count 63 = .ok (.iadd, 1) := by decide +kernel
theorem dX11_count_64 : decode cX11_count 64 = .ok (.istore_n 2, 1) := by decide +kernel
theorem dX11_count_65 : decode cX11_count 65 = .ok (.iinc 3 1, 3) := by decide +kernel
theorem dX11_count_68 : decode cX11_count 68 = .ok (.goto (-20), 3) := by decide +kernel
theorem dX11_count_71 : decode cX11_count 71 = .ok (.iload_n 2, 1) := by decide +kernel
theorem dX11_count_72 : decode cX11_count 72 = .ok (.ireturn, 1) := by decide +kernel
theorem dX11_count_73 : decode cX11_count 73 = .ok (.iconst 0, 1) := by decide +kernel
theorem dX11_count_74 : decode cX11_count 74 = .ok (.istore_n 3, 1) := by decide +kernel
theorem dX11_count_75 : decode cX11_count 75 = .ok (.iload_n 3, 1) := by decide +kernel
theorem dX11_count_76 : decode cX11_count 76 = .ok (.aload_n 0, 1) := by decide +kernel
theorem dX11_count_77 : decode cX11_count 77 = .ok (.getfield 66, 3) := by decide +kernel
theorem dX11_count_80 : decode cX11_count 80 = .ok (.if_icmp .ge 32, 3) := by decide +kernel
theorem dX11_count_83 : decode cX11_count 83 = .ok (.iload_n 2, 1) := by decide +kernel
theorem dX11_count_84 : decode cX11_count 84 = .ok (.aload_n 0, 1) := by decide +kernel
theorem dX11_count_85 : decode cX11_count 85 = .ok (.getfield 11, 3) := by decide +kernel
theorem dX11_count_88 : decode cX11_count 88 = .ok (.iload_n 3, 1) := by decide +kernel
theorem dX11_count_89 : decode cX11_count 89 = .ok (.iaload, 1) := by decide +kernel
theorem dX11_count_90 : decode cX11_count 90 = .ok (.iconst 1, 1) := by decide +kernel
theorem dX11_count_91 : decode cX11_count 91 = .ok (.invokestatic 106, 3) := by decide +kernel
theorem dX11_count_94 : decode cX11_count 94 = .ok (.ifCond .eq 9, 3) := by decide +kernel
theorem dX11_count_97 : decode cX11_count 97 = .ok (.iconst 1, 1) := by decide +kernel
theorem dX11_count_98 : decode cX11_count 98 = .ok (.iload_n 3, 1) := by decide +kernel
theorem dX11_count_99 : decode cX11_count 99 = .ok (.ishl, 1) := by decide +kernel
theorem dX11_count_100 : decode cX11_count 100 = .ok (.goto 4, 3) := by decide +kernel
theorem dX11_count_103 : decode cX11_count 103 = .ok (.iconst 0, 1) := by decide +kernel
theorem dX11_count_104 : decode cX11_count 104 = .ok (.ior, 1) := by decide +kernel
theorem dX11_count_105 : decode cX11_count 105 = .ok (.istore_n 2, 1) := by decide +kernel
theorem dX11_count_106 : decode cX11_count 106 = .ok (.iinc 3 1, 3) := by decide +kernel
theorem dX11_count_109 : decode cX11_count 109 = .ok (.goto (-34), 3) := by decide +kernel
theorem dX11_count_112 : decode cX11_count 112 = .ok (.iload_n 2, 1) := by decide +kernel
theorem dX11_count_113 : decode cX11_count 113 = .ok (.ireturn, 1) := by decide +kernel
theorem dX11_count_114 : decode cX11_count 114 = .ok (.iconst 0, 1) := by decide +kernel
theorem dX11_count_115 : decode cX11_count 115 = .ok (.istore_n 3, 1) := by decide +kernel
theorem dX11_count_116 : decode cX11_count 116 = .ok (.iload_n 3, 1) := by decide +kernel
theorem dX11_count_117 : decode cX11_count 117 = .ok (.aload_n 0, 1) := by decide +kernel
theorem dX11_count_118 : decode cX11_count 118 = .ok (.getfield 66, 3) := by decide +kernel
theorem dX11_count_121 : decode cX11_count 121 = .ok (.if_icmp .ge 32, 3) := by decide +kernel
theorem dX11_count_124 : decode cX11_count 124 = .ok (.iload_n 2, 1) := by decide +kernel
theorem dX11_count_125 : decode cX11_count 125 = .ok (.aload_n 0, 1) := by decide +kernel
theorem dX11_count_126 : decode cX11_count 126 = .ok (.getfield 11, 3) := by decide +kernel
theorem dX11_count_129 : decode cX11_count 129 = .ok (.iload_n 3, 1) := by decide +kernel
theorem dX11_count_130 : decode cX11_count 130 = .ok (.iaload, 1) := by decide +kernel
theorem dX11_count_131 : decode cX11_count 131 = .ok (.iconst 5, 1) := by decide +kernel
theorem dX11_count_132 : decode cX11_count 132 = .ok (.if_icmp .ne 12, 3) := by decide +kernel
theorem dX11_count_135 : decode cX11_count 135 = .ok (.aload_n 0, 1) := by decide +kernel
theorem dX11_count_136 : decode cX11_count 136 = .ok (.getfield 15, 3) := by decide +kernel
theorem dX11_count_139 : decode cX11_count 139 = .ok (.iload_n 3, 1) := by decide +kernel
theorem dX11_count_140 : decode cX11_count 140 = .ok (.iaload, 1) := by decide +kernel
theorem dX11_count_141 : decode cX11_count 141 = .ok (.goto 4, 3) := by decide +kernel
theorem dX11_count_144 : decode cX11_count 144 = .ok (.iconst 0, 1) := by decide +kernel
theorem dX11_count_145 : decode cX11_count 145 = .ok (.iadd, 1) := by decide +kernel
theorem dX11_count_146 : decode cX11_count 146 = .ok (.istore_n 2, 1) := by decide +kernel
theorem dX11_count_147 : decode cX11_count 147 = .ok (.iinc 3 1, 3) := by decide +kernel
theorem dX11_count_150 : decode cX11_count 150 = .ok (.goto (-34), 3) := by decide +kernel
theorem dX11_count_153 : decode cX11_count 153 = .ok (.iload_n 2, 1) := by decide +kernel
theorem dX11_count_154 : decode cX11_count 154 = .ok (.ireturn, 1) := by decide +kernel
theorem dX11_count_155 : decode cX11_count 155 = .ok (.bipush (-2), 2) := by decide +kernel
theorem dX11_count_157 : decode cX11_count 157 = .ok (.ireturn, 1) := by decide +kernel
theorem dX11_sheet_0 : decode cX11_sheet 0 = .ok (.iload_n 1, 1) := by decide +kernel
theorem dX11_sheet_1 : decode cX11_sheet 1 = .ok (.invokestatic 150, 3) := by decide +kernel
theorem dX11_sheet_4 : decode cX11_sheet 4 = .ok (.ifCond .eq 22, 3) := by decide +kernel
theorem dX11_sheet_7 : decode cX11_sheet 7 = .ok (.iload_n 2, 1) := by decide +kernel
theorem dX11_sheet_8 : decode cX11_sheet 8 = .ok (.iconst (-1), 1) := by decide +kernel
theorem dX11_sheet_9 : decode cX11_sheet 9 = .ok (.iconst 1, 1) := by decide +kernel
theorem dX11_sheet_10 : decode cX11_sheet 10 = .ok (.invokestatic 70, 3) := by decide +kernel
theorem dX11_sheet_13 : decode cX11_sheet 13 = .ok (.ifCond .eq 13, 3) := by decide +kernel
theorem dX11_sheet_16 : decode cX11_sheet 16 = .ok (.iload_n 2, 1) := by decide +kernel
theorem dX11_sheet_17 : decode cX11_sheet 17 = .ok (.ifCond .lt 12, 3) := by decide +kernel
theorem dX11_sheet_20 : decode cX11_sheet 20 = .ok (.iload_n 3, 1) := by decide +kernel
theorem dX11_sheet_21 : decode cX11_sheet 21 = .ok (.bipush 40, 2) := by decide +kernel
theorem dX11_sheet_23 : decode cX11_sheet 23 = .ok (.if_icmp .le 6, 3) := by decide +kernel
theorem dX11_sheet_26 : decode cX11_sheet 26 = .ok (.bipush (-2), 2) := by decide +kernel
theorem dX11_sheet_28 : decode cX11_sheet 28 = .ok (.ireturn, 1) := by decide +kernel
theorem dX11_sheet_29 : decode cX11_sheet 29 = .ok (.iload_n 2, 1) := by decide +kernel
theorem dX11_sheet_30 : decode cX11_sheet 30 = .ok (.ifCond .lt 10, 3) := by decide +kernel
theorem dX11_sheet_33 : decode cX11_sheet 33 = .ok (.iload_n 3, 1) := by decide +kernel
theorem dX11_sheet_34 : decode cX11_sheet 34 = .ok (.ifCond .ge 6, 3) := by decide +kernel
theorem dX11_sheet_37 : decode cX11_sheet 37 = .ok (.bipush (-14), 2) := by decide +kernel
theorem dX11_sheet_39 : decode cX11_sheet 39 = .ok (.ireturn, 1) := by decide +kernel
theorem dX11_sheet_40 : decode cX11_sheet 40 = .ok (.aload_n 0, 1) := by decide +kernel
theorem dX11_sheet_41 : decode cX11_sheet 41 = .ok (.getfield 57, 3) := by decide +kernel
theorem dX11_sheet_44 : decode cX11_sheet 44 = .ok (.iload_n 1, 1) := by decide +kernel
theorem dX11_sheet_45 : decode cX11_sheet 45 = .ok (.iload_n 2, 1) := by decide +kernel
theorem dX11_sheet_46 : decode cX11_sheet 46 = .ok (.iastore, 1) := by decide +kernel
theorem dX11_sheet_47 : decode cX11_sheet 47 = .ok (.aload_n 0, 1) := by decide +kernel
theorem dX11_sheet_48 : decode cX11_sheet 48 = .ok (.getfield 60, 3) := by decide +kernel
theorem dX11_sheet_51 : decode cX11_sheet 51 = .ok (.iload_n 1, 1) := by decide +kernel
theorem dX11_sheet_52 : decode cX11_sheet 52 = .ok (.iload_n 2, 1) := by decide +kernel
theorem dX11_sheet_53 : decode cX11_sheet 53 = .ok (.ifCond .ge 7, 3) := by decide +kernel
theorem dX11_sheet_56 : decode cX11_sheet 56 = .ok (.iconst 0, 1) := by decide +kernel
theorem dX11_sheet_57 : decode cX11_sheet 57 = .ok (.goto 4, 3) := by decide +kernel
theorem dX11_sheet_60 : decode cX11_sheet 60 = .ok (.iload_n 3, 1) := by decide +kernel
theorem dX11_sheet_61 : decode cX11_sheet 61 = .ok (.iastore, 1) := by decide +kernel
theorem dX11_sheet_62 : decode cX11_sheet 62 = .ok (.iconst 0, 1) := by decide +kernel
theorem dX11_sheet_63 : decode cX11_sheet 63 = .ok (.istore 4, 2) := by decide +kernel
theorem dX11_sheet_65 : decode cX11_sheet 65 = .ok (.iload 4, 2) := by decide +kernel
theorem dX11_sheet_67 : decode cX11_sheet 67 = .ok (.bipush 40, 2) := by decide +kernel
theorem dX11_sheet_69 : decode cX11_sheet 69 = .ok (.if_icmp .ge 22, 3) := by decide +kernel
theorem dX11_sheet_72 : decode cX11_sheet 72 = .ok (.aload_n 0, 1) := by decide +kernel
theorem dX11_sheet_73 : decode cX11_sheet 73 = .ok (.getfield 63, 3) := by decide +kernel
theorem dX11_sheet_76 : decode cX11_sheet 76 = .ok (.bipush 40, 2) := by decide +kernel
theorem dX11_sheet_78 : decode cX11_sheet 78 = .ok (.iload_n 1, 1) := by decide +kernel
theorem dX11_sheet_79 : decode cX11_sheet 79 = .ok (.imul, 1) := by decide +kernel
theorem dX11_sheet_80 : decode cX11_sheet 80 = .ok (.iload 4, 2) := by decide +kernel
theorem dX11_sheet_82 : decode cX11_sheet 82 = .ok (.iadd, 1) := by decide +kernel
theorem dX11_sheet_83 : decode cX11_sheet 83 = .ok (.iconst 0, 1) := by decide +kernel
theorem dX11_sheet_84 : decode cX11_sheet 84 = .ok (.iastore, 1) := by decide +kernel
theorem dX11_sheet_85 : decode cX11_sheet 85 = .ok (.iinc 4 1, 3) := by decide +kernel
theorem dX11_sheet_88 : decode cX11_sheet 88 = .ok (.goto (-23), 3) := by decide +kernel
theorem dX11_sheet_91 : decode cX11_sheet 91 = .ok (.iconst 1, 1) := by decide +kernel
theorem dX11_sheet_92 : decode cX11_sheet 92 = .ok (.ireturn, 1) := by decide +kernel
theorem dX11_put_0 : decode cX11_put 0 = .ok (.iload_n 1, 1) := by decide +kernel
theorem dX11_put_1 : decode cX11_put 1 = .ok (.invokestatic 150, 3) := by decide +kernel
theorem dX11_put_4 : decode cX11_put 4 = .ok (.ifCond .ne 6, 3) := by decide +kernel
theorem dX11_put_7 : decode cX11_put 7 = .ok (.bipush (-2), 2) := by decide +kernel
theorem dX11_put_9 : decode cX11_put 9 = .ok (.ireturn, 1) := by decide +kernel
theorem dX11_put_10 : decode cX11_put 10 = .ok (.aload_n 0, 1) := by decide +kernel
theorem dX11_put_11 : decode cX11_put 11 = .ok (.getfield 57, 3) := by decide +kernel
theorem dX11_put_14 : decode cX11_put 14 = .ok (.iload_n 1, 1) := by decide +kernel
theorem dX11_put_15 : decode cX11_put 15 = .ok (.iaload, 1) := by decide +kernel
theorem dX11_put_16 : decode cX11_put 16 = .ok (.ifCond .ge 6, 3) := by decide +kernel
theorem dX11_put_19 : decode cX11_put 19 = .ok (.bipush (-11), 2) := by decide +kernel
theorem dX11_put_21 : decode cX11_put 21 = .ok (.ireturn, 1) := by decide +kernel
theorem dX11_put_22 : decode cX11_put 22 = .ok (.iload_n 2, 1) := by decide +kernel
theorem dX11_put_23 : decode cX11_put 23 = .ok (.iconst 0, 1) := by decide +kernel
theorem dX11_put_24 : decode cX11_put 24 = .ok (.aload_n 0, 1) := by decide +kernel
theorem dX11_put_25 : decode cX11_put 25 = .ok (.getfield 60, 3) := by decide +kernel
theorem dX11_put_28 : decode cX11_put 28 = .ok (.iload_n 1, 1) := by decide +kernel
theorem dX11_put_29 : decode cX11_put 29 = .ok (.iaload, 1) := by decide +kernel
theorem dX11_put_30 : decode cX11_put 30 = .ok (.iconst 1, 1) := by decide +kernel
theorem dX11_put_31 : decode cX11_put 31 = .ok (.isub, 1) := by decide +kernel
theorem dX11_put_32 : decode cX11_put 32 = .ok (.invokestatic 70, 3) := by decide +kernel
theorem dX11_put_35 : decode cX11_put 35 = .ok (.ifCond .ne 6, 3) := by decide +kernel
theorem dX11_put_38 : decode cX11_put 38 = .ok (.bipush (-12), 2) := by decide +kernel
theorem dX11_put_40 : decode cX11_put 40 = .ok (.ireturn, 1) := by decide +kernel
theorem dX11_put_41 : decode cX11_put 41 = .ok (.aload_n 0, 1) := by decide +kernel
theorem dX11_put_42 : decode cX11_put 42 = .ok (.getfield 63, 3) := by decide +kernel
theorem dX11_put_45 : decode cX11_put 45 = .ok (.bipush 40, 2) := by decide +kernel
theorem dX11_put_47 : decode cX11_put 47 = .ok (.iload_n 1, 1) := by decide +kernel
theorem dX11_put_48 : decode cX11_put 48 = .ok (.imul, 1) := by decide +kernel
theorem dX11_put_49 : decode cX11_put 49 = .ok (.iload_n 2, 1) := by decide +kernel
theorem dX11_put_50 : decode cX11_put 50 = .ok (.iadd, 1) := by decide +kernel
theorem dX11_put_51 : decode cX11_put 51 = .ok (.aload_n 0, 1) := by decide +kernel
theorem dX11_put_52 : decode cX11_put 52 = .ok (.getfield 57, 3) := by decide +kernel
theorem dX11_put_55 : decode cX11_put 55 = .ok (.iload_n 1, 1) := by decide +kernel
theorem dX11_put_56 : decode cX11_put 56 = .ok (.iaload, 1) := by decide +kernel
theorem dX11_put_57 : decode cX11_put 57 = .ok (.ifCond .ne 8, 3) := by decide +kernel
theorem dX11_put_60 : decode cX11_put 60 = .ok (.iload_n 3, 1) := by decide +kernel
theorem dX11_put_61 : decode cX11_put 61 = .ok (.i2s, 1) := by decide +kernel
theorem dX11_put_62 : decode cX11_put 62 = .ok (.goto 4, 3) := by decide +kernel
theorem dX11_put_65 : decode cX11_put 65 = .ok (.iload_n 3, 1) := by decide +kernel
theorem dX11_put_66 : decode cX11_put 66 = .ok (.iastore, 1) := by decide +kernel
theorem dX11_put_67 : decode cX11_put 67 = .ok (.iconst 1, 1) := by decide +kernel
theorem dX11_put_68 : decode cX11_put 68 = .ok (.ireturn, 1) := by decide +kernel
theorem dX11_copy_0 : decode cX11_copy 0 = .ok (.iload_n 1, 1) := by decide +kernel
theorem dX11_copy_1 : decode cX11_copy 1 = .ok (.invokestatic 150, 3) := by decide +kernel
theorem dX11_copy_4 : decode cX11_copy 4 = .ok (.ifCond .eq 10, 3) := by decide +kernel
theorem dX11_copy_7 : decode cX11_copy 7 = .ok (.iload_n 3, 1) := by decide +kernel
theorem dX11_copy_8 : decode cX11_copy 8 = .ok (.invokestatic 150, 3) := by decide +kernel
theorem dX11_copy_11 : decode cX11_copy 11 = .ok (.ifCond .ne 6, 3) := by decide +kernel
theorem dX11_copy_14 : decode cX11_copy 14 = .ok (.bipush (-2), 2) := by decide +kernel
theorem dX11_copy_16 : decode cX11_copy 16 = .ok (.ireturn, 1) := by decide +kernel
theorem dX11_copy_17 : decode cX11_copy 17 = .ok (.aload_n 0, 1) := by decide +kernel
theorem dX11_copy_18 : decode cX11_copy 18 = .ok (.getfield 57, 3) := by decide +kernel
theorem dX11_copy_21 : decode cX11_copy 21 = .ok (.iload_n 1, 1) := by decide +kernel
theorem dX11_copy_22 : decode cX11_copy 22 = .ok (.iaload, 1) := by decide +kernel
theorem dX11_copy_23 : decode cX11_copy 23 = .ok (.ifCond .lt 12, 3) := by decide +kernel
theorem dX11_copy_26 : decode cX11_copy 26 = .ok (.aload_n 0, 1) := by decide +kernel
theorem dX11_copy_27 : decode cX11_copy 27 = .ok (.getfield 57, 3) := by decide +kernel
theorem dX11_copy_30 : decode cX11_copy 30 = .ok (.iload_n 3, 1) := by decide +kernel
theorem dX11_copy_31 : decode cX11_copy 31 = .ok (.iaload, 1) := by decide +kernel
theorem dX11_copy_32 : decode cX11_copy 32 = .ok (.ifCond .ge 6, 3) := by decide +kernel
theorem dX11_copy_35 : decode cX11_copy 35 = .ok (.bipush (-11), 2) := by decide +kernel
theorem dX11_copy_37 : decode cX11_copy 37 = .ok (.ireturn, 1) := by decide +kernel
theorem dX11_copy_38 : decode cX11_copy 38 = .ok (.aload_n 0, 1) := by decide +kernel
theorem dX11_copy_39 : decode cX11_copy 39 = .ok (.getfield 57, 3) := by decide +kernel
theorem dX11_copy_42 : decode cX11_copy 42 = .ok (.iload_n 1, 1) := by decide +kernel
theorem dX11_copy_43 : decode cX11_copy 43 = .ok (.iaload, 1) := by decide +kernel
theorem dX11_copy_44 : decode cX11_copy 44 = .ok (.aload_n 0, 1) := by decide +kernel
theorem dX11_copy_45 : decode cX11_copy 45 = .ok (.getfield 57, 3) := by decide +kernel
theorem dX11_copy_48 : decode cX11_copy 48 = .ok (.iload_n 3, 1) := by decide +kernel
theorem dX11_copy_49 : decode cX11_copy 49 = .ok (.iaload, 1) := by decide +kernel
theorem dX11_copy_50 : decode cX11_copy 50 = .ok (.if_icmp .eq 6, 3) := by decide +kernel
theorem dX11_copy_53 : decode cX11_copy 53 = .ok (.bipush (-13), 2) := by decide +kernel
theorem dX11_copy_55 : decode cX11_copy 55 = .ok (.ireturn, 1) := by decide +kernel
theorem dX11_copy_56 : decode cX11_copy 56 = .ok (.aload_n 0, 1) := by decide +kernel
theorem dX11_copy_57 : decode cX11_copy 57 = .ok (.iload_n 1, 1) := by decide +kernel
theorem dX11_copy_58 : decode cX11_copy 58 = .ok (.iload_n 2, 1) := by decide +kernel
theorem dX11_copy_59 : decode cX11_copy 59 = .ok (.iload 5, 2) := by decide +kernel
theorem dX11_copy_61 : decode cX11_copy 61 = .ok (.invokevirtual 337, 3) := by decide +kernel
theorem dX11_copy_64 : decode cX11_copy 64 = .ok (.ifCond .eq 15, 3) := by decide +kernel
theorem dX11_copy_67 : decode cX11_copy 67 = .ok (.aload_n 0, 1) := by decide +kernel
theorem dX11_copy_68 : decode cX11_copy 68 = .ok (.iload_n 3, 1) := by decide +kernel
theorem dX11_copy_69 : decode cX11_copy 69 = .ok (.iload 4, 2) := by decide +kernel
theorem dX11_copy_71 : decode cX11_copy 71 = .ok (.iload 5, 2) := by decide +kernel
theorem dX11_copy_73 : decode cX11_copy 73 = .ok (.invokevirtual 337, 3) := by decide +kernel
theorem dX11_copy_76 : decode cX11_copy 76 = .ok (.ifCond .ne 6, 3) := by decide +kernel
theorem dX11_copy_79 : decode cX11_copy 79 = .ok (.bipush (-12), 2) := by decide +kernel
theorem dX11_copy_81 : decode cX11_copy 81 = .ok (.ireturn, 1) := by decide +kernel
theorem dX11_copy_82 : decode cX11_copy 82 = .ok (.aload_n 0, 1) := by decide +kernel
theorem dX11_copy_83 : decode cX11_copy 83 = .ok (.getfield 63, 3) := by decide +kernel
theorem dX11_copy_86 : decode cX11_copy 86 = .ok (.bipush 40, 2) := by decide +kernel
theorem dX11_copy_88 : decode cX11_copy 88 = .ok (.iload_n 1, 1) := by decide +kernel
theorem dX11_copy_89 : decode cX11_copy 89 = .ok (.imul, 1) := by decide +kernel
theorem dX11_copy_90 : decode cX11_copy 90 = .ok (.iload_n 2, 1) := by decide +kernel
theorem dX11_copy_91 : decode cX11_copy 91 = .ok (.iadd, 1) := by decide +kernel
theorem dX11_copy_92 : decode cX11_copy 92 = .ok (.aload_n 0, 1) := by decide +kernel
theorem dX11_copy_93 : decode cX11_copy 93 = .ok (.getfield 63, 3) := by decide +kernel
theorem dX11_copy_96 : decode cX11_copy 96 = .ok (.bipush 40, 2) := by decide +kernel
theorem dX11_copy_98 : decode cX11_copy 98 = .ok (.iload_n 3, 1) := by decide +kernel
theorem dX11_copy_99 : decode cX11_copy 99 = .ok (.imul, 1) := by decide +kernel
theorem dX11_copy_100 : decode cX11_copy 100 = .ok (.iload 4, 2) := by decide +kernel
theorem dX11_copy_102 : decode cX11_copy 102 = .ok (.iadd, 1) := by decide +kernel
theorem dX11_copy_103 : decode cX11_copy 103 = .ok (.iload 5, 2) := by decide +kernel
theorem dX11_copy_105 : decode cX11_copy 105 = .ok (.invokestatic 223, 3) := by decide +kernel
theorem dX11_copy_108 : decode cX11_copy 108 = .ok (.iload 5, 2) := by decide +kernel
theorem dX11_copy_110 : decode cX11_copy 110 = .ok (.ireturn, 1) := by decide +kernel
theorem dJ6_numberOfLeadingZeros_0f7a4_0 : decode cJ6_numberOfLeadingZeros_0f7a4 0 = .ok (.iload_n 0, 1) := by decide +kernel
theorem dJ6_numberOfLeadingZeros_0f7a4_1 : decode cJ6_numberOfLeadingZeros_0f7a4 1 = .ok (.ifCond .gt 14, 3) := by decide +kernel
theorem dJ6_numberOfLeadingZeros_0f7a4_4 : decode cJ6_numberOfLeadingZeros_0f7a4 4 = .ok (.iload_n 0, 1) := by decide +kernel
theorem dJ6_numberOfLeadingZeros_0f7a4_5 : decode cJ6_numberOfLeadingZeros_0f7a4 5 = .ok (.ifCond .ne 8, 3) := by decide +kernel
theorem dJ6_numberOfLeadingZeros_0f7a4_8 : decode cJ6_numberOfLeadingZeros_0f7a4 8 = .ok (.bipush 32, 2) := by decide +kernel
theorem dJ6_numberOfLeadingZeros_0f7a4_10 : decode cJ6_numberOfLeadingZeros_0f7a4 10 = .ok (.goto 4, 3) := by decide +kernel
theorem dJ6_numberOfLeadingZeros_0f7a4_13 : decode cJ6_numberOfLeadingZeros_0f7a4 13 = .ok (.iconst 0, 1) := by decide +kernel
theorem dJ6_numberOfLeadingZeros_0f7a4_14 : decode cJ6_numberOfLeadingZeros_0f7a4 14 = .ok (.ireturn, 1) := by decide +kernel
theorem dJ6_numberOfLeadingZeros_0f7a4_15 : decode cJ6_numberOfLeadingZeros_0f7a4 15 = .ok (.bipush 31, 2) := by decide +kernel
theorem dJ6_numberOfLeadingZeros_0f7a4_17 : decode cJ6_numberOfLeadingZeros_0f7a4 17 = .ok (.istore_n 1, 1) := by decide +kernel
theorem dJ6_numberOfLeadingZeros_0f7a4_18 : decode cJ6_numberOfLeadingZeros_0f7a4 18 = .ok (.iload_n 0, 1) := by decide +kernel
theorem dJ6_numberOfLeadingZeros_0f7a4_19 : decode cJ6_numberOfLeadingZeros_0f7a4 19 = .ok (.ldc_w 264, 3) := by decide +kernel
theorem dJ6_numberOfLeadingZeros_0f7a4_22 : decode cJ6_numberOfLeadingZeros_0f7a4 22 = .ok (.if_icmp .lt 11, 3) := by decide +kernel
theorem dJ6_numberOfLeadingZeros_0f7a4_25 : decode cJ6_numberOfLeadingZeros_0f7a4 25 = .ok (.iinc 1 (-16), 3) := by decide +kernel
theorem dJ6_numberOfLeadingZeros_0f7a4_28 : decode cJ6_numberOfLeadingZeros_0f7a4 28 = .ok (.iload_n 0, 1) := by decide +kernel
theorem dJ6_numberOfLeadingZeros_0f7a4_29 : decode cJ6_numberOfLeadingZeros_0f7a4 29 = .ok (.bipush 16, 2) := by decide +kernel
theorem dJ6_numberOfLeadingZeros_0f7a4_31 : decode cJ6_numberOfLeadingZeros_0f7a4 31 = .ok (.iushr, 1) := by decide +kernel
theorem dJ6_numberOfLeadingZeros_0f7a4_32 : decode cJ6_numberOfLeadingZeros_0f7a4 32 = .ok (.istore_n 0, 1) := by decide +kernel
theorem dJ6_numberOfLeadingZeros_0f7a4_33 : decode cJ6_numberOfLeadingZeros_0f7a4 33 = .ok (.iload_n 0, 1) := by decide +kernel
theorem dJ6_numberOfLeadingZeros_0f7a4_34 : decode cJ6_numberOfLeadingZeros_0f7a4 34 = .ok (.sipush 256, 3) := by decide +kernel
theorem dJ6_numberOfLeadingZeros_0f7a4_37 : decode cJ6_numberOfLeadingZeros_0f7a4 37 = .ok (.if_icmp .lt 11, 3) := by decide +kernel
theorem dJ6_numberOfLeadingZeros_0f7a4_40 : decode cJ6_numberOfLeadingZeros_0f7a4 40 = .ok (.iinc 1 (-8), 3) := by decide +kernel
theorem dJ6_numberOfLeadingZeros_0f7a4_43 : decode cJ6_numberOfLeadingZeros_0f7a4 43 = .ok (.iload_n 0, 1) := by decide +kernel
theorem dJ6_numberOfLeadingZeros_0f7a4_44 : decode cJ6_numberOfLeadingZeros_0f7a4 44 = .ok (.bipush 8, 2) := by decide +kernel
theorem dJ6_numberOfLeadingZeros_0f7a4_46 : decode cJ6_numberOfLeadingZeros_0f7a4 46 = .ok (.iushr, 1) := by decide +kernel
theorem dJ6_numberOfLeadingZeros_0f7a4_47 : decode cJ6_numberOfLeadingZeros_0f7a4 47 = .ok (.istore_n 0, 1) := by decide +kernel
theorem dJ6_numberOfLeadingZeros_0f7a4_48 : decode cJ6_numberOfLeadingZeros_0f7a4 48 = .ok (.iload_n 0, 1) := by decide +kernel
theorem dJ6_numberOfLeadingZeros_0f7a4_49 : decode cJ6_numberOfLeadingZeros_0f7a4 49 = .ok (.bipush 16, 2) := by decide +kernel
theorem dJ6_numberOfLeadingZeros_0f7a4_51 : decode cJ6_numberOfLeadingZeros_0f7a4 51 = .ok (.if_icmp .lt 10, 3) := by decide +kernel
theorem dJ6_numberOfLeadingZeros_0f7a4_54 : decode cJ6_numberOfLeadingZeros_0f7a4 54 = .ok (.iinc 1 (-4), 3) := by decide +kernel
theorem dJ6_numberOfLeadingZeros_0f7a4_57 : decode cJ6_numberOfLeadingZeros_0f7a4 57 = .ok (.iload_n 0, 1) := by decide +kernel
theorem dJ6_numberOfLeadingZeros_0f7a4_58 : decode cJ6_numberOfLeadingZeros_0f7a4 58 = .ok (.iconst 4, 1) := by decide +kernel
theorem dJ6_numberOfLeadingZeros_0f7a4_59 : decode cJ6_numberOfLeadingZeros_0f7a4 59 = .ok (.iushr, 1) := by decide +kernel
theorem dJ6_numberOfLeadingZeros_0f7a4_60 : decode cJ6_numberOfLeadingZeros_0f7a4 60 = .ok (.istore_n 0, 1) := by decide +kernel
theorem dJ6_numberOfLeadingZeros_0f7a4_61 : decode cJ6_numberOfLeadingZeros_0f7a4 61 = .ok (.iload_n 0, 1) := by decide +kernel
theorem dJ6_numberOfLeadingZeros_0f7a4_62 : decode cJ6_numberOfLeadingZeros_0f7a4 62 = .ok (.iconst 4, 1) := by decide +kernel
theorem dJ6_numberOfLeadingZeros_0f7a4_63 : decode cJ6_numberOfLeadingZeros_0f7a4 63 = .ok (.if_icmp .lt 10, 3) := by decide +kernel
theorem dJ6_numberOfLeadingZeros_0f7a4_66 : decode cJ6_numberOfLeadingZeros_0f7a4 66 = .ok (.iinc 1 (-2), 3) := by decide +kernel
theorem dJ6_numberOfLeadingZeros_0f7a4_69 : decode cJ6_numberOfLeadingZeros_0f7a4 69 = .ok (.iload_n 0, 1) := by decide +kernel
theorem dJ6_numberOfLeadingZeros_0f7a4_70 : decode cJ6_numberOfLeadingZeros_0f7a4 70 = .ok (.iconst 2, 1) := by decide +kernel
theorem dJ6_numberOfLeadingZeros_0f7a4_71 : decode cJ6_numberOfLeadingZeros_0f7a4 71 = .ok (.iushr, 1) := by decide +kernel
theorem dJ6_numberOfLeadingZeros_0f7a4_72 : decode cJ6_numberOfLeadingZeros_0f7a4 72 = .ok (.istore_n 0, 1) := by decide +kernel
theorem dJ6_numberOfLeadingZeros_0f7a4_73 : decode cJ6_numberOfLeadingZeros_0f7a4 73 = .ok (.iload_n 1, 1) := by decide +kernel
theorem dJ6_numberOfLeadingZeros_0f7a4_74 : decode cJ6_numberOfLeadingZeros_0f7a4 74 = .ok (.iload_n 0, 1) := by decide +kernel
theorem dJ6_numberOfLeadingZeros_0f7a4_75 : decode cJ6_numberOfLeadingZeros_0f7a4 75 = .ok (.iconst 1, 1) := by decide +kernel
theorem dJ6_numberOfLeadingZeros_0f7a4_76 : decode cJ6_numberOfLeadingZeros_0f7a4 76 = .ok (.iushr, 1) := by decide +kernel
theorem dJ6_numberOfLeadingZeros_0f7a4_77 : decode cJ6_numberOfLeadingZeros_0f7a4 77 = .ok (.isub, 1) := by decide +kernel
theorem dJ6_numberOfLeadingZeros_0f7a4_78 : decode cJ6_numberOfLeadingZeros_0f7a4 78 = .ok (.ireturn, 1) := by decide +kernel
theorem dJ6_numberOfTrailingZeros_0f7a4_0 : decode cJ6_numberOfTrailingZeros_0f7a4 0 = .ok (.iload_n 0, 1) := by decide +kernel
theorem dJ6_numberOfTrailingZeros_0f7a4_1 : decode cJ6_numberOfTrailingZeros_0f7a4 1 = .ok (.iconst (-1), 1) := by decide +kernel
theorem dJ6_numberOfTrailingZeros_0f7a4_2 : decode cJ6_numberOfTrailingZeros_0f7a4 2 = .ok (.ixor, 1) := by decide +kernel
theorem dJ6_numberOfTrailingZeros_0f7a4_3 : decode cJ6_numberOfTrailingZeros_0f7a4 3 = .ok (.iload_n 0, 1) := by decide +kernel
theorem dJ6_numberOfTrailingZeros_0f7a4_4 : decode cJ6_numberOfTrailingZeros_0f7a4 4 = .ok (.iconst 1, 1) := by decide +kernel
theorem dJ6_numberOfTrailingZeros_0f7a4_5 : decode cJ6_numberOfTrailingZeros_0f7a4 5 = .ok (.isub, 1) := by decide +kernel
theorem dJ6_numberOfTrailingZeros_0f7a4_6 : decode cJ6_numberOfTrailingZeros_0f7a4 6 = .ok (.iand, 1) := by decide +kernel
theorem dJ6_numberOfTrailingZeros_0f7a4_7 : decode cJ6_numberOfTrailingZeros_0f7a4 7 = .ok (.istore_n 0, 1) := by decide +kernel
theorem dJ6_numberOfTrailingZeros_0f7a4_8 : decode cJ6_numberOfTrailingZeros_0f7a4 8 = .ok (.iload_n 0, 1) := by decide +kernel
theorem dJ6_numberOfTrailingZeros_0f7a4_9 : decode cJ6_numberOfTrailingZeros_0f7a4 9 = .ok (.ifCond .gt 8, 3) := by decide +kernel
theorem dJ6_numberOfTrailingZeros_0f7a4_12 : decode cJ6_numberOfTrailingZeros_0f7a4 12 = .ok (.iload_n 0, 1) := by decide +kernel
theorem dJ6_numberOfTrailingZeros_0f7a4_13 : decode cJ6_numberOfTrailingZeros_0f7a4 13 = .ok (.bipush 32, 2) := by decide +kernel
theorem dJ6_numberOfTrailingZeros_0f7a4_15 : decode cJ6_numberOfTrailingZeros_0f7a4 15 = .ok (.iand, 1) := by decide +kernel
theorem dJ6_numberOfTrailingZeros_0f7a4_16 : decode cJ6_numberOfTrailingZeros_0f7a4 16 = .ok (.ireturn, 1) := by decide +kernel
theorem dJ6_numberOfTrailingZeros_0f7a4_17 : decode cJ6_numberOfTrailingZeros_0f7a4 17 = .ok (.iconst 1, 1) := by decide +kernel
theorem dJ6_numberOfTrailingZeros_0f7a4_18 : decode cJ6_numberOfTrailingZeros_0f7a4 18 = .ok (.istore_n 1, 1) := by decide +kernel
theorem dJ6_numberOfTrailingZeros_0f7a4_19 : decode cJ6_numberOfTrailingZeros_0f7a4 19 = .ok (.iload_n 0, 1) := by decide +kernel
theorem dJ6_numberOfTrailingZeros_0f7a4_20 : decode cJ6_numberOfTrailingZeros_0f7a4 20 = .ok (.ldc_w 264, 3) := by decide +kernel
theorem dJ6_numberOfTrailingZeros_0f7a4_23 : decode cJ6_numberOfTrailingZeros_0f7a4 23 = .ok (.if_icmp .le 11, 3) := by decide +kernel
theorem dJ6_numberOfTrailingZeros_0f7a4_26 : decode cJ6_numberOfTrailingZeros_0f7a4 26 = .ok (.iinc 1 16, 3) := by decide +kernel
theorem dJ6_numberOfTrailingZeros_0f7a4_29 : decode cJ6_numberOfTrailingZeros_0f7a4 29 = .ok (.iload_n 0, 1) := by decide +kernel
theorem dJ6_numberOfTrailingZeros_0f7a4_30 : decode cJ6_numberOfTrailingZeros_0f7a4 30 = .ok (.bipush 16, 2) := by decide +kernel
theorem dJ6_numberOfTrailingZeros_0f7a4_32 : decode cJ6_numberOfTrailingZeros_0f7a4 32 = .ok (.iushr, 1) := by decide +kernel
theorem dJ6_numberOfTrailingZeros_0f7a4_33 : decode cJ6_numberOfTrailingZeros_0f7a4 33 = .ok (.istore_n 0, 1) := by decide +kernel
theorem dJ6_numberOfTrailingZeros_0f7a4_34 : decode cJ6_numberOfTrailingZeros_0f7a4 34 = .ok (.iload_n 0, 1) := by decide +kernel
theorem dJ6_numberOfTrailingZeros_0f7a4_35 : decode cJ6_numberOfTrailingZeros_0f7a4 35 = .ok (.sipush 256, 3) := by decide +kernel
theorem dJ6_numberOfTrailingZeros_0f7a4_38 : decode cJ6_numberOfTrailingZeros_0f7a4 38 = .ok (.if_icmp .le 11, 3) := by decide +kernel
theorem dJ6_numberOfTrailingZeros_0f7a4_41 : decode cJ6_numberOfTrailingZeros_0f7a4 41 = .ok (.iinc 1 8, 3) := by decide +kernel
theorem dJ6_numberOfTrailingZeros_0f7a4_44 : decode cJ6_numberOfTrailingZeros_0f7a4 44 = .ok (.iload_n 0, 1) := by decide +kernel
theorem dJ6_numberOfTrailingZeros_0f7a4_45 : decode cJ6_numberOfTrailingZeros_0f7a4 45 = .ok (.bipush 8, 2) := by decide +kernel
theorem dJ6_numberOfTrailingZeros_0f7a4_47 : decode cJ6_numberOfTrailingZeros_0f7a4 47 = .ok (.iushr, 1) := by decide +kernel
theorem dJ6_numberOfTrailingZeros_0f7a4_48 : decode cJ6_numberOfTrailingZeros_0f7a4 48 = .ok (.istore_n 0, 1) := by decide +kernel
theorem dJ6_numberOfTrailingZeros_0f7a4_49 : decode cJ6_numberOfTrailingZeros_0f7a4 49 = .ok (.iload_n 0, 1) := by decide +kernel
theorem dJ6_numberOfTrailingZeros_0f7a4_50 : decode cJ6_numberOfTrailingZeros_0f7a4 50 = .ok (.bipush 16, 2) := by decide +kernel
theorem dJ6_numberOfTrailingZeros_0f7a4_52 : decode cJ6_numberOfTrailingZeros_0f7a4 52 = .ok (.if_icmp .le 10, 3) := by decide +kernel
theorem dJ6_numberOfTrailingZeros_0f7a4_55 : decode cJ6_numberOfTrailingZeros_0f7a4 55 = .ok (.iinc 1 4, 3) := by decide +kernel
theorem dJ6_numberOfTrailingZeros_0f7a4_58 : decode cJ6_numberOfTrailingZeros_0f7a4 58 = .ok (.iload_n 0, 1) := by decide +kernel
theorem dJ6_numberOfTrailingZeros_0f7a4_59 : decode cJ6_numberOfTrailingZeros_0f7a4 59 = .ok (.iconst 4, 1) := by decide +kernel
theorem dJ6_numberOfTrailingZeros_0f7a4_60 : decode cJ6_numberOfTrailingZeros_0f7a4 60 = .ok (.iushr, 1) := by decide +kernel
theorem dJ6_numberOfTrailingZeros_0f7a4_61 : decode cJ6_numberOfTrailingZeros_0f7a4 61 = .ok (.istore_n 0, 1) := by decide +kernel
theorem dJ6_numberOfTrailingZeros_0f7a4_62 : decode cJ6_numberOfTrailingZeros_0f7a4 62 = .ok (.iload_n 0, 1) := by decide +kernel
theorem dJ6_numberOfTrailingZeros_0f7a4_63 : decode cJ6_numberOfTrailingZeros_0f7a4 63 = .ok (.iconst 4, 1) := by decide +kernel
theorem dJ6_numberOfTrailingZeros_0f7a4_64 : decode cJ6_numberOfTrailingZeros_0f7a4 64 = .ok (.if_icmp .le 10, 3) := by decide +kernel
theorem dJ6_numberOfTrailingZeros_0f7a4_67 : decode cJ6_numberOfTrailingZeros_0f7a4 67 = .ok (.iinc 1 2, 3) := by decide +kernel
theorem dJ6_numberOfTrailingZeros_0f7a4_70 : decode cJ6_numberOfTrailingZeros_0f7a4 70 = .ok (.iload_n 0, 1) := by decide +kernel
theorem dJ6_numberOfTrailingZeros_0f7a4_71 : decode cJ6_numberOfTrailingZeros_0f7a4 71 = .ok (.iconst 2, 1) := by decide +kernel
theorem dJ6_numberOfTrailingZeros_0f7a4_72 : decode cJ6_numberOfTrailingZeros_0f7a4 72 = .ok (.iushr, 1) := by decide +kernel
theorem dJ6_numberOfTrailingZeros_0f7a4_73 : decode cJ6_numberOfTrailingZeros_0f7a4 73 = .ok (.istore_n 0, 1) := by decide +kernel
theorem dJ6_numberOfTrailingZeros_0f7a4_74 : decode cJ6_numberOfTrailingZeros_0f7a4 74 = .ok (.iload_n 1, 1) := by decide +kernel
theorem dJ6_numberOfTrailingZeros_0f7a4_75 : decode cJ6_numberOfTrailingZeros_0f7a4 75 = .ok (.iload_n 0, 1) := by decide +kernel
theorem dJ6_numberOfTrailingZeros_0f7a4_76 : decode cJ6_numberOfTrailingZeros_0f7a4 76 = .ok (.iconst 1, 1) := by decide +kernel
theorem dJ6_numberOfTrailingZeros_0f7a4_77 : decode cJ6_numberOfTrailingZeros_0f7a4 77 = .ok (.iushr, 1) := by decide +kernel
theorem dJ6_numberOfTrailingZeros_0f7a4_78 : decode cJ6_numberOfTrailingZeros_0f7a4 78 = .ok (.iadd, 1) := by decide +kernel
theorem dJ6_numberOfTrailingZeros_0f7a4_79 : decode cJ6_numberOfTrailingZeros_0f7a4 79 = .ok (.ireturn, 1) := by decide +kernel
theorem dJ6_bitCount_0f7a4_0 : decode cJ6_bitCount_0f7a4 0 = .ok (.iload_n 0, 1) := by decide +kernel
theorem dJ6_bitCount_0f7a4_1 : decode cJ6_bitCount_0f7a4 1 = .ok (.iload_n 0, 1) := by decide +kernel
theorem dJ6_bitCount_0f7a4_2 : decode cJ6_bitCount_0f7a4 2 = .ok (.iconst 1, 1) := by decide +kernel
theorem dJ6_bitCount_0f7a4_3 : decode cJ6_bitCount_0f7a4 3 = .ok (.iushr, 1) := by decide +kernel
theorem dJ6_bitCount_0f7a4_4 : decode cJ6_bitCount_0f7a4 4 = .ok (.ldc_w 265, 3) := by decide +kernel
theorem dJ6_bitCount_0f7a4_7 : decode cJ6_bitCount_0f7a4 7 = .ok (.iand, 1) := by decide +kernel
theorem dJ6_bitCount_0f7a4_8 : decode cJ6_bitCount_0f7a4 8 = .ok (.isub, 1) := by decide +kernel
theorem dJ6_bitCount_0f7a4_9 : decode cJ6_bitCount_0f7a4 9 = .ok (.istore_n 0, 1) := by decide +kernel
theorem dJ6_bitCount_0f7a4_10 : decode cJ6_bitCount_0f7a4 10 = .ok (.iload_n 0, 1) := by decide +kernel
theorem dJ6_bitCount_0f7a4_11 : decode cJ6_bitCount_0f7a4 11 = .ok (.ldc_w 266, 3) := by decide +kernel
theorem dJ6_bitCount_0f7a4_14 : decode cJ6_bitCount_0f7a4 14 = .ok (.iand, 1) := by decide +kernel
theorem dJ6_bitCount_0f7a4_15 : decode cJ6_bitCount_0f7a4 15 = .ok (.iload_n 0, 1) := by decide +kernel
theorem dJ6_bitCount_0f7a4_16 : decode cJ6_bitCount_0f7a4 16 = .ok (.iconst 2, 1) := by decide +kernel
theorem dJ6_bitCount_0f7a4_17 : decode cJ6_bitCount_0f7a4 17 = .ok (.iushr, 1) := by decide +kernel
theorem dJ6_bitCount_0f7a4_18 : decode cJ6_bitCount_0f7a4 18 = .ok (.ldc_w 266, 3) := by decide +kernel
theorem dJ6_bitCount_0f7a4_21 : decode cJ6_bitCount_0f7a4 21 = .ok (.iand, 1) := by decide +kernel
theorem dJ6_bitCount_0f7a4_22 : decode cJ6_bitCount_0f7a4 22 = .ok (.iadd, 1) := by decide +kernel
theorem dJ6_bitCount_0f7a4_23 : decode cJ6_bitCount_0f7a4 23 = .ok (.istore_n 0, 1) := by decide +kernel
theorem dJ6_bitCount_0f7a4_24 : decode cJ6_bitCount_0f7a4 24 = .ok (.iload_n 0, 1) := by decide +kernel
theorem dJ6_bitCount_0f7a4_25 : decode cJ6_bitCount_0f7a4 25 = .ok (.iload_n 0, 1) := by decide +kernel
theorem dJ6_bitCount_0f7a4_26 : decode cJ6_bitCount_0f7a4 26 = .ok (.iconst 4, 1) := by decide +kernel
theorem dJ6_bitCount_0f7a4_27 : decode cJ6_bitCount_0f7a4 27 = .ok (.iushr, 1) := by decide +kernel
theorem dJ6_bitCount_0f7a4_28 : decode cJ6_bitCount_0f7a4 28 = .ok (.iadd, 1) := by decide +kernel
theorem dJ6_bitCount_0f7a4_29 : decode cJ6_bitCount_0f7a4 29 = .ok (.ldc_w 267, 3) := by decide +kernel
theorem dJ6_bitCount_0f7a4_32 : decode cJ6_bitCount_0f7a4 32 = .ok (.iand, 1) := by decide +kernel
theorem dJ6_bitCount_0f7a4_33 : decode cJ6_bitCount_0f7a4 33 = .ok (.istore_n 0, 1) := by decide +kernel
theorem dJ6_bitCount_0f7a4_34 : decode cJ6_bitCount_0f7a4 34 = .ok (.iload_n 0, 1) := by decide +kernel
theorem dJ6_bitCount_0f7a4_35 : decode cJ6_bitCount_0f7a4 35 = .ok (.iload_n 0, 1) := by decide +kernel
theorem dJ6_bitCount_0f7a4_36 : decode cJ6_bitCount_0f7a4 36 = .ok (.bipush 8, 2) := by decide +kernel
theorem dJ6_bitCount_0f7a4_38 : decode cJ6_bitCount_0f7a4 38 = .ok (.iushr, 1) := by decide +kernel
theorem dJ6_bitCount_0f7a4_39 : decode cJ6_bitCount_0f7a4 39 = .ok (.iadd, 1) := by decide +kernel
theorem dJ6_bitCount_0f7a4_40 : decode cJ6_bitCount_0f7a4 40 = .ok (.istore_n 0, 1) := by decide +kernel
theorem dJ6_bitCount_0f7a4_41 : decode cJ6_bitCount_0f7a4 41 = .ok (.iload_n 0, 1) := by decide +kernel
theorem dJ6_bitCount_0f7a4_42 : decode cJ6_bitCount_0f7a4 42 = .ok (.iload_n 0, 1) := by decide +kernel
theorem dJ6_bitCount_0f7a4_43 : decode cJ6_bitCount_0f7a4 43 = .ok (.bipush 16, 2) := by decide +kernel
theorem dJ6_bitCount_0f7a4_45 : decode cJ6_bitCount_0f7a4 45 = .ok (.iushr, 1) := by decide +kernel
theorem dJ6_bitCount_0f7a4_46 : decode cJ6_bitCount_0f7a4 46 = .ok (.iadd, 1) := by decide +kernel
theorem dJ6_bitCount_0f7a4_47 : decode cJ6_bitCount_0f7a4 47 = .ok (.istore_n 0, 1) := by decide +kernel
theorem dJ6_bitCount_0f7a4_48 : decode cJ6_bitCount_0f7a4 48 = .ok (.iload_n 0, 1) := by decide +kernel
theorem dJ6_bitCount_0f7a4_49 : decode cJ6_bitCount_0f7a4 49 = .ok (.bipush 63, 2) := by decide +kernel
theorem dJ6_bitCount_0f7a4_51 : decode cJ6_bitCount_0f7a4 51 = .ok (.iand, 1) := by decide +kernel
theorem dJ6_bitCount_0f7a4_52 : decode cJ6_bitCount_0f7a4 52 = .ok (.ireturn, 1) := by decide +kernel
theorem dJ13_numberOfLeadingZeros_95d88_0 : decode cJ13_numberOfLeadingZeros_95d88 0 = .ok (.lload_n 0, 1) := by decide +kernel
theorem dJ13_numberOfLeadingZeros_95d88_1 : decode cJ13_numberOfLeadingZeros_95d88 1 = .ok (.bipush 32, 2) := by decide +kernel
theorem dJ13_numberOfLeadingZeros_95d88_3 : decode cJ13_numberOfLeadingZeros_95d88 3 = .ok (.lushr, 1) := by decide +kernel
theorem dJ13_numberOfLeadingZeros_95d88_4 : decode cJ13_numberOfLeadingZeros_95d88 4 = .ok (.l2i, 1) := by decide +kernel
theorem dJ13_numberOfLeadingZeros_95d88_5 : decode cJ13_numberOfLeadingZeros_95d88 5 = .ok (.istore_n 2, 1) := by decide +kernel
theorem dJ13_numberOfLeadingZeros_95d88_6 : decode cJ13_numberOfLeadingZeros_95d88 6 = .ok (.iload_n 2, 1) := by decide +kernel
theorem dJ13_numberOfLeadingZeros_95d88_7 : decode cJ13_numberOfLeadingZeros_95d88 7 = .ok (.ifCond .ne 14, 3) := by decide +kernel
theorem dJ13_numberOfLeadingZeros_95d88_10 : decode cJ13_numberOfLeadingZeros_95d88 10 = .ok (.bipush 32, 2) := by decide +kernel
theorem dJ13_numberOfLeadingZeros_95d88_12 : decode cJ13_numberOfLeadingZeros_95d88 12 = .ok (.lload_n 0, 1) := by decide +kernel
theorem dJ13_numberOfLeadingZeros_95d88_13 : decode cJ13_numberOfLeadingZeros_95d88 13 = .ok (.l2i, 1) := by decide +kernel
theorem dJ13_numberOfLeadingZeros_95d88_14 : decode cJ13_numberOfLeadingZeros_95d88 14 = .ok (.invokestatic 308, 3) := by decide +kernel
theorem dJ13_numberOfLeadingZeros_95d88_17 : decode cJ13_numberOfLeadingZeros_95d88 17 = .ok (.iadd, 1) := by decide +kernel
theorem dJ13_numberOfLeadingZeros_95d88_18 : decode cJ13_numberOfLeadingZeros_95d88 18 = .ok (.goto 7, 3) := by decide +kernel
theorem dJ13_numberOfLeadingZeros_95d88_21 : decode cJ13_numberOfLeadingZeros_95d88 21 = .ok (.iload_n 2, 1) := by decide +kernel
theorem dJ13_numberOfLeadingZeros_95d88_22 : decode cJ13_numberOfLeadingZeros_95d88 22 = .ok (.invokestatic 308, 3) := by decide +kernel
theorem dJ13_numberOfLeadingZeros_95d88_25 : decode cJ13_numberOfLeadingZeros_95d88 25 = .ok (.ireturn, 1) := by decide +kernel
theorem dJ13_numberOfTrailingZeros_95d88_0 : decode cJ13_numberOfTrailingZeros_95d88 0 = .ok (.lload_n 0, 1) := by decide +kernel
theorem dJ13_numberOfTrailingZeros_95d88_1 : decode cJ13_numberOfTrailingZeros_95d88 1 = .ok (.l2i, 1) := by decide +kernel
theorem dJ13_numberOfTrailingZeros_95d88_2 : decode cJ13_numberOfTrailingZeros_95d88 2 = .ok (.istore_n 2, 1) := by decide +kernel
theorem dJ13_numberOfTrailingZeros_95d88_3 : decode cJ13_numberOfTrailingZeros_95d88 3 = .ok (.iload_n 2, 1) := by decide +kernel
theorem dJ13_numberOfTrailingZeros_95d88_4 : decode cJ13_numberOfTrailingZeros_95d88 4 = .ok (.ifCond .ne 17, 3) := by decide +kernel
theorem dJ13_numberOfTrailingZeros_95d88_7 : decode cJ13_numberOfTrailingZeros_95d88 7 = .ok (.bipush 32, 2) := by decide +kernel
theorem dJ13_numberOfTrailingZeros_95d88_9 : decode cJ13_numberOfTrailingZeros_95d88 9 = .ok (.lload_n 0, 1) := by decide +kernel
theorem dJ13_numberOfTrailingZeros_95d88_10 : decode cJ13_numberOfTrailingZeros_95d88 10 = .ok (.bipush 32, 2) := by decide +kernel
theorem dJ13_numberOfTrailingZeros_95d88_12 : decode cJ13_numberOfTrailingZeros_95d88 12 = .ok (.lushr, 1) := by decide +kernel
theorem dJ13_numberOfTrailingZeros_95d88_13 : decode cJ13_numberOfTrailingZeros_95d88 13 = .ok (.l2i, 1) := by decide +kernel
theorem dJ13_numberOfTrailingZeros_95d88_14 : decode cJ13_numberOfTrailingZeros_95d88 14 = .ok (.invokestatic 311, 3) := by decide +kernel
theorem dJ13_numberOfTrailingZeros_95d88_17 : decode cJ13_numberOfTrailingZeros_95d88 17 = .ok (.iadd, 1) := by decide +kernel
theorem dJ13_numberOfTrailingZeros_95d88_18 : decode cJ13_numberOfTrailingZeros_95d88 18 = .ok (.goto 7, 3) := by decide +kernel
theorem dJ13_numberOfTrailingZeros_95d88_21 : decode cJ13_numberOfTrailingZeros_95d88 21 = .ok (.iload_n 2, 1) := by decide +kernel
theorem dJ13_numberOfTrailingZeros_95d88_22 : decode cJ13_numberOfTrailingZeros_95d88 22 = .ok (.invokestatic 311, 3) := by decide +kernel
theorem dJ13_numberOfTrailingZeros_95d88_25 : decode cJ13_numberOfTrailingZeros_95d88 25 = .ok (.ireturn, 1) := by decide +kernel
theorem dJ13_bitCount_95d88_0 : decode cJ13_bitCount_95d88 0 = .ok (.lload_n 0, 1) := by decide +kernel
theorem dJ13_bitCount_95d88_1 : decode cJ13_bitCount_95d88 1 = .ok (.lload_n 0, 1) := by decide +kernel
theorem dJ13_bitCount_95d88_2 : decode cJ13_bitCount_95d88 2 = .ok (.iconst 1, 1) := by decide +kernel
theorem dJ13_bitCount_95d88_3 : decode cJ13_bitCount_95d88 3 = .ok (.lushr, 1) := by decide +kernel
theorem dJ13_bitCount_95d88_4 : decode cJ13_bitCount_95d88 4 = .ok (.ldc2_w 314, 3) := by decide +kernel
theorem dJ13_bitCount_95d88_7 : decode cJ13_bitCount_95d88 7 = .ok (.land, 1) := by decide +kernel
theorem dJ13_bitCount_95d88_8 : decode cJ13_bitCount_95d88 8 = .ok (.lsub, 1) := by decide +kernel
theorem dJ13_bitCount_95d88_9 : decode cJ13_bitCount_95d88 9 = .ok (.lstore_n 0, 1) := by decide +kernel
theorem dJ13_bitCount_95d88_10 : decode cJ13_bitCount_95d88 10 = .ok (.lload_n 0, 1) := by decide +kernel
theorem dJ13_bitCount_95d88_11 : decode cJ13_bitCount_95d88 11 = .ok (.ldc2_w 316, 3) := by decide +kernel
theorem dJ13_bitCount_95d88_14 : decode cJ13_bitCount_95d88 14 = .ok (.land, 1) := by decide +kernel
theorem dJ13_bitCount_95d88_15 : decode cJ13_bitCount_95d88 15 = .ok (.lload_n 0, 1) := by decide +kernel
theorem dJ13_bitCount_95d88_16 : decode cJ13_bitCount_95d88 16 = .ok (.iconst 2, 1) := by decide +kernel
theorem dJ13_bitCount_95d88_17 : decode cJ13_bitCount_95d88 17 = .ok (.lushr, 1) := by decide +kernel
theorem dJ13_bitCount_95d88_18 : decode cJ13_bitCount_95d88 18 = .ok (.ldc2_w 316, 3) := by decide +kernel
theorem dJ13_bitCount_95d88_21 : decode cJ13_bitCount_95d88 21 = .ok (.land, 1) := by decide +kernel
theorem dJ13_bitCount_95d88_22 : decode cJ13_bitCount_95d88 22 = .ok (.ladd, 1) := by decide +kernel
theorem dJ13_bitCount_95d88_23 : decode cJ13_bitCount_95d88 23 = .ok (.lstore_n 0, 1) := by decide +kernel
theorem dJ13_bitCount_95d88_24 : decode cJ13_bitCount_95d88 24 = .ok (.lload_n 0, 1) := by decide +kernel
theorem dJ13_bitCount_95d88_25 : decode cJ13_bitCount_95d88 25 = .ok (.lload_n 0, 1) := by decide +kernel
theorem dJ13_bitCount_95d88_26 : decode cJ13_bitCount_95d88 26 = .ok (.iconst 4, 1) := by decide +kernel
theorem dJ13_bitCount_95d88_27 : decode cJ13_bitCount_95d88 27 = .ok (.lushr, 1) := by decide +kernel
theorem dJ13_bitCount_95d88_28 : decode cJ13_bitCount_95d88 28 = .ok (.ladd, 1) := by decide +kernel
theorem dJ13_bitCount_95d88_29 : decode cJ13_bitCount_95d88 29 = .ok (.ldc2_w 318, 3) := by decide +kernel
theorem dJ13_bitCount_95d88_32 : decode cJ13_bitCount_95d88 32 = .ok (.land, 1) := by decide +kernel
theorem dJ13_bitCount_95d88_33 : decode cJ13_bitCount_95d88 33 = .ok (.lstore_n 0, 1) := by decide +kernel
theorem dJ13_bitCount_95d88_34 : decode cJ13_bitCount_95d88 34 = .ok (.lload_n 0, 1) := by decide +kernel
theorem dJ13_bitCount_95d88_35 : decode cJ13_bitCount_95d88 35 = .ok (.lload_n 0, 1) := by decide +kernel
theorem dJ13_bitCount_95d88_36 : decode cJ13_bitCount_95d88 36 = .ok (.bipush 8, 2) := by decide +kernel
theorem dJ13_bitCount_95d88_38 : decode cJ13_bitCount_95d88 38 = .ok (.lushr, 1) := by decide +kernel
theorem dJ13_bitCount_95d88_39 : decode cJ13_bitCount_95d88 39 = .ok (.ladd, 1) := by decide +kernel
theorem dJ13_bitCount_95d88_40 : decode cJ13_bitCount_95d88 40 = .ok (.lstore_n 0, 1) := by decide +kernel
theorem dJ13_bitCount_95d88_41 : decode cJ13_bitCount_95d88 41 = .ok (.lload_n 0, 1) := by decide +kernel
theorem dJ13_bitCount_95d88_42 : decode cJ13_bitCount_95d88 42 = .ok (.lload_n 0, 1) := by decide +kernel
theorem dJ13_bitCount_95d88_43 : decode cJ13_bitCount_95d88 43 = .ok (.bipush 16, 2) := by decide +kernel
theorem dJ13_bitCount_95d88_45 : decode cJ13_bitCount_95d88 45 = .ok (.lushr, 1) := by decide +kernel
theorem dJ13_bitCount_95d88_46 : decode cJ13_bitCount_95d88 46 = .ok (.ladd, 1) := by decide +kernel
theorem dJ13_bitCount_95d88_47 : decode cJ13_bitCount_95d88 47 = .ok (.lstore_n 0, 1) := by decide +kernel
theorem dJ13_bitCount_95d88_48 : decode cJ13_bitCount_95d88 48 = .ok (.lload_n 0, 1) := by decide +kernel
theorem dJ13_bitCount_95d88_49 : decode cJ13_bitCount_95d88 49 = .ok (.lload_n 0, 1) := by decide +kernel
theorem dJ13_bitCount_95d88_50 : decode cJ13_bitCount_95d88 50 = .ok (.bipush 32, 2) := by decide +kernel
theorem dJ13_bitCount_95d88_52 : decode cJ13_bitCount_95d88 52 = .ok (.lushr, 1) := by decide +kernel
theorem dJ13_bitCount_95d88_53 : decode cJ13_bitCount_95d88 53 = .ok (.ladd, 1) := by decide +kernel
theorem dJ13_bitCount_95d88_54 : decode cJ13_bitCount_95d88 54 = .ok (.lstore_n 0, 1) := by decide +kernel
theorem dJ13_bitCount_95d88_55 : decode cJ13_bitCount_95d88 55 = .ok (.lload_n 0, 1) := by decide +kernel
theorem dJ13_bitCount_95d88_56 : decode cJ13_bitCount_95d88 56 = .ok (.l2i, 1) := by decide +kernel
theorem dJ13_bitCount_95d88_57 : decode cJ13_bitCount_95d88 57 = .ok (.bipush 127, 2) := by decide +kernel
theorem dJ13_bitCount_95d88_59 : decode cJ13_bitCount_95d88 59 = .ok (.iand, 1) := by decide +kernel
theorem dJ13_bitCount_95d88_60 : decode cJ13_bitCount_95d88 60 = .ok (.ireturn, 1) := by decide +kernel
theorem dJ9_floorDiv_f86c9_0 : decode cJ9_floorDiv_f86c9 0 = .ok (.lload_n 0, 1) := by decide +kernel
theorem dJ9_floorDiv_f86c9_1 : decode cJ9_floorDiv_f86c9 1 = .ok (.lload_n 2, 1) := by decide +kernel
theorem dJ9_floorDiv_f86c9_2 : decode cJ9_floorDiv_f86c9 2 = .ok (.ldiv, 1) := by decide +kernel
theorem dJ9_floorDiv_f86c9_3 : decode cJ9_floorDiv_f86c9 3 = .ok (.lstore 4, 2) := by decide +kernel
theorem dJ9_floorDiv_f86c9_5 : decode cJ9_floorDiv_f86c9 5 = .ok (.lload_n 0, 1) := by decide +kernel
theorem dJ9_floorDiv_f86c9_6 : decode cJ9_floorDiv_f86c9 6 = .ok (.lload_n 2, 1) := by decide +kernel
theorem dJ9_floorDiv_f86c9_7 : decode cJ9_floorDiv_f86c9 7 = .ok (.lxor, 1) := by decide +kernel
theorem dJ9_floorDiv_f86c9_8 : decode cJ9_floorDiv_f86c9 8 = .ok (.lconst 0, 1) := by decide +kernel
theorem dJ9_floorDiv_f86c9_9 : decode cJ9_floorDiv_f86c9 9 = .ok (.lcmp, 1) := by decide +kernel
theorem dJ9_floorDiv_f86c9_10 : decode cJ9_floorDiv_f86c9 10 = .ok (.ifCond .ge 17, 3) := by decide +kernel
theorem dJ9_floorDiv_f86c9_13 : decode cJ9_floorDiv_f86c9 13 = .ok (.lload 4, 2) := by decide +kernel
theorem dJ9_floorDiv_f86c9_15 : decode cJ9_floorDiv_f86c9 15 = .ok (.lload_n 2, 1) := by decide +kernel
theorem dJ9_floorDiv_f86c9_16 : decode cJ9_floorDiv_f86c9 16 = .ok (.lmul, 1) := by decide +kernel
theorem dJ9_floorDiv_f86c9_17 : decode cJ9_floorDiv_f86c9 17 = .ok (.lload_n 0, 1) := by decide +kernel
theorem dJ9_floorDiv_f86c9_18 : decode cJ9_floorDiv_f86c9 18 = .ok (.lcmp, 1) := by decide +kernel
theorem dJ9_floorDiv_f86c9_19 : decode cJ9_floorDiv_f86c9 19 = .ok (.ifCond .eq 8, 3) := by decide +kernel
theorem dJ9_floorDiv_f86c9_22 : decode cJ9_floorDiv_f86c9 22 = .ok (.lload 4, 2) := by decide +kernel
theorem dJ9_floorDiv_f86c9_24 : decode cJ9_floorDiv_f86c9 24 = .ok (.lconst 1, 1) := by decide +kernel
theorem dJ9_floorDiv_f86c9_25 : decode cJ9_floorDiv_f86c9 25 = .ok (.lsub, 1) := by decide +kernel
theorem dJ9_floorDiv_f86c9_26 : decode cJ9_floorDiv_f86c9 26 = .ok (.lreturn, 1) := by decide +kernel
theorem dJ9_floorDiv_f86c9_27 : decode cJ9_floorDiv_f86c9 27 = .ok (.lload 4, 2) := by decide +kernel
theorem dJ9_floorDiv_f86c9_29 : decode cJ9_floorDiv_f86c9 29 = .ok (.lreturn, 1) := by decide +kernel
theorem dJ9_abs_0f7a4_0 : decode cJ9_abs_0f7a4 0 = .ok (.iload_n 0, 1) := by decide +kernel
theorem dJ9_abs_0f7a4_1 : decode cJ9_abs_0f7a4 1 = .ok (.ifCond .ge 8, 3) := by decide +kernel
theorem dJ9_abs_0f7a4_4 : decode cJ9_abs_0f7a4 4 = .ok (.iload_n 0, 1) := by decide +kernel
theorem dJ9_abs_0f7a4_5 : decode cJ9_abs_0f7a4 5 = .ok (.ineg, 1) := by decide +kernel
theorem dJ9_abs_0f7a4_6 : decode cJ9_abs_0f7a4 6 = .ok (.goto 4, 3) := by decide +kernel
theorem dJ9_abs_0f7a4_9 : decode cJ9_abs_0f7a4 9 = .ok (.iload_n 0, 1) := by decide +kernel
theorem dJ9_abs_0f7a4_10 : decode cJ9_abs_0f7a4 10 = .ok (.ireturn, 1) := by decide +kernel
theorem dJ9_abs_067f4_0 : decode cJ9_abs_067f4 0 = .ok (.lload_n 0, 1) := by decide +kernel
theorem dJ9_abs_067f4_1 : decode cJ9_abs_067f4 1 = .ok (.lconst 0, 1) := by decide +kernel
theorem dJ9_abs_067f4_2 : decode cJ9_abs_067f4 2 = .ok (.lcmp, 1) := by decide +kernel
theorem dJ9_abs_067f4_3 : decode cJ9_abs_067f4 3 = .ok (.ifCond .ge 8, 3) := by decide +kernel
theorem dJ9_abs_067f4_6 : decode cJ9_abs_067f4 6 = .ok (.lload_n 0, 1) := by decide +kernel
theorem dJ9_abs_067f4_7 : decode cJ9_abs_067f4 7 = .ok (.lneg, 1) := by decide +kernel
theorem dJ9_abs_067f4_8 : decode cJ9_abs_067f4 8 = .ok (.goto 4, 3) := by decide +kernel
theorem dJ9_abs_067f4_11 : decode cJ9_abs_067f4 11 = .ok (.lload_n 0, 1) := by decide +kernel
theorem dJ9_abs_067f4_12 : decode cJ9_abs_067f4 12 = .ok (.lreturn, 1) := by decide +kernel
theorem dJ9_max_f86c9_0 : decode cJ9_max_f86c9 0 = .ok (.lload_n 0, 1) := by decide +kernel
theorem dJ9_max_f86c9_1 : decode cJ9_max_f86c9 1 = .ok (.lload_n 2, 1) := by decide +kernel
theorem dJ9_max_f86c9_2 : decode cJ9_max_f86c9 2 = .ok (.lcmp, 1) := by decide +kernel
theorem dJ9_max_f86c9_3 : decode cJ9_max_f86c9 3 = .ok (.ifCond .lt 7, 3) := by decide +kernel
theorem dJ9_max_f86c9_6 : decode cJ9_max_f86c9 6 = .ok (.lload_n 0, 1) := by decide +kernel
theorem dJ9_max_f86c9_7 : decode cJ9_max_f86c9 7 = .ok (.goto 4, 3) := by decide +kernel
theorem dJ9_max_f86c9_10 : decode cJ9_max_f86c9 10 = .ok (.lload_n 2, 1) := by decide +kernel
theorem dJ9_max_f86c9_11 : decode cJ9_max_f86c9 11 = .ok (.lreturn, 1) := by decide +kernel
theorem dJ9_min_7cf53_0 : decode cJ9_min_7cf53 0 = .ok (.iload_n 0, 1) := by decide +kernel
theorem dJ9_min_7cf53_1 : decode cJ9_min_7cf53 1 = .ok (.iload_n 1, 1) := by decide +kernel
theorem dJ9_min_7cf53_2 : decode cJ9_min_7cf53 2 = .ok (.if_icmp .gt 7, 3) := by decide +kernel
theorem dJ9_min_7cf53_5 : decode cJ9_min_7cf53 5 = .ok (.iload_n 0, 1) := by decide +kernel
theorem dJ9_min_7cf53_6 : decode cJ9_min_7cf53 6 = .ok (.goto 4, 3) := by decide +kernel
theorem dJ9_min_7cf53_9 : decode cJ9_min_7cf53 9 = .ok (.iload_n 1, 1) := by decide +kernel
theorem dJ9_min_7cf53_10 : decode cJ9_min_7cf53 10 = .ok (.ireturn, 1) := by decide +kernel
theorem dJ0_length_8abf5_0 : decode cJ0_length_8abf5 0 = .ok (.aload_n 0, 1) := by decide +kernel
theorem dJ0_length_8abf5_1 : decode cJ0_length_8abf5 1 = .ok (.getfield 9, 3) := by decide +kernel
theorem dJ0_length_8abf5_4 : decode cJ0_length_8abf5 4 = .ok (.arraylength, 1) := by decide +kernel
theorem dJ0_length_8abf5_5 : decode cJ0_length_8abf5 5 = .ok (.aload_n 0, 1) := by decide +kernel
theorem dJ0_length_8abf5_6 : decode cJ0_length_8abf5 6 = .ok (.invokevirtual 335, 3) := by decide +kernel
theorem dJ0_length_8abf5_9 : decode cJ0_length_8abf5 9 = .ok (.ishr, 1) := by decide +kernel
theorem dJ0_length_8abf5_10 : decode cJ0_length_8abf5 10 = .ok (.ireturn, 1) := by decide +kernel
theorem dJ0_charAt_5068e_0 : decode cJ0_charAt_5068e 0 = .ok (.aload_n 0, 1) := by decide +kernel
theorem dJ0_charAt_5068e_1 : decode cJ0_charAt_5068e 1 = .ok (.invokevirtual 492, 3) := by decide +kernel
theorem dJ0_charAt_5068e_4 : decode cJ0_charAt_5068e 4 = .ok (.ifCond .eq 12, 3) := by decide +kernel
theorem dJ0_charAt_5068e_7 : decode cJ0_charAt_5068e 7 = .ok (.aload_n 0, 1) := by decide +kernel
theorem dJ0_charAt_5068e_8 : decode cJ0_charAt_5068e 8 = .ok (.getfield 9, 3) := by decide +kernel
theorem dJ0_charAt_5068e_11 : decode cJ0_charAt_5068e 11 = .ok (.iload_n 1, 1) := by decide +kernel
theorem dJ0_charAt_5068e_12 : decode cJ0_charAt_5068e 12 = .ok (.invokestatic 495, 3) := by decide +kernel
theorem dJ0_charAt_5068e_15 : decode cJ0_charAt_5068e 15 = .ok (.ireturn, 1) := by decide +kernel
theorem dJ0_charAt_5068e_16 : decode cJ0_charAt_5068e 16 = .ok (.aload_n 0, 1) := by decide +kernel
theorem dJ0_charAt_5068e_17 : decode cJ0_charAt_5068e 17 = .ok (.getfield 9, 3) := by decide +kernel
theorem dJ0_charAt_5068e_20 : decode cJ0_charAt_5068e 20 = .ok (.iload_n 1, 1) := by decide +kernel
theorem dJ0_charAt_5068e_21 : decode cJ0_charAt_5068e 21 = .ok (.invokestatic 498, 3) := by decide +kernel
theorem dJ0_charAt_5068e_24 : decode cJ0_charAt_5068e 24 = .ok (.ireturn, 1) := by decide +kernel
theorem dJ0_coder_7d493_0 : decode cJ0_coder_7d493 0 = .ok (.getstatic 38, 3) := by decide +kernel
theorem dJ0_coder_7d493_3 : decode cJ0_coder_7d493 3 = .ok (.ifCond .eq 10, 3) := by decide +kernel
theorem dJ0_coder_7d493_6 : decode cJ0_coder_7d493 6 = .ok (.aload_n 0, 1) := by decide +kernel
theorem dJ0_coder_7d493_7 : decode cJ0_coder_7d493 7 = .ok (.getfield 15, 3) := by decide +kernel
theorem dJ0_coder_7d493_10 : decode cJ0_coder_7d493 10 = .ok (.goto 4, 3) := by decide +kernel
theorem dJ0_coder_7d493_13 : decode cJ0_coder_7d493 13 = .ok (.iconst 1, 1) := by decide +kernel
theorem dJ0_coder_7d493_14 : decode cJ0_coder_7d493 14 = .ok (.ireturn, 1) := by decide +kernel
theorem dJ0_isLatin1_aae02_0 : decode cJ0_isLatin1_aae02 0 = .ok (.getstatic 38, 3) := by decide +kernel
theorem dJ0_isLatin1_aae02_3 : decode cJ0_isLatin1_aae02 3 = .ok (.ifCond .eq 14, 3) := by decide +kernel
theorem dJ0_isLatin1_aae02_6 : decode cJ0_isLatin1_aae02 6 = .ok (.aload_n 0, 1) := by decide +kernel
theorem dJ0_isLatin1_aae02_7 : decode cJ0_isLatin1_aae02 7 = .ok (.getfield 15, 3) := by decide +kernel
theorem dJ0_isLatin1_aae02_10 : decode cJ0_isLatin1_aae02 10 = .ok (.ifCond .ne 7, 3) := by decide +kernel
theorem dJ0_isLatin1_aae02_13 : decode cJ0_isLatin1_aae02 13 = .ok (.iconst 1, 1) := by decide +kernel
theorem dJ0_isLatin1_aae02_14 : decode cJ0_isLatin1_aae02 14 = .ok (.goto 4, 3) := by decide +kernel
theorem dJ0_isLatin1_aae02_17 : decode cJ0_isLatin1_aae02 17 = .ok (.iconst 0, 1) := by decide +kernel
theorem dJ0_isLatin1_aae02_18 : decode cJ0_isLatin1_aae02 18 = .ok (.ireturn, 1) := by decide +kernel
theorem dJ0_checkIndex_df160_0 : decode cJ0_checkIndex_df160 0 = .ok (.iload_n 0, 1) := by decide +kernel
theorem dJ0_checkIndex_df160_1 : decode cJ0_checkIndex_df160 1 = .ok (.iload_n 1, 1) := by decide +kernel
theorem dJ0_checkIndex_df160_2 : decode cJ0_checkIndex_df160 2 = .ok (.getstatic 1053, 3) := by decide +kernel
theorem dJ0_checkIndex_df160_5 : decode cJ0_checkIndex_df160 5 = .ok (.invokestatic 1059, 3) := by decide +kernel
theorem dJ0_checkIndex_df160_8 : decode cJ0_checkIndex_df160 8 = .ok (.pop, 1) := by decide +kernel
theorem dJ0_checkIndex_df160_9 : decode cJ0_checkIndex_df160 9 = .ok (.return_, 1) := by decide +kernel
theorem dJ1_charAt_3b067_0 : decode cJ1_charAt_3b067 0 = .ok (.iload_n 1, 1) := by decide +kernel
theorem dJ1_charAt_3b067_1 : decode cJ1_charAt_3b067 1 = .ok (.aload_n 0, 1) := by decide +kernel
theorem dJ1_charAt_3b067_2 : decode cJ1_charAt_3b067 2 = .ok (.arraylength, 1) := by decide +kernel
theorem dJ1_charAt_3b067_3 : decode cJ1_charAt_3b067 3 = .ok (.invokestatic 9, 3) := by decide +kernel
theorem dJ1_charAt_3b067_6 : decode cJ1_charAt_3b067 6 = .ok (.aload_n 0, 1) := by decide +kernel
theorem dJ1_charAt_3b067_7 : decode cJ1_charAt_3b067 7 = .ok (.iload_n 1, 1) := by decide +kernel
theorem dJ1_charAt_3b067_8 : decode cJ1_charAt_3b067 8 = .ok (.baload, 1) := by decide +kernel
theorem dJ1_charAt_3b067_9 : decode cJ1_charAt_3b067 9 = .ok (.sipush 255, 3) := by decide +kernel
theorem dJ1_charAt_3b067_12 : decode cJ1_charAt_3b067 12 = .ok (.iand, 1) := by decide +kernel
theorem dJ1_charAt_3b067_13 : decode cJ1_charAt_3b067 13 = .ok (.i2c, 1) := by decide +kernel
theorem dJ1_charAt_3b067_14 : decode cJ1_charAt_3b067 14 = .ok (.ireturn, 1) := by decide +kernel
theorem dJ2_getChar_3b067_0 : decode cJ2_getChar_3b067 0 = .ok (.getstatic 44, 3) := by decide +kernel
theorem dJ2_getChar_3b067_3 : decode cJ2_getChar_3b067 3 = .ok (.ifCond .ne 25, 3) := by decide +kernel
theorem dJ2_getChar_3b067_6 : decode cJ2_getChar_3b067 6 = .ok (.iload_n 1, 1) := by decide +kernel
theorem dJ2_getChar_3b067_7 : decode cJ2_getChar_3b067 7 = .ok (.ifCond .lt 11, 3) := by decide +kernel
theorem dJ2_getChar_3b067_10 : decode cJ2_getChar_3b067 10 = .ok (.iload_n 1, 1) := by decide +kernel
theorem dJ2_getChar_3b067_11 : decode cJ2_getChar_3b067 11 = .ok (.aload_n 0, 1) := by decide +kernel
theorem dJ2_getChar_3b067_12 : decode cJ2_getChar_3b067 12 = .ok (.invokestatic 48, 3) := by decide +kernel
theorem dJ2_getChar_3b067_15 : decode cJ2_getChar_3b067 15 = .ok (.if_icmp .lt 13, 3) := by decide +kernel
theorem dJ2_getChar_3b067_18 : decode cJ2_getChar_3b067 18 = .ok (.new 52, 3) := by decide +kernel
theorem dJ2_getChar_3b067_21 : decode cJ2_getChar_3b067 21 = .ok (.dup, 1) := by decide +kernel
theorem dJ2_getChar_3b067_22 : decode cJ2_getChar_3b067 22 = .ok (.ldc 54, 2) := by decide +kernel
theorem dJ2_getChar_3b067_24 : decode cJ2_getChar_3b067 24 = .ok (.invokespecial 56, 3) := by decide +kernel
theorem dJ2_getChar_3b067_27 : decode cJ2_getChar_3b067 27 = .ok (.athrow, 1) := by decide +kernel
theorem dJ2_getChar_3b067_28 : decode cJ2_getChar_3b067 28 = .ok (.iload_n 1, 1) := by decide +kernel
theorem dJ2_getChar_3b067_29 : decode cJ2_getChar_3b067 29 = .ok (.iconst 1, 1) := by decide +kernel
theorem dJ2_getChar_3b067_30 : decode cJ2_getChar_3b067 30 = .ok (.ishl, 1) := by decide +kernel
theorem dJ2_getChar_3b067_31 : decode cJ2_getChar_3b067 31 = .ok (.istore_n 1, 1) := by decide +kernel
theorem dJ2_getChar_3b067_32 : decode cJ2_getChar_3b067 32 = .ok (.aload_n 0, 1) := by decide +kernel
theorem dJ2_getChar_3b067_33 : decode cJ2_getChar_3b067 33 = .ok (.iload_n 1, 1) := by decide +kernel
theorem dJ2_getChar_3b067_34 : decode cJ2_getChar_3b067 34 = .ok (.iinc 1 1, 3) := by decide +kernel
theorem dJ2_getChar_3b067_37 : decode cJ2_getChar_3b067 37 = .ok (.baload, 1) := by decide +kernel
theorem dJ2_getChar_3b067_38 : decode cJ2_getChar_3b067 38 = .ok (.sipush 255, 3) := by decide +kernel
theorem dJ2_getChar_3b067_41 : decode cJ2_getChar_3b067 41 = .ok (.iand, 1) := by decide +kernel
theorem dJ2_getChar_3b067_42 : decode cJ2_getChar_3b067 42 = .ok (.getstatic 59, 3) := by decide +kernel
theorem dJ2_getChar_3b067_45 : decode cJ2_getChar_3b067 45 = .ok (.ishl, 1) := by decide +kernel
theorem dJ2_getChar_3b067_46 : decode cJ2_getChar_3b067 46 = .ok (.aload_n 0, 1) := by decide +kernel
theorem dJ2_getChar_3b067_47 : decode cJ2_getChar_3b067 47 = .ok (.iload_n 1, 1) := by decide +kernel
theorem dJ2_getChar_3b067_48 : decode cJ2_getChar_3b067 48 = .ok (.baload, 1) := by decide +kernel
theorem dJ2_getChar_3b067_49 : decode cJ2_getChar_3b067 49 = .ok (.sipush 255, 3) := by decide +kernel
theorem dJ2_getChar_3b067_52 : decode cJ2_getChar_3b067 52 = .ok (.iand, 1) := by decide +kernel
theorem dJ2_getChar_3b067_53 : decode cJ2_getChar_3b067 53 = .ok (.getstatic 63, 3) := by decide +kernel
theorem dJ2_getChar_3b067_56 : decode cJ2_getChar_3b067 56 = .ok (.ishl, 1) := by decide +kernel
theorem dJ2_getChar_3b067_57 : decode cJ2_getChar_3b067 57 = .ok (.ior, 1) := by decide +kernel
theorem dJ2_getChar_3b067_58 : decode cJ2_getChar_3b067 58 = .ok (.i2c, 1) := by decide +kernel
theorem dJ2_getChar_3b067_59 : decode cJ2_getChar_3b067 59 = .ok (.ireturn, 1) := by decide +kernel
theorem dJ2_length_9d52b_0 : decode cJ2_length_9d52b 0 = .ok (.aload_n 0, 1) := by decide +kernel
theorem dJ2_length_9d52b_1 : decode cJ2_length_9d52b 1 = .ok (.arraylength, 1) := by decide +kernel
theorem dJ2_length_9d52b_2 : decode cJ2_length_9d52b 2 = .ok (.iconst 1, 1) := by decide +kernel
theorem dJ2_length_9d52b_3 : decode cJ2_length_9d52b 3 = .ok (.ishr, 1) := by decide +kernel
theorem dJ2_length_9d52b_4 : decode cJ2_length_9d52b 4 = .ok (.ireturn, 1) := by decide +kernel
theorem dJ2_charAt_3b067_0 : decode cJ2_charAt_3b067 0 = .ok (.iload_n 1, 1) := by decide +kernel
theorem dJ2_charAt_3b067_1 : decode cJ2_charAt_3b067 1 = .ok (.aload_n 0, 1) := by decide +kernel
theorem dJ2_charAt_3b067_2 : decode cJ2_charAt_3b067 2 = .ok (.invokestatic 67, 3) := by decide +kernel
theorem dJ2_charAt_3b067_5 : decode cJ2_charAt_3b067 5 = .ok (.aload_n 0, 1) := by decide +kernel
theorem dJ2_charAt_3b067_6 : decode cJ2_charAt_3b067 6 = .ok (.iload_n 1, 1) := by decide +kernel
theorem dJ2_charAt_3b067_7 : decode cJ2_charAt_3b067 7 = .ok (.invokestatic 71, 3) := by decide +kernel
theorem dJ2_charAt_3b067_10 : decode cJ2_charAt_3b067 10 = .ok (.ireturn, 1) := by decide +kernel
theorem dJ2_checkIndex_2214a_0 : decode cJ2_checkIndex_2214a 0 = .ok (.iload_n 0, 1) := by decide +kernel
theorem dJ2_checkIndex_2214a_1 : decode cJ2_checkIndex_2214a 1 = .ok (.aload_n 1, 1) := by decide +kernel
theorem dJ2_checkIndex_2214a_2 : decode cJ2_checkIndex_2214a 2 = .ok (.invokestatic 48, 3) := by decide +kernel
theorem dJ2_checkIndex_2214a_5 : decode cJ2_checkIndex_2214a 5 = .ok (.invokestatic 414, 3) := by decide +kernel
theorem dJ2_checkIndex_2214a_8 : decode cJ2_checkIndex_2214a 8 = .ok (.return_, 1) := by decide +kernel
theorem dJ3_checkIndex_8e157_0 : decode cJ3_checkIndex_8e157 0 = .ok (.iload_n 0, 1) := by decide +kernel
theorem dJ3_checkIndex_8e157_1 : decode cJ3_checkIndex_8e157 1 = .ok (.ifCond .lt 8, 3) := by decide +kernel
theorem dJ3_checkIndex_8e157_4 : decode cJ3_checkIndex_8e157 4 = .ok (.iload_n 0, 1) := by decide +kernel
theorem dJ3_checkIndex_8e157_5 : decode cJ3_checkIndex_8e157 5 = .ok (.iload_n 1, 1) := by decide +kernel
theorem dJ3_checkIndex_8e157_6 : decode cJ3_checkIndex_8e157 6 = .ok (.if_icmp .lt 10, 3) := by decide +kernel
theorem dJ3_checkIndex_8e157_9 : decode cJ3_checkIndex_8e157 9 = .ok (.aload_n 2, 1) := by decide +kernel
theorem dJ3_checkIndex_8e157_10 : decode cJ3_checkIndex_8e157 10 = .ok (.iload_n 0, 1) := by decide +kernel
theorem dJ3_checkIndex_8e157_11 : decode cJ3_checkIndex_8e157 11 = .ok (.iload_n 1, 1) := by decide +kernel
theorem dJ3_checkIndex_8e157_12 : decode cJ3_checkIndex_8e157 12 = .ok (.invokestatic 95, 3) := by decide +kernel
theorem dJ3_checkIndex_8e157_15 : decode cJ3_checkIndex_8e157 15 = .ok (.athrow, 1) := by decide +kernel
theorem dJ3_checkIndex_8e157_16 : decode cJ3_checkIndex_8e157 16 = .ok (.iload_n 0, 1) := by decide +kernel
theorem dJ3_checkIndex_8e157_17 : decode cJ3_checkIndex_8e157 17 = .ok (.ireturn, 1) := by decide +kernel
theorem dL_law_0 : decode cL_law 0 = .ok (.new 7, 3) := by decide +kernel
theorem dL_law_3 : decode cL_law 3 = .ok (.dup, 1) := by decide +kernel
theorem dL_law_4 : decode cL_law 4 = .ok (.invokespecial 9, 3) := by decide +kernel
theorem dL_law_7 : decode cL_law 7 = .ok (.astore_n 1, 1) := by decide +kernel
theorem dL_law_8 : decode cL_law 8 = .ok (.new 10, 3) := by decide +kernel
theorem dL_law_11 : decode cL_law 11 = .ok (.dup, 1) := by decide +kernel
theorem dL_law_12 : decode cL_law 12 = .ok (.invokespecial 12, 3) := by decide +kernel
theorem dL_law_15 : decode cL_law 15 = .ok (.astore_n 2, 1) := by decide +kernel
theorem dL_law_16 : decode cL_law 16 = .ok (.iconst 0, 1) := by decide +kernel
theorem dL_law_17 : decode cL_law 17 = .ok (.istore_n 3, 1) := by decide +kernel
theorem dL_law_18 : decode cL_law 18 = .ok (.iload_n 3, 1) := by decide +kernel
theorem dL_law_19 : decode cL_law 19 = .ok (.aload_n 0, 1) := by decide +kernel
theorem dL_law_20 : decode cL_law 20 = .ok (.arraylength, 1) := by decide +kernel
theorem dL_law_21 : decode cL_law 21 = .ok (.bipush 7, 2) := by decide +kernel
theorem dL_law_23 : decode cL_law 23 = .ok (.isub, 1) := by decide +kernel
theorem dL_law_24 : decode cL_law 24 = .ok (.if_icmp .gt 1524, 3) := by decide +kernel
theorem dL_law_27 : decode cL_law 27 = .ok (.aload_n 0, 1) := by decide +kernel
theorem dL_law_28 : decode cL_law 28 = .ok (.iload_n 3, 1) := by decide +kernel
theorem dL_law_29 : decode cL_law 29 = .ok (.iaload, 1) := by decide +kernel
theorem dL_law_30 : decode cL_law 30 = .ok (.bipush 63, 2) := by decide +kernel
theorem dL_law_32 : decode cL_law 32 = .ok (.iand, 1) := by decide +kernel
theorem dL_law_33 : decode cL_law 33 = .ok (.tableswitch 1509 0 34 #[155, 208, 221, 264, 297, 330, 363, 406, 449, 502, 526, 579, 622, 656, 690, 713, 746, 780, 824, 847, 890, 933, 976, 1019, 1052, 1095, 1170, 1245, 1258, 1271, 1284, 1337, 1360, 1403, 1446], 155) := by decide +kernel
theorem dL_law_188 : decode cL_law 188 = .ok (.aload_n 1, 1) := by decide +kernel
theorem dL_law_189 : decode cL_law 189 = .ok (.aload_n 0, 1) := by decide +kernel
theorem dL_law_190 : decode cL_law 190 = .ok (.iload_n 3, 1) := by decide +kernel
theorem dL_law_191 : decode cL_law 191 = .ok (.iconst 1, 1) := by decide +kernel
theorem dL_law_192 : decode cL_law 192 = .ok (.iadd, 1) := by decide +kernel
theorem dL_law_193 : decode cL_law 193 = .ok (.iaload, 1) := by decide +kernel
theorem dL_law_194 : decode cL_law 194 = .ok (.aload_n 0, 1) := by decide +kernel
theorem dL_law_195 : decode cL_law 195 = .ok (.iload_n 3, 1) := by decide +kernel
theorem dL_law_196 : decode cL_law 196 = .ok (.iconst 2, 1) := by decide +kernel
theorem dL_law_197 : decode cL_law 197 = .ok (.iadd, 1) := by decide +kernel
theorem dL_law_198 : decode cL_law 198 = .ok (.iaload, 1) := by decide +kernel
theorem dL_law_199 : decode cL_law 199 = .ok (.aload_n 0, 1) := by decide +kernel
theorem dL_law_200 : decode cL_law 200 = .ok (.iload_n 3, 1) := by decide +kernel
theorem dL_law_201 : decode cL_law 201 = .ok (.iconst 3, 1) := by decide +kernel
theorem dL_law_202 : decode cL_law 202 = .ok (.iadd, 1) := by decide +kernel
theorem dL_law_203 : decode cL_law 203 = .ok (.iaload, 1) := by decide +kernel
theorem dL_law_204 : decode cL_law 204 = .ok (.aload_n 0, 1) := by decide +kernel
theorem dL_law_205 : decode cL_law 205 = .ok (.iload_n 3, 1) := by decide +kernel
theorem dL_law_206 : decode cL_law 206 = .ok (.iconst 4, 1) := by decide +kernel
theorem dL_law_207 : decode cL_law 207 = .ok (.iadd, 1) := by decide +kernel
theorem dL_law_208 : decode cL_law 208 = .ok (.iaload, 1) := by decide +kernel
theorem dL_law_209 : decode cL_law 209 = .ok (.invokevirtual 13, 3) := by decide +kernel
theorem dL_law_212 : decode cL_law 212 = .ok (.aload_n 2, 1) := by decide +kernel
theorem dL_law_213 : decode cL_law 213 = .ok (.aload_n 0, 1) := by decide +kernel
theorem dL_law_214 : decode cL_law 214 = .ok (.iload_n 3, 1) := by decide +kernel
theorem dL_law_215 : decode cL_law 215 = .ok (.iconst 1, 1) := by decide +kernel
theorem dL_law_216 : decode cL_law 216 = .ok (.iadd, 1) := by decide +kernel
theorem dL_law_217 : decode cL_law 217 = .ok (.iaload, 1) := by decide +kernel
theorem dL_law_218 : decode cL_law 218 = .ok (.aload_n 0, 1) := by decide +kernel
theorem dL_law_219 : decode cL_law 219 = .ok (.iload_n 3, 1) := by decide +kernel
theorem dL_law_220 : decode cL_law 220 = .ok (.iconst 2, 1) := by decide +kernel
theorem dL_law_221 : decode cL_law 221 = .ok (.iadd, 1) := by decide +kernel
theorem dL_law_222 : decode cL_law 222 = .ok (.iaload, 1) := by decide +kernel
theorem dL_law_223 : decode cL_law 223 = .ok (.aload_n 0, 1) := by decide +kernel
theorem dL_law_224 : decode cL_law 224 = .ok (.iload_n 3, 1) := by decide +kernel
theorem dL_law_225 : decode cL_law 225 = .ok (.iconst 3, 1) := by decide +kernel
theorem dL_law_226 : decode cL_law 226 = .ok (.iadd, 1) := by decide +kernel
theorem dL_law_227 : decode cL_law 227 = .ok (.iaload, 1) := by decide +kernel
theorem dL_law_228 : decode cL_law 228 = .ok (.aload_n 0, 1) := by decide +kernel
theorem dL_law_229 : decode cL_law 229 = .ok (.iload_n 3, 1) := by decide +kernel
theorem dL_law_230 : decode cL_law 230 = .ok (.iconst 4, 1) := by decide +kernel
theorem dL_law_231 : decode cL_law 231 = .ok (.iadd, 1) := by decide +kernel
theorem dL_law_232 : decode cL_law 232 = .ok (.iaload, 1) := by decide +kernel
theorem dL_law_233 : decode cL_law 233 = .ok (.invokevirtual 17, 3) := by decide +kernel
theorem dL_law_236 : decode cL_law 236 = .ok (.if_icmp .eq 1306, 3) := by decide +kernel
theorem dL_law_239 : decode cL_law 239 = .ok (.iconst 0, 1) := by decide +kernel
theorem dL_law_240 : decode cL_law 240 = .ok (.ireturn, 1) := by decide +kernel
theorem dL_law_241 : decode cL_law 241 = .ok (.aload_n 1, 1) := by decide +kernel
theorem dL_law_242 : decode cL_law 242 = .ok (.invokevirtual 18, 3) := by decide +kernel
theorem dL_law_245 : decode cL_law 245 = .ok (.aload_n 2, 1) := by decide +kernel
theorem dL_law_246 : decode cL_law 246 = .ok (.invokevirtual 22, 3) := by decide +kernel
theorem dL_law_249 : decode cL_law 249 = .ok (.if_icmp .eq 1293, 3) := by decide +kernel
theorem dL_law_252 : decode cL_law 252 = .ok (.iconst 0, 1) := by decide +kernel
theorem dL_law_253 : decode cL_law 253 = .ok (.ireturn, 1) := by decide +kernel
theorem dL_law_254 : decode cL_law 254 = .ok (.aload_n 1, 1) := by decide +kernel
theorem dL_law_255 : decode cL_law 255 = .ok (.aload_n 0, 1) := by decide +kernel
theorem dL_law_256 : decode cL_law 256 = .ok (.iload_n 3, 1) := by decide +kernel
theorem dL_law_257 : decode cL_law 257 = .ok (.iconst 1, 1) := by decide +kernel
theorem dL_law_258 : decode cL_law 258 = .ok (.iadd, 1) := by decide +kernel
theorem dL_law_259 : decode cL_law 259 = .ok (.iaload, 1) := by decide +kernel
theorem dL_law_260 : decode cL_law 260 = .ok (.aload_n 0, 1) := by decide +kernel
theorem dL_law_261 : decode cL_law 261 = .ok (.iload_n 3, 1) := by decide +kernel
theorem dL_law_262 : decode cL_law 262 = .ok (.iconst 2, 1) := by decide +kernel
theorem dL_law_263 : decode cL_law 263 = .ok (.iadd, 1) := by decide +kernel
theorem dL_law_264 : decode cL_law 264 = .ok (.iaload, 1) := by decide +kernel
theorem dL_law_265 : decode cL_law 265 = .ok (.aload_n 0, 1) := by decide +kernel
theorem dL_law_266 : decode cL_law 266 = .ok (.iload_n 3, 1) := by decide +kernel
theorem dL_law_267 : decode cL_law 267 = .ok (.iconst 3, 1) := by decide +kernel
theorem dL_law_268 : decode cL_law 268 = .ok (.iadd, 1) := by decide +kernel
theorem dL_law_269 : decode cL_law 269 = .ok (.iaload, 1) := by decide +kernel
theorem dL_law_270 : decode cL_law 270 = .ok (.invokevirtual 23, 3) := by decide +kernel
theorem dL_law_273 : decode cL_law 273 = .ok (.aload_n 2, 1) := by decide +kernel
theorem dL_law_274 : decode cL_law 274 = .ok (.aload_n 0, 1) := by decide +kernel
theorem dL_law_275 : decode cL_law 275 = .ok (.iload_n 3, 1) := by decide +kernel
theorem dL_law_276 : decode cL_law 276 = .ok (.iconst 1, 1) := by decide +kernel
theorem dL_law_277 : decode cL_law 277 = .ok (.iadd, 1) := by decide +kernel
theorem dL_law_278 : decode cL_law 278 = .ok (.iaload, 1) := by decide +kernel
theorem dL_law_279 : decode cL_law 279 = .ok (.aload_n 0, 1) := by decide +kernel
theorem dL_law_280 : decode cL_law 280 = .ok (.iload_n 3, 1) := by decide +kernel
theorem dL_law_281 : decode cL_law 281 = .ok (.iconst 2, 1) := by decide +kernel
theorem dL_law_282 : decode cL_law 282 = .ok (.iadd, 1) := by decide +kernel
theorem dL_law_283 : decode cL_law 283 = .ok (.iaload, 1) := by decide +kernel
theorem dL_law_284 : decode cL_law 284 = .ok (.aload_n 0, 1) := by decide +kernel
theorem dL_law_285 : decode cL_law 285 = .ok (.iload_n 3, 1) := by decide +kernel
theorem dL_law_286 : decode cL_law 286 = .ok (.iconst 3, 1) := by decide +kernel
theorem dL_law_287 : decode cL_law 287 = .ok (.iadd, 1) := by decide +kernel
theorem dL_law_288 : decode cL_law 288 = .ok (.iaload, 1) := by decide +kernel
theorem dL_law_289 : decode cL_law 289 = .ok (.invokevirtual 27, 3) := by decide +kernel
theorem dL_law_292 : decode cL_law 292 = .ok (.if_icmp .eq 1250, 3) := by decide +kernel
theorem dL_law_295 : decode cL_law 295 = .ok (.iconst 0, 1) := by decide +kernel
theorem dL_law_296 : decode cL_law 296 = .ok (.ireturn, 1) := by decide +kernel
theorem dL_law_297 : decode cL_law 297 = .ok (.aload_n 1, 1) := by decide +kernel
theorem dL_law_298 : decode cL_law 298 = .ok (.aload_n 0, 1) := by decide +kernel
theorem dL_law_299 : decode cL_law 299 = .ok (.iload_n 3, 1) := by decide +kernel
theorem dL_law_300 : decode cL_law 300 = .ok (.iconst 1, 1) := by decide +kernel
theorem dL_law_301 : decode cL_law 301 = .ok (.iadd, 1) := by decide +kernel
theorem dL_law_302 : decode cL_law 302 = .ok (.iaload, 1) := by decide +kernel
theorem dL_law_303 : decode cL_law 303 = .ok (.aload_n 0, 1) := by decide +kernel
theorem dL_law_304 : decode cL_law 304 = .ok (.iload_n 3, 1) := by decide +kernel
theorem dL_law_305 : decode cL_law 305 = .ok (.iconst 2, 1) := by decide +kernel
theorem dL_law_306 : decode cL_law 306 = .ok (.iadd, 1) := by decide +kernel
theorem dL_law_307 : decode cL_law 307 = .ok (.iaload, 1) := by decide +kernel
theorem dL_law_308 : decode cL_law 308 = .ok (.invokevirtual 28, 3) := by decide +kernel
theorem dL_law_311 : decode cL_law 311 = .ok (.aload_n 2, 1) := by decide +kernel
theorem dL_law_312 : decode cL_law 312 = .ok (.aload_n 0, 1) := by decide +kernel
theorem dL_law_313 : decode cL_law 313 = .ok (.iload_n 3, 1) := by decide +kernel
theorem dL_law_314 : decode cL_law 314 = .ok (.iconst 1, 1) := by decide +kernel
theorem dL_law_315 : decode cL_law 315 = .ok (.iadd, 1) := by decide +kernel
theorem dL_law_316 : decode cL_law 316 = .ok (.iaload, 1) := by decide +kernel
theorem dL_law_317 : decode cL_law 317 = .ok (.aload_n 0, 1) := by decide +kernel
theorem dL_law_318 : decode cL_law 318 = .ok (.iload_n 3, 1) := by decide +kernel
theorem dL_law_319 : decode cL_law 319 = .ok (.iconst 2, 1) := by decide +kernel
theorem dL_law_320 : decode cL_law 320 = .ok (.iadd, 1) := by decide +kernel
theorem dL_law_321 : decode cL_law 321 = .ok (.iaload, 1) := by decide +kernel
theorem dL_law_322 : decode cL_law 322 = .ok (.invokevirtual 32, 3) := by decide +kernel
theorem dL_law_325 : decode cL_law 325 = .ok (.if_icmp .eq 1217, 3) := by decide +kernel
theorem dL_law_328 : decode cL_law 328 = .ok (.iconst 0, 1) := by decide +kernel
theorem dL_law_329 : decode cL_law 329 = .ok (.ireturn, 1) := by decide +kernel
theorem dL_law_330 : decode cL_law 330 = .ok (.aload_n 1, 1) := by decide +kernel
theorem dL_law_331 : decode cL_law 331 = .ok (.aload_n 0, 1) := by decide +kernel
theorem dL_law_332 : decode cL_law 332 = .ok (.iload_n 3, 1) := by decide +kernel
theorem dL_law_333 : decode cL_law 333 = .ok (.iconst 1, 1) := by decide +kernel
theorem dL_law_334 : decode cL_law 334 = .ok (.iadd, 1) := by decide +kernel
theorem dL_law_335 : decode cL_law 335 = .ok (.iaload, 1) := by decide +kernel
theorem dL_law_336 : decode cL_law 336 = .ok (.aload_n 0, 1) := by decide +kernel
theorem dL_law_337 : decode cL_law 337 = .ok (.iload_n 3, 1) := by decide +kernel
theorem dL_law_338 : decode cL_law 338 = .ok (.iconst 2, 1) := by decide +kernel
theorem dL_law_339 : decode cL_law 339 = .ok (.iadd, 1) := by decide +kernel
theorem dL_law_340 : decode cL_law 340 = .ok (.iaload, 1) := by decide +kernel
theorem dL_law_341 : decode cL_law 341 = .ok (.invokevirtual 33, 3) := by decide +kernel
theorem dL_law_344 : decode cL_law 344 = .ok (.aload_n 2, 1) := by decide +kernel
theorem dL_law_345 : decode cL_law 345 = .ok (.aload_n 0, 1) := by decide +kernel
theorem dL_law_346 : decode cL_law 346 = .ok (.iload_n 3, 1) := by decide +kernel
theorem dL_law_347 : decode cL_law 347 = .ok (.iconst 1, 1) := by decide +kernel
theorem dL_law_348 : decode cL_law 348 = .ok (.iadd, 1) := by decide +kernel
theorem dL_law_349 : decode cL_law 349 = .ok (.iaload, 1) := by decide +kernel
theorem dL_law_350 : decode cL_law 350 = .ok (.aload_n 0, 1) := by decide +kernel
theorem dL_law_351 : decode cL_law 351 = .ok (.iload_n 3, 1) := by decide +kernel
theorem dL_law_352 : decode cL_law 352 = .ok (.iconst 2, 1) := by decide +kernel
theorem dL_law_353 : decode cL_law 353 = .ok (.iadd, 1) := by decide +kernel
theorem dL_law_354 : decode cL_law 354 = .ok (.iaload, 1) := by decide +kernel
theorem dL_law_355 : decode cL_law 355 = .ok (.invokevirtual 36, 3) := by decide +kernel
theorem dL_law_358 : decode cL_law 358 = .ok (.if_icmp .eq 1184, 3) := by decide +kernel
theorem dL_law_361 : decode cL_law 361 = .ok (.iconst 0, 1) := by decide +kernel
theorem dL_law_362 : decode cL_law 362 = .ok (.ireturn, 1) := by decide +kernel
theorem dL_law_363 : decode cL_law 363 = .ok (.aload_n 1, 1) := by decide +kernel
theorem dL_law_364 : decode cL_law 364 = .ok (.aload_n 0, 1) := by decide +kernel
theorem dL_law_365 : decode cL_law 365 = .ok (.iload_n 3, 1) := by decide +kernel
theorem dL_law_366 : decode cL_law 366 = .ok (.iconst 1, 1) := by decide +kernel
theorem dL_law_367 : decode cL_law 367 = .ok (.iadd, 1) := by decide +kernel
theorem dL_law_368 : decode cL_law 368 = .ok (.iaload, 1) := by decide +kernel
theorem dL_law_369 : decode cL_law 369 = .ok (.aload_n 0, 1) := by decide +kernel
theorem dL_law_370 : decode cL_law 370 = .ok (.iload_n 3, 1) := by decide +kernel
theorem dL_law_371 : decode cL_law 371 = .ok (.iconst 2, 1) := by decide +kernel
theorem dL_law_372 : decode cL_law 372 = .ok (.iadd, 1) := by decide +kernel
theorem dL_law_373 : decode cL_law 373 = .ok (.iaload, 1) := by decide +kernel
theorem dL_law_374 : decode cL_law 374 = .ok (.invokevirtual 37, 3) := by decide +kernel
