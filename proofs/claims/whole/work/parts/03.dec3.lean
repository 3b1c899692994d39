theorem dX11_film_31 : decode cX11_film 31 = .ok (.invokevirtual 153, 3) := by decide +kernel
theorem dX11_film_34 : decode cX11_film 34 = .ok (.aload_n 0, 1) := by decide +kernel
theorem dX11_film_35 : decode cX11_film 35 = .ok (.iload_n 1, 1) := by decide +kernel
theorem dX11_film_36 : decode cX11_film 36 = .ok (.invokevirtual 157, 3) := by decide +kernel
theorem dX11_film_39 : decode cX11_film 39 = .ok (.ireturn, 1) := by decide +kernel
theorem dX11_mix_0 : decode cX11_mix 0 = .ok (.iload_n 1, 1) := by decide +kernel
theorem dX11_mix_1 : decode cX11_mix 1 = .ok (.invokestatic 150, 3) := by decide +kernel
theorem dX11_mix_4 : decode cX11_mix 4 = .ok (.ifCond .eq 39, 3) := by decide +kernel
theorem dX11_mix_7 : decode cX11_mix 7 = .ok (.iload_n 2, 1) := by decide +kernel
theorem dX11_mix_8 : decode cX11_mix 8 = .ok (.iconst 0, 1) := by decide +kernel
theorem dX11_mix_9 : decode cX11_mix 9 = .ok (.iconst 1, 1) := by decide +kernel
theorem dX11_mix_10 : decode cX11_mix 10 = .ok (.aload_n 0, 1) := by decide +kernel
theorem dX11_mix_11 : decode cX11_mix 11 = .ok (.getfield 66, 3) := by decide +kernel
theorem dX11_mix_14 : decode cX11_mix 14 = .ok (.ishl, 1) := by decide +kernel
theorem dX11_mix_15 : decode cX11_mix 15 = .ok (.iconst 1, 1) := by decide +kernel
theorem dX11_mix_16 : decode cX11_mix 16 = .ok (.isub, 1) := by decide +kernel
theorem dX11_mix_17 : decode cX11_mix 17 = .ok (.invokestatic 70, 3) := by decide +kernel
theorem dX11_mix_20 : decode cX11_mix 20 = .ok (.ifCond .eq 23, 3) := by decide +kernel
theorem dX11_mix_23 : decode cX11_mix 23 = .ok (.iload_n 3, 1) := by decide +kernel
theorem dX11_mix_24 : decode cX11_mix 24 = .ok (.iconst 0, 1) := by decide +kernel
theorem dX11_mix_25 : decode cX11_mix 25 = .ok (.bipush 40, 2) := by decide +kernel
theorem dX11_mix_27 : decode cX11_mix 27 = .ok (.invokestatic 70, 3) := by decide +kernel
theorem dX11_mix_30 : decode cX11_mix 30 = .ok (.ifCond .eq 13, 3) := by decide +kernel
theorem dX11_mix_33 : decode cX11_mix 33 = .ok (.iload 4, 2) := by decide +kernel
theorem dX11_mix_35 : decode cX11_mix 35 = .ok (.iconst 0, 1) := by decide +kernel
theorem dX11_mix_36 : decode cX11_mix 36 = .ok (.iconst 1, 1) := by decide +kernel
theorem dX11_mix_37 : decode cX11_mix 37 = .ok (.invokestatic 70, 3) := by decide +kernel
theorem dX11_mix_40 : decode cX11_mix 40 = .ok (.ifCond .ne 6, 3) := by decide +kernel
theorem dX11_mix_43 : decode cX11_mix 43 = .ok (.bipush (-2), 2) := by decide +kernel
theorem dX11_mix_45 : decode cX11_mix 45 = .ok (.ireturn, 1) := by decide +kernel
theorem dX11_mix_46 : decode cX11_mix 46 = .ok (.iconst 0, 1) := by decide +kernel
theorem dX11_mix_47 : decode cX11_mix 47 = .ok (.istore 5, 2) := by decide +kernel
theorem dX11_mix_49 : decode cX11_mix 49 = .ok (.iload 5, 2) := by decide +kernel
theorem dX11_mix_51 : decode cX11_mix 51 = .ok (.iload_n 3, 1) := by decide +kernel
theorem dX11_mix_52 : decode cX11_mix 52 = .ok (.if_icmp .ge 17, 3) := by decide +kernel
theorem dX11_mix_55 : decode cX11_mix 55 = .ok (.aload_n 0, 1) := by decide +kernel
theorem dX11_mix_56 : decode cX11_mix 56 = .ok (.getfield 30, 3) := by decide +kernel
theorem dX11_mix_59 : decode cX11_mix 59 = .ok (.iload 5, 2) := by decide +kernel
theorem dX11_mix_61 : decode cX11_mix 61 = .ok (.iconst 0, 1) := by decide +kernel
theorem dX11_mix_62 : decode cX11_mix 62 = .ok (.iastore, 1) := by decide +kernel
theorem dX11_mix_63 : decode cX11_mix 63 = .ok (.iinc 5 1, 3) := by decide +kernel
theorem dX11_mix_66 : decode cX11_mix 66 = .ok (.goto (-17), 3) := by decide +kernel
theorem dX11_mix_69 : decode cX11_mix 69 = .ok (.iconst 0, 1) := by decide +kernel
theorem dX11_mix_70 : decode cX11_mix 70 = .ok (.istore 5, 2) := by decide +kernel
theorem dX11_mix_72 : decode cX11_mix 72 = .ok (.iload 5, 2) := by decide +kernel
theorem dX11_mix_74 : decode cX11_mix 74 = .ok (.aload_n 0, 1) := by decide +kernel
theorem dX11_mix_75 : decode cX11_mix 75 = .ok (.getfield 66, 3) := by decide +kernel
theorem dX11_mix_78 : decode cX11_mix 78 = .ok (.if_icmp .ge 60, 3) := by decide +kernel
theorem dX11_mix_81 : decode cX11_mix 81 = .ok (.iload_n 2, 1) := by decide +kernel
theorem dX11_mix_82 : decode cX11_mix 82 = .ok (.iload 5, 2) := by decide +kernel
theorem dX11_mix_84 : decode cX11_mix 84 = .ok (.invokestatic 96, 3) := by decide +kernel
theorem dX11_mix_87 : decode cX11_mix 87 = .ok (.ifCond .ne 6, 3) := by decide +kernel
theorem dX11_mix_90 : decode cX11_mix 90 = .ok (.goto 42, 3) := by decide +kernel
theorem dX11_mix_93 : decode cX11_mix 93 = .ok (.aload_n 0, 1) := by decide +kernel
theorem dX11_mix_94 : decode cX11_mix 94 = .ok (.iload 5, 2) := by decide +kernel
theorem dX11_mix_96 : decode cX11_mix 96 = .ok (.iload_n 3, 1) := by decide +kernel
theorem dX11_mix_97 : decode cX11_mix 97 = .ok (.invokevirtual 153, 3) := by decide +kernel
theorem dX11_mix_100 : decode cX11_mix 100 = .ok (.iconst 0, 1) := by decide +kernel
theorem dX11_mix_101 : decode cX11_mix 101 = .ok (.istore 6, 2) := by decide +kernel
theorem dX11_mix_103 : decode cX11_mix 103 = .ok (.iload 6, 2) := by decide +kernel
theorem dX11_mix_105 : decode cX11_mix 105 = .ok (.iload_n 3, 1) := by decide +kernel
theorem dX11_mix_106 : decode cX11_mix 106 = .ok (.if_icmp .ge 26, 3) := by decide +kernel
theorem dX11_mix_109 : decode cX11_mix 109 = .ok (.aload_n 0, 1) := by decide +kernel
theorem dX11_mix_110 : decode cX11_mix 110 = .ok (.getfield 30, 3) := by decide +kernel
theorem dX11_mix_113 : decode cX11_mix 113 = .ok (.iload 6, 2) := by decide +kernel
theorem dX11_mix_115 : decode cX11_mix 115 = .ok (.dup2, 1) := by decide +kernel
theorem dX11_mix_116 : decode cX11_mix 116 = .ok (.iaload, 1) := by decide +kernel
theorem dX11_mix_117 : decode cX11_mix 117 = .ok (.aload_n 0, 1) := by decide +kernel
theorem dX11_mix_118 : decode cX11_mix 118 = .ok (.getfield 27, 3) := by decide +kernel
theorem dX11_mix_121 : decode cX11_mix 121 = .ok (.iload 6, 2) := by decide +kernel
theorem dX11_mix_123 : decode cX11_mix 123 = .ok (.iaload, 1) := by decide +kernel
theorem dX11_mix_124 : decode cX11_mix 124 = .ok (.iadd, 1) := by decide +kernel
theorem dX11_mix_125 : decode cX11_mix 125 = .ok (.iastore, 1) := by decide +kernel
theorem dX11_mix_126 : decode cX11_mix 126 = .ok (.iinc 6 1, 3) := by decide +kernel
theorem dX11_mix_129 : decode cX11_mix 129 = .ok (.goto (-26), 3) := by decide +kernel
theorem dX11_mix_132 : decode cX11_mix 132 = .ok (.iinc 5 1, 3) := by decide +kernel
theorem dX11_mix_135 : decode cX11_mix 135 = .ok (.goto (-63), 3) := by decide +kernel
theorem dX11_mix_138 : decode cX11_mix 138 = .ok (.iconst 0, 1) := by decide +kernel
theorem dX11_mix_139 : decode cX11_mix 139 = .ok (.istore 5, 2) := by decide +kernel
theorem dX11_mix_141 : decode cX11_mix 141 = .ok (.iconst 0, 1) := by decide +kernel
theorem dX11_mix_142 : decode cX11_mix 142 = .ok (.istore 6, 2) := by decide +kernel
theorem dX11_mix_144 : decode cX11_mix 144 = .ok (.iload 6, 2) := by decide +kernel
theorem dX11_mix_146 : decode cX11_mix 146 = .ok (.iload_n 3, 1) := by decide +kernel
theorem dX11_mix_147 : decode cX11_mix 147 = .ok (.if_icmp .ge 48, 3) := by decide +kernel
theorem dX11_mix_150 : decode cX11_mix 150 = .ok (.aload_n 0, 1) := by decide +kernel
theorem dX11_mix_151 : decode cX11_mix 151 = .ok (.getfield 30, 3) := by decide +kernel
theorem dX11_mix_154 : decode cX11_mix 154 = .ok (.iload 6, 2) := by decide +kernel
theorem dX11_mix_156 : decode cX11_mix 156 = .ok (.iaload, 1) := by decide +kernel
theorem dX11_mix_157 : decode cX11_mix 157 = .ok (.iload 5, 2) := by decide +kernel
theorem dX11_mix_159 : decode cX11_mix 159 = .ok (.iadd, 1) := by decide +kernel
theorem dX11_mix_160 : decode cX11_mix 160 = .ok (.istore 7, 2) := by decide +kernel
theorem dX11_mix_162 : decode cX11_mix 162 = .ok (.aload_n 0, 1) := by decide +kernel
theorem dX11_mix_163 : decode cX11_mix 163 = .ok (.getfield 27, 3) := by decide +kernel
theorem dX11_mix_166 : decode cX11_mix 166 = .ok (.iload 6, 2) := by decide +kernel
theorem dX11_mix_168 : decode cX11_mix 168 = .ok (.iload 7, 2) := by decide +kernel
theorem dX11_mix_170 : decode cX11_mix 170 = .ok (.iconst 2, 1) := by decide +kernel
theorem dX11_mix_171 : decode cX11_mix 171 = .ok (.irem, 1) := by decide +kernel
theorem dX11_mix_172 : decode cX11_mix 172 = .ok (.iastore, 1) := by decide +kernel
theorem dX11_mix_173 : decode cX11_mix 173 = .ok (.iload 4, 2) := by decide +kernel
theorem dX11_mix_175 : decode cX11_mix 175 = .ok (.iconst 1, 1) := by decide +kernel
theorem dX11_mix_176 : decode cX11_mix 176 = .ok (.if_icmp .ne 10, 3) := by decide +kernel
theorem dX11_mix_179 : decode cX11_mix 179 = .ok (.iload 7, 2) := by decide +kernel
theorem dX11_mix_181 : decode cX11_mix 181 = .ok (.iconst 2, 1) := by decide +kernel
theorem dX11_mix_182 : decode cX11_mix 182 = .ok (.idiv, 1) := by decide +kernel
theorem dX11_mix_183 : decode cX11_mix 183 = .ok (.goto 4, 3) := by decide +kernel
theorem dX11_mix_186 : decode cX11_mix 186 = .ok (.iconst 0, 1) := by decide +kernel
theorem dX11_mix_187 : decode cX11_mix 187 = .ok (.istore 5, 2) := by decide +kernel
theorem dX11_mix_189 : decode cX11_mix 189 = .ok (.iinc 6 1, 3) := by decide +kernel
theorem dX11_mix_192 : decode cX11_mix 192 = .ok (.goto (-48), 3) := by decide +kernel
theorem dX11_mix_195 : decode cX11_mix 195 = .ok (.aload_n 0, 1) := by decide +kernel
theorem dX11_mix_196 : decode cX11_mix 196 = .ok (.iload_n 3, 1) := by decide +kernel
theorem dX11_mix_197 : decode cX11_mix 197 = .ok (.putfield 147, 3) := by decide +kernel
theorem dX11_mix_200 : decode cX11_mix 200 = .ok (.aload_n 0, 1) := by decide +kernel
theorem dX11_mix_201 : decode cX11_mix 201 = .ok (.iload_n 1, 1) := by decide +kernel
theorem dX11_mix_202 : decode cX11_mix 202 = .ok (.invokevirtual 157, 3) := by decide +kernel
theorem dX11_mix_205 : decode cX11_mix 205 = .ok (.ireturn, 1) := by decide +kernel
theorem dX11_isSheet_0 : decode cX11_isSheet 0 = .ok (.iload_n 0, 1) := by decide +kernel
theorem dX11_isSheet_1 : decode cX11_isSheet 1 = .ok (.iconst 0, 1) := by decide +kernel
theorem dX11_isSheet_2 : decode cX11_isSheet 2 = .ok (.iconst 3, 1) := by decide +kernel
theorem dX11_isSheet_3 : decode cX11_isSheet 3 = .ok (.invokestatic 70, 3) := by decide +kernel
theorem dX11_isSheet_6 : decode cX11_isSheet 6 = .ok (.ireturn, 1) := by decide +kernel
theorem dX11_isThere_0 : decode cX11_isThere 0 = .ok (.iload_n 1, 1) := by decide +kernel
theorem dX11_isThere_1 : decode cX11_isThere 1 = .ok (.invokestatic 150, 3) := by decide +kernel
theorem dX11_isThere_4 : decode cX11_isThere 4 = .ok (.ifCond .eq 16, 3) := by decide +kernel
theorem dX11_isThere_7 : decode cX11_isThere 7 = .ok (.aload_n 0, 1) := by decide +kernel
theorem dX11_isThere_8 : decode cX11_isThere 8 = .ok (.getfield 57, 3) := by decide +kernel
theorem dX11_isThere_11 : decode cX11_isThere 11 = .ok (.iload_n 1, 1) := by decide +kernel
theorem dX11_isThere_12 : decode cX11_isThere 12 = .ok (.iaload, 1) := by decide +kernel
theorem dX11_isThere_13 : decode cX11_isThere 13 = .ok (.ifCond .lt 7, 3) := by decide +kernel
theorem dX11_isThere_16 : decode cX11_isThere 16 = .ok (.iconst 1, 1) := by decide +kernel
theorem dX11_isThere_17 : decode cX11_isThere 17 = .ok (.goto 4, 3) := by decide +kernel
theorem dX11_isThere_20 : decode cX11_isThere 20 = .ok (.iconst 0, 1) := by decide +kernel
theorem dX11_isThere_21 : decode cX11_isThere 21 = .ok (.ireturn, 1) := by decide +kernel
theorem dX11_numberNow_0 : decode cX11_numberNow 0 = .ok (.lconst 0, 1) := by decide +kernel
theorem dX11_numberNow_1 : decode cX11_numberNow 1 = .ok (.lstore_n 1, 1) := by decide +kernel
theorem dX11_numberNow_2 : decode cX11_numberNow 2 = .ok (.iconst 0, 1) := by decide +kernel
theorem dX11_numberNow_3 : decode cX11_numberNow 3 = .ok (.istore_n 3, 1) := by decide +kernel
theorem dX11_numberNow_4 : decode cX11_numberNow 4 = .ok (.iload_n 3, 1) := by decide +kernel
theorem dX11_numberNow_5 : decode cX11_numberNow 5 = .ok (.aload_n 0, 1) := by decide +kernel
theorem dX11_numberNow_6 : decode cX11_numberNow 6 = .ok (.getfield 147, 3) := by decide +kernel
theorem dX11_numberNow_9 : decode cX11_numberNow 9 = .ok (.if_icmp .ge 21, 3) := by decide +kernel
theorem dX11_numberNow_12 : decode cX11_numberNow 12 = .ok (.lload_n 1, 1) := by decide +kernel
theorem dX11_numberNow_13 : decode cX11_numberNow 13 = .ok (.aload_n 0, 1) := by decide +kernel
theorem dX11_numberNow_14 : decode cX11_numberNow 14 = .ok (.getfield 27, 3) := by decide +kernel
theorem dX11_numberNow_17 : decode cX11_numberNow 17 = .ok (.iload_n 3, 1) := by decide +kernel
theorem dX11_numberNow_18 : decode cX11_numberNow 18 = .ok (.iaload, 1) := by decide +kernel
theorem dX11_numberNow_19 : decode cX11_numberNow 19 = .ok (.i2l, 1) := by decide +kernel
theorem dX11_numberNow_20 : decode cX11_numberNow 20 = .ok (.iload_n 3, 1) := by decide +kernel
theorem dX11_numberNow_21 : decode cX11_numberNow 21 = .ok (.lshl, 1) := by decide +kernel
theorem dX11_numberNow_22 : decode cX11_numberNow 22 = .ok (.lor, 1) := by decide +kernel
theorem dX11_numberNow_23 : decode cX11_numberNow 23 = .ok (.lstore_n 1, 1) := by decide +kernel
theorem dX11_numberNow_24 : decode cX11_numberNow 24 = .ok (.iinc 3 1, 3) := by decide +kernel
theorem dX11_numberNow_27 : decode cX11_numberNow 27 = .ok (.goto (-23), 3) := by decide +kernel
theorem dX11_numberNow_30 : decode cX11_numberNow 30 = .ok (.lload_n 1, 1) := by decide +kernel
theorem dX11_numberNow_31 : decode cX11_numberNow 31 = .ok (.lreturn, 1) := by decide +kernel
theorem dX11_number_0 : decode cX11_number 0 = .ok (.aload_n 0, 1) := by decide +kernel
theorem dX11_number_1 : decode cX11_number 1 = .ok (.iload_n 1, 1) := by decide +kernel
theorem dX11_number_2 : decode cX11_number 2 = .ok (.invokevirtual 160, 3) := by decide +kernel
theorem dX11_number_5 : decode cX11_number 5 = .ok (.ifCond .ne 7, 3) := by decide +kernel
theorem dX11_number_8 : decode cX11_number 8 = .ok (.ldc2_w 163, 3) := by decide +kernel
theorem dX11_number_11 : decode cX11_number 11 = .ok (.lreturn, 1) := by decide +kernel
theorem dX11_number_12 : decode cX11_number 12 = .ok (.aload_n 0, 1) := by decide +kernel
theorem dX11_number_13 : decode cX11_number 13 = .ok (.iload_n 1, 1) := by decide +kernel
theorem dX11_number_14 : decode cX11_number 14 = .ok (.invokevirtual 165, 3) := by decide +kernel
theorem dX11_number_17 : decode cX11_number 17 = .ok (.aload_n 0, 1) := by decide +kernel
theorem dX11_number_18 : decode cX11_number 18 = .ok (.invokevirtual 168, 3) := by decide +kernel
theorem dX11_number_21 : decode cX11_number 21 = .ok (.lreturn, 1) := by decide +kernel
theorem dX11_isFraction_0 : decode cX11_isFraction 0 = .ok (.iload_n 0, 1) := by decide +kernel
theorem dX11_isFraction_1 : decode cX11_isFraction 1 = .ok (.sipush (-9999), 3) := by decide +kernel
theorem dX11_isFraction_4 : decode cX11_isFraction 4 = .ok (.sipush 9999, 3) := by decide +kernel
theorem dX11_isFraction_7 : decode cX11_isFraction 7 = .ok (.invokestatic 70, 3) := by decide +kernel
theorem dX11_isFraction_10 : decode cX11_isFraction 10 = .ok (.ifCond .eq 18, 3) := by decide +kernel
theorem dX11_isFraction_13 : decode cX11_isFraction 13 = .ok (.iload_n 1, 1) := by decide +kernel
theorem dX11_isFraction_14 : decode cX11_isFraction 14 = .ok (.iconst 1, 1) := by decide +kernel
theorem dX11_isFraction_15 : decode cX11_isFraction 15 = .ok (.sipush 9999, 3) := by decide +kernel
theorem dX11_isFraction_18 : decode cX11_isFraction 18 = .ok (.invokestatic 70, 3) := by decide +kernel
theorem dX11_isFraction_21 : decode cX11_isFraction 21 = .ok (.ifCond .eq 7, 3) := by decide +kernel
theorem dX11_isFraction_24 : decode cX11_isFraction 24 = .ok (.iconst 1, 1) := by decide +kernel
theorem dX11_isFraction_25 : decode cX11_isFraction 25 = .ok (.goto 4, 3) := by decide +kernel
theorem dX11_isFraction_28 : decode cX11_isFraction 28 = .ok (.iconst 0, 1) := by decide +kernel
theorem dX11_isFraction_29 : decode cX11_isFraction 29 = .ok (.ireturn, 1) := by decide +kernel
theorem dX11_behind_0 : decode cX11_behind 0 = .ok (.iload_n 0, 1) := by decide +kernel
theorem dX11_behind_1 : decode cX11_behind 1 = .ok (.iload_n 0, 1) := by decide +kernel
theorem dX11_behind_2 : decode cX11_behind 2 = .ok (.iconst 1, 1) := by decide +kernel
theorem dX11_behind_3 : decode cX11_behind 3 = .ok (.iand, 1) := by decide +kernel
theorem dX11_behind_4 : decode cX11_behind 4 = .ok (.iload_n 1, 1) := by decide +kernel
theorem dX11_behind_5 : decode cX11_behind 5 = .ok (.imul, 1) := by decide +kernel
theorem dX11_behind_6 : decode cX11_behind 6 = .ok (.isub, 1) := by decide +kernel
theorem dX11_behind_7 : decode cX11_behind 7 = .ok (.iconst 2, 1) := by decide +kernel
theorem dX11_behind_8 : decode cX11_behind 8 = .ok (.idiv, 1) := by decide +kernel
theorem dX11_behind_9 : decode cX11_behind 9 = .ok (.ireturn, 1) := by decide +kernel
theorem dX11_expand_0 : decode cX11_expand 0 = .ok (.iload_n 1, 1) := by decide +kernel
theorem dX11_expand_1 : decode cX11_expand 1 = .ok (.invokestatic 150, 3) := by decide +kernel
theorem dX11_expand_4 : decode cX11_expand 4 = .ok (.ifCond .eq 22, 3) := by decide +kernel
theorem dX11_expand_7 : decode cX11_expand 7 = .ok (.iload 4, 2) := by decide +kernel
theorem dX11_expand_9 : decode cX11_expand 9 = .ok (.iconst 0, 1) := by decide +kernel
theorem dX11_expand_10 : decode cX11_expand 10 = .ok (.bipush 40, 2) := by decide +kernel
theorem dX11_expand_12 : decode cX11_expand 12 = .ok (.invokestatic 70, 3) := by decide +kernel
theorem dX11_expand_15 : decode cX11_expand 15 = .ok (.ifCond .eq 11, 3) := by decide +kernel
theorem dX11_expand_18 : decode cX11_expand 18 = .ok (.iload_n 2, 1) := by decide +kernel
theorem dX11_expand_19 : decode cX11_expand 19 = .ok (.iload_n 3, 1) := by decide +kernel
theorem dX11_expand_20 : decode cX11_expand 20 = .ok (.invokestatic 172, 3) := by decide +kernel
theorem dX11_expand_23 : decode cX11_expand 23 = .ok (.ifCond .ne 6, 3) := by decide +kernel
theorem dX11_expand_26 : decode cX11_expand 26 = .ok (.bipush (-2), 2) := by decide +kernel
theorem dX11_expand_28 : decode cX11_expand 28 = .ok (.ireturn, 1) := by decide +kernel
theorem dX11_expand_29 : decode cX11_expand 29 = .ok (.iload_n 3, 1) := by decide +kernel
theorem dX11_expand_30 : decode cX11_expand 30 = .ok (.iconst 2, 1) := by decide +kernel
theorem dX11_expand_31 : decode cX11_expand 31 = .ok (.irem, 1) := by decide +kernel
theorem dX11_expand_32 : decode cX11_expand 32 = .ok (.ifCond .ne 6, 3) := by decide +kernel
theorem dX11_expand_35 : decode cX11_expand 35 = .ok (.bipush (-3), 2) := by decide +kernel
theorem dX11_expand_37 : decode cX11_expand 37 = .ok (.ireturn, 1) := by decide +kernel
theorem dX11_expand_38 : decode cX11_expand 38 = .ok (.iload_n 2, 1) := by decide +kernel
theorem dX11_expand_39 : decode cX11_expand 39 = .ok (.istore 5, 2) := by decide +kernel
theorem dX11_expand_41 : decode cX11_expand 41 = .ok (.iconst 0, 1) := by decide +kernel
theorem dX11_expand_42 : decode cX11_expand 42 = .ok (.istore 6, 2) := by decide +kernel
theorem dX11_expand_44 : decode cX11_expand 44 = .ok (.iload 6, 2) := by decide +kernel
theorem dX11_expand_46 : decode cX11_expand 46 = .ok (.iload 4, 2) := by decide +kernel
theorem dX11_expand_48 : decode cX11_expand 48 = .ok (.if_icmp .ge 28, 3) := by decide +kernel
theorem dX11_expand_51 : decode cX11_expand 51 = .ok (.aload_n 0, 1) := by decide +kernel
theorem dX11_expand_52 : decode cX11_expand 52 = .ok (.getfield 27, 3) := by decide +kernel
theorem dX11_expand_55 : decode cX11_expand 55 = .ok (.iload 6, 2) := by decide +kernel
theorem dX11_expand_57 : decode cX11_expand 57 = .ok (.iload 5, 2) := by decide +kernel
theorem dX11_expand_59 : decode cX11_expand 59 = .ok (.iconst 1, 1) := by decide +kernel
theorem dX11_expand_60 : decode cX11_expand 60 = .ok (.iand, 1) := by decide +kernel
theorem dX11_expand_61 : decode cX11_expand 61 = .ok (.iastore, 1) := by decide +kernel
theorem dX11_expand_62 : decode cX11_expand 62 = .ok (.iload 5, 2) := by decide +kernel
theorem dX11_expand_64 : decode cX11_expand 64 = .ok (.iload_n 3, 1) := by decide +kernel
theorem dX11_expand_65 : decode cX11_expand 65 = .ok (.invokestatic 175, 3) := by decide +kernel
theorem dX11_expand_68 : decode cX11_expand 68 = .ok (.istore 5, 2) := by decide +kernel
theorem dX11_expand_70 : decode cX11_expand 70 = .ok (.iinc 6 1, 3) := by decide +kernel
theorem dX11_expand_73 : decode cX11_expand 73 = .ok (.goto (-29), 3) := by decide +kernel
theorem dX11_expand_76 : decode cX11_expand 76 = .ok (.aload_n 0, 1) := by decide +kernel
theorem dX11_expand_77 : decode cX11_expand 77 = .ok (.iload 4, 2) := by decide +kernel
theorem dX11_expand_79 : decode cX11_expand 79 = .ok (.putfield 147, 3) := by decide +kernel
theorem dX11_expand_82 : decode cX11_expand 82 = .ok (.aload_n 0, 1) := by decide +kernel
theorem dX11_expand_83 : decode cX11_expand 83 = .ok (.iload_n 1, 1) := by decide +kernel
theorem dX11_expand_84 : decode cX11_expand 84 = .ok (.invokevirtual 157, 3) := by decide +kernel
theorem dX11_expand_87 : decode cX11_expand 87 = .ok (.ireturn, 1) := by decide +kernel
theorem dX11_period_0 : decode cX11_period 0 = .ok (.iload_n 3, 1) := by decide +kernel
theorem dX11_period_1 : decode cX11_period 1 = .ok (.iconst 0, 1) := by decide +kernel
theorem dX11_period_2 : decode cX11_period 2 = .ok (.iconst 1, 1) := by decide +kernel
theorem dX11_period_3 : decode cX11_period 3 = .ok (.invokestatic 70, 3) := by decide +kernel
theorem dX11_period_6 : decode cX11_period 6 = .ok (.ifCond .eq 11, 3) := by decide +kernel
theorem dX11_period_9 : decode cX11_period 9 = .ok (.iload_n 1, 1) := by decide +kernel
theorem dX11_period_10 : decode cX11_period 10 = .ok (.iload_n 2, 1) := by decide +kernel
theorem dX11_period_11 : decode cX11_period 11 = .ok (.invokestatic 172, 3) := by decide +kernel
theorem dX11_period_14 : decode cX11_period 14 = .ok (.ifCond .ne 6, 3) := by decide +kernel
theorem dX11_period_17 : decode cX11_period 17 = .ok (.bipush (-2), 2) := by decide +kernel
theorem dX11_period_19 : decode cX11_period 19 = .ok (.ireturn, 1) := by decide +kernel
theorem dX11_period_20 : decode cX11_period 20 = .ok (.iload_n 2, 1) := by decide +kernel
theorem dX11_period_21 : decode cX11_period 21 = .ok (.iconst 2, 1) := by decide +kernel
theorem dX11_period_22 : decode cX11_period 22 = .ok (.irem, 1) := by decide +kernel
theorem dX11_period_23 : decode cX11_period 23 = .ok (.ifCond .ne 6, 3) := by decide +kernel
theorem dX11_period_26 : decode cX11_period 26 = .ok (.bipush (-3), 2) := by decide +kernel
theorem dX11_period_28 : decode cX11_period 28 = .ok (.ireturn, 1) := by decide +kernel
theorem dX11_period_29 : decode cX11_period 29 = .ok (.iload_n 1, 1) := by decide +kernel
theorem dX11_period_30 : decode cX11_period 30 = .ok (.istore 4, 2) := by decide +kernel
theorem dX11_period_32 : decode cX11_period 32 = .ok (.iconst 0, 1) := by decide +kernel
theorem dX11_period_33 : decode cX11_period 33 = .ok (.istore 5, 2) := by decide +kernel
theorem dX11_period_35 : decode cX11_period 35 = .ok (.iload 4, 2) := by decide +kernel
theorem dX11_period_37 : decode cX11_period 37 = .ok (.ifCond .gt 10, 3) := by decide +kernel
theorem dX11_period_40 : decode cX11_period 40 = .ok (.iload 4, 2) := by decide +kernel
theorem dX11_period_42 : decode cX11_period 42 = .ok (.iload_n 2, 1) := by decide +kernel
theorem dX11_period_43 : decode cX11_period 43 = .ok (.ineg, 1) := by decide +kernel
theorem dX11_period_44 : decode cX11_period 44 = .ok (.if_icmp .ge 17, 3) := by decide +kernel
theorem dX11_period_47 : decode cX11_period 47 = .ok (.iload 4, 2) := by decide +kernel
theorem dX11_period_49 : decode cX11_period 49 = .ok (.iload_n 2, 1) := by decide +kernel
theorem dX11_period_50 : decode cX11_period 50 = .ok (.invokestatic 175, 3) := by decide +kernel
theorem dX11_period_53 : decode cX11_period 53 = .ok (.istore 4, 2) := by decide +kernel
theorem dX11_period_55 : decode cX11_period 55 = .ok (.iinc 5 1, 3) := by decide +kernel
theorem dX11_period_58 : decode cX11_period 58 = .ok (.goto (-23), 3) := by decide +kernel
theorem dX11_period_61 : decode cX11_period 61 = .ok (.iload_n 3, 1) := by decide +kernel
theorem dX11_period_62 : decode cX11_period 62 = .ok (.iconst 1, 1) := by decide +kernel
theorem dX11_period_63 : decode cX11_period 63 = .ok (.if_icmp .ne 6, 3) := by decide +kernel
theorem dX11_period_66 : decode cX11_period 66 = .ok (.iload 5, 2) := by decide +kernel
theorem dX11_period_68 : decode cX11_period 68 = .ok (.ireturn, 1) := by decide +kernel
theorem dX11_period_69 : decode cX11_period 69 = .ok (.iconst 1, 1) := by decide +kernel
theorem dX11_period_70 : decode cX11_period 70 = .ok (.istore 6, 2) := by decide +kernel
theorem dX11_period_72 : decode cX11_period 72 = .ok (.iload 4, 2) := by decide +kernel
theorem dX11_period_74 : decode cX11_period 74 = .ok (.iload_n 2, 1) := by decide +kernel
theorem dX11_period_75 : decode cX11_period 75 = .ok (.invokestatic 175, 3) := by decide +kernel
theorem dX11_period_78 : decode cX11_period 78 = .ok (.istore 7, 2) := by decide +kernel
theorem dX11_period_80 : decode cX11_period 80 = .ok (.iload 7, 2) := by decide +kernel
theorem dX11_period_82 : decode cX11_period 82 = .ok (.iload 4, 2) := by decide +kernel
theorem dX11_period_84 : decode cX11_period 84 = .ok (.if_icmp .eq 17, 3) := by decide +kernel
theorem dX11_period_87 : decode cX11_period 87 = .ok (.iinc 6 1, 3) := by decide +kernel
theorem dX11_period_90 : decode cX11_period 90 = .ok (.iload 7, 2) := by decide +kernel
theorem dX11_period_92 : decode cX11_period 92 = .ok (.iload_n 2, 1) := by decide +kernel
theorem dX11_period_93 : decode cX11_period 93 = .ok (.invokestatic 175, 3) := by decide +kernel
theorem dX11_period_96 : decode cX11_period 96 = .ok (.istore 7, 2) := by decide +kernel
theorem dX11_period_98 : decode cX11_period 98 = .ok (.goto (-18), 3) := by decide +kernel
theorem dX11_period_101 : decode cX11_period 101 = .ok (.iload 6, 2) := by decide +kernel
theorem dX11_period_103 : decode cX11_period 103 = .ok (.ireturn, 1) := by decide +kernel
theorem dX11_sizeOf_0 : decode cX11_sizeOf 0 = .ok (.lload_n 3, 1) := by decide +kernel
theorem dX11_sizeOf_1 : decode cX11_sizeOf 1 = .ok (.lload_n 1, 1) := by decide +kernel
theorem dX11_sizeOf_2 : decode cX11_sizeOf 2 = .ok (.invokestatic 178, 3) := by decide +kernel
theorem dX11_sizeOf_5 : decode cX11_sizeOf 5 = .ok (.invokestatic 182, 3) := by decide +kernel
theorem dX11_sizeOf_8 : decode cX11_sizeOf 8 = .ok (.lreturn, 1) := by decide +kernel
theorem dX11_layLeast_0 : decode cX11_layLeast 0 = .ok (.aload_n 0, 1) := by decide +kernel
theorem dX11_layLeast_1 : decode cX11_layLeast 1 = .ok (.ldc2_w 186, 3) := by decide +kernel
theorem dX11_layLeast_4 : decode cX11_layLeast 4 = .ok (.putfield 188, 3) := by decide +kernel
theorem dX11_layLeast_7 : decode cX11_layLeast 7 = .ok (.aload_n 0, 1) := by decide +kernel
theorem dX11_layLeast_8 : decode cX11_layLeast 8 = .ok (.lconst 1, 1) := by decide +kernel
theorem dX11_layLeast_9 : decode cX11_layLeast 9 = .ok (.putfield 192, 3) := by decide +kernel
theorem dX11_layLeast_12 : decode cX11_layLeast 12 = .ok (.aload_n 0, 1) := by decide +kernel
theorem dX11_layLeast_13 : decode cX11_layLeast 13 = .ok (.getfield 147, 3) := by decide +kernel
theorem dX11_layLeast_16 : decode cX11_layLeast 16 = .ok (.ifCond .ne 4, 3) := by decide +kernel
theorem dX11_layLeast_19 : decode cX11_layLeast 19 = .ok (.return_, 1) := by decide +kernel
theorem dX11_layLeast_20 : decode cX11_layLeast 20 = .ok (.lconst 1, 1) := by decide +kernel
theorem dX11_layLeast_21 : decode cX11_layLeast 21 = .ok (.aload_n 0, 1) := by decide +kernel
theorem dX11_layLeast_22 : decode cX11_layLeast 22 = .ok (.getfield 147, 3) := by decide +kernel
theorem dX11_layLeast_25 : decode cX11_layLeast 25 = .ok (.lshl, 1) := by decide +kernel
theorem dX11_layLeast_26 : decode cX11_layLeast 26 = .ok (.lstore_n 1, 1) := by decide +kernel
theorem dX11_layLeast_27 : decode cX11_layLeast 27 = .ok (.aload_n 0, 1) := by decide +kernel
theorem dX11_layLeast_28 : decode cX11_layLeast 28 = .ok (.invokevirtual 168, 3) := by decide +kernel
theorem dX11_layLeast_31 : decode cX11_layLeast 31 = .ok (.lstore_n 3, 1) := by decide +kernel
theorem dX11_layLeast_32 : decode cX11_layLeast 32 = .ok (.lload_n 1, 1) := by decide +kernel
theorem dX11_layLeast_33 : decode cX11_layLeast 33 = .ok (.lstore 5, 2) := by decide +kernel
theorem dX11_layLeast_35 : decode cX11_layLeast 35 = .ok (.lconst 1, 1) := by decide +kernel
theorem dX11_layLeast_36 : decode cX11_layLeast 36 = .ok (.lstore 7, 2) := by decide +kernel
theorem dX11_layLeast_38 : decode cX11_layLeast 38 = .ok (.lload 7, 2) := by decide +kernel
theorem dX11_layLeast_40 : decode cX11_layLeast 40 = .ok (.lload 5, 2) := by decide +kernel
theorem dX11_layLeast_42 : decode cX11_layLeast 42 = .ok (.lcmp, 1) := by decide +kernel
theorem dX11_layLeast_43 : decode cX11_layLeast 43 = .ok (.ifCond .ge 78, 3) := by decide +kernel
theorem dX11_layLeast_46 : decode cX11_layLeast 46 = .ok (.lload_n 3, 1) := by decide +kernel
theorem dX11_layLeast_47 : decode cX11_layLeast 47 = .ok (.lload 7, 2) := by decide +kernel
theorem dX11_layLeast_49 : decode cX11_layLeast 49 = .ok (.lmul, 1) := by decide +kernel
theorem dX11_layLeast_50 : decode cX11_layLeast 50 = .ok (.lload_n 1, 1) := by decide +kernel
theorem dX11_layLeast_51 : decode cX11_layLeast 51 = .ok (.lrem, 1) := by decide +kernel
theorem dX11_layLeast_52 : decode cX11_layLeast 52 = .ok (.lstore 9, 2) := by decide +kernel
theorem dX11_layLeast_54 : decode cX11_layLeast 54 = .ok (.ldc2_w 195, 3) := by decide +kernel
theorem dX11_layLeast_57 : decode cX11_layLeast 57 = .ok (.lload 9, 2) := by decide +kernel
theorem dX11_layLeast_59 : decode cX11_layLeast 59 = .ok (.lmul, 1) := by decide +kernel
theorem dX11_layLeast_60 : decode cX11_layLeast 60 = .ok (.lload_n 1, 1) := by decide +kernel
theorem dX11_layLeast_61 : decode cX11_layLeast 61 = .ok (.lcmp, 1) := by decide +kernel
theorem dX11_layLeast_62 : decode cX11_layLeast 62 = .ok (.ifCond .lt 9, 3) := by decide +kernel
theorem dX11_layLeast_65 : decode cX11_layLeast 65 = .ok (.lload 9, 2) := by decide +kernel
theorem dX11_layLeast_67 : decode cX11_layLeast 67 = .ok (.lload_n 1, 1) := by decide +kernel
theorem dX11_layLeast_68 : decode cX11_layLeast 68 = .ok (.lsub, 1) := by decide +kernel
theorem dX11_layLeast_69 : decode cX11_layLeast 69 = .ok (.lstore 9, 2) := by decide +kernel
theorem dX11_layLeast_71 : decode cX11_layLeast 71 = .ok (.aload_n 0, 1) := by decide +kernel
theorem dX11_layLeast_72 : decode cX11_layLeast 72 = .ok (.lload 9, 2) := by decide +kernel
theorem dX11_layLeast_74 : decode cX11_layLeast 74 = .ok (.lload 7, 2) := by decide +kernel
theorem dX11_layLeast_76 : decode cX11_layLeast 76 = .ok (.invokevirtual 197, 3) := by decide +kernel
theorem dX11_layLeast_79 : decode cX11_layLeast 79 = .ok (.lload 5, 2) := by decide +kernel
theorem dX11_layLeast_81 : decode cX11_layLeast 81 = .ok (.lcmp, 1) := by decide +kernel
theorem dX11_layLeast_82 : decode cX11_layLeast 82 = .ok (.ifCond .lt 6, 3) := by decide +kernel
theorem dX11_layLeast_85 : decode cX11_layLeast 85 = .ok (.goto 25, 3) := by decide +kernel
theorem dX11_layLeast_88 : decode cX11_layLeast 88 = .ok (.aload_n 0, 1) := by decide +kernel
theorem dX11_layLeast_89 : decode cX11_layLeast 89 = .ok (.lload 9, 2) := by decide +kernel
theorem dX11_layLeast_91 : decode cX11_layLeast 91 = .ok (.lload 7, 2) := by decide +kernel
theorem dX11_layLeast_93 : decode cX11_layLeast 93 = .ok (.invokevirtual 197, 3) := by decide +kernel
theorem dX11_layLeast_96 : decode cX11_layLeast 96 = .ok (.lstore 5, 2) := by decide +kernel
theorem dX11_layLeast_98 : decode cX11_layLeast 98 = .ok (.aload_n 0, 1) := by decide +kernel
theorem dX11_layLeast_99 : decode cX11_layLeast 99 = .ok (.lload 9, 2) := by decide +kernel
theorem dX11_layLeast_101 : decode cX11_layLeast 101 = .ok (.putfield 188, 3) := by decide +kernel
theorem dX11_layLeast_104 : decode cX11_layLeast 104 = .ok (.aload_n 0, 1) := by decide +kernel
theorem dX11_layLeast_105 : decode cX11_layLeast 105 = .ok (.lload 7, 2) := by decide +kernel
theorem dX11_layLeast_107 : decode cX11_layLeast 107 = .ok (.putfield 192, 3) := by decide +kernel
theorem dX11_layLeast_110 : decode cX11_layLeast 110 = .ok (.lload 7, 2) := by decide +kernel
theorem dX11_layLeast_112 : decode cX11_layLeast 112 = .ok (.ldc2_w 195, 3) := by decide +kernel
theorem dX11_layLeast_115 : decode cX11_layLeast 115 = .ok (.ladd, 1) := by decide +kernel
theorem dX11_layLeast_116 : decode cX11_layLeast 116 = .ok (.lstore 7, 2) := by decide +kernel
theorem dX11_layLeast_118 : decode cX11_layLeast 118 = .ok (.goto (-80), 3) := by decide +kernel
theorem dX11_layLeast_121 : decode cX11_layLeast 121 = .ok (.return_, 1) := by decide +kernel
theorem dX11_digitsOf_0 : decode cX11_digitsOf 0 = .ok (.iconst 0, 1) := by decide +kernel
theorem dX11_digitsOf_1 : decode cX11_digitsOf 1 = .ok (.istore_n 2, 1) := by decide +kernel
theorem dX11_digitsOf_2 : decode cX11_digitsOf 2 = .ok (.lload_n 0, 1) := by decide +kernel
theorem dX11_digitsOf_3 : decode cX11_digitsOf 3 = .ok (.lstore_n 3, 1) := by decide +kernel
theorem dX11_digitsOf_4 : decode cX11_digitsOf 4 = .ok (.lload_n 3, 1) := by decide +kernel
theorem dX11_digitsOf_5 : decode cX11_digitsOf 5 = .ok (.lconst 0, 1) := by decide +kernel
theorem dX11_digitsOf_6 : decode cX11_digitsOf 6 = .ok (.lcmp, 1) := by decide +kernel
theorem dX11_digitsOf_7 : decode cX11_digitsOf 7 = .ok (.ifCond .le 15, 3) := by decide +kernel
theorem dX11_digitsOf_10 : decode cX11_digitsOf 10 = .ok (.iinc 2 1, 3) := by decide +kernel
theorem dX11_digitsOf_13 : decode cX11_digitsOf 13 = .ok (.lload_n 3, 1) := by decide +kernel
theorem dX11_digitsOf_14 : decode cX11_digitsOf 14 = .ok (.ldc2_w 195, 3) := by decide +kernel
theorem dX11_digitsOf_17 : decode cX11_digitsOf 17 = .ok (.ldiv, 1) := by decide +kernel
theorem dX11_digitsOf_18 : decode cX11_digitsOf 18 = .ok (.lstore_n 3, 1) := by decide +kernel
theorem dX11_digitsOf_19 : decode cX11_digitsOf 19 = .ok (.goto (-15), 3) := by decide +kernel
theorem dX11_digitsOf_22 : decode cX11_digitsOf 22 = .ok (.iload_n 2, 1) := by decide +kernel
theorem dX11_digitsOf_23 : decode cX11_digitsOf 23 = .ok (.ireturn, 1) := by decide +kernel
theorem dX11_fraction_0 : decode cX11_fraction 0 = .ok (.aload_n 0, 1) := by decide +kernel
theorem dX11_fraction_1 : decode cX11_fraction 1 = .ok (.iload_n 1, 1) := by decide +kernel
theorem dX11_fraction_2 : decode cX11_fraction 2 = .ok (.invokevirtual 160, 3) := by decide +kernel
theorem dX11_fraction_5 : decode cX11_fraction 5 = .ok (.ifCond .eq 23, 3) := by decide +kernel
theorem dX11_fraction_8 : decode cX11_fraction 8 = .ok (.iload_n 2, 1) := by decide +kernel
theorem dX11_fraction_9 : decode cX11_fraction 9 = .ok (.iconst 0, 1) := by decide +kernel
theorem dX11_fraction_10 : decode cX11_fraction 10 = .ok (.iconst 3, 1) := by decide +kernel
theorem dX11_fraction_11 : decode cX11_fraction 11 = .ok (.invokestatic 70, 3) := by decide +kernel
theorem dX11_fraction_14 : decode cX11_fraction 14 = .ok (.ifCond .eq 14, 3) := by decide +kernel
theorem dX11_fraction_17 : decode cX11_fraction 17 = .ok (.aload_n 0, 1) := by decide +kernel
theorem dX11_fraction_18 : decode cX11_fraction 18 = .ok (.getfield 60, 3) := by decide +kernel
theorem dX11_fraction_21 : decode cX11_fraction 21 = .ok (.iload_n 1, 1) := by decide +kernel
theorem dX11_fraction_22 : decode cX11_fraction 22 = .ok (.iaload, 1) := by decide +kernel
theorem dX11_fraction_23 : decode cX11_fraction 23 = .ok (.bipush 24, 2) := by decide +kernel
theorem dX11_fraction_25 : decode cX11_fraction 25 = .ok (.if_icmp .le 7, 3) := by decide +kernel
theorem dX11_fraction_28 : decode cX11_fraction 28 = .ok (.ldc2_w 163, 3) := by decide +kernel
theorem dX11_fraction_31 : decode cX11_fraction 31 = .ok (.lreturn, 1) := by decide +kernel
theorem dX11_fraction_32 : decode cX11_fraction 32 = .ok (.aload_n 0, 1) := by decide +kernel
theorem dX11_fraction_33 : decode cX11_fraction 33 = .ok (.iload_n 1, 1) := by decide +kernel
theorem dX11_fraction_34 : decode cX11_fraction 34 = .ok (.invokevirtual 165, 3) := by decide +kernel
theorem dX11_fraction_37 : decode cX11_fraction 37 = .ok (.aload_n 0, 1) := by decide +kernel
theorem dX11_fraction_38 : decode cX11_fraction 38 = .ok (.invokevirtual 200, 3) := by decide +kernel
theorem dX11_fraction_41 : decode cX11_fraction 41 = .ok (.iload_n 2, 1) := by decide +kernel
theorem dX11_fraction_42 : decode cX11_fraction 42 = .ok (.ifCond .ne 10, 3) := by decide +kernel
theorem dX11_fraction_45 : decode cX11_fraction 45 = .ok (.aload_n 0, 1) := by decide +kernel
theorem dX11_fraction_46 : decode cX11_fraction 46 = .ok (.getfield 188, 3) := by decide +kernel
theorem dX11_fraction_49 : decode cX11_fraction 49 = .ok (.goto 51, 3) := by decide +kernel
theorem dX11_fraction_52 : decode cX11_fraction 52 = .ok (.iload_n 2, 1) := by decide +kernel
theorem dX11_fraction_53 : decode cX11_fraction 53 = .ok (.iconst 1, 1) := by decide +kernel
theorem dX11_fraction_54 : decode cX11_fraction 54 = .ok (.if_icmp .ne 10, 3) := by decide +kernel
theorem dX11_fraction_57 : decode cX11_fraction 57 = .ok (.aload_n 0, 1) := by decide +kernel
theorem dX11_fraction_58 : decode cX11_fraction 58 = .ok (.getfield 192, 3) := by decide +kernel
theorem dX11_fraction_61 : decode cX11_fraction 61 = .ok (.goto 39, 3) := by decide +kernel
theorem dX11_fraction_64 : decode cX11_fraction 64 = .ok (.iload_n 2, 1) := by decide +kernel
theorem dX11_fraction_65 : decode cX11_fraction 65 = .ok (.iconst 2, 1) := by decide +kernel
theorem dX11_fraction_66 : decode cX11_fraction 66 = .ok (.if_icmp .ne 18, 3) := by decide +kernel
theorem dX11_fraction_69 : decode cX11_fraction 69 = .ok (.aload_n 0, 1) := by decide +kernel
theorem dX11_fraction_70 : decode cX11_fraction 70 = .ok (.aload_n 0, 1) := by decide +kernel
theorem dX11_fraction_71 : decode cX11_fraction 71 = .ok (.getfield 188, 3) := by decide +kernel
theorem dX11_fraction_74 : decode cX11_fraction 74 = .ok (.aload_n 0, 1) := by decide +kernel
theorem dX11_fraction_75 : decode cX11_fraction 75 = .ok (.getfield 192, 3) := by decide +kernel
theorem dX11_fraction_78 : decode cX11_fraction 78 = .ok (.invokevirtual 197, 3) := by decide +kernel
theorem dX11_fraction_81 : decode cX11_fraction 81 = .ok (.goto 19, 3) := by decide +kernel
theorem dX11_fraction_84 : decode cX11_fraction 84 = .ok (.aload_n 0, 1) := by decide +kernel
theorem dX11_fraction_85 : decode cX11_fraction 85 = .ok (.aload_n 0, 1) := by decide +kernel
theorem dX11_fraction_86 : decode cX11_fraction 86 = .ok (.getfield 188, 3) := by decide +kernel
theorem dX11_fraction_89 : decode cX11_fraction 89 = .ok (.aload_n 0, 1) := by decide +kernel
theorem dX11_fraction_90 : decode cX11_fraction 90 = .ok (.getfield 192, 3) := by decide +kernel
theorem dX11_fraction_93 : decode cX11_fraction 93 = .ok (.invokevirtual 197, 3) := by decide +kernel
theorem dX11_fraction_96 : decode cX11_fraction 96 = .ok (.invokestatic 203, 3) := by decide +kernel
theorem dX11_fraction_99 : decode cX11_fraction 99 = .ok (.i2l, 1) := by decide +kernel
theorem dX11_fraction_100 : decode cX11_fraction 100 = .ok (.lreturn, 1) := by decide +kernel
theorem dX11_common_0 : decode cX11_common 0 = .ok (.iload_n 1, 1) := by decide +kernel
theorem dX11_common_1 : decode cX11_common 1 = .ok (.ifCond .ne 7, 3) := by decide +kernel
theorem dX11_common_4 : decode cX11_common 4 = .ok (.iload_n 0, 1) := by decide +kernel
theorem dX11_common_5 : decode cX11_common 5 = .ok (.goto 10, 3) := by decide +kernel
theorem dX11_common_8 : decode cX11_common 8 = .ok (.iload_n 1, 1) := by decide +kernel
theorem dX11_common_9 : decode cX11_common 9 = .ok (.iload_n 0, 1) := by decide +kernel
theorem dX11_common_10 : decode cX11_common 10 = .ok (.iload_n 1, 1) := by decide +kernel
theorem dX11_common_11 : decode cX11_common 11 = .ok (.irem, 1) := by decide +kernel
theorem dX11_common_12 : decode cX11_common 12 = .ok (.invokestatic 207, 3) := by decide +kernel
theorem dX11_common_15 : decode cX11_common 15 = .ok (.ireturn, 1) := by decide +kernel
theorem dX11_restOf_0 : decode cX11_restOf 0 = .ok (.iload_n 2, 1) := by decide +kernel
theorem dX11_restOf_1 : decode cX11_restOf 1 = .ok (.iconst 1, 1) := by decide +kernel
theorem dX11_restOf_2 : decode cX11_restOf 2 = .ok (.iload_n 0, 1) := by decide +kernel
theorem dX11_restOf_3 : decode cX11_restOf 3 = .ok (.ishl, 1) := by decide +kernel
theorem dX11_restOf_4 : decode cX11_restOf 4 = .ok (.iconst 1, 1) := by decide +kernel
theorem dX11_restOf_5 : decode cX11_restOf 5 = .ok (.isub, 1) := by decide +kernel
theorem dX11_restOf_6 : decode cX11_restOf 6 = .ok (.iand, 1) := by decide +kernel
theorem dX11_restOf_7 : decode cX11_restOf 7 = .ok (.ineg, 1) := by decide +kernel
theorem dX11_restOf_8 : decode cX11_restOf 8 = .ok (.istore_n 3, 1) := by decide +kernel
theorem dX11_restOf_9 : decode cX11_restOf 9 = .ok (.iconst 0, 1) := by decide +kernel
theorem dX11_restOf_10 : decode cX11_restOf 10 = .ok (.istore 4, 2) := by decide +kernel
theorem dX11_restOf_12 : decode cX11_restOf 12 = .ok (.iload 4, 2) := by decide +kernel
theorem dX11_restOf_14 : decode cX11_restOf 14 = .ok (.iload_n 0, 1) := by decide +kernel
theorem dX11_restOf_15 : decode cX11_restOf 15 = .ok (.if_icmp .ge 34, 3) := by decide +kernel
theorem dX11_restOf_18 : decode cX11_restOf 18 = .ok (.iload_n 1, 1) := by decide +kernel
theorem dX11_restOf_19 : decode cX11_restOf 19 = .ok (.iload 4, 2) := by decide +kernel
theorem dX11_restOf_21 : decode cX11_restOf 21 = .ok (.invokestatic 96, 3) := by decide +kernel
theorem dX11_restOf_24 : decode cX11_restOf 24 = .ok (.ifCond .eq 19, 3) := by decide +kernel
theorem dX11_restOf_27 : decode cX11_restOf 27 = .ok (.iload_n 3, 1) := by decide +kernel
theorem dX11_restOf_28 : decode cX11_restOf 28 = .ok (.iload_n 2, 1) := by decide +kernel
theorem dX11_restOf_29 : decode cX11_restOf 29 = .ok (.iconst 1, 1) := by decide +kernel
theorem dX11_restOf_30 : decode cX11_restOf 30 = .ok (.iload 4, 2) := by decide +kernel
theorem dX11_restOf_32 : decode cX11_restOf 32 = .ok (.ishl, 1) := by decide +kernel
theorem dX11_restOf_33 : decode cX11_restOf 33 = .ok (.iconst 1, 1) := by decide +kernel
theorem dX11_restOf_34 : decode cX11_restOf 34 = .ok (.isub, 1) := by decide +kernel
theorem dX11_restOf_35 : decode cX11_restOf 35 = .ok (.iand, 1) := by decide +kernel
theorem dX11_restOf_36 : decode cX11_restOf 36 = .ok (.iload_n 0, 1) := by decide +kernel
theorem dX11_restOf_37 : decode cX11_restOf 37 = .ok (.iload 4, 2) := by decide +kernel
theorem dX11_restOf_39 : decode cX11_restOf 39 = .ok (.isub, 1) := by decide +kernel
theorem dX11_restOf_40 : decode cX11_restOf 40 = .ok (.ishl, 1) := by decide +kernel
theorem dX11_restOf_41 : decode cX11_restOf 41 = .ok (.iadd, 1) := by decide +kernel
theorem dX11_restOf_42 : decode cX11_restOf 42 = .ok (.istore_n 3, 1) := by decide +kernel
theorem dX11_restOf_43 : decode cX11_restOf 43 = .ok (.iinc 4 1, 3) := by decide +kernel
theorem dX11_restOf_46 : decode cX11_restOf 46 = .ok (.goto (-34), 3) := by decide +kernel
theorem dX11_restOf_49 : decode cX11_restOf 49 = .ok (.iload_n 3, 1) := by decide +kernel
theorem dX11_restOf_50 : decode cX11_restOf 50 = .ok (.ireturn, 1) := by decide +kernel
theorem dX11_told_0 : decode cX11_told 0 = .ok (.aload_n 0, 1) := by decide +kernel
theorem dX11_told_1 : decode cX11_told 1 = .ok (.iload_n 1, 1) := by decide +kernel
theorem dX11_told_2 : decode cX11_told 2 = .ok (.invokevirtual 86, 3) := by decide +kernel
theorem dX11_told_5 : decode cX11_told 5 = .ok (.ifCond .eq 21, 3) := by decide +kernel
theorem dX11_told_8 : decode cX11_told 8 = .ok (.iload_n 2, 1) := by decide +kernel
theorem dX11_told_9 : decode cX11_told 9 = .ok (.iconst 0, 1) := by decide +kernel
theorem dX11_told_10 : decode cX11_told 10 = .ok (.iconst 1, 1) := by decide +kernel
theorem dX11_told_11 : decode cX11_told 11 = .ok (.invokestatic 70, 3) := by decide +kernel
theorem dX11_told_14 : decode cX11_told 14 = .ok (.ifCond .eq 12, 3) := by decide +kernel
theorem dX11_told_17 : decode cX11_told 17 = .ok (.aload_n 0, 1) := by decide +kernel
theorem dX11_told_18 : decode cX11_told 18 = .ok (.getfield 11, 3) := by decide +kernel
theorem dX11_told_21 : decode cX11_told 21 = .ok (.iload_n 1, 1) := by decide +kernel
theorem dX11_told_22 : decode cX11_told 22 = .ok (.iaload, 1) := by decide +kernel
theorem dX11_told_23 : decode cX11_told 23 = .ok (.ifCond .eq 7, 3) := by decide +kernel
theorem dX11_told_26 : decode cX11_told 26 = .ok (.ldc2_w 163, 3) := by decide +kernel
theorem dX11_told_29 : decode cX11_told 29 = .ok (.lreturn, 1) := by decide +kernel
theorem dX11_told_30 : decode cX11_told 30 = .ok (.aload_n 0, 1) := by decide +kernel
theorem dX11_told_31 : decode cX11_told 31 = .ok (.getfield 15, 3) := by decide +kernel
theorem dX11_told_34 : decode cX11_told 34 = .ok (.iload_n 1, 1) := by decide +kernel
theorem dX11_told_35 : decode cX11_told 35 = .ok (.iaload, 1) := by decide +kernel
theorem dX11_told_36 : decode cX11_told 36 = .ok (.aload_n 0, 1) := by decide +kernel
theorem dX11_told_37 : decode cX11_told 37 = .ok (.getfield 18, 3) := by decide +kernel
theorem dX11_told_40 : decode cX11_told 40 = .ok (.iload_n 1, 1) := by decide +kernel
theorem dX11_told_41 : decode cX11_told 41 = .ok (.iaload, 1) := by decide +kernel
theorem dX11_told_42 : decode cX11_told 42 = .ok (.aload_n 0, 1) := by decide +kernel
theorem dX11_told_43 : decode cX11_told 43 = .ok (.getfield 21, 3) := by decide +kernel
theorem dX11_told_46 : decode cX11_told 46 = .ok (.iload_n 1, 1) := by decide +kernel
theorem dX11_told_47 : decode cX11_told 47 = .ok (.iaload, 1) := by decide +kernel
theorem dX11_told_48 : decode cX11_told 48 = .ok (.invokestatic 210, 3) := by decide +kernel
theorem dX11_told_51 : decode cX11_told 51 = .ok (.aload_n 0, 1) := by decide +kernel
theorem dX11_told_52 : decode cX11_told 52 = .ok (.getfield 24, 3) := by decide +kernel
theorem dX11_told_55 : decode cX11_told 55 = .ok (.iload_n 1, 1) := by decide +kernel
theorem dX11_told_56 : decode cX11_told 56 = .ok (.iaload, 1) := by decide +kernel
theorem dX11_told_57 : decode cX11_told 57 = .ok (.aload_n 0, 1) := by decide +kernel
theorem dX11_told_58 : decode cX11_told 58 = .ok (.getfield 15, 3) := by decide +kernel
theorem dX11_told_61 : decode cX11_told 61 = .ok (.iload_n 1, 1) := by decide +kernel
theorem dX11_told_62 : decode cX11_told 62 = .ok (.iaload, 1) := by decide +kernel
theorem dX11_told_63 : decode cX11_told 63 = .ok (.ishl, 1) := by decide +kernel
theorem dX11_told_64 : decode cX11_told 64 = .ok (.isub, 1) := by decide +kernel
theorem dX11_told_65 : decode cX11_told 65 = .ok (.istore_n 3, 1) := by decide +kernel
theorem dX11_told_66 : decode cX11_told 66 = .ok (.aload_n 0, 1) := by decide +kernel
theorem dX11_told_67 : decode cX11_told 67 = .ok (.iload_n 1, 1) := by decide +kernel
theorem dX11_told_68 : decode cX11_told 68 = .ok (.invokevirtual 103, 3) := by decide +kernel
theorem dX11_told_71 : decode cX11_told 71 = .ok (.istore 4, 2) := by decide +kernel
theorem dX11_told_73 : decode cX11_told 73 = .ok (.iload 4, 2) := by decide +kernel
theorem dX11_told_75 : decode cX11_told 75 = .ok (.iload_n 3, 1) := by decide +kernel
theorem dX11_told_76 : decode cX11_told 76 = .ok (.invokestatic 214, 3) := by decide +kernel
theorem dX11_told_79 : decode cX11_told 79 = .ok (.invokestatic 207, 3) := by decide +kernel
theorem dX11_told_82 : decode cX11_told 82 = .ok (.istore 5, 2) := by decide +kernel
theorem dX11_told_84 : decode cX11_told 84 = .ok (.iload_n 2, 1) := by decide +kernel
theorem dX11_told_85 : decode cX11_told 85 = .ok (.ifCond .ne 11, 3) := by decide +kernel
theorem dX11_told_88 : decode cX11_told 88 = .ok (.iload_n 3, 1) := by decide +kernel
theorem dX11_told_89 : decode cX11_told 89 = .ok (.iload 5, 2) := by decide +kernel
theorem dX11_told_91 : decode cX11_told 91 = .ok (.idiv, 1) := by decide +kernel
theorem dX11_told_92 : decode cX11_told 92 = .ok (.i2l, 1) := by decide +kernel
theorem dX11_told_93 : decode cX11_told 93 = .ok (.goto 9, 3) := by decide +kernel
theorem dX11_told_96 : decode cX11_told 96 = .ok (.iload 4, 2) := by decide +kernel
theorem dX11_told_98 : decode cX11_told 98 = .ok (.iload 5, 2) := by decide +kernel
theorem dX11_told_100 : decode cX11_told 100 = .ok (.idiv, 1) := by decide +kernel
theorem dX11_told_101 : decode cX11_told 101 = .ok (.i2l, 1) := by decide +kernel
theorem dX11_told_102 : decode cX11_told 102 = .ok (.lreturn, 1) := by decide +kernel
theorem dX11_build_0 : decode cX11_build 0 = .ok (.iload_n 1, 1) := by decide +kernel
theorem dX11_build_1 : decode cX11_build 1 = .ok (.invokestatic 150, 3) := by decide +kernel
theorem dX11_build_4 : decode cX11_build 4 = .ok (.ifCond .ne 6, 3) := by decide +kernel
theorem dX11_build_7 : decode cX11_build 7 = .ok (.bipush (-2), 2) := by decide +kernel
theorem dX11_build_9 : decode cX11_build 9 = .ok (.ireturn, 1) := by decide +kernel
theorem dX11_build_10 : decode cX11_build 10 = .ok (.aload_n 0, 1) := by decide +kernel
theorem dX11_build_11 : decode cX11_build 11 = .ok (.getfield 57, 3) := by decide +kernel
theorem dX11_build_14 : decode cX11_build 14 = .ok (.iload_n 1, 1) := by decide +kernel
theorem dX11_build_15 : decode cX11_build 15 = .ok (.iaload, 1) := by decide +kernel
theorem dX11_build_16 : decode cX11_build 16 = .ok (.ifCond .ge 6, 3) := by decide +kernel
theorem dX11_build_19 : decode cX11_build 19 = .ok (.bipush (-11), 2) := by decide +kernel
theorem dX11_build_21 : decode cX11_build 21 = .ok (.ireturn, 1) := by decide +kernel
theorem dX11_build_22 : decode cX11_build 22 = .ok (.aload_n 0, 1) := by decide +kernel
theorem dX11_build_23 : decode cX11_build 23 = .ok (.getfield 60, 3) := by decide +kernel
theorem dX11_build_26 : decode cX11_build 26 = .ok (.iload_n 1, 1) := by decide +kernel
theorem dX11_build_27 : decode cX11_build 27 = .ok (.iaload, 1) := by decide +kernel
theorem dX11_build_28 : decode cX11_build 28 = .ok (.bipush 24, 2) := by decide +kernel
theorem dX11_build_30 : decode cX11_build 30 = .ok (.if_icmp .le 6, 3) := by decide +kernel
theorem dX11_build_33 : decode cX11_build 33 = .ok (.bipush (-2), 2) := by decide +kernel
theorem dX11_build_35 : decode cX11_build 35 = .ok (.ireturn, 1) := by decide +kernel
theorem dX11_build_36 : decode cX11_build 36 = .ok (.aload_n 0, 1) := by decide +kernel
theorem dX11_build_37 : decode cX11_build 37 = .ok (.getfield 66, 3) := by decide +kernel
theorem dX11_build_40 : decode cX11_build 40 = .ok (.iconst 4, 1) := by decide +kernel
theorem dX11_build_41 : decode cX11_build 41 = .ok (.if_icmp .ne 6, 3) := by decide +kernel
theorem dX11_build_44 : decode cX11_build 44 = .ok (.bipush (-4), 2) := by decide +kernel
theorem dX11_build_46 : decode cX11_build 46 = .ok (.ireturn, 1) := by decide +kernel
theorem dX11_build_47 : decode cX11_build 47 = .ok (.aload_n 0, 1) := by decide +kernel
theorem dX11_build_48 : decode cX11_build 48 = .ok (.iload_n 1, 1) := by decide +kernel
theorem dX11_build_49 : decode cX11_build 49 = .ok (.invokevirtual 165, 3) := by decide +kernel
theorem dX11_build_52 : decode cX11_build 52 = .ok (.aload_n 0, 1) := by decide +kernel
theorem dX11_build_53 : decode cX11_build 53 = .ok (.invokevirtual 200, 3) := by decide +kernel
theorem dX11_build_56 : decode cX11_build 56 = .ok (.aload_n 0, 1) := by decide +kernel
theorem dX11_build_57 : decode cX11_build 57 = .ok (.getfield 192, 3) := by decide +kernel
theorem dX11_build_60 : decode cX11_build 60 = .ok (.lconst 1, 1) := by decide +kernel
theorem dX11_build_61 : decode cX11_build 61 = .ok (.ladd, 1) := by decide +kernel
theorem dX11_build_62 : decode cX11_build 62 = .ok (.invokestatic 203, 3) := by decide +kernel
theorem dX11_build_65 : decode cX11_build 65 = .ok (.iconst 1, 1) := by decide +kernel
theorem dX11_build_66 : decode cX11_build 66 = .ok (.isub, 1) := by decide +kernel
theorem dX11_build_67 : decode cX11_build 67 = .ok (.istore_n 2, 1) := by decide +kernel
theorem dX11_build_68 : decode cX11_build 68 = .ok (.iload_n 2, 1) := by decide +kernel
theorem dX11_build_69 : decode cX11_build 69 = .ok (.bipush 6, 2) := by decide +kernel
theorem dX11_build_71 : decode cX11_build 71 = .ok (.if_icmp .le 6, 3) := by decide +kernel
theorem dX11_build_74 : decode cX11_build 74 = .ok (.bipush (-3), 2) := by decide +kernel
theorem dX11_build_76 : decode cX11_build 76 = .ok (.ireturn, 1) := by decide +kernel
theorem dX11_build_77 : decode cX11_build 77 = .ok (.iconst 0, 1) := by decide +kernel
theorem dX11_build_78 : decode cX11_build 78 = .ok (.istore_n 3, 1) := by decide +kernel
theorem dX11_build_79 : decode cX11_build 79 = .ok (.iconst 0, 1) := by decide +kernel
theorem dX11_build_80 : decode cX11_build 80 = .ok (.istore 4, 2) := by decide +kernel
theorem dX11_build_82 : decode cX11_build 82 = .ok (.iload 4, 2) := by decide +kernel
theorem dX11_build_84 : decode cX11_build 84 = .ok (.iload_n 2, 1) := by decide +kernel
theorem dX11_build_85 : decode cX11_build 85 = .ok (.if_icmp .ge 34, 3) := by decide +kernel
theorem dX11_build_88 : decode cX11_build 88 = .ok (.aload_n 0, 1) := by decide +kernel
theorem dX11_build_89 : decode cX11_build 89 = .ok (.getfield 192, 3) := by decide +kernel
theorem dX11_build_92 : decode cX11_build 92 = .ok (.lconst 1, 1) := by decide +kernel
theorem dX11_build_93 : decode cX11_build 93 = .ok (.ladd, 1) := by decide +kernel
theorem dX11_build_94 : decode cX11_build 94 = .ok (.iload_n 2, 1) := by decide +kernel
theorem dX11_build_95 : decode cX11_build 95 = .ok (.iload 4, 2) := by decide +kernel
theorem dX11_build_97 : decode cX11_build 97 = .ok (.isub, 1) := by decide +kernel
theorem dX11_build_98 : decode cX11_build 98 = .ok (.lshr, 1) := by decide +kernel
theorem dX11_build_99 : decode cX11_build 99 = .ok (.lconst 1, 1) := by decide +kernel
theorem dX11_build_100 : decode cX11_build 100 = .ok (.land, 1) := by decide +kernel
theorem dX11_build_101 : decode cX11_build 101 = .ok (.lconst 1, 1) := by decide +kernel
theorem dX11_build_102 : decode cX11_build 102 = .ok (.lcmp, 1) := by decide +kernel
theorem dX11_build_103 : decode cX11_build 103 = .ok (.ifCond .ne 10, 3) := by decide +kernel
theorem dX11_build_106 : decode cX11_build 106 = .ok (.iload_n 3, 1) := by decide +kernel
theorem dX11_build_107 : decode cX11_build 107 = .ok (.iconst 1, 1) := by decide +kernel
theorem dX11_build_108 : decode cX11_build 108 = .ok (.iload 4, 2) := by decide +kernel
theorem dX11_build_110 : decode cX11_build 110 = .ok (.ishl, 1) := by decide +kernel
theorem dX11_build_111 : decode cX11_build 111 = .ok (.ior, 1) := by decide +kernel
theorem dX11_build_112 : decode cX11_build 112 = .ok (.istore_n 3, 1) := by decide +kernel
theorem dX11_build_113 : decode cX11_build 113 = .ok (.iinc 4 1, 3) := by decide +kernel
theorem dX11_build_116 : decode cX11_build 116 = .ok (.goto (-34), 3) := by decide +kernel
theorem dX11_build_119 : decode cX11_build 119 = .ok (.iconst 0, 1) := by decide +kernel
theorem dX11_build_120 : decode cX11_build 120 = .ok (.istore 4, 2) := by decide +kernel
theorem dX11_build_122 : decode cX11_build 122 = .ok (.aload_n 0, 1) := by decide +kernel
theorem dX11_build_123 : decode cX11_build 123 = .ok (.getfield 188, 3) := by decide +kernel
theorem dX11_build_126 : decode cX11_build 126 = .ok (.lstore 5, 2) := by decide +kernel
theorem dX11_build_128 : decode cX11_build 128 = .ok (.iconst 0, 1) := by decide +kernel
theorem dX11_build_129 : decode cX11_build 129 = .ok (.istore 7, 2) := by decide +kernel
theorem dX11_build_131 : decode cX11_build 131 = .ok (.iload 7, 2) := by decide +kernel
theorem dX11_build_133 : decode cX11_build 133 = .ok (.iload_n 2, 1) := by decide +kernel
theorem dX11_build_134 : decode cX11_build 134 = .ok (.if_icmp .ge 43, 3) := by decide +kernel
theorem dX11_build_137 : decode cX11_build 137 = .ok (.lload 5, 2) := by decide +kernel
theorem dX11_build_139 : decode cX11_build 139 = .ok (.lconst 1, 1) := by decide +kernel
theorem dX11_build_140 : decode cX11_build 140 = .ok (.land, 1) := by decide +kernel
theorem dX11_build_141 : decode cX11_build 141 = .ok (.l2i, 1) := by decide +kernel
theorem dX11_build_142 : decode cX11_build 142 = .ok (.istore 8, 2) := by decide +kernel
theorem dX11_build_144 : decode cX11_build 144 = .ok (.iload 4, 2) := by decide +kernel
theorem dX11_build_146 : decode cX11_build 146 = .ok (.iload 8, 2) := by decide +kernel
theorem dX11_build_148 : decode cX11_build 148 = .ok (.iload 7, 2) := by decide +kernel
theorem dX11_build_150 : decode cX11_build 150 = .ok (.ishl, 1) := by decide +kernel
theorem dX11_build_151 : decode cX11_build 151 = .ok (.ior, 1) := by decide +kernel
theorem dX11_build_152 : decode cX11_build 152 = .ok (.istore 4, 2) := by decide +kernel
theorem dX11_build_154 : decode cX11_build 154 = .ok (.lload 5, 2) := by decide +kernel
theorem dX11_build_156 : decode cX11_build 156 = .ok (.iload 8, 2) := by decide +kernel
theorem dX11_build_158 : decode cX11_build 158 = .ok (.i2l, 1) := by decide +kernel
theorem dX11_build_159 : decode cX11_build 159 = .ok (.aload_n 0, 1) := by decide +kernel
theorem dX11_build_160 : decode cX11_build 160 = .ok (.getfield 192, 3) := by decide +kernel
theorem dX11_build_163 : decode cX11_build 163 = .ok (.lmul, 1) := by decide +kernel
theorem dX11_build_164 : decode cX11_build 164 = .ok (.lsub, 1) := by decide +kernel
theorem dX11_build_165 : decode cX11_build 165 = .ok (.ldc2_w 195, 3) := by decide +kernel
theorem dX11_build_168 : decode cX11_build 168 = .ok (.ldiv, 1) := by decide +kernel
theorem dX11_build_169 : decode cX11_build 169 = .ok (.lstore 5, 2) := by decide +kernel
theorem dX11_build_171 : decode cX11_build 171 = .ok (.iinc 7 1, 3) := by decide +kernel
theorem dX11_build_174 : decode cX11_build 174 = .ok (.goto (-43), 3) := by decide +kernel
theorem dX11_build_177 : decode cX11_build 177 = .ok (.iload_n 2, 1) := by decide +kernel
theorem dX11_build_178 : decode cX11_build 178 = .ok (.iload_n 3, 1) := by decide +kernel
theorem dX11_build_179 : decode cX11_build 179 = .ok (.iload 4, 2) := by decide +kernel
theorem dX11_build_181 : decode cX11_build 181 = .ok (.invokestatic 210, 3) := by decide +kernel
theorem dX11_build_184 : decode cX11_build 184 = .ok (.i2l, 1) := by decide +kernel
theorem dX11_build_185 : decode cX11_build 185 = .ok (.aload_n 0, 1) := by decide +kernel
theorem dX11_build_186 : decode cX11_build 186 = .ok (.getfield 188, 3) := by decide +kernel
theorem dX11_build_189 : decode cX11_build 189 = .ok (.lsub, 1) := by decide +kernel
theorem dX11_build_190 : decode cX11_build 190 = .ok (.lconst 1, 1) := by decide +kernel
theorem dX11_build_191 : decode cX11_build 191 = .ok (.iload_n 2, 1) := by decide +kernel
theorem dX11_build_192 : decode cX11_build 192 = .ok (.lshl, 1) := by decide +kernel
theorem dX11_build_193 : decode cX11_build 193 = .ok (.ldiv, 1) := by decide +kernel
theorem dX11_build_194 : decode cX11_build 194 = .ok (.lstore 7, 2) := by decide +kernel
theorem dX11_build_196 : decode cX11_build 196 = .ok (.lload 7, 2) := by decide +kernel
theorem dX11_build_198 : decode cX11_build 198 = .ok (.ldc2_w 216, 3) := by decide +kernel
theorem dX11_build_201 : decode cX11_build 201 = .ok (.lcmp, 1) := by decide +kernel
theorem dX11_build_202 : decode cX11_build 202 = .ok (.ifCond .lt 12, 3) := by decide +kernel
theorem dX11_build_205 : decode cX11_build 205 = .ok (.lload 7, 2) := by decide +kernel
theorem dX11_build_207 : decode cX11_build 207 = .ok (.ldc2_w 218, 3) := by decide +kernel
theorem dX11_build_210 : decode cX11_build 210 = .ok (.lcmp, 1) := by decide +kernel
theorem dX11_build_211 : decode cX11_build 211 = .ok (.ifCond .le 6, 3) := by decide +kernel
theorem dX11_build_214 : decode cX11_build 214 = .ok (.bipush (-3), 2) := by decide +kernel
theorem dX11_build_216 : decode cX11_build 216 = .ok (.ireturn, 1) := by decide +kernel
theorem dX11_build_217 : decode cX11_build 217 = .ok (.aload_n 0, 1) := by decide +kernel
theorem dX11_build_218 : decode cX11_build 218 = .ok (.aload_n 0, 1) := by decide +kernel
theorem dX11_build_219 : decode cX11_build 219 = .ok (.getfield 66, 3) := by decide +kernel
theorem dX11_build_222 : decode cX11_build 222 = .ok (.iconst 0, 1) := by decide +kernel
theorem dX11_build_223 : decode cX11_build 223 = .ok (.iload_n 2, 1) := by decide +kernel
theorem dX11_build_224 : decode cX11_build 224 = .ok (.iload_n 3, 1) := by decide +kernel
theorem dX11_build_225 : decode cX11_build 225 = .ok (.iload 4, 2) := by decide +kernel
theorem dX11_build_227 : decode cX11_build 227 = .ok (.lload 7, 2) := by decide +kernel
theorem dX11_build_229 : decode cX11_build 229 = .ok (.l2i, 1) := by decide +kernel
theorem dX11_build_230 : decode cX11_build 230 = .ok (.invokevirtual 82, 3) := by decide +kernel
theorem dX11_build_233 : decode cX11_build 233 = .ok (.aload_n 0, 1) := by decide +kernel
theorem dX11_build_234 : decode cX11_build 234 = .ok (.dup, 1) := by decide +kernel
theorem dX11_build_235 : decode cX11_build 235 = .ok (.getfield 66, 3) := by decide +kernel
theorem dX11_build_238 : decode cX11_build 238 = .ok (.iconst 1, 1) := by decide +kernel
theorem dX11_build_239 : decode cX11_build 239 = .ok (.iadd, 1) := by decide +kernel
theorem dX11_build_240 : decode cX11_build 240 = .ok (.putfield 66, 3) := by decide +kernel
theorem dX11_build_243 : decode cX11_build 243 = .ok (.aload_n 0, 1) := by decide +kernel
theorem dX11_build_244 : decode cX11_build 244 = .ok (.getfield 66, 3) := by decide +kernel
theorem dX11_build_247 : decode cX11_build 247 = .ok (.iconst 1, 1) := by decide +kernel
theorem dX11_build_248 : decode cX11_build 248 = .ok (.isub, 1) := by decide +kernel
theorem dX11_build_249 : decode cX11_build 249 = .ok (.ireturn, 1) := by decide +kernel
theorem dX11_cycle_0 : decode cX11_cycle 0 = .ok (.aload_n 0, 1) := by decide +kernel
theorem dX11_cycle_1 : decode cX11_cycle 1 = .ok (.iload_n 1, 1) := by decide +kernel
theorem dX11_cycle_2 : decode cX11_cycle 2 = .ok (.invokevirtual 86, 3) := by decide +kernel
theorem dX11_cycle_5 : decode cX11_cycle 5 = .ok (.ifCond .eq 12, 3) := by decide +kernel
theorem dX11_cycle_8 : decode cX11_cycle 8 = .ok (.iload_n 2, 1) := by decide +kernel
theorem dX11_cycle_9 : decode cX11_cycle 9 = .ok (.iconst 0, 1) := by decide +kernel
theorem dX11_cycle_10 : decode cX11_cycle 10 = .ok (.iconst 1, 1) := by decide +kernel
theorem dX11_cycle_11 : decode cX11_cycle 11 = .ok (.invokestatic 70, 3) := by decide +kernel
theorem dX11_cycle_14 : decode cX11_cycle 14 = .ok (.ifCond .ne 6, 3) := by decide +kernel
theorem dX11_cycle_17 : decode cX11_cycle 17 = .ok (.bipush (-2), 2) := by decide +kernel
theorem dX11_cycle_19 : decode cX11_cycle 19 = .ok (.ireturn, 1) := by decide +kernel
theorem dX11_cycle_20 : decode cX11_cycle 20 = .ok (.aload_n 0, 1) := by decide +kernel
theorem dX11_cycle_21 : decode cX11_cycle 21 = .ok (.iload_n 1, 1) := by decide +kernel
theorem dX11_cycle_22 : decode cX11_cycle 22 = .ok (.invokevirtual 140, 3) := by decide +kernel
theorem dX11_cycle_25 : decode cX11_cycle 25 = .ok (.iconst 0, 1) := by decide +kernel
theorem dX11_cycle_26 : decode cX11_cycle 26 = .ok (.istore_n 3, 1) := by decide +kernel
theorem dX11_cycle_27 : decode cX11_cycle 27 = .ok (.iload_n 3, 1) := by decide +kernel
theorem dX11_cycle_28 : decode cX11_cycle 28 = .ok (.sipush 10000, 3) := by decide +kernel
theorem dX11_cycle_31 : decode cX11_cycle 31 = .ok (.if_icmp .ge 15, 3) := by decide +kernel
theorem dX11_cycle_34 : decode cX11_cycle 34 = .ok (.aload_n 0, 1) := by decide +kernel
theorem dX11_cycle_35 : decode cX11_cycle 35 = .ok (.invokevirtual 144, 3) := by decide +kernel
theorem dX11_cycle_38 : decode cX11_cycle 38 = .ok (.istore 4, 2) := by decide +kernel
theorem dX11_cycle_40 : decode cX11_cycle 40 = .ok (.iinc 3 1, 3) := by decide +kernel
theorem dX11_cycle_43 : decode cX11_cycle 43 = .ok (.goto (-16), 3) := by decide +kernel
theorem dX11_cycle_46 : decode cX11_cycle 46 = .ok (.aload_n 0, 1) := by decide +kernel
theorem dX11_cycle_47 : decode cX11_cycle 47 = .ok (.getfield 118, 3) := by decide +kernel
theorem dX11_cycle_50 : decode cX11_cycle 50 = .ok (.istore_n 3, 1) := by decide +kernel
theorem dX11_cycle_51 : decode cX11_cycle 51 = .ok (.aload_n 0, 1) := by decide +kernel
theorem dX11_cycle_52 : decode cX11_cycle 52 = .ok (.getfield 121, 3) := by decide +kernel
theorem dX11_cycle_55 : decode cX11_cycle 55 = .ok (.istore 4, 2) := by decide +kernel
theorem dX11_cycle_57 : decode cX11_cycle 57 = .ok (.iconst 0, 1) := by decide +kernel
theorem dX11_cycle_58 : decode cX11_cycle 58 = .ok (.istore 5, 2) := by decide +kernel
theorem dX11_cycle_60 : decode cX11_cycle 60 = .ok (.aload_n 0, 1) := by decide +kernel
theorem dX11_cycle_61 : decode cX11_cycle 61 = .ok (.invokevirtual 144, 3) := by decide +kernel
theorem dX11_cycle_64 : decode cX11_cycle 64 = .ok (.istore 6, 2) := by decide +kernel
theorem dX11_cycle_66 : decode cX11_cycle 66 = .ok (.iinc 5 1, 3) := by decide +kernel
theorem dX11_cycle_69 : decode cX11_cycle 69 = .ok (.aload_n 0, 1) := by decide +kernel
theorem dX11_cycle_70 : decode cX11_cycle 70 = .ok (.getfield 118, 3) := by decide +kernel
theorem dX11_cycle_73 : decode cX11_cycle 73 = .ok (.iload_n 3, 1) := by decide +kernel
theorem dX11_cycle_74 : decode cX11_cycle 74 = .ok (.if_icmp .ne (-14), 3) := by decide +kernel
theorem dX11_cycle_77 : decode cX11_cycle 77 = .ok (.aload_n 0, 1) := by decide +kernel
theorem dX11_cycle_78 : decode cX11_cycle 78 = .ok (.getfield 121, 3) := by decide +kernel
theorem dX11_cycle_81 : decode cX11_cycle 81 = .ok (.iload 4, 2) := by decide +kernel
theorem dX11_cycle_83 : decode cX11_cycle 83 = .ok (.if_icmp .ne (-23), 3) := by decide +kernel
theorem dX11_cycle_86 : decode cX11_cycle 86 = .ok (.iload_n 2, 1) := by decide +kernel
theorem dX11_cycle_87 : decode cX11_cycle 87 = .ok (.ifCond .ne 6, 3) := by decide +kernel
theorem dX11_cycle_90 : decode cX11_cycle 90 = .ok (.iload 5, 2) := by decide +kernel
theorem dX11_cycle_92 : decode cX11_cycle 92 = .ok (.ireturn, 1) := by decide +kernel
theorem dX11_cycle_93 : decode cX11_cycle 93 = .ok (.iconst 0, 1) := by decide +kernel
theorem dX11_cycle_94 : decode cX11_cycle 94 = .ok (.istore 6, 2) := by decide +kernel
theorem dX11_cycle_96 : decode cX11_cycle 96 = .ok (.aload_n 0, 1) := by decide +kernel
theorem dX11_cycle_97 : decode cX11_cycle 97 = .ok (.iload_n 1, 1) := by decide +kernel
theorem dX11_cycle_98 : decode cX11_cycle 98 = .ok (.iload 6, 2) := by decide +kernel
theorem dX11_cycle_100 : decode cX11_cycle 100 = .ok (.iload 5, 2) := by decide +kernel
theorem dX11_cycle_102 : decode cX11_cycle 102 = .ok (.invokevirtual 220, 3) := by decide +kernel
theorem dX11_cycle_105 : decode cX11_cycle 105 = .ok (.ifCond .ne 9, 3) := by decide +kernel
theorem dX11_cycle_108 : decode cX11_cycle 108 = .ok (.iinc 6 1, 3) := by decide +kernel
theorem dX11_cycle_111 : decode cX11_cycle 111 = .ok (.goto (-15), 3) := by decide +kernel
theorem dX11_cycle_114 : decode cX11_cycle 114 = .ok (.iload 6, 2) := by decide +kernel
theorem dX11_cycle_116 : decode cX11_cycle 116 = .ok (.ireturn, 1) := by decide +kernel
theorem dX11_isAgain_0 : decode cX11_isAgain 0 = .ok (.aload_n 0, 1) := by decide +kernel
theorem dX11_isAgain_1 : decode cX11_isAgain 1 = .ok (.iload_n 1, 1) := by decide +kernel
theorem dX11_isAgain_2 : decode cX11_isAgain 2 = .ok (.invokevirtual 140, 3) := by decide +kernel
theorem dX11_isAgain_5 : decode cX11_isAgain 5 = .ok (.iconst 0, 1) := by decide +kernel
theorem dX11_isAgain_6 : decode cX11_isAgain 6 = .ok (.istore 4, 2) := by decide +kernel
theorem dX11_isAgain_8 : decode cX11_isAgain 8 = .ok (.iload 4, 2) := by decide +kernel
theorem dX11_isAgain_10 : decode cX11_isAgain 10 = .ok (.iload_n 2, 1) := by decide +kernel
theorem dX11_isAgain_11 : decode cX11_isAgain 11 = .ok (.if_icmp .ge 15, 3) := by decide +kernel
theorem dX11_isAgain_14 : decode cX11_isAgain 14 = .ok (.aload_n 0, 1) := by decide +kernel
theorem dX11_isAgain_15 : decode cX11_isAgain 15 = .ok (.invokevirtual 144, 3) := by decide +kernel
theorem dX11_isAgain_18 : decode cX11_isAgain 18 = .ok (.istore 5, 2) := by decide +kernel
theorem dX11_isAgain_20 : decode cX11_isAgain 20 = .ok (.iinc 4 1, 3) := by decide +kernel
theorem dX11_isAgain_23 : decode cX11_isAgain 23 = .ok (.goto (-15), 3) := by decide +kernel
theorem dX11_isAgain_26 : decode cX11_isAgain 26 = .ok (.aload_n 0, 1) := by decide +kernel
theorem dX11_isAgain_27 : decode cX11_isAgain 27 = .ok (.getfield 118, 3) := by decide +kernel
theorem dX11_isAgain_30 : decode cX11_isAgain 30 = .ok (.istore 4, 2) := by decide +kernel
theorem dX11_isAgain_32 : decode cX11_isAgain 32 = .ok (.aload_n 0, 1) := by decide +kernel
theorem dX11_isAgain_33 : decode cX11_isAgain 33 = .ok (.getfield 121, 3) := by decide +kernel
theorem dX11_isAgain_36 : decode cX11_isAgain 36 = .ok (.istore 5, 2) := by decide +kernel
theorem dX11_isAgain_38 : decode cX11_isAgain 38 = .ok (.iconst 0, 1) := by decide +kernel
theorem dX11_isAgain_39 : decode cX11_isAgain 39 = .ok (.istore 6, 2) := by decide +kernel
theorem dX11_isAgain_41 : decode cX11_isAgain 41 = .ok (.iload 6, 2) := by decide +kernel
theorem dX11_isAgain_43 : decode cX11_isAgain 43 = .ok (.iload_n 3, 1) := by decide +kernel
theorem dX11_isAgain_44 : decode cX11_isAgain 44 = .ok (.if_icmp .ge 15, 3) := by decide +kernel
theorem dX11_isAgain_47 : decode cX11_isAgain 47 = .ok (.aload_n 0, 1) := by decide +kernel
theorem dX11_isAgain_48 : decode cX11_isAgain 48 = .ok (.invokevirtual 144, 3) := by decide +kernel
theorem dX11_isAgain_51 : decode cX11_isAgain 51 = .ok (.istore 7, 2) := by decide +kernel
theorem dX11_isAgain_53 : decode cX11_isAgain 53 = .ok (.iinc 6 1, 3) := by decide +kernel
theorem dX11_isAgain_56 : decode cX11_isAgain 56 = .ok (.goto (-15), 3) := by decide +kernel
theorem dX11_isAgain_59 : decode cX11_isAgain 59 = .ok (.aload_n 0, 1) := by decide +kernel
theorem dX11_isAgain_60 : decode cX11_isAgain 60 = .ok (.getfield 118, 3) := by decide +kernel
theorem dX11_isAgain_63 : decode cX11_isAgain 63 = .ok (.iload 4, 2) := by decide +kernel
theorem dX11_isAgain_65 : decode cX11_isAgain 65 = .ok (.if_icmp .ne 16, 3) := by decide +kernel
theorem dX11_isAgain_68 : decode cX11_isAgain 68 = .ok (.aload_n 0, 1) := by decide +kernel
theorem dX11_isAgain_69 : decode cX11_isAgain 69 = .ok (.getfield 121, 3) := by decide +kernel
theorem dX11_isAgain_72 : decode cX11_isAgain 72 = .ok (.iload 5, 2) := by decide +kernel
theorem dX11_isAgain_74 : decode cX11_isAgain 74 = .ok (.if_icmp .ne 7, 3) := by decide +kernel
theorem dX11_isAgain_77 : decode cX11_isAgain 77 = .ok (.iconst 1, 1) := by decide +kernel
theorem dX11_isAgain_78 : decode cX11_isAgain 78 = .ok (.goto 4, 3) := by decide +kernel
theorem dX11_isAgain_81 : decode cX11_isAgain 81 = .ok (.iconst 0, 1) := by decide +kernel
theorem dX11_isAgain_82 : decode cX11_isAgain 82 = .ok (.ireturn, 1) := by decide +kernel
theorem dX11_layLaw_0 : decode cX11_layLaw 0 = .ok (.iconst 0, 1) := by decide +kernel
theorem dX11_layLaw_1 : decode cX11_layLaw 1 = .ok (.istore_n 1, 1) := by decide +kernel
theorem dX11_layLaw_2 : decode cX11_layLaw 2 = .ok (.iload_n 1, 1) := by decide +kernel
theorem dX11_layLaw_3 : decode cX11_layLaw 3 = .ok (.bipush 40, 2) := by decide +kernel
theorem dX11_layLaw_5 : decode cX11_layLaw 5 = .ok (.if_icmp .gt 36, 3) := by decide +kernel
theorem dX11_layLaw_8 : decode cX11_layLaw 8 = .ok (.aload_n 0, 1) := by decide +kernel
theorem dX11_layLaw_9 : decode cX11_layLaw 9 = .ok (.getfield 33, 3) := by decide +kernel
theorem dX11_layLaw_12 : decode cX11_layLaw 12 = .ok (.iload_n 1, 1) := by decide +kernel
theorem dX11_layLaw_13 : decode cX11_layLaw 13 = .ok (.iload_n 1, 1) := by decide +kernel
theorem dX11_layLaw_14 : decode cX11_layLaw 14 = .ok (.ifCond .ne 7, 3) := by decide +kernel
theorem dX11_layLaw_17 : decode cX11_layLaw 17 = .ok (.iconst 1, 1) := by decide +kernel
theorem dX11_layLaw_18 : decode cX11_layLaw 18 = .ok (.goto 4, 3) := by decide +kernel
theorem dX11_layLaw_21 : decode cX11_layLaw 21 = .ok (.iconst 0, 1) := by decide +kernel
theorem dX11_layLaw_22 : decode cX11_layLaw 22 = .ok (.iastore, 1) := by decide +kernel
theorem dX11_layLaw_23 : decode cX11_layLaw 23 = .ok (.aload_n 0, 1) := by decide +kernel
theorem dX11_layLaw_24 : decode cX11_layLaw 24 = .ok (.getfield 36, 3) := by decide +kernel
theorem dX11_layLaw_27 : decode cX11_layLaw 27 = .ok (.iload_n 1, 1) := by decide +kernel
theorem dX11_layLaw_28 : decode cX11_layLaw 28 = .ok (.aload_n 0, 1) := by decide +kernel
theorem dX11_layLaw_29 : decode cX11_layLaw 29 = .ok (.getfield 33, 3) := by decide +kernel
theorem dX11_layLaw_32 : decode cX11_layLaw 32 = .ok (.iload_n 1, 1) := by decide +kernel
theorem dX11_layLaw_33 : decode cX11_layLaw 33 = .ok (.iaload, 1) := by decide +kernel
theorem dX11_layLaw_34 : decode cX11_layLaw 34 = .ok (.iastore, 1) := by decide +kernel
theorem dX11_layLaw_35 : decode cX11_layLaw 35 = .ok (.iinc 1 1, 3) := by decide +kernel
theorem dX11_layLaw_38 : decode cX11_layLaw 38 = .ok (.goto (-36), 3) := by decide +kernel
theorem dX11_layLaw_41 : decode cX11_layLaw 41 = .ok (.iconst 0, 1) := by decide +kernel
theorem dX11_layLaw_42 : decode cX11_layLaw 42 = .ok (.istore_n 1, 1) := by decide +kernel
theorem dX11_layLaw_43 : decode cX11_layLaw 43 = .ok (.iconst 1, 1) := by decide +kernel
theorem dX11_layLaw_44 : decode cX11_layLaw 44 = .ok (.istore_n 2, 1) := by decide +kernel
theorem dX11_layLaw_45 : decode cX11_layLaw 45 = .ok (.iconst 0, 1) := by decide +kernel
theorem dX11_layLaw_46 : decode cX11_layLaw 46 = .ok (.istore_n 3, 1) := by decide +kernel
theorem dX11_layLaw_47 : decode cX11_layLaw 47 = .ok (.iload_n 3, 1) := by decide +kernel
theorem dX11_layLaw_48 : decode cX11_layLaw 48 = .ok (.aload_n 0, 1) := by decide +kernel
theorem dX11_layLaw_49 : decode cX11_layLaw 49 = .ok (.getfield 147, 3) := by decide +kernel
theorem dX11_layLaw_52 : decode cX11_layLaw 52 = .ok (.if_icmp .ge 160, 3) := by decide +kernel
theorem dX11_layLaw_55 : decode cX11_layLaw 55 = .ok (.iconst 0, 1) := by decide +kernel
theorem dX11_layLaw_56 : decode cX11_layLaw 56 = .ok (.istore 4, 2) := by decide +kernel
theorem dX11_layLaw_58 : decode cX11_layLaw 58 = .ok (.iconst 0, 1) := by decide +kernel
theorem dX11_layLaw_59 : decode cX11_layLaw 59 = .ok (.istore 5, 2) := by decide +kernel
theorem dX11_layLaw_61 : decode cX11_layLaw 61 = .ok (.iload 5, 2) := by decide +kernel
theorem dX11_layLaw_63 : decode cX11_layLaw 63 = .ok (.iload_n 1, 1) := by decide +kernel
theorem dX11_layLaw_64 : decode cX11_layLaw 64 = .ok (.if_icmp .gt 31, 3) := by decide +kernel
theorem dX11_layLaw_67 : decode cX11_layLaw 67 = .ok (.iload 4, 2) := by decide +kernel
theorem dX11_layLaw_69 : decode cX11_layLaw 69 = .ok (.aload_n 0, 1) := by decide +kernel
theorem dX11_layLaw_70 : decode cX11_layLaw 70 = .ok (.getfield 33, 3) := by decide +kernel
theorem dX11_layLaw_73 : decode cX11_layLaw 73 = .ok (.iload 5, 2) := by decide +kernel
theorem dX11_layLaw_75 : decode cX11_layLaw 75 = .ok (.iaload, 1) := by decide +kernel
theorem dX11_layLaw_76 : decode cX11_layLaw 76 = .ok (.aload_n 0, 1) := by decide +kernel
theorem dX11_layLaw_77 : decode cX11_layLaw 77 = .ok (.getfield 27, 3) := by decide +kernel
theorem dX11_layLaw_80 : decode cX11_layLaw 80 = .ok (.iload_n 3, 1) := by decide +kernel
theorem dX11_layLaw_81 : decode cX11_layLaw 81 = .ok (.iload 5, 2) := by decide +kernel
theorem dX11_layLaw_83 : decode cX11_layLaw 83 = .ok (.isub, 1) := by decide +kernel
theorem dX11_layLaw_84 : decode cX11_layLaw 84 = .ok (.iaload, 1) := by decide +kernel
theorem dX11_layLaw_85 : decode cX11_layLaw 85 = .ok (.iand, 1) := by decide +kernel
theorem dX11_layLaw_86 : decode cX11_layLaw 86 = .ok (.ixor, 1) := by decide +kernel
theorem dX11_layLaw_87 : decode cX11_layLaw 87 = .ok (.istore 4, 2) := by decide +kernel
theorem dX11_layLaw_89 : decode cX11_layLaw 89 = .ok (.iinc 5 1, 3) := by decide +kernel
theorem dX11_layLaw_92 : decode cX11_layLaw 92 = .ok (.goto (-31), 3) := by decide +kernel
theorem dX11_layLaw_95 : decode cX11_layLaw 95 = .ok (.iload 4, 2) := by decide +kernel
theorem dX11_layLaw_97 : decode cX11_layLaw 97 = .ok (.ifCond .ne 9, 3) := by decide +kernel
theorem dX11_layLaw_100 : decode cX11_layLaw 100 = .ok (.iinc 2 1, 3) := by decide +kernel
theorem dX11_layLaw_103 : decode cX11_layLaw 103 = .ok (.goto 103, 3) := by decide +kernel
theorem dX11_layLaw_106 : decode cX11_layLaw 106 = .ok (.iconst 2, 1) := by decide +kernel
theorem dX11_layLaw_107 : decode cX11_layLaw 107 = .ok (.iload_n 1, 1) := by decide +kernel
theorem dX11_layLaw_108 : decode cX11_layLaw 108 = .ok (.imul, 1) := by decide +kernel
theorem dX11_layLaw_109 : decode cX11_layLaw 109 = .ok (.iload_n 3, 1) := by decide +kernel
theorem dX11_layLaw_110 : decode cX11_layLaw 110 = .ok (.if_icmp .gt 7, 3) := by decide +kernel
theorem dX11_layLaw_113 : decode cX11_layLaw 113 = .ok (.iconst 1, 1) := by decide +kernel
theorem dX11_layLaw_114 : decode cX11_layLaw 114 = .ok (.goto 4, 3) := by decide +kernel
theorem dX11_layLaw_117 : decode cX11_layLaw 117 = .ok (.iconst 0, 1) := by decide +kernel
theorem dX11_layLaw_118 : decode cX11_layLaw 118 = .ok (.istore 5, 2) := by decide +kernel
theorem dX11_layLaw_120 : decode cX11_layLaw 120 = .ok (.aload_n 0, 1) := by decide +kernel
theorem dX11_layLaw_121 : decode cX11_layLaw 121 = .ok (.getfield 33, 3) := by decide +kernel
theorem dX11_layLaw_124 : decode cX11_layLaw 124 = .ok (.iconst 0, 1) := by decide +kernel
theorem dX11_layLaw_125 : decode cX11_layLaw 125 = .ok (.aload_n 0, 1) := by decide +kernel
theorem dX11_layLaw_126 : decode cX11_layLaw 126 = .ok (.getfield 39, 3) := by decide +kernel
theorem dX11_layLaw_129 : decode cX11_layLaw 129 = .ok (.iconst 0, 1) := by decide +kernel
theorem dX11_layLaw_130 : decode cX11_layLaw 130 = .ok (.bipush 41, 2) := by decide +kernel
theorem dX11_layLaw_132 : decode cX11_layLaw 132 = .ok (.invokestatic 223, 3) := by decide +kernel
theorem dX11_layLaw_135 : decode cX11_layLaw 135 = .ok (.iconst 0, 1) := by decide +kernel
theorem dX11_layLaw_136 : decode cX11_layLaw 136 = .ok (.istore 6, 2) := by decide +kernel
theorem dX11_layLaw_138 : decode cX11_layLaw 138 = .ok (.iload 6, 2) := by decide +kernel
theorem dX11_layLaw_140 : decode cX11_layLaw 140 = .ok (.iload_n 2, 1) := by decide +kernel
theorem dX11_layLaw_141 : decode cX11_layLaw 141 = .ok (.iadd, 1) := by decide +kernel
theorem dX11_layLaw_142 : decode cX11_layLaw 142 = .ok (.bipush 40, 2) := by decide +kernel
theorem dX11_layLaw_144 : decode cX11_layLaw 144 = .ok (.if_icmp .gt 28, 3) := by decide +kernel
theorem dX11_layLaw_147 : decode cX11_layLaw 147 = .ok (.aload_n 0, 1) := by decide +kernel
theorem dX11_layLaw_148 : decode cX11_layLaw 148 = .ok (.getfield 33, 3) := by decide +kernel
theorem dX11_layLaw_151 : decode cX11_layLaw 151 = .ok (.iload 6, 2) := by decide +kernel
theorem dX11_layLaw_153 : decode cX11_layLaw 153 = .ok (.iload_n 2, 1) := by decide +kernel
theorem dX11_layLaw_154 : decode cX11_layLaw 154 = .ok (.iadd, 1) := by decide +kernel
theorem dX11_layLaw_155 : decode cX11_layLaw 155 = .ok (.dup2, 1) := by decide +kernel
theorem dX11_layLaw_156 : decode cX11_layLaw 156 = .ok (.iaload, 1) := by decide +kernel
theorem dX11_layLaw_157 : decode cX11_layLaw 157 = .ok (.aload_n 0, 1) := by decide +kernel
theorem dX11_layLaw_158 : decode cX11_layLaw 158 = .ok (.getfield 36, 3) := by decide +kernel
theorem dX11_layLaw_161 : decode cX11_layLaw 161 = .ok (.iload 6, 2) := by decide +kernel
theorem dX11_layLaw_163 : decode cX11_layLaw 163 = .ok (.iaload, 1) := by decide +kernel
theorem dX11_layLaw_164 : decode cX11_layLaw 164 = .ok (.ixor, 1) := by decide +kernel
theorem dX11_layLaw_165 : decode cX11_layLaw 165 = .ok (.iastore, 1) := by decide +kernel
theorem dX11_layLaw_166 : decode cX11_layLaw 166 = .ok (.iinc 6 1, 3) := by decide +kernel
theorem dX11_layLaw_169 : decode cX11_layLaw 169 = .ok (.goto (-31), 3) := by decide +kernel
theorem dX11_layLaw_172 : decode cX11_layLaw 172 = .ok (.iload 5, 2) := by decide +kernel
theorem dX11_layLaw_174 : decode cX11_layLaw 174 = .ok (.ifCond .eq 29, 3) := by decide +kernel
theorem dX11_layLaw_177 : decode cX11_layLaw 177 = .ok (.iload_n 3, 1) := by decide +kernel
theorem dX11_layLaw_178 : decode cX11_layLaw 178 = .ok (.iconst 1, 1) := by decide +kernel
theorem dX11_layLaw_179 : decode cX11_layLaw 179 = .ok (.iadd, 1) := by decide +kernel
theorem dX11_layLaw_180 : decode cX11_layLaw 180 = .ok (.iload_n 1, 1) := by decide +kernel
theorem dX11_layLaw_181 : decode cX11_layLaw 181 = .ok (.isub, 1) := by decide +kernel
theorem dX11_layLaw_182 : decode cX11_layLaw 182 = .ok (.istore_n 1, 1) := by decide +kernel
theorem dX11_layLaw_183 : decode cX11_layLaw 183 = .ok (.aload_n 0, 1) := by decide +kernel
theorem dX11_layLaw_184 : decode cX11_layLaw 184 = .ok (.getfield 39, 3) := by decide +kernel
theorem dX11_layLaw_187 : decode cX11_layLaw 187 = .ok (.iconst 0, 1) := by decide +kernel
theorem dX11_layLaw_188 : decode cX11_layLaw 188 = .ok (.aload_n 0, 1) := by decide +kernel
theorem dX11_layLaw_189 : decode cX11_layLaw 189 = .ok (.getfield 36, 3) := by decide +kernel
theorem dX11_layLaw_192 : decode cX11_layLaw 192 = .ok (.iconst 0, 1) := by decide +kernel
theorem dX11_layLaw_193 : decode cX11_layLaw 193 = .ok (.bipush 41, 2) := by decide +kernel
theorem dX11_layLaw_195 : decode cX11_layLaw 195 = .ok (.invokestatic 223, 3) := by decide +kernel
theorem dX11_layLaw_198 : decode cX11_layLaw 198 = .ok (.iconst 1, 1) := by decide +kernel
theorem dX11_layLaw_199 : decode cX11_layLaw 199 = .ok (.istore_n 2, 1) := by decide +kernel
theorem dX11_layLaw_200 : decode cX11_layLaw 200 = .ok (.goto 6, 3) := by decide +kernel
theorem dX11_layLaw_203 : decode cX11_layLaw 203 = .ok (.iinc 2 1, 3) := by decide +kernel
theorem dX11_layLaw_206 : decode cX11_layLaw 206 = .ok (.iinc 3 1, 3) := by decide +kernel
theorem dX11_layLaw_209 : decode cX11_layLaw 209 = .ok (.goto (-162), 3) := by decide +kernel
theorem dX11_layLaw_212 : decode cX11_layLaw 212 = .ok (.iload_n 1, 1) := by decide +kernel
theorem dX11_layLaw_213 : decode cX11_layLaw 213 = .ok (.ireturn, 1) := by decide +kernel
theorem dX11_lawNow_0 : decode cX11_lawNow 0 = .ok (.aload_n 0, 1) := by decide +kernel
theorem dX11_lawNow_1 : decode cX11_lawNow 1 = .ok (.invokevirtual 229, 3) := by decide +kernel
theorem dX11_lawNow_4 : decode cX11_lawNow 4 = .ok (.istore_n 2, 1) := by decide +kernel
theorem dX11_lawNow_5 : decode cX11_lawNow 5 = .ok (.iload_n 1, 1) := by decide +kernel
theorem dX11_lawNow_6 : decode cX11_lawNow 6 = .ok (.ifCond .ne 6, 3) := by decide +kernel
theorem dX11_lawNow_9 : decode cX11_lawNow 9 = .ok (.iload_n 2, 1) := by decide +kernel
theorem dX11_lawNow_10 : decode cX11_lawNow 10 = .ok (.i2l, 1) := by decide +kernel
theorem dX11_lawNow_11 : decode cX11_lawNow 11 = .ok (.lreturn, 1) := by decide +kernel
theorem dX11_lawNow_12 : decode cX11_lawNow 12 = .ok (.iconst 2, 1) := by decide +kernel
theorem dX11_lawNow_13 : decode cX11_lawNow 13 = .ok (.iload_n 2, 1) := by decide +kernel
theorem dX11_lawNow_14 : decode cX11_lawNow 14 = .ok (.imul, 1) := by decide +kernel
theorem dX11_lawNow_15 : decode cX11_lawNow 15 = .ok (.aload_n 0, 1) := by decide +kernel
theorem dX11_lawNow_16 : decode cX11_lawNow 16 = .ok (.getfield 147, 3) := by decide +kernel
theorem dX11_lawNow_19 : decode cX11_lawNow 19 = .ok (.if_icmp .le 7, 3) := by decide +kernel
theorem dX11_lawNow_22 : decode cX11_lawNow 22 = .ok (.ldc2_w 186, 3) := by decide +kernel
theorem dX11_lawNow_25 : decode cX11_lawNow 25 = .ok (.lreturn, 1) := by decide +kernel
theorem dX11_lawNow_26 : decode cX11_lawNow 26 = .ok (.lconst 0, 1) := by decide +kernel
theorem dX11_lawNow_27 : decode cX11_lawNow 27 = .ok (.lstore_n 3, 1) := by decide +kernel
theorem dX11_lawNow_28 : decode cX11_lawNow 28 = .ok (.iconst 1, 1) := by decide +kernel
theorem dX11_lawNow_29 : decode cX11_lawNow 29 = .ok (.istore 5, 2) := by decide +kernel
theorem dX11_lawNow_31 : decode cX11_lawNow 31 = .ok (.iload 5, 2) := by decide +kernel
theorem dX11_lawNow_33 : decode cX11_lawNow 33 = .ok (.iload_n 2, 1) := by decide +kernel
theorem dX11_lawNow_34 : decode cX11_lawNow 34 = .ok (.if_icmp .gt 25, 3) := by decide +kernel
theorem dX11_lawNow_37 : decode cX11_lawNow 37 = .ok (.lload_n 3, 1) := by decide +kernel
theorem dX11_lawNow_38 : decode cX11_lawNow 38 = .ok (.aload_n 0, 1) := by decide +kernel
theorem dX11_lawNow_39 : decode cX11_lawNow 39 = .ok (.getfield 33, 3) := by decide +kernel
theorem dX11_lawNow_42 : decode cX11_lawNow 42 = .ok (.iload 5, 2) := by decide +kernel
theorem dX11_lawNow_44 : decode cX11_lawNow 44 = .ok (.iaload, 1) := by decide +kernel
theorem dX11_lawNow_45 : decode cX11_lawNow 45 = .ok (.i2l, 1) := by decide +kernel
theorem dX11_lawNow_46 : decode cX11_lawNow 46 = .ok (.iload 5, 2) := by decide +kernel
theorem dX11_lawNow_48 : decode cX11_lawNow 48 = .ok (.iconst 1, 1) := by decide +kernel
theorem dX11_lawNow_49 : decode cX11_lawNow 49 = .ok (.isub, 1) := by decide +kernel
theorem dX11_lawNow_50 : decode cX11_lawNow 50 = .ok (.lshl, 1) := by decide +kernel
theorem dX11_lawNow_51 : decode cX11_lawNow 51 = .ok (.lor, 1) := by decide +kernel
theorem dX11_lawNow_52 : decode cX11_lawNow 52 = .ok (.lstore_n 3, 1) := by decide +kernel
theorem dX11_lawNow_53 : decode cX11_lawNow 53 = .ok (.iinc 5 1, 3) := by decide +kernel
theorem dX11_lawNow_56 : decode cX11_lawNow 56 = .ok (.goto (-25), 3) := by decide +kernel
theorem dX11_lawNow_59 : decode cX11_lawNow 59 = .ok (.lload_n 3, 1) := by decide +kernel
theorem dX11_lawNow_60 : decode cX11_lawNow 60 = .ok (.lreturn, 1) := by decide +kernel
theorem dX11_linear_0 : decode cX11_linear 0 = .ok (.aload_n 0, 1) := by decide +kernel
theorem dX11_linear_1 : decode cX11_linear 1 = .ok (.iload_n 1, 1) := by decide +kernel
theorem dX11_linear_2 : decode cX11_linear 2 = .ok (.invokevirtual 160, 3) := by decide +kernel
theorem dX11_linear_5 : decode cX11_linear 5 = .ok (.ifCond .eq 12, 3) := by decide +kernel
theorem dX11_linear_8 : decode cX11_linear 8 = .ok (.iload_n 2, 1) := by decide +kernel
theorem dX11_linear_9 : decode cX11_linear 9 = .ok (.iconst 0, 1) := by decide +kernel
theorem dX11_linear_10 : decode cX11_linear 10 = .ok (.iconst 1, 1) := by decide +kernel
theorem dX11_linear_11 : decode cX11_linear 11 = .ok (.invokestatic 70, 3) := by decide +kernel
theorem dX11_linear_14 : decode cX11_linear 14 = .ok (.ifCond .ne 7, 3) := by decide +kernel
theorem dX11_linear_17 : decode cX11_linear 17 = .ok (.ldc2_w 163, 3) := by decide +kernel
theorem dX11_linear_20 : decode cX11_linear 20 = .ok (.lreturn, 1) := by decide +kernel
theorem dX11_linear_21 : decode cX11_linear 21 = .ok (.aload_n 0, 1) := by decide +kernel
theorem dX11_linear_22 : decode cX11_linear 22 = .ok (.iload_n 1, 1) := by decide +kernel
theorem dX11_linear_23 : decode cX11_linear 23 = .ok (.invokevirtual 165, 3) := by decide +kernel
theorem dX11_linear_26 : decode cX11_linear 26 = .ok (.aload_n 0, 1) := by decide +kernel
theorem dX11_linear_27 : decode cX11_linear 27 = .ok (.iload_n 2, 1) := by decide +kernel
theorem dX11_linear_28 : decode cX11_linear 28 = .ok (.invokevirtual 232, 3) := by decide +kernel
theorem dX11_linear_31 : decode cX11_linear 31 = .ok (.lreturn, 1) := by decide +kernel
theorem dX11_twin_0 : decode cX11_twin 0 = .ok (.aload_n 0, 1) := by decide +kernel
theorem dX11_twin_1 : decode cX11_twin 1 = .ok (.iload_n 1, 1) := by decide +kernel
theorem dX11_twin_2 : decode cX11_twin 2 = .ok (.invokevirtual 86, 3) := by decide +kernel
theorem dX11_twin_5 : decode cX11_twin 5 = .ok (.ifCond .eq 22, 3) := by decide +kernel
theorem dX11_twin_8 : decode cX11_twin 8 = .ok (.iload_n 2, 1) := by decide +kernel
theorem dX11_twin_9 : decode cX11_twin 9 = .ok (.iconst 0, 1) := by decide +kernel
theorem dX11_twin_10 : decode cX11_twin 10 = .ok (.bipush 40, 2) := by decide +kernel
theorem dX11_twin_12 : decode cX11_twin 12 = .ok (.invokestatic 70, 3) := by decide +kernel
theorem dX11_twin_15 : decode cX11_twin 15 = .ok (.ifCond .eq 12, 3) := by decide +kernel
theorem dX11_twin_18 : decode cX11_twin 18 = .ok (.iload_n 3, 1) := by decide +kernel
theorem dX11_twin_19 : decode cX11_twin 19 = .ok (.iconst 0, 1) := by decide +kernel
theorem dX11_twin_20 : decode cX11_twin 20 = .ok (.iconst 1, 1) := by decide +kernel
theorem dX11_twin_21 : decode cX11_twin 21 = .ok (.invokestatic 70, 3) := by decide +kernel
theorem dX11_twin_24 : decode cX11_twin 24 = .ok (.ifCond .ne 7, 3) := by decide +kernel
theorem dX11_twin_27 : decode cX11_twin 27 = .ok (.ldc2_w 163, 3) := by decide +kernel
theorem dX11_twin_30 : decode cX11_twin 30 = .ok (.lreturn, 1) := by decide +kernel
theorem dX11_twin_31 : decode cX11_twin 31 = .ok (.aload_n 0, 1) := by decide +kernel
theorem dX11_twin_32 : decode cX11_twin 32 = .ok (.iload_n 1, 1) := by decide +kernel
theorem dX11_twin_33 : decode cX11_twin 33 = .ok (.iload_n 2, 1) := by decide +kernel
theorem dX11_twin_34 : decode cX11_twin 34 = .ok (.invokevirtual 153, 3) := by decide +kernel
theorem dX11_twin_37 : decode cX11_twin 37 = .ok (.aload_n 0, 1) := by decide +kernel
theorem dX11_twin_38 : decode cX11_twin 38 = .ok (.iload_n 3, 1) := by decide +kernel
theorem dX11_twin_39 : decode cX11_twin 39 = .ok (.invokevirtual 232, 3) := by decide +kernel
theorem dX11_twin_42 : decode cX11_twin 42 = .ok (.lreturn, 1) := by decide +kernel
theorem dX11_compare_0 : decode cX11_compare 0 = .ok (.iload_n 1, 1) := by decide +kernel
theorem dX11_compare_1 : decode cX11_compare 1 = .ok (.invokestatic 150, 3) := by decide +kernel
theorem dX11_compare_4 : decode cX11_compare 4 = .ok (.ifCond .ne 7, 3) := by decide +kernel
theorem dX11_compare_7 : decode cX11_compare 7 = .ok (.sipush (-1000), 3) := by decide +kernel
theorem dX11_compare_10 : decode cX11_compare 10 = .ok (.ireturn, 1) := by decide +kernel
theorem dX11_compare_11 : decode cX11_compare 11 = .ok (.aload_n 0, 1) := by decide +kernel
theorem dX11_compare_12 : decode cX11_compare 12 = .ok (.getfield 57, 3) := by decide +kernel
theorem dX11_compare_15 : decode cX11_compare 15 = .ok (.iload_n 1, 1) := by decide +kernel
theorem dX11_compare_16 : decode cX11_compare 16 = .ok (.iaload, 1) := by decide +kernel
theorem dX11_compare_17 : decode cX11_compare 17 = .ok (.ifCond .ge 7, 3) := by decide +kernel
theorem dX11_compare_20 : decode cX11_compare 20 = .ok (.sipush (-1011), 3) := by decide +kernel
theorem dX11_compare_23 : decode cX11_compare 23 = .ok (.ireturn, 1) := by decide +kernel
theorem dX11_compare_24 : decode cX11_compare 24 = .ok (.aload_n 0, 1) := by decide +kernel
theorem dX11_compare_25 : decode cX11_compare 25 = .ok (.getfield 60, 3) := by decide +kernel
theorem dX11_compare_28 : decode cX11_compare 28 = .ok (.iload_n 1, 1) := by decide +kernel
theorem dX11_compare_29 : decode cX11_compare 29 = .ok (.iaload, 1) := by decide +kernel
theorem dX11_compare_30 : decode cX11_compare 30 = .ok (.bipush 24, 2) := by decide +kernel
theorem dX11_compare_32 : decode cX11_compare 32 = .ok (.if_icmp .le 7, 3) := by decide +kernel
theorem dX11_compare_35 : decode cX11_compare 35 = .ok (.sipush (-1000), 3) := by decide +kernel
theorem dX11_compare_38 : decode cX11_compare 38 = .ok (.ireturn, 1) := by decide +kernel
theorem dX11_compare_39 : decode cX11_compare 39 = .ok (.aload_n 0, 1) := by decide +kernel
theorem dX11_compare_40 : decode cX11_compare 40 = .ok (.iload_n 1, 1) := by decide +kernel
theorem dX11_compare_41 : decode cX11_compare 41 = .ok (.invokevirtual 165, 3) := by decide +kernel
theorem dX11_compare_44 : decode cX11_compare 44 = .ok (.aload_n 0, 1) := by decide +kernel
theorem dX11_compare_45 : decode cX11_compare 45 = .ok (.invokevirtual 200, 3) := by decide +kernel
theorem dX11_compare_48 : decode cX11_compare 48 = .ok (.aload_n 0, 1) := by decide +kernel
theorem dX11_compare_49 : decode cX11_compare 49 = .ok (.aload_n 0, 1) := by decide +kernel
theorem dX11_compare_50 : decode cX11_compare 50 = .ok (.getfield 188, 3) := by decide +kernel
theorem dX11_compare_53 : decode cX11_compare 53 = .ok (.aload_n 0, 1) := by decide +kernel
theorem dX11_compare_54 : decode cX11_compare 54 = .ok (.getfield 192, 3) := by decide +kernel
theorem dX11_compare_57 : decode cX11_compare 57 = .ok (.invokevirtual 197, 3) := by decide +kernel
theorem dX11_compare_60 : decode cX11_compare 60 = .ok (.invokestatic 203, 3) := by decide +kernel
theorem dX11_compare_63 : decode cX11_compare 63 = .ok (.aload_n 0, 1) := by decide +kernel
theorem dX11_compare_64 : decode cX11_compare 64 = .ok (.invokevirtual 229, 3) := by decide +kernel
theorem dX11_compare_67 : decode cX11_compare 67 = .ok (.isub, 1) := by decide +kernel
theorem dX11_compare_68 : decode cX11_compare 68 = .ok (.ireturn, 1) := by decide +kernel
theorem dX11_wordAt_0 : decode cX11_wordAt 0 = .ok (.iconst 0, 1) := by decide +kernel
theorem dX11_wordAt_1 : decode cX11_wordAt 1 = .ok (.istore_n 3, 1) := by decide +kernel
theorem dX11_wordAt_2 : decode cX11_wordAt 2 = .ok (.iconst 0, 1) := by decide +kernel
theorem dX11_wordAt_3 : decode cX11_wordAt 3 = .ok (.istore 4, 2) := by decide +kernel
theorem dX11_wordAt_5 : decode cX11_wordAt 5 = .ok (.iload 4, 2) := by decide +kernel
theorem dX11_wordAt_7 : decode cX11_wordAt 7 = .ok (.iload_n 2, 1) := by decide +kernel
theorem dX11_wordAt_8 : decode cX11_wordAt 8 = .ok (.if_icmp .ge 24, 3) := by decide +kernel
theorem dX11_wordAt_11 : decode cX11_wordAt 11 = .ok (.iload_n 3, 1) := by decide +kernel
theorem dX11_wordAt_12 : decode cX11_wordAt 12 = .ok (.aload_n 0, 1) := by decide +kernel
theorem dX11_wordAt_13 : decode cX11_wordAt 13 = .ok (.getfield 27, 3) := by decide +kernel
theorem dX11_wordAt_16 : decode cX11_wordAt 16 = .ok (.iload_n 1, 1) := by decide +kernel
theorem dX11_wordAt_17 : decode cX11_wordAt 17 = .ok (.iload 4, 2) := by decide +kernel
theorem dX11_wordAt_19 : decode cX11_wordAt 19 = .ok (.iadd, 1) := by decide +kernel
theorem dX11_wordAt_20 : decode cX11_wordAt 20 = .ok (.iaload, 1) := by decide +kernel
theorem dX11_wordAt_21 : decode cX11_wordAt 21 = .ok (.iload 4, 2) := by decide +kernel
theorem dX11_wordAt_23 : decode cX11_wordAt 23 = .ok (.ishl, 1) := by decide +kernel
theorem dX11_wordAt_24 : decode cX11_wordAt 24 = .ok (.ior, 1) := by decide +kernel
theorem dX11_wordAt_25 : decode cX11_wordAt 25 = .ok (.istore_n 3, 1) := by decide +kernel
theorem dX11_wordAt_26 : decode cX11_wordAt 26 = .ok (.iinc 4 1, 3) := by decide +kernel
theorem dX11_wordAt_29 : decode cX11_wordAt 29 = .ok (.goto (-24), 3) := by decide +kernel
theorem dX11_wordAt_32 : decode cX11_wordAt 32 = .ok (.iload_n 3, 1) := by decide +kernel
theorem dX11_wordAt_33 : decode cX11_wordAt 33 = .ok (.ireturn, 1) := by decide +kernel
theorem dX11_windows_0 : decode cX11_windows 0 = .ok (.iload_n 1, 1) := by decide +kernel
theorem dX11_windows_1 : decode cX11_windows 1 = .ok (.invokestatic 150, 3) := by decide +kernel
theorem dX11_windows_4 : decode cX11_windows 4 = .ok (.ifCond .eq 22, 3) := by decide +kernel
theorem dX11_windows_7 : decode cX11_windows 7 = .ok (.iload_n 2, 1) := by decide +kernel
theorem dX11_windows_8 : decode cX11_windows 8 = .ok (.iconst 1, 1) := by decide +kernel
theorem dX11_windows_9 : decode cX11_windows 9 = .ok (.bipush 8, 2) := by decide +kernel
theorem dX11_windows_11 : decode cX11_windows 11 = .ok (.invokestatic 70, 3) := by decide +kernel
theorem dX11_windows_14 : decode cX11_windows 14 = .ok (.ifCond .eq 12, 3) := by decide +kernel
theorem dX11_windows_17 : decode cX11_windows 17 = .ok (.iload_n 3, 1) := by decide +kernel
theorem dX11_windows_18 : decode cX11_windows 18 = .ok (.iconst 0, 1) := by decide +kernel
theorem dX11_windows_19 : decode cX11_windows 19 = .ok (.iconst 2, 1) := by decide +kernel
theorem dX11_windows_20 : decode cX11_windows 20 = .ok (.invokestatic 70, 3) := by decide +kernel
theorem dX11_windows_23 : decode cX11_windows 23 = .ok (.ifCond .ne 6, 3) := by decide +kernel
theorem dX11_windows_26 : decode cX11_windows 26 = .ok (.bipush (-2), 2) := by decide +kernel
theorem dX11_windows_28 : decode cX11_windows 28 = .ok (.ireturn, 1) := by decide +kernel
theorem dX11_windows_29 : decode cX11_windows 29 = .ok (.aload_n 0, 1) := by decide +kernel
theorem dX11_windows_30 : decode cX11_windows 30 = .ok (.getfield 57, 3) := by decide +kernel
theorem dX11_windows_33 : decode cX11_windows 33 = .ok (.iload_n 1, 1) := by decide +kernel
theorem dX11_windows_34 : decode cX11_windows 34 = .ok (.iaload, 1) := by decide +kernel
theorem dX11_windows_35 : decode cX11_windows 35 = .ok (.ifCond .ge 6, 3) := by decide +kernel
theorem dX11_windows_38 : decode cX11_windows 38 = .ok (.bipush (-11), 2) := by decide +kernel
theorem dX11_windows_40 : decode cX11_windows 40 = .ok (.ireturn, 1) := by decide +kernel
theorem dX11_windows_41 : decode cX11_windows 41 = .ok (.aload_n 0, 1) := by decide +kernel
theorem dX11_windows_42 : decode cX11_windows 42 = .ok (.iload_n 1, 1) := by decide +kernel
theorem dX11_windows_43 : decode cX11_windows 43 = .ok (.invokevirtual 165, 3) := by decide +kernel
theorem dX11_windows_46 : decode cX11_windows 46 = .ok (.iconst 0, 1) := by decide +kernel
theorem dX11_windows_47 : decode cX11_windows 47 = .ok (.istore 4, 2) := by decide +kernel
theorem dX11_windows_49 : decode cX11_windows 49 = .ok (.iload 4, 2) := by decide +kernel
theorem dX11_windows_51 : decode cX11_windows 51 = .ok (.sipush 256, 3) := by decide +kernel
theorem dX11_windows_54 : decode cX11_windows 54 = .ok (.if_icmp .ge 17, 3) := by decide +kernel
theorem dX11_windows_57 : decode cX11_windows 57 = .ok (.aload_n 0, 1) := by decide +kernel
theorem dX11_windows_58 : decode cX11_windows 58 = .ok (.getfield 42, 3) := by decide +kernel
theorem dX11_windows_61 : decode cX11_windows 61 = .ok (.iload 4, 2) := by decide +kernel
theorem dX11_windows_63 : decode cX11_windows 63 = .ok (.iconst 0, 1) := by decide +kernel
theorem dX11_windows_64 : decode cX11_windows 64 = .ok (.iastore, 1) := by decide +kernel
theorem dX11_windows_65 : decode cX11_windows 65 = .ok (.iinc 4 1, 3) := by decide +kernel
theorem dX11_windows_68 : decode cX11_windows 68 = .ok (.goto (-19), 3) := by decide +kernel
theorem dX11_windows_71 : decode cX11_windows 71 = .ok (.iconst 0, 1) := by decide +kernel
theorem dX11_windows_72 : decode cX11_windows 72 = .ok (.istore 4, 2) := by decide +kernel
theorem dX11_windows_74 : decode cX11_windows 74 = .ok (.iconst 0, 1) := by decide +kernel
theorem dX11_windows_75 : decode cX11_windows 75 = .ok (.istore 5, 2) := by decide +kernel
theorem dX11_windows_77 : decode cX11_windows 77 = .ok (.iload 5, 2) := by decide +kernel
theorem dX11_windows_79 : decode cX11_windows 79 = .ok (.iload_n 2, 1) := by decide +kernel
theorem dX11_windows_80 : decode cX11_windows 80 = .ok (.iadd, 1) := by decide +kernel
theorem dX11_windows_81 : decode cX11_windows 81 = .ok (.aload_n 0, 1) := by decide +kernel
theorem dX11_windows_82 : decode cX11_windows 82 = .ok (.getfield 147, 3) := by decide +kernel
theorem dX11_windows_85 : decode cX11_windows 85 = .ok (.if_icmp .gt 42, 3) := by decide +kernel
theorem dX11_windows_88 : decode cX11_windows 88 = .ok (.aload_n 0, 1) := by decide +kernel
theorem dX11_windows_89 : decode cX11_windows 89 = .ok (.iload 5, 2) := by decide +kernel
theorem dX11_windows_91 : decode cX11_windows 91 = .ok (.iload_n 2, 1) := by decide +kernel
theorem dX11_windows_92 : decode cX11_windows 92 = .ok (.invokevirtual 236, 3) := by decide +kernel
theorem dX11_windows_95 : decode cX11_windows 95 = .ok (.istore 6, 2) := by decide +kernel
theorem dX11_windows_97 : decode cX11_windows 97 = .ok (.aload_n 0, 1) := by decide +kernel
theorem dX11_windows_98 : decode cX11_windows 98 = .ok (.getfield 42, 3) := by decide +kernel
theorem dX11_windows_101 : decode cX11_windows 101 = .ok (.iload 6, 2) := by decide +kernel
theorem dX11_windows_103 : decode cX11_windows 103 = .ok (.iaload, 1) := by decide +kernel
theorem dX11_windows_104 : decode cX11_windows 104 = .ok (.ifCond .ne 6, 3) := by decide +kernel
theorem dX11_windows_107 : decode cX11_windows 107 = .ok (.iinc 4 1, 3) := by decide +kernel
theorem dX11_windows_110 : decode cX11_windows 110 = .ok (.aload_n 0, 1) := by decide +kernel
theorem dX11_windows_111 : decode cX11_windows 111 = .ok (.getfield 42, 3) := by decide +kernel
theorem dX11_windows_114 : decode cX11_windows 114 = .ok (.iload 6, 2) := by decide +kernel
theorem dX11_windows_116 : decode cX11_windows 116 = .ok (.dup2, 1) := by decide +kernel
theorem dX11_windows_117 : decode cX11_windows 117 = .ok (.iaload, 1) := by decide +kernel
theorem dX11_windows_118 : decode cX11_windows 118 = .ok (.iconst 1, 1) := by decide +kernel
theorem dX11_windows_119 : decode cX11_windows 119 = .ok (.iadd, 1) := by decide +kernel
theorem dX11_windows_120 : decode cX11_windows 120 = .ok (.iastore, 1) := by decide +kernel
theorem dX11_windows_121 : decode cX11_windows 121 = .ok (.iinc 5 1, 3) := by decide +kernel
theorem dX11_windows_124 : decode cX11_windows 124 = .ok (.goto (-47), 3) := by decide +kernel
theorem dX11_windows_127 : decode cX11_windows 127 = .ok (.iload_n 3, 1) := by decide +kernel
theorem dX11_windows_128 : decode cX11_windows 128 = .ok (.ifCond .ne 6, 3) := by decide +kernel
theorem dX11_windows_131 : decode cX11_windows 131 = .ok (.iload 4, 2) := by decide +kernel
theorem dX11_windows_133 : decode cX11_windows 133 = .ok (.ireturn, 1) := by decide +kernel
theorem dX11_windows_134 : decode cX11_windows 134 = .ok (.iconst (-1), 1) := by decide +kernel
theorem dX11_windows_135 : decode cX11_windows 135 = .ok (.istore 5, 2) := by decide +kernel
theorem dX11_windows_137 : decode cX11_windows 137 = .ok (.iconst 0, 1) := by decide +kernel
theorem dX11_windows_138 : decode cX11_windows 138 = .ok (.istore 6, 2) := by decide +kernel
theorem dX11_windows_140 : decode cX11_windows 140 = .ok (.iload 6, 2) := by decide +kernel
theorem dX11_windows_142 : decode cX11_windows 142 = .ok (.iload_n 2, 1) := by decide +kernel
theorem dX11_windows_143 : decode cX11_windows 143 = .ok (.iadd, 1) := by decide +kernel
theorem dX11_windows_144 : decode cX11_windows 144 = .ok (.aload_n 0, 1) := by decide +kernel
theorem dX11_windows_145 : decode cX11_windows 145 = .ok (.getfield 147, 3) := by decide +kernel
theorem dX11_windows_148 : decode cX11_windows 148 = .ok (.if_icmp .gt 44, 3) := by decide +kernel
theorem dX11_windows_151 : decode cX11_windows 151 = .ok (.aload_n 0, 1) := by decide +kernel
theorem dX11_windows_152 : decode cX11_windows 152 = .ok (.iload 6, 2) := by decide +kernel
theorem dX11_windows_154 : decode cX11_windows 154 = .ok (.iload_n 2, 1) := by decide +kernel
theorem dX11_windows_155 : decode cX11_windows 155 = .ok (.invokevirtual 236, 3) := by decide +kernel
theorem dX11_windows_158 : decode cX11_windows 158 = .ok (.istore 7, 2) := by decide +kernel
theorem dX11_windows_160 : decode cX11_windows 160 = .ok (.iload 5, 2) := by decide +kernel
theorem dX11_windows_162 : decode cX11_windows 162 = .ok (.ifCond .lt 20, 3) := by decide +kernel
theorem dX11_windows_165 : decode cX11_windows 165 = .ok (.aload_n 0, 1) := by decide +kernel
theorem dX11_windows_166 : decode cX11_windows 166 = .ok (.getfield 42, 3) := by decide +kernel
theorem dX11_windows_169 : decode cX11_windows 169 = .ok (.iload 7, 2) := by decide +kernel
theorem dX11_windows_171 : decode cX11_windows 171 = .ok (.iaload, 1) := by decide +kernel
theorem dX11_windows_172 : decode cX11_windows 172 = .ok (.aload_n 0, 1) := by decide +kernel
theorem dX11_windows_173 : decode cX11_windows 173 = .ok (.getfield 42, 3) := by decide +kernel
theorem dX11_windows_176 : decode cX11_windows 176 = .ok (.iload 5, 2) := by decide +kernel
theorem dX11_windows_178 : decode cX11_windows 178 = .ok (.iaload, 1) := by decide +kernel
theorem dX11_windows_179 : decode cX11_windows 179 = .ok (.if_icmp .le 7, 3) := by decide +kernel
theorem dX11_windows_182 : decode cX11_windows 182 = .ok (.iload 7, 2) := by decide +kernel
theorem dX11_windows_184 : decode cX11_windows 184 = .ok (.istore 5, 2) := by decide +kernel
theorem dX11_windows_186 : decode cX11_windows 186 = .ok (.iinc 6 1, 3) := by decide +kernel
theorem dX11_windows_189 : decode cX11_windows 189 = .ok (.goto (-49), 3) := by decide +kernel
theorem dX11_windows_192 : decode cX11_windows 192 = .ok (.iload 5, 2) := by decide +kernel
theorem dX11_windows_194 : decode cX11_windows 194 = .ok (.ifCond .lt 8, 3) := by decide +kernel
theorem dX11_windows_197 : decode cX11_windows 197 = .ok (.iload_n 3, 1) := by decide +kernel
theorem dX11_windows_198 : decode cX11_windows 198 = .ok (.iconst 1, 1) := by decide +kernel
theorem dX11_windows_199 : decode cX11_windows 199 = .ok (.if_icmp .ne 8, 3) := by decide +kernel
theorem dX11_windows_202 : decode cX11_windows 202 = .ok (.iload 5, 2) := by decide +kernel
theorem dX11_windows_204 : decode cX11_windows 204 = .ok (.goto 10, 3) := by decide +kernel
theorem dX11_windows_207 : decode cX11_windows 207 = .ok (.aload_n 0, 1) := by decide +kernel
theorem dX11_windows_208 : decode cX11_windows 208 = .ok (.getfield 42, 3) := by decide +kernel
theorem dX11_windows_211 : decode cX11_windows 211 = .ok (.iload 5, 2) := by decide +kernel
theorem dX11_windows_213 : decode cX11_windows 213 = .ok (.iaload, 1) := by decide +kernel
theorem dX11_windows_214 : decode cX11_windows 214 = .ok (.ireturn, 1) := by decide +kernel
theorem dX11_runAt_0 : decode cX11_runAt 0 = .ok (.iconst 1, 1) := by decide +kernel
theorem dX11_runAt_1 : decode cX11_runAt 1 = .ok (.istore_n 2, 1) := by decide +kernel
theorem dX11_runAt_2 : decode cX11_runAt 2 = .ok (.iload_n 1, 1) := by decide +kernel
theorem dX11_runAt_3 : decode cX11_runAt 3 = .ok (.iload_n 2, 1) := by decide +kernel
theorem dX11_runAt_4 : decode cX11_runAt 4 = .ok (.iadd, 1) := by decide +kernel
theorem dX11_runAt_5 : decode cX11_runAt 5 = .ok (.aload_n 0, 1) := by decide +kernel
theorem dX11_runAt_6 : decode cX11_runAt 6 = .ok (.getfield 147, 3) := by decide +kernel
theorem dX11_runAt_9 : decode cX11_runAt 9 = .ok (.if_icmp .ge 26, 3) := by decide +kernel
theorem dX11_runAt_12 : decode cX11_runAt 12 = .ok (.aload_n 0, 1) := by decide +kernel
theorem dX11_runAt_13 : decode cX11_runAt 13 = .ok (.getfield 27, 3) := by decide +kernel
theorem dX11_runAt_16 : decode cX11_runAt 16 = .ok (.iload_n 1, 1) := by decide +kernel
theorem dX11_runAt_17 : decode cX11_runAt 17 = .ok (.iload_n 2, 1) := by decide +kernel
theorem dX11_runAt_18 : decode cX11_runAt 18 = .ok (.iadd, 1) := by decide +kernel
theorem dX11_runAt_19 : decode cX11_runAt 19 = .ok (.iaload, 1) := by decide +kernel
theorem dX11_runAt_20 : decode cX11_runAt 20 = .ok (.aload_n 0, 1) := by decide +kernel
theorem dX11_runAt_21 : decode cX11_runAt 21 = .ok (.getfield 27, 3) := by decide +kernel
theorem dX11_runAt_24 : decode cX11_runAt 24 = .ok (.iload_n 1, 1) := by decide +kernel
theorem dX11_runAt_25 : decode cX11_runAt 25 = .ok (.iaload, 1) := by decide +kernel
theorem dX11_runAt_26 : decode cX11_runAt 26 = .ok (.if_icmp .ne 9, 3) := by decide +kernel
theorem dX11_runAt_29 : decode cX11_runAt 29 = .ok (.iinc 2 1, 3) := by decide +kernel
theorem dX11_runAt_32 : decode cX11_runAt 32 = .ok (.goto (-30), 3) := by decide +kernel
theorem dX11_runAt_35 : decode cX11_runAt 35 = .ok (.iload_n 2, 1) := by decide +kernel
theorem dX11_runAt_36 : decode cX11_runAt 36 = .ok (.ireturn, 1) := by decide +kernel
theorem dX11_isRunAhead_0 : decode cX11_isRunAhead 0 = .ok (.iconst 0, 1) := by decide +kernel
theorem dX11_isRunAhead_1 : decode cX11_isRunAhead 1 = .ok (.istore_n 2, 1) := by decide +kernel
theorem dX11_isRunAhead_2 : decode cX11_isRunAhead 2 = .ok (.iload_n 2, 1) := by decide +kernel
theorem dX11_isRunAhead_3 : decode cX11_isRunAhead 3 = .ok (.iload_n 1, 1) := by decide +kernel
theorem dX11_isRunAhead_4 : decode cX11_isRunAhead 4 = .ok (.if_icmp .ge 44, 3) := by decide +kernel
theorem dX11_isRunAhead_7 : decode cX11_isRunAhead 7 = .ok (.aload_n 0, 1) := by decide +kernel
theorem dX11_isRunAhead_8 : decode cX11_isRunAhead 8 = .ok (.getfield 27, 3) := by decide +kernel
theorem dX11_isRunAhead_11 : decode cX11_isRunAhead 11 = .ok (.iload_n 2, 1) := by decide +kernel
theorem dX11_isRunAhead_12 : decode cX11_isRunAhead 12 = .ok (.iaload, 1) := by decide +kernel
theorem dX11_isRunAhead_13 : decode cX11_isRunAhead 13 = .ok (.aload_n 0, 1) := by decide +kernel
theorem dX11_isRunAhead_14 : decode cX11_isRunAhead 14 = .ok (.getfield 27, 3) := by decide +kernel
theorem dX11_isRunAhead_17 : decode cX11_isRunAhead 17 = .ok (.iload_n 1, 1) := by decide +kernel
theorem dX11_isRunAhead_18 : decode cX11_isRunAhead 18 = .ok (.iaload, 1) := by decide +kernel
theorem dX11_isRunAhead_19 : decode cX11_isRunAhead 19 = .ok (.if_icmp .ne 18, 3) := by decide +kernel
theorem dX11_isRunAhead_22 : decode cX11_isRunAhead 22 = .ok (.aload_n 0, 1) := by decide +kernel
theorem dX11_isRunAhead_23 : decode cX11_isRunAhead 23 = .ok (.iload_n 2, 1) := by decide +kernel
theorem dX11_isRunAhead_24 : decode cX11_isRunAhead 24 = .ok (.invokevirtual 239, 3) := by decide +kernel
theorem dX11_isRunAhead_27 : decode cX11_isRunAhead 27 = .ok (.aload_n 0, 1) := by decide +kernel
theorem dX11_isRunAhead_28 : decode cX11_isRunAhead 28 = .ok (.iload_n 1, 1) := by decide +kernel
theorem dX11_isRunAhead_29 : decode cX11_isRunAhead 29 = .ok (.invokevirtual 239, 3) := by decide +kernel
theorem dX11_isRunAhead_32 : decode cX11_isRunAhead 32 = .ok (.if_icmp .ne 5, 3) := by decide +kernel
theorem dX11_isRunAhead_35 : decode cX11_isRunAhead 35 = .ok (.iconst 1, 1) := by decide +kernel
theorem dX11_isRunAhead_36 : decode cX11_isRunAhead 36 = .ok (.ireturn, 1) := by decide +kernel
theorem dX11_isRunAhead_37 : decode cX11_isRunAhead 37 = .ok (.iload_n 2, 1) := by decide +kernel
theorem dX11_isRunAhead_38 : decode cX11_isRunAhead 38 = .ok (.aload_n 0, 1) := by decide +kernel
theorem dX11_isRunAhead_39 : decode cX11_isRunAhead 39 = .ok (.iload_n 2, 1) := by decide +kernel
theorem dX11_isRunAhead_40 : decode cX11_isRunAhead 40 = .ok (.invokevirtual 239, 3) := by decide +kernel
theorem dX11_isRunAhead_43 : decode cX11_isRunAhead 43 = .ok (.iadd, 1) := by decide +kernel
theorem dX11_isRunAhead_44 : decode cX11_isRunAhead 44 = .ok (.istore_n 2, 1) := by decide +kernel
theorem dX11_isRunAhead_45 : decode cX11_isRunAhead 45 = .ok (.goto (-43), 3) := by decide +kernel
theorem dX11_isRunAhead_48 : decode cX11_isRunAhead 48 = .ok (.iconst 0, 1) := by decide +kernel
theorem dX11_isRunAhead_49 : decode cX11_isRunAhead 49 = .ok (.ireturn, 1) := by decide +kernel
theorem dX11_runs_0 : decode cX11_runs 0 = .ok (.iload_n 1, 1) := by decide +kernel
theorem dX11_runs_1 : decode cX11_runs 1 = .ok (.invokestatic 150, 3) := by decide +kernel
theorem dX11_runs_4 : decode cX11_runs 4 = .ok (.ifCond .eq 12, 3) := by decide +kernel
theorem dX11_runs_7 : decode cX11_runs 7 = .ok (.iload_n 2, 1) := by decide +kernel
theorem dX11_runs_8 : decode cX11_runs 8 = .ok (.iconst (-1), 1) := by decide +kernel
theorem dX11_runs_9 : decode cX11_runs 9 = .ok (.iconst 1, 1) := by decide +kernel
theorem dX11_runs_10 : decode cX11_runs 10 = .ok (.invokestatic 70, 3) := by decide +kernel
theorem dX11_runs_13 : decode cX11_runs 13 = .ok (.ifCond .ne 6, 3) := by decide +kernel
theorem dX11_runs_16 : decode cX11_runs 16 = .ok (.bipush (-2), 2) := by decide +kernel
theorem dX11_runs_18 : decode cX11_runs 18 = .ok (.ireturn, 1) := by decide +kernel
theorem dX11_runs_19 : decode cX11_runs 19 = .ok (.aload_n 0, 1) := by decide +kernel
theorem dX11_runs_20 : decode cX11_runs 20 = .ok (.getfield 57, 3) := by decide +kernel
theorem dX11_runs_23 : decode cX11_runs 23 = .ok (.iload_n 1, 1) := by decide +kernel
theorem dX11_runs_24 : decode cX11_runs 24 = .ok (.iaload, 1) := by decide +kernel
theorem dX11_runs_25 : decode cX11_runs 25 = .ok (.ifCond .ge 6, 3) := by decide +kernel
theorem dX11_runs_28 : decode cX11_runs 28 = .ok (.bipush (-11), 2) := by decide +kernel
theorem dX11_runs_30 : decode cX11_runs 30 = .ok (.ireturn, 1) := by decide +kernel
theorem dX11_runs_31 : decode cX11_runs 31 = .ok (.aload_n 0, 1) := by decide +kernel
theorem dX11_runs_32 : decode cX11_runs 32 = .ok (.iload_n 1, 1) := by decide +kernel
theorem dX11_runs_33 : decode cX11_runs 33 = .ok (.invokevirtual 165, 3) := by decide +kernel
theorem dX11_runs_36 : decode cX11_runs 36 = .ok (.iconst 0, 1) := by decide +kernel
theorem dX11_runs_37 : decode cX11_runs 37 = .ok (.istore 4, 2) := by decide +kernel
theorem dX11_runs_39 : decode cX11_runs 39 = .ok (.iconst 0, 1) := by decide +kernel
theorem dX11_runs_40 : decode cX11_runs 40 = .ok (.istore 5, 2) := by decide +kernel
theorem dX11_runs_42 : decode cX11_runs 42 = .ok (.iload 5, 2) := by decide +kernel
theorem dX11_runs_44 : decode cX11_runs 44 = .ok (.aload_n 0, 1) := by decide +kernel
theorem dX11_runs_45 : decode cX11_runs 45 = .ok (.getfield 147, 3) := by decide +kernel
theorem dX11_runs_48 : decode cX11_runs 48 = .ok (.if_icmp .ge 75, 3) := by decide +kernel
theorem dX11_runs_51 : decode cX11_runs 51 = .ok (.iload_n 2, 1) := by decide +kernel
theorem dX11_runs_52 : decode cX11_runs 52 = .ok (.iconst (-1), 1) := by decide +kernel
theorem dX11_runs_53 : decode cX11_runs 53 = .ok (.if_icmp .ne 20, 3) := by decide +kernel
theorem dX11_runs_56 : decode cX11_runs 56 = .ok (.aload_n 0, 1) := by decide +kernel
theorem dX11_runs_57 : decode cX11_runs 57 = .ok (.iload 5, 2) := by decide +kernel
theorem dX11_runs_59 : decode cX11_runs 59 = .ok (.invokevirtual 242, 3) := by decide +kernel
theorem dX11_runs_62 : decode cX11_runs 62 = .ok (.ifCond .ne 7, 3) := by decide +kernel
theorem dX11_runs_65 : decode cX11_runs 65 = .ok (.iconst 1, 1) := by decide +kernel
theorem dX11_runs_66 : decode cX11_runs 66 = .ok (.goto 33, 3) := by decide +kernel
theorem dX11_runs_69 : decode cX11_runs 69 = .ok (.iconst 0, 1) := by decide +kernel
theorem dX11_runs_70 : decode cX11_runs 70 = .ok (.goto 29, 3) := by decide +kernel
theorem dX11_runs_73 : decode cX11_runs 73 = .ok (.aload_n 0, 1) := by decide +kernel
theorem dX11_runs_74 : decode cX11_runs 74 = .ok (.getfield 27, 3) := by decide +kernel
theorem dX11_runs_77 : decode cX11_runs 77 = .ok (.iload 5, 2) := by decide +kernel
theorem dX11_runs_79 : decode cX11_runs 79 = .ok (.iaload, 1) := by decide +kernel
theorem dX11_runs_80 : decode cX11_runs 80 = .ok (.iload_n 2, 1) := by decide +kernel
theorem dX11_runs_81 : decode cX11_runs 81 = .ok (.if_icmp .ne 17, 3) := by decide +kernel
theorem dX11_runs_84 : decode cX11_runs 84 = .ok (.aload_n 0, 1) := by decide +kernel
theorem dX11_runs_85 : decode cX11_runs 85 = .ok (.iload 5, 2) := by decide +kernel
theorem dX11_runs_87 : decode cX11_runs 87 = .ok (.invokevirtual 239, 3) := by decide +kernel
theorem dX11_runs_90 : decode cX11_runs 90 = .ok (.iload_n 3, 1) := by decide +kernel
theorem dX11_runs_91 : decode cX11_runs 91 = .ok (.if_icmp .ne 7, 3) := by decide +kernel
theorem dX11_runs_94 : decode cX11_runs 94 = .ok (.iconst 1, 1) := by decide +kernel
theorem dX11_runs_95 : decode cX11_runs 95 = .ok (.goto 4, 3) := by decide +kernel
theorem dX11_runs_98 : decode cX11_runs 98 = .ok (.iconst 0, 1) := by decide +kernel
theorem dX11_runs_99 : decode cX11_runs 99 = .ok (.istore 6, 2) := by decide +kernel
theorem dX11_runs_101 : decode cX11_runs 101 = .ok (.iload 6, 2) := by decide +kernel
theorem dX11_runs_103 : decode cX11_runs 103 = .ok (.ifCond .eq 6, 3) := by decide +kernel
theorem dX11_runs_106 : decode cX11_runs 106 = .ok (.iinc 4 1, 3) := by decide +kernel
theorem dX11_runs_109 : decode cX11_runs 109 = .ok (.iload 5, 2) := by decide +kernel
theorem dX11_runs_111 : decode cX11_runs 111 = .ok (.aload_n 0, 1) := by decide +kernel
theorem dX11_runs_112 : decode cX11_runs 112 = .ok (.iload 5, 2) := by decide +kernel
theorem dX11_runs_114 : decode cX11_runs 114 = .ok (.invokevirtual 239, 3) := by decide +kernel
theorem dX11_runs_117 : decode cX11_runs 117 = .ok (.iadd, 1) := by decide +kernel
theorem dX11_runs_118 : decode cX11_runs 118 = .ok (.istore 5, 2) := by decide +kernel
theorem dX11_runs_120 : decode cX11_runs 120 = .ok (.goto (-78), 3) := by decide +kernel
theorem dX11_runs_123 : decode cX11_runs 123 = .ok (.iload 4, 2) := by decide +kernel
theorem dX11_runs_125 : decode cX11_runs 125 = .ok (.ireturn, 1) := by decide +kernel
theorem dX11_otherwise_0 : decode cX11_otherwise 0 = .ok (.iconst 0, 1) := by decide +kernel
theorem dX11_otherwise_1 : decode cX11_otherwise 1 = .ok (.istore_n 1, 1) := by decide +kernel
theorem dX11_otherwise_2 : decode cX11_otherwise 2 = .ok (.iload_n 1, 1) := by decide +kernel
theorem dX11_otherwise_3 : decode cX11_otherwise 3 = .ok (.aload_n 0, 1) := by decide +kernel
theorem dX11_otherwise_4 : decode cX11_otherwise 4 = .ok (.getfield 147, 3) := by decide +kernel
theorem dX11_otherwise_7 : decode cX11_otherwise 7 = .ok (.if_icmp .ge 24, 3) := by decide +kernel
theorem dX11_otherwise_10 : decode cX11_otherwise 10 = .ok (.aload_n 0, 1) := by decide +kernel
theorem dX11_otherwise_11 : decode cX11_otherwise 11 = .ok (.invokevirtual 144, 3) := by decide +kernel
theorem dX11_otherwise_14 : decode cX11_otherwise 14 = .ok (.aload_n 0, 1) := by decide +kernel
theorem dX11_otherwise_15 : decode cX11_otherwise 15 = .ok (.getfield 27, 3) := by decide +kernel
theorem dX11_otherwise_18 : decode cX11_otherwise 18 = .ok (.iload_n 1, 1) := by decide +kernel
theorem dX11_otherwise_19 : decode cX11_otherwise 19 = .ok (.iaload, 1) := by decide +kernel
theorem dX11_otherwise_20 : decode cX11_otherwise 20 = .ok (.if_icmp .eq 5, 3) := by decide +kernel
theorem dX11_otherwise_23 : decode cX11_otherwise 23 = .ok (.iload_n 1, 1) := by decide +kernel
theorem dX11_otherwise_24 : decode cX11_otherwise 24 = .ok (.ireturn, 1) := by decide +kernel
theorem dX11_otherwise_25 : decode cX11_otherwise 25 = .ok (.iinc 1 1, 3) := by decide +kernel
theorem dX11_otherwise_28 : decode cX11_otherwise 28 = .ok (.goto (-26), 3) := by decide +kernel
theorem dX11_otherwise_31 : decode cX11_otherwise 31 = .ok (.iconst (-1), 1) := by decide +kernel
theorem dX11_otherwise_32 : decode cX11_otherwise 32 = .ok (.ireturn, 1) := by decide +kernel
theorem dX11_replays_0 : decode cX11_replays 0 = .ok (.aload_n 0, 1) := by decide +kernel
theorem dX11_replays_1 : decode cX11_replays 1 = .ok (.iload_n 1, 1) := by decide +kernel
theorem dX11_replays_2 : decode cX11_replays 2 = .ok (.invokevirtual 86, 3) := by decide +kernel
theorem dX11_replays_5 : decode cX11_replays 5 = .ok (.ifCond .eq 19, 3) := by decide +kernel
theorem dX11_replays_8 : decode cX11_replays 8 = .ok (.iload_n 2, 1) := by decide +kernel
theorem dX11_replays_9 : decode cX11_replays 9 = .ok (.invokestatic 150, 3) := by decide +kernel
theorem dX11_replays_12 : decode cX11_replays 12 = .ok (.ifCond .eq 12, 3) := by decide +kernel
theorem dX11_replays_15 : decode cX11_replays 15 = .ok (.iload_n 3, 1) := by decide +kernel
theorem dX11_replays_16 : decode cX11_replays 16 = .ok (.iconst 0, 1) := by decide +kernel
theorem dX11_replays_17 : decode cX11_replays 17 = .ok (.iconst 2, 1) := by decide +kernel
theorem dX11_replays_18 : decode cX11_replays 18 = .ok (.invokestatic 70, 3) := by decide +kernel
theorem dX11_replays_21 : decode cX11_replays 21 = .ok (.ifCond .ne 6, 3) := by decide +kernel
theorem dX11_replays_24 : decode cX11_replays 24 = .ok (.bipush (-2), 2) := by decide +kernel
theorem dX11_replays_26 : decode cX11_replays 26 = .ok (.ireturn, 1) := by decide +kernel
theorem dX11_replays_27 : decode cX11_replays 27 = .ok (.aload_n 0, 1) := by decide +kernel
theorem dX11_replays_28 : decode cX11_replays 28 = .ok (.getfield 57, 3) := by decide +kernel
theorem dX11_replays_31 : decode cX11_replays 31 = .ok (.iload_n 2, 1) := by decide +kernel
theorem dX11_replays_32 : decode cX11_replays 32 = .ok (.iaload, 1) := by decide +kernel
theorem dX11_replays_33 : decode cX11_replays 33 = .ok (.ifCond .ge 6, 3) := by decide +kernel
theorem dX11_replays_36 : decode cX11_replays 36 = .ok (.bipush (-11), 2) := by decide +kernel
theorem dX11_replays_38 : decode cX11_replays 38 = .ok (.ireturn, 1) := by decide +kernel
theorem dX11_replays_39 : decode cX11_replays 39 = .ok (.aload_n 0, 1) := by decide +kernel
theorem dX11_replays_40 : decode cX11_replays 40 = .ok (.iload_n 2, 1) := by decide +kernel
theorem dX11_replays_41 : decode cX11_replays 41 = .ok (.invokevirtual 165, 3) := by decide +kernel
theorem dX11_replays_44 : decode cX11_replays 44 = .ok (.aload_n 0, 1) := by decide +kernel
theorem dX11_replays_45 : decode cX11_replays 45 = .ok (.iload_n 1, 1) := by decide +kernel
theorem dX11_replays_46 : decode cX11_replays 46 = .ok (.invokevirtual 140, 3) := by decide +kernel
theorem dX11_replays_49 : decode cX11_replays 49 = .ok (.iload_n 3, 1) := by decide +kernel
theorem dX11_replays_50 : decode cX11_replays 50 = .ok (.ifCond .ne 8, 3) := by decide +kernel
theorem dX11_replays_53 : decode cX11_replays 53 = .ok (.aload_n 0, 1) := by decide +kernel
theorem dX11_replays_54 : decode cX11_replays 54 = .ok (.invokevirtual 245, 3) := by decide +kernel
theorem dX11_replays_57 : decode cX11_replays 57 = .ok (.ireturn, 1) := by decide +kernel
theorem dX11_replays_58 : decode cX11_replays 58 = .ok (.iconst 0, 1) := by decide +kernel
theorem dX11_replays_59 : decode cX11_replays 59 = .ok (.istore 4, 2) := by decide +kernel
theorem dX11_replays_61 : decode cX11_replays 61 = .ok (.iload_n 3, 1) := by decide +kernel
theorem dX11_replays_62 : decode cX11_replays 62 = .ok (.iconst 1, 1) := by decide +kernel
theorem dX11_replays_63 : decode cX11_replays 63 = .ok (.if_icmp .ne 8, 3) := by decide +kernel
theorem dX11_replays_66 : decode cX11_replays 66 = .ok (.bipush 6, 2) := by decide +kernel
theorem dX11_replays_68 : decode cX11_replays 68 = .ok (.goto 5, 3) := by decide +kernel
theorem dX11_replays_71 : decode cX11_replays 71 = .ok (.bipush 19, 2) := by decide +kernel
theorem dX11_replays_73 : decode cX11_replays 73 = .ok (.istore 5, 2) := by decide +kernel
theorem dX11_replays_75 : decode cX11_replays 75 = .ok (.iconst 0, 1) := by decide +kernel
theorem dX11_replays_76 : decode cX11_replays 76 = .ok (.istore 6, 2) := by decide +kernel
theorem dX11_replays_78 : decode cX11_replays 78 = .ok (.iload 6, 2) := by decide +kernel
theorem dX11_replays_80 : decode cX11_replays 80 = .ok (.iload 5, 2) := by decide +kernel
theorem dX11_replays_82 : decode cX11_replays 82 = .ok (.if_icmp .ge 54, 3) := by decide +kernel
theorem dX11_replays_85 : decode cX11_replays 85 = .ok (.aload_n 0, 1) := by decide +kernel
theorem dX11_replays_86 : decode cX11_replays 86 = .ok (.iload_n 1, 1) := by decide +kernel
theorem dX11_replays_87 : decode cX11_replays 87 = .ok (.invokevirtual 140, 3) := by decide +kernel
theorem dX11_replays_90 : decode cX11_replays 90 = .ok (.iload_n 3, 1) := by decide +kernel
theorem dX11_replays_91 : decode cX11_replays 91 = .ok (.iconst 1, 1) := by decide +kernel
theorem dX11_replays_92 : decode cX11_replays 92 = .ok (.if_icmp .ne 12, 3) := by decide +kernel
theorem dX11_replays_95 : decode cX11_replays 95 = .ok (.aload_n 0, 1) := by decide +kernel
theorem dX11_replays_96 : decode cX11_replays 96 = .ok (.iload 6, 2) := by decide +kernel
theorem dX11_replays_98 : decode cX11_replays 98 = .ok (.putfield 109, 3) := by decide +kernel
theorem dX11_replays_101 : decode cX11_replays 101 = .ok (.goto 12, 3) := by decide +kernel
theorem dX11_replays_104 : decode cX11_replays 104 = .ok (.aload_n 0, 1) := by decide +kernel
theorem dX11_replays_105 : decode cX11_replays 105 = .ok (.iload 6, 2) := by decide +kernel
theorem dX11_replays_107 : decode cX11_replays 107 = .ok (.bipush 9, 2) := by decide +kernel
theorem dX11_replays_109 : decode cX11_replays 109 = .ok (.isub, 1) := by decide +kernel
theorem dX11_replays_110 : decode cX11_replays 110 = .ok (.putfield 121, 3) := by decide +kernel
theorem dX11_replays_113 : decode cX11_replays 113 = .ok (.aload_n 0, 1) := by decide +kernel
theorem dX11_replays_114 : decode cX11_replays 114 = .ok (.invokevirtual 245, 3) := by decide +kernel
theorem dX11_replays_117 : decode cX11_replays 117 = .ok (.iconst (-1), 1) := by decide +kernel
theorem dX11_replays_118 : decode cX11_replays 118 = .ok (.if_icmp .ne 12, 3) := by decide +kernel
theorem dX11_replays_121 : decode cX11_replays 121 = .ok (.iload 4, 2) := by decide +kernel
theorem dX11_replays_123 : decode cX11_replays 123 = .ok (.iconst 1, 1) := by decide +kernel
theorem dX11_replays_124 : decode cX11_replays 124 = .ok (.iload 6, 2) := by decide +kernel
theorem dX11_replays_126 : decode cX11_replays 126 = .ok (.ishl, 1) := by decide +kernel
theorem dX11_replays_127 : decode cX11_replays 127 = .ok (.ior, 1) := by decide +kernel
theorem dX11_replays_128 : decode cX11_replays 128 = .ok (.istore 4, 2) := by decide +kernel
theorem dX11_replays_130 : decode cX11_replays 130 = .ok (.iinc 6 1, 3) := by decide +kernel
theorem dX11_replays_133 : decode cX11_replays 133 = .ok (.goto (-55), 3) := by decide +kernel
theorem dX11_replays_136 : decode cX11_replays 136 = .ok (.iload 4, 2) := by decide +kernel
theorem dX11_replays_138 : decode cX11_replays 138 = .ok (.ireturn, 1) := by decide +kernel
theorem dX11_search_0 : decode cX11_search 0 = .ok (.iload_n 1, 1) := by decide +kernel
theorem dX11_search_1 : decode cX11_search 1 = .ok (.invokestatic 150, 3) := by decide +kernel
theorem dX11_search_4 : decode cX11_search 4 = .ok (.ifCond .eq 20, 3) := by decide +kernel
theorem dX11_search_7 : decode cX11_search 7 = .ok (.iload_n 2, 1) := by decide +kernel
theorem dX11_search_8 : decode cX11_search 8 = .ok (.invokestatic 74, 3) := by decide +kernel
theorem dX11_search_11 : decode cX11_search 11 = .ok (.ifCond .eq 13, 3) := by decide +kernel
theorem dX11_search_14 : decode cX11_search 14 = .ok (.iload_n 3, 1) := by decide +kernel
theorem dX11_search_15 : decode cX11_search 15 = .ok (.iconst 1, 1) := by decide +kernel
theorem dX11_search_16 : decode cX11_search 16 = .ok (.bipush 6, 2) := by decide +kernel
theorem dX11_search_18 : decode cX11_search 18 = .ok (.invokestatic 70, 3) := by decide +kernel
theorem dX11_search_21 : decode cX11_search 21 = .ok (.ifCond .ne 6, 3) := by decide +kernel
theorem dX11_search_24 : decode cX11_search 24 = .ok (.bipush (-2), 2) := by decide +kernel
theorem dX11_search_26 : decode cX11_search 26 = .ok (.ireturn, 1) := by decide +kernel
theorem dX11_search_27 : decode cX11_search 27 = .ok (.aload_n 0, 1) := by decide +kernel
theorem dX11_search_28 : decode cX11_search 28 = .ok (.getfield 57, 3) := by decide +kernel
theorem dX11_search_31 : decode cX11_search 31 = .ok (.iload_n 1, 1) := by decide +kernel
theorem dX11_search_32 : decode cX11_search 32 = .ok (.iaload, 1) := by decide +kernel
theorem dX11_search_33 : decode cX11_search 33 = .ok (.ifCond .ge 6, 3) := by decide +kernel
theorem dX11_search_36 : decode cX11_search 36 = .ok (.bipush (-11), 2) := by decide +kernel
theorem dX11_search_38 : decode cX11_search 38 = .ok (.ireturn, 1) := by decide +kernel
theorem dX11_search_39 : decode cX11_search 39 = .ok (.aload_n 0, 1) := by decide +kernel
theorem dX11_search_40 : decode cX11_search 40 = .ok (.iload_n 1, 1) := by decide +kernel
theorem dX11_search_41 : decode cX11_search 41 = .ok (.invokevirtual 165, 3) := by decide +kernel
theorem dX11_search_44 : decode cX11_search 44 = .ok (.aload_n 0, 1) := by decide +kernel
theorem dX11_search_45 : decode cX11_search 45 = .ok (.getfield 147, 3) := by decide +kernel
theorem dX11_search_48 : decode cX11_search 48 = .ok (.iload_n 3, 1) := by decide +kernel
theorem dX11_search_49 : decode cX11_search 49 = .ok (.if_icmp .ge 6, 3) := by decide +kernel
theorem dX11_search_52 : decode cX11_search 52 = .ok (.bipush (-3), 2) := by decide +kernel
theorem dX11_search_54 : decode cX11_search 54 = .ok (.ireturn, 1) := by decide +kernel
theorem dX11_search_55 : decode cX11_search 55 = .ok (.aload_n 0, 1) := by decide +kernel
theorem dX11_search_56 : decode cX11_search 56 = .ok (.iconst 0, 1) := by decide +kernel
theorem dX11_search_57 : decode cX11_search 57 = .ok (.iload_n 3, 1) := by decide +kernel
theorem dX11_search_58 : decode cX11_search 58 = .ok (.invokevirtual 236, 3) := by decide +kernel
theorem dX11_search_61 : decode cX11_search 61 = .ok (.istore 4, 2) := by decide +kernel
theorem dX11_search_63 : decode cX11_search 63 = .ok (.iconst 1, 1) := by decide +kernel
theorem dX11_search_64 : decode cX11_search 64 = .ok (.istore 5, 2) := by decide +kernel
theorem dX11_search_66 : decode cX11_search 66 = .ok (.iload 5, 2) := by decide +kernel
theorem dX11_search_68 : decode cX11_search 68 = .ok (.iconst 1, 1) := by decide +kernel
theorem dX11_search_69 : decode cX11_search 69 = .ok (.iload_n 3, 1) := by decide +kernel
theorem dX11_search_70 : decode cX11_search 70 = .ok (.ishl, 1) := by decide +kernel
theorem dX11_search_71 : decode cX11_search 71 = .ok (.if_icmp .ge 74, 3) := by decide +kernel
theorem dX11_search_74 : decode cX11_search 74 = .ok (.bipush (-9), 2) := by decide +kernel
theorem dX11_search_76 : decode cX11_search 76 = .ok (.istore 6, 2) := by decide +kernel
theorem dX11_search_78 : decode cX11_search 78 = .ok (.iload 6, 2) := by decide +kernel
theorem dX11_search_80 : decode cX11_search 80 = .ok (.bipush 9, 2) := by decide +kernel
theorem dX11_search_82 : decode cX11_search 82 = .ok (.if_icmp .gt 57, 3) := by decide +kernel
theorem dX11_search_85 : decode cX11_search 85 = .ok (.aload_n 0, 1) := by decide +kernel
theorem dX11_search_86 : decode cX11_search 86 = .ok (.iload_n 2, 1) := by decide +kernel
theorem dX11_search_87 : decode cX11_search 87 = .ok (.putfield 109, 3) := by decide +kernel
theorem dX11_search_90 : decode cX11_search 90 = .ok (.aload_n 0, 1) := by decide +kernel
theorem dX11_search_91 : decode cX11_search 91 = .ok (.iload_n 3, 1) := by decide +kernel
theorem dX11_search_92 : decode cX11_search 92 = .ok (.putfield 112, 3) := by decide +kernel
theorem dX11_search_95 : decode cX11_search 95 = .ok (.aload_n 0, 1) := by decide +kernel
theorem dX11_search_96 : decode cX11_search 96 = .ok (.iload 5, 2) := by decide +kernel
theorem dX11_search_98 : decode cX11_search 98 = .ok (.putfield 115, 3) := by decide +kernel
theorem dX11_search_101 : decode cX11_search 101 = .ok (.aload_n 0, 1) := by decide +kernel
theorem dX11_search_102 : decode cX11_search 102 = .ok (.iload 4, 2) := by decide +kernel
theorem dX11_search_104 : decode cX11_search 104 = .ok (.putfield 118, 3) := by decide +kernel
theorem dX11_search_107 : decode cX11_search 107 = .ok (.aload_n 0, 1) := by decide +kernel
theorem dX11_search_108 : decode cX11_search 108 = .ok (.iload 6, 2) := by decide +kernel
theorem dX11_search_110 : decode cX11_search 110 = .ok (.putfield 121, 3) := by decide +kernel
theorem dX11_search_113 : decode cX11_search 113 = .ok (.aload_n 0, 1) := by decide +kernel
theorem dX11_search_114 : decode cX11_search 114 = .ok (.invokevirtual 245, 3) := by decide +kernel
theorem dX11_search_117 : decode cX11_search 117 = .ok (.iconst (-1), 1) := by decide +kernel
theorem dX11_search_118 : decode cX11_search 118 = .ok (.if_icmp .ne 15, 3) := by decide +kernel
theorem dX11_search_121 : decode cX11_search 121 = .ok (.bipush 100, 2) := by decide +kernel
theorem dX11_search_123 : decode cX11_search 123 = .ok (.iload 5, 2) := by decide +kernel
theorem dX11_search_125 : decode cX11_search 125 = .ok (.imul, 1) := by decide +kernel
theorem dX11_search_126 : decode cX11_search 126 = .ok (.iload 6, 2) := by decide +kernel
theorem dX11_search_128 : decode cX11_search 128 = .ok (.iadd, 1) := by decide +kernel
theorem dX11_search_129 : decode cX11_search 129 = .ok (.bipush 9, 2) := by decide +kernel
theorem dX11_search_131 : decode cX11_search 131 = .ok (.iadd, 1) := by decide +kernel
theorem dX11_search_132 : decode cX11_search 132 = .ok (.ireturn, 1) := by decide +kernel
theorem dX11_search_133 : decode cX11_search 133 = .ok (.iinc 6 1, 3) := by decide +kernel
theorem dX11_search_136 : decode cX11_search 136 = .ok (.goto (-58), 3) := by decide +kernel
theorem dX11_search_139 : decode cX11_search 139 = .ok (.iinc 5 1, 3) := by decide +kernel
theorem dX11_search_142 : decode cX11_search 142 = .ok (.goto (-76), 3) := by decide +kernel
theorem dX11_search_145 : decode cX11_search 145 = .ok (.iconst (-1), 1) := by decide +kernel
theorem dX11_search_146 : decode cX11_search 146 = .ok (.ireturn, 1) := by decide +kernel
theorem dX11_alike_0 : decode cX11_alike 0 = .ok (.aload_n 0, 1) := by decide +kernel
theorem dX11_alike_1 : decode cX11_alike 1 = .ok (.iload_n 1, 1) := by decide +kernel
theorem dX11_alike_2 : decode cX11_alike 2 = .ok (.invokevirtual 86, 3) := by decide +kernel
theorem dX11_alike_5 : decode cX11_alike 5 = .ok (.ifCond .eq 13, 3) := by decide +kernel
theorem dX11_alike_8 : decode cX11_alike 8 = .ok (.iload_n 2, 1) := by decide +kernel
theorem dX11_alike_9 : decode cX11_alike 9 = .ok (.iconst 0, 1) := by decide +kernel
theorem dX11_alike_10 : decode cX11_alike 10 = .ok (.bipush 40, 2) := by decide +kernel
theorem dX11_alike_12 : decode cX11_alike 12 = .ok (.invokestatic 70, 3) := by decide +kernel
theorem dX11_alike_15 : decode cX11_alike 15 = .ok (.ifCond .ne 6, 3) := by decide +kernel
theorem dX11_alike_18 : decode cX11_alike 18 = .ok (.bipush (-2), 2) := by decide +kernel
theorem dX11_alike_20 : decode cX11_alike 20 = .ok (.ireturn, 1) := by decide +kernel
theorem dX11_alike_21 : decode cX11_alike 21 = .ok (.aload_n 0, 1) := by decide +kernel
theorem dX11_alike_22 : decode cX11_alike 22 = .ok (.iload_n 1, 1) := by decide +kernel
theorem dX11_alike_23 : decode cX11_alike 23 = .ok (.iload_n 2, 1) := by decide +kernel
theorem dX11_alike_24 : decode cX11_alike 24 = .ok (.invokevirtual 153, 3) := by decide +kernel
theorem dX11_alike_27 : decode cX11_alike 27 = .ok (.iconst 0, 1) := by decide +kernel
theorem dX11_alike_28 : decode cX11_alike 28 = .ok (.istore_n 3, 1) := by decide +kernel
theorem dX11_alike_29 : decode cX11_alike 29 = .ok (.iconst 0, 1) := by decide +kernel
theorem dX11_alike_30 : decode cX11_alike 30 = .ok (.istore 4, 2) := by decide +kernel
theorem dX11_alike_32 : decode cX11_alike 32 = .ok (.iload 4, 2) := by decide +kernel
theorem dX11_alike_34 : decode cX11_alike 34 = .ok (.aload_n 0, 1) := by decide +kernel
theorem dX11_alike_35 : decode cX11_alike 35 = .ok (.getfield 66, 3) := by decide +kernel
theorem dX11_alike_38 : decode cX11_alike 38 = .ok (.if_icmp .ge 30, 3) := by decide +kernel
theorem dX11_alike_41 : decode cX11_alike 41 = .ok (.aload_n 0, 1) := by decide +kernel
theorem dX11_alike_42 : decode cX11_alike 42 = .ok (.iload 4, 2) := by decide +kernel
theorem dX11_alike_44 : decode cX11_alike 44 = .ok (.invokevirtual 140, 3) := by decide +kernel
theorem dX11_alike_47 : decode cX11_alike 47 = .ok (.aload_n 0, 1) := by decide +kernel
theorem dX11_alike_48 : decode cX11_alike 48 = .ok (.invokevirtual 245, 3) := by decide +kernel
theorem dX11_alike_51 : decode cX11_alike 51 = .ok (.iconst (-1), 1) := by decide +kernel
theorem dX11_alike_52 : decode cX11_alike 52 = .ok (.if_icmp .ne 10, 3) := by decide +kernel
theorem dX11_alike_55 : decode cX11_alike 55 = .ok (.iload_n 3, 1) := by decide +kernel
theorem dX11_alike_56 : decode cX11_alike 56 = .ok (.iconst 1, 1) := by decide +kernel
theorem dX11_alike_57 : decode cX11_alike 57 = .ok (.iload 4, 2) := by decide +kernel
theorem dX11_alike_59 : decode cX11_alike 59 = .ok (.ishl, 1) := by decide +kernel
theorem dX11_alike_60 : decode cX11_alike 60 = .ok (.ior, 1) := by decide +kernel
theorem dX11_alike_61 : decode cX11_alike 61 = .ok (.istore_n 3, 1) := by decide +kernel
theorem dX11_alike_62 : decode cX11_alike 62 = .ok (.iinc 4 1, 3) := by decide +kernel
theorem dX11_alike_65 : decode cX11_alike 65 = .ok (.goto (-33), 3) := by decide +kernel
theorem dX11_alike_68 : decode cX11_alike 68 = .ok (.iload_n 3, 1) := by decide +kernel
theorem dX11_alike_69 : decode cX11_alike 69 = .ok (.ireturn, 1) := by decide +kernel
theorem dX11_spoils_0 : decode cX11_spoils 0 = .ok (.aload_n 0, 1) := by decide +kernel
theorem dX11_spoils_1 : decode cX11_spoils 1 = .ok (.iload_n 1, 1) := by decide +kernel
theorem dX11_spoils_2 : decode cX11_spoils 2 = .ok (.invokevirtual 165, 3) := by decide +kernel
theorem dX11_spoils_5 : decode cX11_spoils 5 = .ok (.iload_n 2, 1) := by decide +kernel
theorem dX11_spoils_6 : decode cX11_spoils 6 = .ok (.istore 4, 2) := by decide +kernel
theorem dX11_spoils_8 : decode cX11_spoils 8 = .ok (.iconst 0, 1) := by decide +kernel
theorem dX11_spoils_9 : decode cX11_spoils 9 = .ok (.istore 5, 2) := by decide +kernel
theorem dX11_spoils_11 : decode cX11_spoils 11 = .ok (.iload 5, 2) := by decide +kernel
theorem dX11_spoils_13 : decode cX11_spoils 13 = .ok (.iload_n 3, 1) := by decide +kernel
theorem dX11_spoils_14 : decode cX11_spoils 14 = .ok (.if_icmp .ge 39, 3) := by decide +kernel
theorem dX11_spoils_17 : decode cX11_spoils 17 = .ok (.iload 4, 2) := by decide +kernel
theorem dX11_spoils_19 : decode cX11_spoils 19 = .ok (.ldc 248, 2) := by decide +kernel
theorem dX11_spoils_21 : decode cX11_spoils 21 = .ok (.imul, 1) := by decide +kernel
theorem dX11_spoils_22 : decode cX11_spoils 22 = .ok (.sipush 12345, 3) := by decide +kernel
theorem dX11_spoils_25 : decode cX11_spoils 25 = .ok (.iadd, 1) := by decide +kernel
theorem dX11_spoils_26 : decode cX11_spoils 26 = .ok (.istore 4, 2) := by decide +kernel
theorem dX11_spoils_28 : decode cX11_spoils 28 = .ok (.aload_n 0, 1) := by decide +kernel
theorem dX11_spoils_29 : decode cX11_spoils 29 = .ok (.getfield 27, 3) := by decide +kernel
theorem dX11_spoils_32 : decode cX11_spoils 32 = .ok (.iload 4, 2) := by decide +kernel
theorem dX11_spoils_34 : decode cX11_spoils 34 = .ok (.bipush 9, 2) := by decide +kernel
theorem dX11_spoils_36 : decode cX11_spoils 36 = .ok (.iushr, 1) := by decide +kernel
theorem dX11_spoils_37 : decode cX11_spoils 37 = .ok (.aload_n 0, 1) := by decide +kernel
theorem dX11_spoils_38 : decode cX11_spoils 38 = .ok (.getfield 147, 3) := by decide +kernel
theorem dX11_spoils_41 : decode cX11_spoils 41 = .ok (.irem, 1) := by decide +kernel
theorem dX11_spoils_42 : decode cX11_spoils 42 = .ok (.dup2, 1) := by decide +kernel
theorem dX11_spoils_43 : decode cX11_spoils 43 = .ok (.iaload, 1) := by decide +kernel
theorem dX11_spoils_44 : decode cX11_spoils 44 = .ok (.iconst 1, 1) := by decide +kernel
theorem dX11_spoils_45 : decode cX11_spoils 45 = .ok (.ixor, 1) := by decide +kernel
theorem dX11_spoils_46 : decode cX11_spoils 46 = .ok (.iastore, 1) := by decide +kernel
theorem dX11_spoils_47 : decode cX11_spoils 47 = .ok (.iinc 5 1, 3) := by decide +kernel
theorem dX11_spoils_50 : decode cX11_spoils 50 = .ok (.goto (-39), 3) := by decide +kernel
theorem dX11_spoils_53 : decode cX11_spoils 53 = .ok (.return_, 1) := by decide +kernel
theorem dX11_drawn_0 : decode cX11_drawn 0 = .ok (.iload_n 1, 1) := by decide +kernel
theorem dX11_drawn_1 : decode cX11_drawn 1 = .ok (.invokestatic 150, 3) := by decide +kernel
theorem dX11_drawn_4 : decode cX11_drawn 4 = .ok (.ifCond .eq 13, 3) := by decide +kernel
theorem dX11_drawn_7 : decode cX11_drawn 7 = .ok (.iload_n 3, 1) := by decide +kernel
theorem dX11_drawn_8 : decode cX11_drawn 8 = .ok (.iconst 0, 1) := by decide +kernel
theorem dX11_drawn_9 : decode cX11_drawn 9 = .ok (.bipush 8, 2) := by decide +kernel
theorem dX11_drawn_11 : decode cX11_drawn 11 = .ok (.invokestatic 70, 3) := by decide +kernel
theorem dX11_drawn_14 : decode cX11_drawn 14 = .ok (.ifCond .ne 6, 3) := by decide +kernel
theorem dX11_drawn_17 : decode cX11_drawn 17 = .ok (.bipush (-2), 2) := by decide +kernel
theorem dX11_drawn_19 : decode cX11_drawn 19 = .ok (.ireturn, 1) := by decide +kernel
theorem dX11_drawn_20 : decode cX11_drawn 20 = .ok (.aload_n 0, 1) := by decide +kernel
theorem dX11_drawn_21 : decode cX11_drawn 21 = .ok (.getfield 57, 3) := by decide +kernel
theorem dX11_drawn_24 : decode cX11_drawn 24 = .ok (.iload_n 1, 1) := by decide +kernel
theorem dX11_drawn_25 : decode cX11_drawn 25 = .ok (.iaload, 1) := by decide +kernel
theorem dX11_drawn_26 : decode cX11_drawn 26 = .ok (.ifCond .ge 6, 3) := by decide +kernel
theorem dX11_drawn_29 : decode cX11_drawn 29 = .ok (.bipush (-11), 2) := by decide +kernel
theorem dX11_drawn_31 : decode cX11_drawn 31 = .ok (.ireturn, 1) := by decide +kernel
theorem dX11_drawn_32 : decode cX11_drawn 32 = .ok (.aload_n 0, 1) := by decide +kernel
theorem dX11_drawn_33 : decode cX11_drawn 33 = .ok (.getfield 60, 3) := by decide +kernel
theorem dX11_drawn_36 : decode cX11_drawn 36 = .ok (.iload_n 1, 1) := by decide +kernel
theorem dX11_drawn_37 : decode cX11_drawn 37 = .ok (.iaload, 1) := by decide +kernel
theorem dX11_drawn_38 : decode cX11_drawn 38 = .ok (.ifCond .ne 6, 3) := by decide +kernel
theorem dX11_drawn_41 : decode cX11_drawn 41 = .ok (.bipush (-3), 2) := by decide +kernel
theorem dX11_drawn_43 : decode cX11_drawn 43 = .ok (.ireturn, 1) := by decide +kernel
theorem dX11_drawn_44 : decode cX11_drawn 44 = .ok (.aload_n 0, 1) := by decide +kernel
theorem dX11_drawn_45 : decode cX11_drawn 45 = .ok (.iload_n 1, 1) := by decide +kernel
theorem dX11_drawn_46 : decode cX11_drawn 46 = .ok (.iload_n 2, 1) := by decide +kernel
theorem dX11_drawn_47 : decode cX11_drawn 47 = .ok (.iload_n 3, 1) := by decide +kernel
theorem dX11_drawn_48 : decode cX11_drawn 48 = .ok (.invokevirtual 249, 3) := by decide +kernel
theorem dX11_drawn_51 : decode cX11_drawn 51 = .ok (.aload_n 0, 1) := by decide +kernel
theorem dX11_drawn_52 : decode cX11_drawn 52 = .ok (.invokevirtual 229, 3) := by decide +kernel
theorem dX11_drawn_55 : decode cX11_drawn 55 = .ok (.ireturn, 1) := by decide +kernel
theorem dX11_chance_0 : decode cX11_chance 0 = .ok (.iload_n 1, 1) := by decide +kernel
theorem dX11_chance_1 : decode cX11_chance 1 = .ok (.invokestatic 150, 3) := by decide +kernel
theorem dX11_chance_4 : decode cX11_chance 4 = .ok (.ifCond .eq 45, 3) := by decide +kernel
theorem dX11_chance_7 : decode cX11_chance 7 = .ok (.iload_n 3, 1) := by decide +kernel
theorem dX11_chance_8 : decode cX11_chance 8 = .ok (.iconst 1, 1) := by decide +kernel
theorem dX11_chance_9 : decode cX11_chance 9 = .ok (.bipush 20, 2) := by decide +kernel
theorem dX11_chance_11 : decode cX11_chance 11 = .ok (.invokestatic 70, 3) := by decide +kernel
theorem dX11_chance_14 : decode cX11_chance 14 = .ok (.ifCond .eq 35, 3) := by decide +kernel
theorem dX11_chance_17 : decode cX11_chance 17 = .ok (.iload 4, 2) := by decide +kernel
theorem dX11_chance_19 : decode cX11_chance 19 = .ok (.iconst 0, 1) := by decide +kernel
theorem dX11_chance_20 : decode cX11_chance 20 = .ok (.bipush 8, 2) := by decide +kernel
theorem dX11_chance_22 : decode cX11_chance 22 = .ok (.invokestatic 70, 3) := by decide +kernel
theorem dX11_chance_25 : decode cX11_chance 25 = .ok (.ifCond .eq 24, 3) := by decide +kernel
theorem dX11_chance_28 : decode cX11_chance 28 = .ok (.iload 5, 2) := by decide +kernel
theorem dX11_chance_30 : decode cX11_chance 30 = .ok (.iconst 0, 1) := by decide +kernel
theorem dX11_chance_31 : decode cX11_chance 31 = .ok (.bipush 40, 2) := by decide +kernel
theorem dX11_chance_33 : decode cX11_chance 33 = .ok (.invokestatic 70, 3) := by decide +kernel
theorem dX11_chance_36 : decode cX11_chance 36 = .ok (.ifCond .eq 13, 3) := by decide +kernel
theorem dX11_chance_39 : decode cX11_chance 39 = .ok (.iload 6, 2) := by decide +kernel
theorem dX11_chance_41 : decode cX11_chance 41 = .ok (.iconst 0, 1) := by decide +kernel
theorem dX11_chance_42 : decode cX11_chance 42 = .ok (.iconst 1, 1) := by decide +kernel
theorem dX11_chance_43 : decode cX11_chance 43 = .ok (.invokestatic 70, 3) := by decide +kernel
theorem dX11_chance_46 : decode cX11_chance 46 = .ok (.ifCond .ne 6, 3) := by decide +kernel
theorem dX11_chance_49 : decode cX11_chance 49 = .ok (.bipush (-2), 2) := by decide +kernel
theorem dX11_chance_51 : decode cX11_chance 51 = .ok (.ireturn, 1) := by decide +kernel
theorem dX11_chance_52 : decode cX11_chance 52 = .ok (.aload_n 0, 1) := by decide +kernel
theorem dX11_chance_53 : decode cX11_chance 53 = .ok (.getfield 57, 3) := by decide +kernel
theorem dX11_chance_56 : decode cX11_chance 56 = .ok (.iload_n 1, 1) := by decide +kernel
theorem dX11_chance_57 : decode cX11_chance 57 = .ok (.iaload, 1) := by decide +kernel
theorem dX11_chance_58 : decode cX11_chance 58 = .ok (.ifCond .ge 6, 3) := by decide +kernel
theorem dX11_chance_61 : decode cX11_chance 61 = .ok (.bipush (-11), 2) := by decide +kernel
theorem dX11_chance_63 : decode cX11_chance 63 = .ok (.ireturn, 1) := by decide +kernel
theorem dX11_chance_64 : decode cX11_chance 64 = .ok (.aload_n 0, 1) := by decide +kernel
theorem dX11_chance_65 : decode cX11_chance 65 = .ok (.getfield 60, 3) := by decide +kernel
theorem dX11_chance_68 : decode cX11_chance 68 = .ok (.iload_n 1, 1) := by decide +kernel
