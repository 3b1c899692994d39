theorem dX10_film_48 : decode cX10_film 48 = .ok (.iload_n 3, 1) := by decide +kernel
theorem dX10_film_49 : decode cX10_film 49 = .ok (.invokevirtual 122, 3) := by decide +kernel
theorem dX10_film_52 : decode cX10_film 52 = .ok (.iload_n 3, 1) := by decide +kernel
theorem dX10_film_53 : decode cX10_film 53 = .ok (.ireturn, 1) := by decide +kernel
theorem dX10_mix_0 : decode cX10_mix 0 = .ok (.aload_n 0, 1) := by decide +kernel
theorem dX10_mix_1 : decode cX10_mix 1 = .ok (.iload_n 1, 1) := by decide +kernel
theorem dX10_mix_2 : decode cX10_mix 2 = .ok (.invokevirtual 118, 3) := by decide +kernel
theorem dX10_mix_5 : decode cX10_mix 5 = .ok (.astore 5, 2) := by decide +kernel
theorem dX10_mix_7 : decode cX10_mix 7 = .ok (.aload 5, 2) := by decide +kernel
theorem dX10_mix_9 : decode cX10_mix 9 = .ok (.ifnull 39, 3) := by decide +kernel
theorem dX10_mix_12 : decode cX10_mix 12 = .ok (.iload_n 2, 1) := by decide +kernel
theorem dX10_mix_13 : decode cX10_mix 13 = .ok (.iconst 0, 1) := by decide +kernel
theorem dX10_mix_14 : decode cX10_mix 14 = .ok (.iconst 1, 1) := by decide +kernel
theorem dX10_mix_15 : decode cX10_mix 15 = .ok (.aload_n 0, 1) := by decide +kernel
theorem dX10_mix_16 : decode cX10_mix 16 = .ok (.getfield 17, 3) := by decide +kernel
theorem dX10_mix_19 : decode cX10_mix 19 = .ok (.ishl, 1) := by decide +kernel
theorem dX10_mix_20 : decode cX10_mix 20 = .ok (.iconst 1, 1) := by decide +kernel
theorem dX10_mix_21 : decode cX10_mix 21 = .ok (.isub, 1) := by decide +kernel
theorem dX10_mix_22 : decode cX10_mix 22 = .ok (.invokestatic 60, 3) := by decide +kernel
theorem dX10_mix_25 : decode cX10_mix 25 = .ok (.ifCond .eq 23, 3) := by decide +kernel
theorem dX10_mix_28 : decode cX10_mix 28 = .ok (.iload_n 3, 1) := by decide +kernel
theorem dX10_mix_29 : decode cX10_mix 29 = .ok (.iconst 0, 1) := by decide +kernel
theorem dX10_mix_30 : decode cX10_mix 30 = .ok (.bipush 40, 2) := by decide +kernel
theorem dX10_mix_32 : decode cX10_mix 32 = .ok (.invokestatic 60, 3) := by decide +kernel
theorem dX10_mix_35 : decode cX10_mix 35 = .ok (.ifCond .eq 13, 3) := by decide +kernel
theorem dX10_mix_38 : decode cX10_mix 38 = .ok (.iload 4, 2) := by decide +kernel
theorem dX10_mix_40 : decode cX10_mix 40 = .ok (.iconst 0, 1) := by decide +kernel
theorem dX10_mix_41 : decode cX10_mix 41 = .ok (.iconst 1, 1) := by decide +kernel
theorem dX10_mix_42 : decode cX10_mix 42 = .ok (.invokestatic 60, 3) := by decide +kernel
theorem dX10_mix_45 : decode cX10_mix 45 = .ok (.ifCond .ne 6, 3) := by decide +kernel
theorem dX10_mix_48 : decode cX10_mix 48 = .ok (.bipush (-2), 2) := by decide +kernel
theorem dX10_mix_50 : decode cX10_mix 50 = .ok (.ireturn, 1) := by decide +kernel
theorem dX10_mix_51 : decode cX10_mix 51 = .ok (.aload_n 0, 1) := by decide +kernel
theorem dX10_mix_52 : decode cX10_mix 52 = .ok (.iload_n 3, 1) := by decide +kernel
theorem dX10_mix_53 : decode cX10_mix 53 = .ok (.invokevirtual 126, 3) := by decide +kernel
theorem dX10_mix_56 : decode cX10_mix 56 = .ok (.lconst 0, 1) := by decide +kernel
theorem dX10_mix_57 : decode cX10_mix 57 = .ok (.lstore 6, 2) := by decide +kernel
theorem dX10_mix_59 : decode cX10_mix 59 = .ok (.iconst 0, 1) := by decide +kernel
theorem dX10_mix_60 : decode cX10_mix 60 = .ok (.istore 8, 2) := by decide +kernel
theorem dX10_mix_62 : decode cX10_mix 62 = .ok (.iconst 0, 1) := by decide +kernel
theorem dX10_mix_63 : decode cX10_mix 63 = .ok (.istore 9, 2) := by decide +kernel
theorem dX10_mix_65 : decode cX10_mix 65 = .ok (.iload 9, 2) := by decide +kernel
theorem dX10_mix_67 : decode cX10_mix 67 = .ok (.iload_n 3, 1) := by decide +kernel
theorem dX10_mix_68 : decode cX10_mix 68 = .ok (.if_icmp .ge 50, 3) := by decide +kernel
theorem dX10_mix_71 : decode cX10_mix 71 = .ok (.aload_n 0, 1) := by decide +kernel
theorem dX10_mix_72 : decode cX10_mix 72 = .ok (.iload_n 2, 1) := by decide +kernel
theorem dX10_mix_73 : decode cX10_mix 73 = .ok (.iload 9, 2) := by decide +kernel
theorem dX10_mix_75 : decode cX10_mix 75 = .ok (.invokevirtual 130, 3) := by decide +kernel
theorem dX10_mix_78 : decode cX10_mix 78 = .ok (.iload 8, 2) := by decide +kernel
theorem dX10_mix_80 : decode cX10_mix 80 = .ok (.iadd, 1) := by decide +kernel
theorem dX10_mix_81 : decode cX10_mix 81 = .ok (.istore 10, 2) := by decide +kernel
theorem dX10_mix_83 : decode cX10_mix 83 = .ok (.lload 6, 2) := by decide +kernel
theorem dX10_mix_85 : decode cX10_mix 85 = .ok (.iload 10, 2) := by decide +kernel
theorem dX10_mix_87 : decode cX10_mix 87 = .ok (.iconst 1, 1) := by decide +kernel
theorem dX10_mix_88 : decode cX10_mix 88 = .ok (.iand, 1) := by decide +kernel
theorem dX10_mix_89 : decode cX10_mix 89 = .ok (.i2l, 1) := by decide +kernel
theorem dX10_mix_90 : decode cX10_mix 90 = .ok (.iload 9, 2) := by decide +kernel
theorem dX10_mix_92 : decode cX10_mix 92 = .ok (.lshl, 1) := by decide +kernel
theorem dX10_mix_93 : decode cX10_mix 93 = .ok (.lor, 1) := by decide +kernel
theorem dX10_mix_94 : decode cX10_mix 94 = .ok (.lstore 6, 2) := by decide +kernel
theorem dX10_mix_96 : decode cX10_mix 96 = .ok (.iload 4, 2) := by decide +kernel
theorem dX10_mix_98 : decode cX10_mix 98 = .ok (.iconst 1, 1) := by decide +kernel
theorem dX10_mix_99 : decode cX10_mix 99 = .ok (.if_icmp .ne 10, 3) := by decide +kernel
theorem dX10_mix_102 : decode cX10_mix 102 = .ok (.iload 10, 2) := by decide +kernel
theorem dX10_mix_104 : decode cX10_mix 104 = .ok (.iconst 1, 1) := by decide +kernel
theorem dX10_mix_105 : decode cX10_mix 105 = .ok (.ishr, 1) := by decide +kernel
theorem dX10_mix_106 : decode cX10_mix 106 = .ok (.goto 4, 3) := by decide +kernel
theorem dX10_mix_109 : decode cX10_mix 109 = .ok (.iconst 0, 1) := by decide +kernel
theorem dX10_mix_110 : decode cX10_mix 110 = .ok (.istore 8, 2) := by decide +kernel
theorem dX10_mix_112 : decode cX10_mix 112 = .ok (.iinc 9 1, 3) := by decide +kernel
theorem dX10_mix_115 : decode cX10_mix 115 = .ok (.goto (-50), 3) := by decide +kernel
theorem dX10_mix_118 : decode cX10_mix 118 = .ok (.aload 5, 2) := by decide +kernel
theorem dX10_mix_120 : decode cX10_mix 120 = .ok (.lload 6, 2) := by decide +kernel
theorem dX10_mix_122 : decode cX10_mix 122 = .ok (.iload_n 3, 1) := by decide +kernel
theorem dX10_mix_123 : decode cX10_mix 123 = .ok (.invokevirtual 122, 3) := by decide +kernel
theorem dX10_mix_126 : decode cX10_mix 126 = .ok (.iload_n 3, 1) := by decide +kernel
theorem dX10_mix_127 : decode cX10_mix 127 = .ok (.ireturn, 1) := by decide +kernel
theorem dX10_number_0 : decode cX10_number 0 = .ok (.aload_n 0, 1) := by decide +kernel
theorem dX10_number_1 : decode cX10_number 1 = .ok (.iload_n 1, 1) := by decide +kernel
theorem dX10_number_2 : decode cX10_number 2 = .ok (.invokevirtual 118, 3) := by decide +kernel
theorem dX10_number_5 : decode cX10_number 5 = .ok (.astore_n 2, 1) := by decide +kernel
theorem dX10_number_6 : decode cX10_number 6 = .ok (.aload_n 2, 1) := by decide +kernel
theorem dX10_number_7 : decode cX10_number 7 = .ok (.ifnull 10, 3) := by decide +kernel
theorem dX10_number_10 : decode cX10_number 10 = .ok (.aload_n 2, 1) := by decide +kernel
theorem dX10_number_11 : decode cX10_number 11 = .ok (.invokevirtual 134, 3) := by decide +kernel
theorem dX10_number_14 : decode cX10_number 14 = .ok (.ifCond .eq 9, 3) := by decide +kernel
theorem dX10_number_17 : decode cX10_number 17 = .ok (.ldc2_w 138, 3) := by decide +kernel
theorem dX10_number_20 : decode cX10_number 20 = .ok (.goto 7, 3) := by decide +kernel
theorem dX10_number_23 : decode cX10_number 23 = .ok (.aload_n 2, 1) := by decide +kernel
theorem dX10_number_24 : decode cX10_number 24 = .ok (.invokevirtual 140, 3) := by decide +kernel
theorem dX10_number_27 : decode cX10_number 27 = .ok (.lreturn, 1) := by decide +kernel
theorem dX10_expand_0 : decode cX10_expand 0 = .ok (.aload_n 0, 1) := by decide +kernel
theorem dX10_expand_1 : decode cX10_expand 1 = .ok (.iload_n 1, 1) := by decide +kernel
theorem dX10_expand_2 : decode cX10_expand 2 = .ok (.invokevirtual 118, 3) := by decide +kernel
theorem dX10_expand_5 : decode cX10_expand 5 = .ok (.astore 5, 2) := by decide +kernel
theorem dX10_expand_7 : decode cX10_expand 7 = .ok (.aload 5, 2) := by decide +kernel
theorem dX10_expand_9 : decode cX10_expand 9 = .ok (.ifnull 22, 3) := by decide +kernel
theorem dX10_expand_12 : decode cX10_expand 12 = .ok (.iload 4, 2) := by decide +kernel
theorem dX10_expand_14 : decode cX10_expand 14 = .ok (.iconst 0, 1) := by decide +kernel
theorem dX10_expand_15 : decode cX10_expand 15 = .ok (.bipush 40, 2) := by decide +kernel
theorem dX10_expand_17 : decode cX10_expand 17 = .ok (.invokestatic 60, 3) := by decide +kernel
theorem dX10_expand_20 : decode cX10_expand 20 = .ok (.ifCond .eq 11, 3) := by decide +kernel
theorem dX10_expand_23 : decode cX10_expand 23 = .ok (.iload_n 2, 1) := by decide +kernel
theorem dX10_expand_24 : decode cX10_expand 24 = .ok (.iload_n 3, 1) := by decide +kernel
theorem dX10_expand_25 : decode cX10_expand 25 = .ok (.invokestatic 144, 3) := by decide +kernel
theorem dX10_expand_28 : decode cX10_expand 28 = .ok (.ifCond .ne 6, 3) := by decide +kernel
theorem dX10_expand_31 : decode cX10_expand 31 = .ok (.bipush (-2), 2) := by decide +kernel
theorem dX10_expand_33 : decode cX10_expand 33 = .ok (.ireturn, 1) := by decide +kernel
theorem dX10_expand_34 : decode cX10_expand 34 = .ok (.iload_n 3, 1) := by decide +kernel
theorem dX10_expand_35 : decode cX10_expand 35 = .ok (.iconst 1, 1) := by decide +kernel
theorem dX10_expand_36 : decode cX10_expand 36 = .ok (.iand, 1) := by decide +kernel
theorem dX10_expand_37 : decode cX10_expand 37 = .ok (.ifCond .ne 6, 3) := by decide +kernel
theorem dX10_expand_40 : decode cX10_expand 40 = .ok (.bipush (-3), 2) := by decide +kernel
theorem dX10_expand_42 : decode cX10_expand 42 = .ok (.ireturn, 1) := by decide +kernel
theorem dX10_expand_43 : decode cX10_expand 43 = .ok (.aload 5, 2) := by decide +kernel
theorem dX10_expand_45 : decode cX10_expand 45 = .ok (.iload_n 2, 1) := by decide +kernel
theorem dX10_expand_46 : decode cX10_expand 46 = .ok (.i2l, 1) := by decide +kernel
theorem dX10_expand_47 : decode cX10_expand 47 = .ok (.iload_n 3, 1) := by decide +kernel
theorem dX10_expand_48 : decode cX10_expand 48 = .ok (.i2l, 1) := by decide +kernel
theorem dX10_expand_49 : decode cX10_expand 49 = .ok (.iload 4, 2) := by decide +kernel
theorem dX10_expand_51 : decode cX10_expand 51 = .ok (.invokestatic 148, 3) := by decide +kernel
theorem dX10_expand_54 : decode cX10_expand 54 = .ok (.iload 4, 2) := by decide +kernel
theorem dX10_expand_56 : decode cX10_expand 56 = .ok (.invokevirtual 122, 3) := by decide +kernel
theorem dX10_expand_59 : decode cX10_expand 59 = .ok (.iload 4, 2) := by decide +kernel
theorem dX10_expand_61 : decode cX10_expand 61 = .ok (.ireturn, 1) := by decide +kernel
theorem dX10_period_0 : decode cX10_period 0 = .ok (.iload_n 3, 1) := by decide +kernel
theorem dX10_period_1 : decode cX10_period 1 = .ok (.iconst 0, 1) := by decide +kernel
theorem dX10_period_2 : decode cX10_period 2 = .ok (.iconst 1, 1) := by decide +kernel
theorem dX10_period_3 : decode cX10_period 3 = .ok (.invokestatic 60, 3) := by decide +kernel
theorem dX10_period_6 : decode cX10_period 6 = .ok (.ifCond .eq 11, 3) := by decide +kernel
theorem dX10_period_9 : decode cX10_period 9 = .ok (.iload_n 1, 1) := by decide +kernel
theorem dX10_period_10 : decode cX10_period 10 = .ok (.iload_n 2, 1) := by decide +kernel
theorem dX10_period_11 : decode cX10_period 11 = .ok (.invokestatic 144, 3) := by decide +kernel
theorem dX10_period_14 : decode cX10_period 14 = .ok (.ifCond .ne 6, 3) := by decide +kernel
theorem dX10_period_17 : decode cX10_period 17 = .ok (.bipush (-2), 2) := by decide +kernel
theorem dX10_period_19 : decode cX10_period 19 = .ok (.ireturn, 1) := by decide +kernel
theorem dX10_period_20 : decode cX10_period 20 = .ok (.iload_n 2, 1) := by decide +kernel
theorem dX10_period_21 : decode cX10_period 21 = .ok (.iconst 1, 1) := by decide +kernel
theorem dX10_period_22 : decode cX10_period 22 = .ok (.iand, 1) := by decide +kernel
theorem dX10_period_23 : decode cX10_period 23 = .ok (.ifCond .ne 6, 3) := by decide +kernel
theorem dX10_period_26 : decode cX10_period 26 = .ok (.bipush (-3), 2) := by decide +kernel
theorem dX10_period_28 : decode cX10_period 28 = .ok (.ireturn, 1) := by decide +kernel
theorem dX10_period_29 : decode cX10_period 29 = .ok (.iload_n 1, 1) := by decide +kernel
theorem dX10_period_30 : decode cX10_period 30 = .ok (.i2l, 1) := by decide +kernel
theorem dX10_period_31 : decode cX10_period 31 = .ok (.lstore 4, 2) := by decide +kernel
theorem dX10_period_33 : decode cX10_period 33 = .ok (.iconst 0, 1) := by decide +kernel
theorem dX10_period_34 : decode cX10_period 34 = .ok (.istore 6, 2) := by decide +kernel
theorem dX10_period_36 : decode cX10_period 36 = .ok (.iload 6, 2) := by decide +kernel
theorem dX10_period_38 : decode cX10_period 38 = .ok (.ldc 152, 2) := by decide +kernel
theorem dX10_period_40 : decode cX10_period 40 = .ok (.if_icmp .ge 34, 3) := by decide +kernel
theorem dX10_period_43 : decode cX10_period 43 = .ok (.lload 4, 2) := by decide +kernel
theorem dX10_period_45 : decode cX10_period 45 = .ok (.lconst 0, 1) := by decide +kernel
theorem dX10_period_46 : decode cX10_period 46 = .ok (.lcmp, 1) := by decide +kernel
theorem dX10_period_47 : decode cX10_period 47 = .ok (.ifCond .gt 12, 3) := by decide +kernel
theorem dX10_period_50 : decode cX10_period 50 = .ok (.lload 4, 2) := by decide +kernel
theorem dX10_period_52 : decode cX10_period 52 = .ok (.iload_n 2, 1) := by decide +kernel
theorem dX10_period_53 : decode cX10_period 53 = .ok (.ineg, 1) := by decide +kernel
theorem dX10_period_54 : decode cX10_period 54 = .ok (.i2l, 1) := by decide +kernel
theorem dX10_period_55 : decode cX10_period 55 = .ok (.lcmp, 1) := by decide +kernel
theorem dX10_period_56 : decode cX10_period 56 = .ok (.ifCond .ge 18, 3) := by decide +kernel
theorem dX10_period_59 : decode cX10_period 59 = .ok (.lload 4, 2) := by decide +kernel
theorem dX10_period_61 : decode cX10_period 61 = .ok (.iload_n 2, 1) := by decide +kernel
theorem dX10_period_62 : decode cX10_period 62 = .ok (.i2l, 1) := by decide +kernel
theorem dX10_period_63 : decode cX10_period 63 = .ok (.invokestatic 153, 3) := by decide +kernel
theorem dX10_period_66 : decode cX10_period 66 = .ok (.lstore 4, 2) := by decide +kernel
theorem dX10_period_68 : decode cX10_period 68 = .ok (.iinc 6 1, 3) := by decide +kernel
theorem dX10_period_71 : decode cX10_period 71 = .ok (.goto (-35), 3) := by decide +kernel
theorem dX10_period_74 : decode cX10_period 74 = .ok (.iload_n 3, 1) := by decide +kernel
theorem dX10_period_75 : decode cX10_period 75 = .ok (.iconst 1, 1) := by decide +kernel
theorem dX10_period_76 : decode cX10_period 76 = .ok (.if_icmp .ne 8, 3) := by decide +kernel
theorem dX10_period_79 : decode cX10_period 79 = .ok (.iload 6, 2) := by decide +kernel
theorem dX10_period_81 : decode cX10_period 81 = .ok (.goto 10, 3) := by decide +kernel
theorem dX10_period_84 : decode cX10_period 84 = .ok (.lload 4, 2) := by decide +kernel
theorem dX10_period_86 : decode cX10_period 86 = .ok (.iload_n 2, 1) := by decide +kernel
theorem dX10_period_87 : decode cX10_period 87 = .ok (.i2l, 1) := by decide +kernel
theorem dX10_period_88 : decode cX10_period 88 = .ok (.invokestatic 157, 3) := by decide +kernel
theorem dX10_period_91 : decode cX10_period 91 = .ok (.ireturn, 1) := by decide +kernel
theorem dX10_fraction_0 : decode cX10_fraction 0 = .ok (.aload_n 0, 1) := by decide +kernel
theorem dX10_fraction_1 : decode cX10_fraction 1 = .ok (.iload_n 1, 1) := by decide +kernel
theorem dX10_fraction_2 : decode cX10_fraction 2 = .ok (.invokevirtual 118, 3) := by decide +kernel
theorem dX10_fraction_5 : decode cX10_fraction 5 = .ok (.astore_n 3, 1) := by decide +kernel
theorem dX10_fraction_6 : decode cX10_fraction 6 = .ok (.aload_n 3, 1) := by decide +kernel
theorem dX10_fraction_7 : decode cX10_fraction 7 = .ok (.ifnull 28, 3) := by decide +kernel
theorem dX10_fraction_10 : decode cX10_fraction 10 = .ok (.iload_n 2, 1) := by decide +kernel
theorem dX10_fraction_11 : decode cX10_fraction 11 = .ok (.iconst 0, 1) := by decide +kernel
theorem dX10_fraction_12 : decode cX10_fraction 12 = .ok (.iconst 3, 1) := by decide +kernel
theorem dX10_fraction_13 : decode cX10_fraction 13 = .ok (.invokestatic 60, 3) := by decide +kernel
theorem dX10_fraction_16 : decode cX10_fraction 16 = .ok (.ifCond .eq 19, 3) := by decide +kernel
theorem dX10_fraction_19 : decode cX10_fraction 19 = .ok (.aload_n 3, 1) := by decide +kernel
theorem dX10_fraction_20 : decode cX10_fraction 20 = .ok (.invokevirtual 134, 3) := by decide +kernel
theorem dX10_fraction_23 : decode cX10_fraction 23 = .ok (.ifCond .ne 12, 3) := by decide +kernel
theorem dX10_fraction_26 : decode cX10_fraction 26 = .ok (.aload_n 3, 1) := by decide +kernel
theorem dX10_fraction_27 : decode cX10_fraction 27 = .ok (.getfield 161, 3) := by decide +kernel
theorem dX10_fraction_30 : decode cX10_fraction 30 = .ok (.bipush 24, 2) := by decide +kernel
theorem dX10_fraction_32 : decode cX10_fraction 32 = .ok (.if_icmp .le 7, 3) := by decide +kernel
theorem dX10_fraction_35 : decode cX10_fraction 35 = .ok (.ldc2_w 138, 3) := by decide +kernel
theorem dX10_fraction_38 : decode cX10_fraction 38 = .ok (.lreturn, 1) := by decide +kernel
theorem dX10_fraction_39 : decode cX10_fraction 39 = .ok (.aload_n 0, 1) := by decide +kernel
theorem dX10_fraction_40 : decode cX10_fraction 40 = .ok (.getfield 44, 3) := by decide +kernel
theorem dX10_fraction_43 : decode cX10_fraction 43 = .ok (.aload_n 3, 1) := by decide +kernel
theorem dX10_fraction_44 : decode cX10_fraction 44 = .ok (.invokevirtual 140, 3) := by decide +kernel
theorem dX10_fraction_47 : decode cX10_fraction 47 = .ok (.aload_n 3, 1) := by decide +kernel
theorem dX10_fraction_48 : decode cX10_fraction 48 = .ok (.getfield 161, 3) := by decide +kernel
theorem dX10_fraction_51 : decode cX10_fraction 51 = .ok (.invokevirtual 164, 3) := by decide +kernel
theorem dX10_fraction_54 : decode cX10_fraction 54 = .ok (.iload_n 2, 1) := by decide +kernel
theorem dX10_fraction_55 : decode cX10_fraction 55 = .ok (.tableswitch 49 0 2 #[25, 33, 41], 25) := by decide +kernel
theorem dX10_fraction_80 : decode cX10_fraction 80 = .ok (.aload_n 0, 1) := by decide +kernel
theorem dX10_fraction_81 : decode cX10_fraction 81 = .ok (.getfield 44, 3) := by decide +kernel
theorem dX10_fraction_84 : decode cX10_fraction 84 = .ok (.getfield 167, 3) := by decide +kernel
theorem dX10_fraction_87 : decode cX10_fraction 87 = .ok (.lreturn, 1) := by decide +kernel
theorem dX10_fraction_88 : decode cX10_fraction 88 = .ok (.aload_n 0, 1) := by decide +kernel
theorem dX10_fraction_89 : decode cX10_fraction 89 = .ok (.getfield 44, 3) := by decide +kernel
theorem dX10_fraction_92 : decode cX10_fraction 92 = .ok (.getfield 171, 3) := by decide +kernel
theorem dX10_fraction_95 : decode cX10_fraction 95 = .ok (.lreturn, 1) := by decide +kernel
theorem dX10_fraction_96 : decode cX10_fraction 96 = .ok (.aload_n 0, 1) := by decide +kernel
theorem dX10_fraction_97 : decode cX10_fraction 97 = .ok (.getfield 44, 3) := by decide +kernel
theorem dX10_fraction_100 : decode cX10_fraction 100 = .ok (.invokevirtual 174, 3) := by decide +kernel
theorem dX10_fraction_103 : decode cX10_fraction 103 = .ok (.lreturn, 1) := by decide +kernel
theorem dX10_fraction_104 : decode cX10_fraction 104 = .ok (.aload_n 0, 1) := by decide +kernel
theorem dX10_fraction_105 : decode cX10_fraction 105 = .ok (.getfield 44, 3) := by decide +kernel
theorem dX10_fraction_108 : decode cX10_fraction 108 = .ok (.invokevirtual 174, 3) := by decide +kernel
theorem dX10_fraction_111 : decode cX10_fraction 111 = .ok (.invokestatic 177, 3) := by decide +kernel
theorem dX10_fraction_114 : decode cX10_fraction 114 = .ok (.i2l, 1) := by decide +kernel
theorem dX10_fraction_115 : decode cX10_fraction 115 = .ok (.lreturn, 1) := by decide +kernel
theorem dX10_told_0 : decode cX10_told 0 = .ok (.aload_n 0, 1) := by decide +kernel
theorem dX10_told_1 : decode cX10_told 1 = .ok (.iload_n 1, 1) := by decide +kernel
theorem dX10_told_2 : decode cX10_told 2 = .ok (.invokevirtual 76, 3) := by decide +kernel
theorem dX10_told_5 : decode cX10_told 5 = .ok (.astore_n 3, 1) := by decide +kernel
theorem dX10_told_6 : decode cX10_told 6 = .ok (.aload_n 3, 1) := by decide +kernel
theorem dX10_told_7 : decode cX10_told 7 = .ok (.ifnull 19, 3) := by decide +kernel
theorem dX10_told_10 : decode cX10_told 10 = .ok (.iload_n 2, 1) := by decide +kernel
theorem dX10_told_11 : decode cX10_told 11 = .ok (.iconst 0, 1) := by decide +kernel
theorem dX10_told_12 : decode cX10_told 12 = .ok (.iconst 1, 1) := by decide +kernel
theorem dX10_told_13 : decode cX10_told 13 = .ok (.invokestatic 60, 3) := by decide +kernel
theorem dX10_told_16 : decode cX10_told 16 = .ok (.ifCond .eq 10, 3) := by decide +kernel
theorem dX10_told_19 : decode cX10_told 19 = .ok (.aload_n 3, 1) := by decide +kernel
theorem dX10_told_20 : decode cX10_told 20 = .ok (.getfield 93, 3) := by decide +kernel
theorem dX10_told_23 : decode cX10_told 23 = .ok (.ifCond .eq 7, 3) := by decide +kernel
theorem dX10_told_26 : decode cX10_told 26 = .ok (.ldc2_w 138, 3) := by decide +kernel
theorem dX10_told_29 : decode cX10_told 29 = .ok (.lreturn, 1) := by decide +kernel
theorem dX10_told_30 : decode cX10_told 30 = .ok (.aload_n 3, 1) := by decide +kernel
theorem dX10_told_31 : decode cX10_told 31 = .ok (.getfield 96, 3) := by decide +kernel
theorem dX10_told_34 : decode cX10_told 34 = .ok (.aload_n 3, 1) := by decide +kernel
theorem dX10_told_35 : decode cX10_told 35 = .ok (.getfield 90, 3) := by decide +kernel
theorem dX10_told_38 : decode cX10_told 38 = .ok (.aload_n 3, 1) := by decide +kernel
theorem dX10_told_39 : decode cX10_told 39 = .ok (.getfield 84, 3) := by decide +kernel
theorem dX10_told_42 : decode cX10_told 42 = .ok (.invokestatic 181, 3) := by decide +kernel
theorem dX10_told_45 : decode cX10_told 45 = .ok (.aload_n 3, 1) := by decide +kernel
theorem dX10_told_46 : decode cX10_told 46 = .ok (.getfield 87, 3) := by decide +kernel
theorem dX10_told_49 : decode cX10_told 49 = .ok (.i2l, 1) := by decide +kernel
theorem dX10_told_50 : decode cX10_told 50 = .ok (.aload_n 3, 1) := by decide +kernel
theorem dX10_told_51 : decode cX10_told 51 = .ok (.getfield 96, 3) := by decide +kernel
theorem dX10_told_54 : decode cX10_told 54 = .ok (.lshl, 1) := by decide +kernel
theorem dX10_told_55 : decode cX10_told 55 = .ok (.lsub, 1) := by decide +kernel
theorem dX10_told_56 : decode cX10_told 56 = .ok (.lstore 4, 2) := by decide +kernel
theorem dX10_told_58 : decode cX10_told 58 = .ok (.lload 4, 2) := by decide +kernel
theorem dX10_told_60 : decode cX10_told 60 = .ok (.aload_n 3, 1) := by decide +kernel
theorem dX10_told_61 : decode cX10_told 61 = .ok (.invokevirtual 102, 3) := by decide +kernel
theorem dX10_told_64 : decode cX10_told 64 = .ok (.i2l, 1) := by decide +kernel
theorem dX10_told_65 : decode cX10_told 65 = .ok (.iload_n 2, 1) := by decide +kernel
theorem dX10_told_66 : decode cX10_told 66 = .ok (.invokestatic 185, 3) := by decide +kernel
theorem dX10_told_69 : decode cX10_told 69 = .ok (.lreturn, 1) := by decide +kernel
theorem dX10_build_0 : decode cX10_build 0 = .ok (.aload_n 0, 1) := by decide +kernel
theorem dX10_build_1 : decode cX10_build 1 = .ok (.iload_n 1, 1) := by decide +kernel
theorem dX10_build_2 : decode cX10_build 2 = .ok (.invokevirtual 118, 3) := by decide +kernel
theorem dX10_build_5 : decode cX10_build 5 = .ok (.astore_n 2, 1) := by decide +kernel
theorem dX10_build_6 : decode cX10_build 6 = .ok (.aload_n 2, 1) := by decide +kernel
theorem dX10_build_7 : decode cX10_build 7 = .ok (.ifnonnull 6, 3) := by decide +kernel
theorem dX10_build_10 : decode cX10_build 10 = .ok (.bipush (-2), 2) := by decide +kernel
theorem dX10_build_12 : decode cX10_build 12 = .ok (.ireturn, 1) := by decide +kernel
theorem dX10_build_13 : decode cX10_build 13 = .ok (.aload_n 2, 1) := by decide +kernel
theorem dX10_build_14 : decode cX10_build 14 = .ok (.invokevirtual 134, 3) := by decide +kernel
theorem dX10_build_17 : decode cX10_build 17 = .ok (.ifCond .eq 6, 3) := by decide +kernel
theorem dX10_build_20 : decode cX10_build 20 = .ok (.bipush (-11), 2) := by decide +kernel
theorem dX10_build_22 : decode cX10_build 22 = .ok (.ireturn, 1) := by decide +kernel
theorem dX10_build_23 : decode cX10_build 23 = .ok (.aload_n 2, 1) := by decide +kernel
theorem dX10_build_24 : decode cX10_build 24 = .ok (.getfield 161, 3) := by decide +kernel
theorem dX10_build_27 : decode cX10_build 27 = .ok (.bipush 24, 2) := by decide +kernel
theorem dX10_build_29 : decode cX10_build 29 = .ok (.if_icmp .le 6, 3) := by decide +kernel
theorem dX10_build_32 : decode cX10_build 32 = .ok (.bipush (-2), 2) := by decide +kernel
theorem dX10_build_34 : decode cX10_build 34 = .ok (.ireturn, 1) := by decide +kernel
theorem dX10_build_35 : decode cX10_build 35 = .ok (.aload_n 0, 1) := by decide +kernel
theorem dX10_build_36 : decode cX10_build 36 = .ok (.getfield 17, 3) := by decide +kernel
theorem dX10_build_39 : decode cX10_build 39 = .ok (.iconst 4, 1) := by decide +kernel
theorem dX10_build_40 : decode cX10_build 40 = .ok (.if_icmp .lt 6, 3) := by decide +kernel
theorem dX10_build_43 : decode cX10_build 43 = .ok (.bipush (-4), 2) := by decide +kernel
theorem dX10_build_45 : decode cX10_build 45 = .ok (.ireturn, 1) := by decide +kernel
theorem dX10_build_46 : decode cX10_build 46 = .ok (.aload_n 0, 1) := by decide +kernel
theorem dX10_build_47 : decode cX10_build 47 = .ok (.getfield 44, 3) := by decide +kernel
theorem dX10_build_50 : decode cX10_build 50 = .ok (.aload_n 2, 1) := by decide +kernel
theorem dX10_build_51 : decode cX10_build 51 = .ok (.invokevirtual 140, 3) := by decide +kernel
theorem dX10_build_54 : decode cX10_build 54 = .ok (.aload_n 2, 1) := by decide +kernel
theorem dX10_build_55 : decode cX10_build 55 = .ok (.getfield 161, 3) := by decide +kernel
theorem dX10_build_58 : decode cX10_build 58 = .ok (.invokevirtual 164, 3) := by decide +kernel
theorem dX10_build_61 : decode cX10_build 61 = .ok (.aload_n 0, 1) := by decide +kernel
theorem dX10_build_62 : decode cX10_build 62 = .ok (.aload_n 0, 1) := by decide +kernel
theorem dX10_build_63 : decode cX10_build 63 = .ok (.getfield 44, 3) := by decide +kernel
theorem dX10_build_66 : decode cX10_build 66 = .ok (.getfield 167, 3) := by decide +kernel
theorem dX10_build_69 : decode cX10_build 69 = .ok (.aload_n 0, 1) := by decide +kernel
theorem dX10_build_70 : decode cX10_build 70 = .ok (.getfield 44, 3) := by decide +kernel
theorem dX10_build_73 : decode cX10_build 73 = .ok (.getfield 171, 3) := by decide +kernel
theorem dX10_build_76 : decode cX10_build 76 = .ok (.invokevirtual 188, 3) := by decide +kernel
theorem dX10_build_79 : decode cX10_build 79 = .ok (.ireturn, 1) := by decide +kernel
theorem dX10_cycle_0 : decode cX10_cycle 0 = .ok (.aload_n 0, 1) := by decide +kernel
theorem dX10_cycle_1 : decode cX10_cycle 1 = .ok (.iload_n 1, 1) := by decide +kernel
theorem dX10_cycle_2 : decode cX10_cycle 2 = .ok (.invokevirtual 76, 3) := by decide +kernel
theorem dX10_cycle_5 : decode cX10_cycle 5 = .ok (.astore_n 3, 1) := by decide +kernel
theorem dX10_cycle_6 : decode cX10_cycle 6 = .ok (.aload_n 3, 1) := by decide +kernel
theorem dX10_cycle_7 : decode cX10_cycle 7 = .ok (.ifnull 12, 3) := by decide +kernel
theorem dX10_cycle_10 : decode cX10_cycle 10 = .ok (.iload_n 2, 1) := by decide +kernel
theorem dX10_cycle_11 : decode cX10_cycle 11 = .ok (.iconst 0, 1) := by decide +kernel
theorem dX10_cycle_12 : decode cX10_cycle 12 = .ok (.iconst 1, 1) := by decide +kernel
theorem dX10_cycle_13 : decode cX10_cycle 13 = .ok (.invokestatic 60, 3) := by decide +kernel
theorem dX10_cycle_16 : decode cX10_cycle 16 = .ok (.ifCond .ne 6, 3) := by decide +kernel
theorem dX10_cycle_19 : decode cX10_cycle 19 = .ok (.bipush (-2), 2) := by decide +kernel
theorem dX10_cycle_21 : decode cX10_cycle 21 = .ok (.ireturn, 1) := by decide +kernel
theorem dX10_cycle_22 : decode cX10_cycle 22 = .ok (.aload_n 3, 1) := by decide +kernel
theorem dX10_cycle_23 : decode cX10_cycle 23 = .ok (.invokestatic 191, 3) := by decide +kernel
theorem dX10_cycle_26 : decode cX10_cycle 26 = .ok (.istore 4, 2) := by decide +kernel
theorem dX10_cycle_28 : decode cX10_cycle 28 = .ok (.iload_n 2, 1) := by decide +kernel
theorem dX10_cycle_29 : decode cX10_cycle 29 = .ok (.ifCond .ne 8, 3) := by decide +kernel
theorem dX10_cycle_32 : decode cX10_cycle 32 = .ok (.iload 4, 2) := by decide +kernel
theorem dX10_cycle_34 : decode cX10_cycle 34 = .ok (.goto 9, 3) := by decide +kernel
theorem dX10_cycle_37 : decode cX10_cycle 37 = .ok (.aload_n 3, 1) := by decide +kernel
theorem dX10_cycle_38 : decode cX10_cycle 38 = .ok (.iload 4, 2) := by decide +kernel
theorem dX10_cycle_40 : decode cX10_cycle 40 = .ok (.invokestatic 194, 3) := by decide +kernel
theorem dX10_cycle_43 : decode cX10_cycle 43 = .ok (.ireturn, 1) := by decide +kernel
theorem dX10_linear_0 : decode cX10_linear 0 = .ok (.aload_n 0, 1) := by decide +kernel
theorem dX10_linear_1 : decode cX10_linear 1 = .ok (.iload_n 1, 1) := by decide +kernel
theorem dX10_linear_2 : decode cX10_linear 2 = .ok (.invokevirtual 118, 3) := by decide +kernel
theorem dX10_linear_5 : decode cX10_linear 5 = .ok (.astore_n 3, 1) := by decide +kernel
theorem dX10_linear_6 : decode cX10_linear 6 = .ok (.aload_n 3, 1) := by decide +kernel
theorem dX10_linear_7 : decode cX10_linear 7 = .ok (.ifnull 19, 3) := by decide +kernel
theorem dX10_linear_10 : decode cX10_linear 10 = .ok (.iload_n 2, 1) := by decide +kernel
theorem dX10_linear_11 : decode cX10_linear 11 = .ok (.iconst 0, 1) := by decide +kernel
theorem dX10_linear_12 : decode cX10_linear 12 = .ok (.iconst 1, 1) := by decide +kernel
theorem dX10_linear_13 : decode cX10_linear 13 = .ok (.invokestatic 60, 3) := by decide +kernel
theorem dX10_linear_16 : decode cX10_linear 16 = .ok (.ifCond .eq 10, 3) := by decide +kernel
theorem dX10_linear_19 : decode cX10_linear 19 = .ok (.aload_n 3, 1) := by decide +kernel
theorem dX10_linear_20 : decode cX10_linear 20 = .ok (.invokevirtual 134, 3) := by decide +kernel
theorem dX10_linear_23 : decode cX10_linear 23 = .ok (.ifCond .eq 7, 3) := by decide +kernel
theorem dX10_linear_26 : decode cX10_linear 26 = .ok (.ldc2_w 138, 3) := by decide +kernel
theorem dX10_linear_29 : decode cX10_linear 29 = .ok (.lreturn, 1) := by decide +kernel
theorem dX10_linear_30 : decode cX10_linear 30 = .ok (.aload_n 0, 1) := by decide +kernel
theorem dX10_linear_31 : decode cX10_linear 31 = .ok (.aload_n 3, 1) := by decide +kernel
theorem dX10_linear_32 : decode cX10_linear 32 = .ok (.invokevirtual 140, 3) := by decide +kernel
theorem dX10_linear_35 : decode cX10_linear 35 = .ok (.aload_n 3, 1) := by decide +kernel
theorem dX10_linear_36 : decode cX10_linear 36 = .ok (.getfield 161, 3) := by decide +kernel
theorem dX10_linear_39 : decode cX10_linear 39 = .ok (.iload_n 2, 1) := by decide +kernel
theorem dX10_linear_40 : decode cX10_linear 40 = .ok (.invokevirtual 198, 3) := by decide +kernel
theorem dX10_linear_43 : decode cX10_linear 43 = .ok (.lreturn, 1) := by decide +kernel
theorem dX10_twin_0 : decode cX10_twin 0 = .ok (.aload_n 0, 1) := by decide +kernel
theorem dX10_twin_1 : decode cX10_twin 1 = .ok (.iload_n 1, 1) := by decide +kernel
theorem dX10_twin_2 : decode cX10_twin 2 = .ok (.invokevirtual 76, 3) := by decide +kernel
theorem dX10_twin_5 : decode cX10_twin 5 = .ok (.astore 4, 2) := by decide +kernel
theorem dX10_twin_7 : decode cX10_twin 7 = .ok (.aload 4, 2) := by decide +kernel
theorem dX10_twin_9 : decode cX10_twin 9 = .ok (.ifnull 22, 3) := by decide +kernel
theorem dX10_twin_12 : decode cX10_twin 12 = .ok (.iload_n 2, 1) := by decide +kernel
theorem dX10_twin_13 : decode cX10_twin 13 = .ok (.iconst 0, 1) := by decide +kernel
theorem dX10_twin_14 : decode cX10_twin 14 = .ok (.bipush 40, 2) := by decide +kernel
theorem dX10_twin_16 : decode cX10_twin 16 = .ok (.invokestatic 60, 3) := by decide +kernel
theorem dX10_twin_19 : decode cX10_twin 19 = .ok (.ifCond .eq 12, 3) := by decide +kernel
theorem dX10_twin_22 : decode cX10_twin 22 = .ok (.iload_n 3, 1) := by decide +kernel
theorem dX10_twin_23 : decode cX10_twin 23 = .ok (.iconst 0, 1) := by decide +kernel
theorem dX10_twin_24 : decode cX10_twin 24 = .ok (.iconst 1, 1) := by decide +kernel
theorem dX10_twin_25 : decode cX10_twin 25 = .ok (.invokestatic 60, 3) := by decide +kernel
theorem dX10_twin_28 : decode cX10_twin 28 = .ok (.ifCond .ne 7, 3) := by decide +kernel
theorem dX10_twin_31 : decode cX10_twin 31 = .ok (.ldc2_w 138, 3) := by decide +kernel
theorem dX10_twin_34 : decode cX10_twin 34 = .ok (.lreturn, 1) := by decide +kernel
theorem dX10_twin_35 : decode cX10_twin 35 = .ok (.aload_n 0, 1) := by decide +kernel
theorem dX10_twin_36 : decode cX10_twin 36 = .ok (.aload 4, 2) := by decide +kernel
theorem dX10_twin_38 : decode cX10_twin 38 = .ok (.invokestatic 114, 3) := by decide +kernel
theorem dX10_twin_41 : decode cX10_twin 41 = .ok (.iload_n 2, 1) := by decide +kernel
theorem dX10_twin_42 : decode cX10_twin 42 = .ok (.invokestatic 110, 3) := by decide +kernel
theorem dX10_twin_45 : decode cX10_twin 45 = .ok (.iload_n 2, 1) := by decide +kernel
theorem dX10_twin_46 : decode cX10_twin 46 = .ok (.iload_n 3, 1) := by decide +kernel
theorem dX10_twin_47 : decode cX10_twin 47 = .ok (.invokevirtual 198, 3) := by decide +kernel
theorem dX10_twin_50 : decode cX10_twin 50 = .ok (.lreturn, 1) := by decide +kernel
theorem dX10_compare_0 : decode cX10_compare 0 = .ok (.aload_n 0, 1) := by decide +kernel
theorem dX10_compare_1 : decode cX10_compare 1 = .ok (.iload_n 1, 1) := by decide +kernel
theorem dX10_compare_2 : decode cX10_compare 2 = .ok (.invokevirtual 118, 3) := by decide +kernel
theorem dX10_compare_5 : decode cX10_compare 5 = .ok (.astore_n 2, 1) := by decide +kernel
theorem dX10_compare_6 : decode cX10_compare 6 = .ok (.aload_n 2, 1) := by decide +kernel
theorem dX10_compare_7 : decode cX10_compare 7 = .ok (.ifnonnull 7, 3) := by decide +kernel
theorem dX10_compare_10 : decode cX10_compare 10 = .ok (.sipush (-1000), 3) := by decide +kernel
theorem dX10_compare_13 : decode cX10_compare 13 = .ok (.ireturn, 1) := by decide +kernel
theorem dX10_compare_14 : decode cX10_compare 14 = .ok (.aload_n 2, 1) := by decide +kernel
theorem dX10_compare_15 : decode cX10_compare 15 = .ok (.invokevirtual 134, 3) := by decide +kernel
theorem dX10_compare_18 : decode cX10_compare 18 = .ok (.ifCond .eq 7, 3) := by decide +kernel
theorem dX10_compare_21 : decode cX10_compare 21 = .ok (.sipush (-1011), 3) := by decide +kernel
theorem dX10_compare_24 : decode cX10_compare 24 = .ok (.ireturn, 1) := by decide +kernel
theorem dX10_compare_25 : decode cX10_compare 25 = .ok (.aload_n 2, 1) := by decide +kernel
theorem dX10_compare_26 : decode cX10_compare 26 = .ok (.getfield 161, 3) := by decide +kernel
theorem dX10_compare_29 : decode cX10_compare 29 = .ok (.bipush 24, 2) := by decide +kernel
theorem dX10_compare_31 : decode cX10_compare 31 = .ok (.if_icmp .le 7, 3) := by decide +kernel
theorem dX10_compare_34 : decode cX10_compare 34 = .ok (.sipush (-1000), 3) := by decide +kernel
theorem dX10_compare_37 : decode cX10_compare 37 = .ok (.ireturn, 1) := by decide +kernel
theorem dX10_compare_38 : decode cX10_compare 38 = .ok (.aload_n 0, 1) := by decide +kernel
theorem dX10_compare_39 : decode cX10_compare 39 = .ok (.getfield 44, 3) := by decide +kernel
theorem dX10_compare_42 : decode cX10_compare 42 = .ok (.aload_n 2, 1) := by decide +kernel
theorem dX10_compare_43 : decode cX10_compare 43 = .ok (.invokevirtual 140, 3) := by decide +kernel
theorem dX10_compare_46 : decode cX10_compare 46 = .ok (.aload_n 2, 1) := by decide +kernel
theorem dX10_compare_47 : decode cX10_compare 47 = .ok (.getfield 161, 3) := by decide +kernel
theorem dX10_compare_50 : decode cX10_compare 50 = .ok (.invokevirtual 164, 3) := by decide +kernel
theorem dX10_compare_53 : decode cX10_compare 53 = .ok (.aload_n 0, 1) := by decide +kernel
theorem dX10_compare_54 : decode cX10_compare 54 = .ok (.getfield 51, 3) := by decide +kernel
theorem dX10_compare_57 : decode cX10_compare 57 = .ok (.aload_n 2, 1) := by decide +kernel
theorem dX10_compare_58 : decode cX10_compare 58 = .ok (.invokevirtual 140, 3) := by decide +kernel
theorem dX10_compare_61 : decode cX10_compare 61 = .ok (.aload_n 2, 1) := by decide +kernel
theorem dX10_compare_62 : decode cX10_compare 62 = .ok (.getfield 161, 3) := by decide +kernel
theorem dX10_compare_65 : decode cX10_compare 65 = .ok (.invokevirtual 202, 3) := by decide +kernel
theorem dX10_compare_68 : decode cX10_compare 68 = .ok (.aload_n 0, 1) := by decide +kernel
theorem dX10_compare_69 : decode cX10_compare 69 = .ok (.getfield 44, 3) := by decide +kernel
theorem dX10_compare_72 : decode cX10_compare 72 = .ok (.invokevirtual 174, 3) := by decide +kernel
theorem dX10_compare_75 : decode cX10_compare 75 = .ok (.invokestatic 177, 3) := by decide +kernel
theorem dX10_compare_78 : decode cX10_compare 78 = .ok (.aload_n 0, 1) := by decide +kernel
theorem dX10_compare_79 : decode cX10_compare 79 = .ok (.getfield 51, 3) := by decide +kernel
theorem dX10_compare_82 : decode cX10_compare 82 = .ok (.getfield 203, 3) := by decide +kernel
theorem dX10_compare_85 : decode cX10_compare 85 = .ok (.isub, 1) := by decide +kernel
theorem dX10_compare_86 : decode cX10_compare 86 = .ok (.ireturn, 1) := by decide +kernel
theorem dX10_windows_0 : decode cX10_windows 0 = .ok (.aload_n 0, 1) := by decide +kernel
theorem dX10_windows_1 : decode cX10_windows 1 = .ok (.iload_n 1, 1) := by decide +kernel
theorem dX10_windows_2 : decode cX10_windows 2 = .ok (.invokevirtual 118, 3) := by decide +kernel
theorem dX10_windows_5 : decode cX10_windows 5 = .ok (.astore 4, 2) := by decide +kernel
theorem dX10_windows_7 : decode cX10_windows 7 = .ok (.aload 4, 2) := by decide +kernel
theorem dX10_windows_9 : decode cX10_windows 9 = .ok (.ifnull 22, 3) := by decide +kernel
theorem dX10_windows_12 : decode cX10_windows 12 = .ok (.iload_n 2, 1) := by decide +kernel
theorem dX10_windows_13 : decode cX10_windows 13 = .ok (.iconst 1, 1) := by decide +kernel
theorem dX10_windows_14 : decode cX10_windows 14 = .ok (.bipush 8, 2) := by decide +kernel
theorem dX10_windows_16 : decode cX10_windows 16 = .ok (.invokestatic 60, 3) := by decide +kernel
theorem dX10_windows_19 : decode cX10_windows 19 = .ok (.ifCond .eq 12, 3) := by decide +kernel
theorem dX10_windows_22 : decode cX10_windows 22 = .ok (.iload_n 3, 1) := by decide +kernel
theorem dX10_windows_23 : decode cX10_windows 23 = .ok (.iconst 0, 1) := by decide +kernel
theorem dX10_windows_24 : decode cX10_windows 24 = .ok (.iconst 2, 1) := by decide +kernel
theorem dX10_windows_25 : decode cX10_windows 25 = .ok (.invokestatic 60, 3) := by decide +kernel
theorem dX10_windows_28 : decode cX10_windows 28 = .ok (.ifCond .ne 6, 3) := by decide +kernel
theorem dX10_windows_31 : decode cX10_windows 31 = .ok (.bipush (-2), 2) := by decide +kernel
theorem dX10_windows_33 : decode cX10_windows 33 = .ok (.ireturn, 1) := by decide +kernel
theorem dX10_windows_34 : decode cX10_windows 34 = .ok (.aload 4, 2) := by decide +kernel
theorem dX10_windows_36 : decode cX10_windows 36 = .ok (.invokevirtual 134, 3) := by decide +kernel
theorem dX10_windows_39 : decode cX10_windows 39 = .ok (.ifCond .eq 6, 3) := by decide +kernel
theorem dX10_windows_42 : decode cX10_windows 42 = .ok (.bipush (-11), 2) := by decide +kernel
theorem dX10_windows_44 : decode cX10_windows 44 = .ok (.ireturn, 1) := by decide +kernel
theorem dX10_windows_45 : decode cX10_windows 45 = .ok (.aload 4, 2) := by decide +kernel
theorem dX10_windows_47 : decode cX10_windows 47 = .ok (.invokevirtual 140, 3) := by decide +kernel
theorem dX10_windows_50 : decode cX10_windows 50 = .ok (.aload 4, 2) := by decide +kernel
theorem dX10_windows_52 : decode cX10_windows 52 = .ok (.getfield 161, 3) := by decide +kernel
theorem dX10_windows_55 : decode cX10_windows 55 = .ok (.iload_n 2, 1) := by decide +kernel
theorem dX10_windows_56 : decode cX10_windows 56 = .ok (.isub, 1) := by decide +kernel
theorem dX10_windows_57 : decode cX10_windows 57 = .ok (.iconst 1, 1) := by decide +kernel
theorem dX10_windows_58 : decode cX10_windows 58 = .ok (.iadd, 1) := by decide +kernel
theorem dX10_windows_59 : decode cX10_windows 59 = .ok (.iconst 1, 1) := by decide +kernel
theorem dX10_windows_60 : decode cX10_windows 60 = .ok (.iload_n 2, 1) := by decide +kernel
theorem dX10_windows_61 : decode cX10_windows 61 = .ok (.ishl, 1) := by decide +kernel
theorem dX10_windows_62 : decode cX10_windows 62 = .ok (.iconst 1, 1) := by decide +kernel
theorem dX10_windows_63 : decode cX10_windows 63 = .ok (.isub, 1) := by decide +kernel
theorem dX10_windows_64 : decode cX10_windows 64 = .ok (.iload_n 3, 1) := by decide +kernel
theorem dX10_windows_65 : decode cX10_windows 65 = .ok (.invokestatic 204, 3) := by decide +kernel
theorem dX10_windows_68 : decode cX10_windows 68 = .ok (.ireturn, 1) := by decide +kernel
theorem dX10_runs_0 : decode cX10_runs 0 = .ok (.aload_n 0, 1) := by decide +kernel
theorem dX10_runs_1 : decode cX10_runs 1 = .ok (.iload_n 1, 1) := by decide +kernel
theorem dX10_runs_2 : decode cX10_runs 2 = .ok (.invokevirtual 118, 3) := by decide +kernel
theorem dX10_runs_5 : decode cX10_runs 5 = .ok (.astore 4, 2) := by decide +kernel
theorem dX10_runs_7 : decode cX10_runs 7 = .ok (.aload 4, 2) := by decide +kernel
theorem dX10_runs_9 : decode cX10_runs 9 = .ok (.ifnull 12, 3) := by decide +kernel
theorem dX10_runs_12 : decode cX10_runs 12 = .ok (.iload_n 2, 1) := by decide +kernel
theorem dX10_runs_13 : decode cX10_runs 13 = .ok (.iconst (-1), 1) := by decide +kernel
theorem dX10_runs_14 : decode cX10_runs 14 = .ok (.iconst 1, 1) := by decide +kernel
theorem dX10_runs_15 : decode cX10_runs 15 = .ok (.invokestatic 60, 3) := by decide +kernel
theorem dX10_runs_18 : decode cX10_runs 18 = .ok (.ifCond .ne 6, 3) := by decide +kernel
theorem dX10_runs_21 : decode cX10_runs 21 = .ok (.bipush (-2), 2) := by decide +kernel
theorem dX10_runs_23 : decode cX10_runs 23 = .ok (.ireturn, 1) := by decide +kernel
theorem dX10_runs_24 : decode cX10_runs 24 = .ok (.aload 4, 2) := by decide +kernel
theorem dX10_runs_26 : decode cX10_runs 26 = .ok (.invokevirtual 134, 3) := by decide +kernel
theorem dX10_runs_29 : decode cX10_runs 29 = .ok (.ifCond .eq 6, 3) := by decide +kernel
theorem dX10_runs_32 : decode cX10_runs 32 = .ok (.bipush (-11), 2) := by decide +kernel
theorem dX10_runs_34 : decode cX10_runs 34 = .ok (.ireturn, 1) := by decide +kernel
theorem dX10_runs_35 : decode cX10_runs 35 = .ok (.iload_n 2, 1) := by decide +kernel
theorem dX10_runs_36 : decode cX10_runs 36 = .ok (.iconst (-1), 1) := by decide +kernel
theorem dX10_runs_37 : decode cX10_runs 37 = .ok (.if_icmp .ne 19, 3) := by decide +kernel
theorem dX10_runs_40 : decode cX10_runs 40 = .ok (.aload 4, 2) := by decide +kernel
theorem dX10_runs_42 : decode cX10_runs 42 = .ok (.invokevirtual 140, 3) := by decide +kernel
theorem dX10_runs_45 : decode cX10_runs 45 = .ok (.aload 4, 2) := by decide +kernel
theorem dX10_runs_47 : decode cX10_runs 47 = .ok (.getfield 161, 3) := by decide +kernel
theorem dX10_runs_50 : decode cX10_runs 50 = .ok (.invokestatic 208, 3) := by decide +kernel
theorem dX10_runs_53 : decode cX10_runs 53 = .ok (.goto 18, 3) := by decide +kernel
theorem dX10_runs_56 : decode cX10_runs 56 = .ok (.aload 4, 2) := by decide +kernel
theorem dX10_runs_58 : decode cX10_runs 58 = .ok (.invokevirtual 140, 3) := by decide +kernel
theorem dX10_runs_61 : decode cX10_runs 61 = .ok (.aload 4, 2) := by decide +kernel
theorem dX10_runs_63 : decode cX10_runs 63 = .ok (.getfield 161, 3) := by decide +kernel
theorem dX10_runs_66 : decode cX10_runs 66 = .ok (.iload_n 2, 1) := by decide +kernel
theorem dX10_runs_67 : decode cX10_runs 67 = .ok (.iload_n 3, 1) := by decide +kernel
theorem dX10_runs_68 : decode cX10_runs 68 = .ok (.invokestatic 212, 3) := by decide +kernel
theorem dX10_runs_71 : decode cX10_runs 71 = .ok (.ireturn, 1) := by decide +kernel
theorem dX10_replays_0 : decode cX10_replays 0 = .ok (.aload_n 0, 1) := by decide +kernel
theorem dX10_replays_1 : decode cX10_replays 1 = .ok (.iload_n 1, 1) := by decide +kernel
theorem dX10_replays_2 : decode cX10_replays 2 = .ok (.invokevirtual 76, 3) := by decide +kernel
theorem dX10_replays_5 : decode cX10_replays 5 = .ok (.astore 4, 2) := by decide +kernel
theorem dX10_replays_7 : decode cX10_replays 7 = .ok (.aload_n 0, 1) := by decide +kernel
theorem dX10_replays_8 : decode cX10_replays 8 = .ok (.iload_n 2, 1) := by decide +kernel
theorem dX10_replays_9 : decode cX10_replays 9 = .ok (.invokevirtual 118, 3) := by decide +kernel
theorem dX10_replays_12 : decode cX10_replays 12 = .ok (.astore 5, 2) := by decide +kernel
theorem dX10_replays_14 : decode cX10_replays 14 = .ok (.aload 4, 2) := by decide +kernel
theorem dX10_replays_16 : decode cX10_replays 16 = .ok (.ifnull 17, 3) := by decide +kernel
theorem dX10_replays_19 : decode cX10_replays 19 = .ok (.aload 5, 2) := by decide +kernel
theorem dX10_replays_21 : decode cX10_replays 21 = .ok (.ifnull 12, 3) := by decide +kernel
theorem dX10_replays_24 : decode cX10_replays 24 = .ok (.iload_n 3, 1) := by decide +kernel
theorem dX10_replays_25 : decode cX10_replays 25 = .ok (.iconst 0, 1) := by decide +kernel
theorem dX10_replays_26 : decode cX10_replays 26 = .ok (.iconst 2, 1) := by decide +kernel
theorem dX10_replays_27 : decode cX10_replays 27 = .ok (.invokestatic 60, 3) := by decide +kernel
theorem dX10_replays_30 : decode cX10_replays 30 = .ok (.ifCond .ne 6, 3) := by decide +kernel
theorem dX10_replays_33 : decode cX10_replays 33 = .ok (.bipush (-2), 2) := by decide +kernel
theorem dX10_replays_35 : decode cX10_replays 35 = .ok (.ireturn, 1) := by decide +kernel
theorem dX10_replays_36 : decode cX10_replays 36 = .ok (.aload 5, 2) := by decide +kernel
theorem dX10_replays_38 : decode cX10_replays 38 = .ok (.invokevirtual 134, 3) := by decide +kernel
theorem dX10_replays_41 : decode cX10_replays 41 = .ok (.ifCond .eq 6, 3) := by decide +kernel
theorem dX10_replays_44 : decode cX10_replays 44 = .ok (.bipush (-11), 2) := by decide +kernel
theorem dX10_replays_46 : decode cX10_replays 46 = .ok (.ireturn, 1) := by decide +kernel
theorem dX10_replays_47 : decode cX10_replays 47 = .ok (.iload_n 3, 1) := by decide +kernel
theorem dX10_replays_48 : decode cX10_replays 48 = .ok (.lookupswitch 60 #[(0, 28), (1, 44)], 28) := by decide +kernel
theorem dX10_replays_76 : decode cX10_replays 76 = .ok (.aload 4, 2) := by decide +kernel
theorem dX10_replays_78 : decode cX10_replays 78 = .ok (.aload 5, 2) := by decide +kernel
theorem dX10_replays_80 : decode cX10_replays 80 = .ok (.invokevirtual 140, 3) := by decide +kernel
theorem dX10_replays_83 : decode cX10_replays 83 = .ok (.aload 5, 2) := by decide +kernel
theorem dX10_replays_85 : decode cX10_replays 85 = .ok (.getfield 161, 3) := by decide +kernel
theorem dX10_replays_88 : decode cX10_replays 88 = .ok (.invokestatic 215, 3) := by decide +kernel
theorem dX10_replays_91 : decode cX10_replays 91 = .ok (.ireturn, 1) := by decide +kernel
theorem dX10_replays_92 : decode cX10_replays 92 = .ok (.aload 4, 2) := by decide +kernel
theorem dX10_replays_94 : decode cX10_replays 94 = .ok (.aload 5, 2) := by decide +kernel
theorem dX10_replays_96 : decode cX10_replays 96 = .ok (.invokevirtual 140, 3) := by decide +kernel
theorem dX10_replays_99 : decode cX10_replays 99 = .ok (.aload 5, 2) := by decide +kernel
theorem dX10_replays_101 : decode cX10_replays 101 = .ok (.getfield 161, 3) := by decide +kernel
theorem dX10_replays_104 : decode cX10_replays 104 = .ok (.invokestatic 219, 3) := by decide +kernel
theorem dX10_replays_107 : decode cX10_replays 107 = .ok (.ireturn, 1) := by decide +kernel
theorem dX10_replays_108 : decode cX10_replays 108 = .ok (.aload 4, 2) := by decide +kernel
theorem dX10_replays_110 : decode cX10_replays 110 = .ok (.aload 5, 2) := by decide +kernel
theorem dX10_replays_112 : decode cX10_replays 112 = .ok (.invokevirtual 140, 3) := by decide +kernel
theorem dX10_replays_115 : decode cX10_replays 115 = .ok (.aload 5, 2) := by decide +kernel
theorem dX10_replays_117 : decode cX10_replays 117 = .ok (.getfield 161, 3) := by decide +kernel
theorem dX10_replays_120 : decode cX10_replays 120 = .ok (.invokestatic 222, 3) := by decide +kernel
theorem dX10_replays_123 : decode cX10_replays 123 = .ok (.ireturn, 1) := by decide +kernel
theorem dX10_search_0 : decode cX10_search 0 = .ok (.aload_n 0, 1) := by decide +kernel
theorem dX10_search_1 : decode cX10_search 1 = .ok (.iload_n 1, 1) := by decide +kernel
theorem dX10_search_2 : decode cX10_search 2 = .ok (.invokevirtual 118, 3) := by decide +kernel
theorem dX10_search_5 : decode cX10_search 5 = .ok (.astore 4, 2) := by decide +kernel
theorem dX10_search_7 : decode cX10_search 7 = .ok (.aload 4, 2) := by decide +kernel
theorem dX10_search_9 : decode cX10_search 9 = .ok (.ifnull 22, 3) := by decide +kernel
theorem dX10_search_12 : decode cX10_search 12 = .ok (.iload_n 2, 1) := by decide +kernel
theorem dX10_search_13 : decode cX10_search 13 = .ok (.iconst 0, 1) := by decide +kernel
theorem dX10_search_14 : decode cX10_search 14 = .ok (.iconst 5, 1) := by decide +kernel
theorem dX10_search_15 : decode cX10_search 15 = .ok (.invokestatic 60, 3) := by decide +kernel
theorem dX10_search_18 : decode cX10_search 18 = .ok (.ifCond .eq 13, 3) := by decide +kernel
theorem dX10_search_21 : decode cX10_search 21 = .ok (.iload_n 3, 1) := by decide +kernel
theorem dX10_search_22 : decode cX10_search 22 = .ok (.iconst 1, 1) := by decide +kernel
theorem dX10_search_23 : decode cX10_search 23 = .ok (.bipush 6, 2) := by decide +kernel
theorem dX10_search_25 : decode cX10_search 25 = .ok (.invokestatic 60, 3) := by decide +kernel
theorem dX10_search_28 : decode cX10_search 28 = .ok (.ifCond .ne 6, 3) := by decide +kernel
theorem dX10_search_31 : decode cX10_search 31 = .ok (.bipush (-2), 2) := by decide +kernel
theorem dX10_search_33 : decode cX10_search 33 = .ok (.ireturn, 1) := by decide +kernel
theorem dX10_search_34 : decode cX10_search 34 = .ok (.aload 4, 2) := by decide +kernel
theorem dX10_search_36 : decode cX10_search 36 = .ok (.invokevirtual 134, 3) := by decide +kernel
theorem dX10_search_39 : decode cX10_search 39 = .ok (.ifCond .eq 6, 3) := by decide +kernel
theorem dX10_search_42 : decode cX10_search 42 = .ok (.bipush (-11), 2) := by decide +kernel
theorem dX10_search_44 : decode cX10_search 44 = .ok (.ireturn, 1) := by decide +kernel
theorem dX10_search_45 : decode cX10_search 45 = .ok (.aload 4, 2) := by decide +kernel
theorem dX10_search_47 : decode cX10_search 47 = .ok (.getfield 161, 3) := by decide +kernel
theorem dX10_search_50 : decode cX10_search 50 = .ok (.iload_n 3, 1) := by decide +kernel
theorem dX10_search_51 : decode cX10_search 51 = .ok (.if_icmp .ge 6, 3) := by decide +kernel
theorem dX10_search_54 : decode cX10_search 54 = .ok (.bipush (-3), 2) := by decide +kernel
theorem dX10_search_56 : decode cX10_search 56 = .ok (.ireturn, 1) := by decide +kernel
theorem dX10_search_57 : decode cX10_search 57 = .ok (.aload 4, 2) := by decide +kernel
theorem dX10_search_59 : decode cX10_search 59 = .ok (.invokevirtual 140, 3) := by decide +kernel
theorem dX10_search_62 : decode cX10_search 62 = .ok (.aload 4, 2) := by decide +kernel
theorem dX10_search_64 : decode cX10_search 64 = .ok (.getfield 161, 3) := by decide +kernel
theorem dX10_search_67 : decode cX10_search 67 = .ok (.iload_n 2, 1) := by decide +kernel
theorem dX10_search_68 : decode cX10_search 68 = .ok (.iload_n 3, 1) := by decide +kernel
theorem dX10_search_69 : decode cX10_search 69 = .ok (.invokestatic 225, 3) := by decide +kernel
theorem dX10_search_72 : decode cX10_search 72 = .ok (.ireturn, 1) := by decide +kernel
theorem dX10_alike_0 : decode cX10_alike 0 = .ok (.aload_n 0, 1) := by decide +kernel
theorem dX10_alike_1 : decode cX10_alike 1 = .ok (.iload_n 1, 1) := by decide +kernel
theorem dX10_alike_2 : decode cX10_alike 2 = .ok (.invokevirtual 76, 3) := by decide +kernel
theorem dX10_alike_5 : decode cX10_alike 5 = .ok (.astore_n 3, 1) := by decide +kernel
theorem dX10_alike_6 : decode cX10_alike 6 = .ok (.aload_n 3, 1) := by decide +kernel
theorem dX10_alike_7 : decode cX10_alike 7 = .ok (.ifnull 13, 3) := by decide +kernel
theorem dX10_alike_10 : decode cX10_alike 10 = .ok (.iload_n 2, 1) := by decide +kernel
theorem dX10_alike_11 : decode cX10_alike 11 = .ok (.iconst 0, 1) := by decide +kernel
theorem dX10_alike_12 : decode cX10_alike 12 = .ok (.bipush 40, 2) := by decide +kernel
theorem dX10_alike_14 : decode cX10_alike 14 = .ok (.invokestatic 60, 3) := by decide +kernel
theorem dX10_alike_17 : decode cX10_alike 17 = .ok (.ifCond .ne 6, 3) := by decide +kernel
theorem dX10_alike_20 : decode cX10_alike 20 = .ok (.bipush (-2), 2) := by decide +kernel
theorem dX10_alike_22 : decode cX10_alike 22 = .ok (.ireturn, 1) := by decide +kernel
theorem dX10_alike_23 : decode cX10_alike 23 = .ok (.aload_n 0, 1) := by decide +kernel
theorem dX10_alike_24 : decode cX10_alike 24 = .ok (.iload_n 2, 1) := by decide +kernel
theorem dX10_alike_25 : decode cX10_alike 25 = .ok (.invokevirtual 126, 3) := by decide +kernel
theorem dX10_alike_28 : decode cX10_alike 28 = .ok (.aload_n 3, 1) := by decide +kernel
theorem dX10_alike_29 : decode cX10_alike 29 = .ok (.invokestatic 114, 3) := by decide +kernel
theorem dX10_alike_32 : decode cX10_alike 32 = .ok (.iload_n 2, 1) := by decide +kernel
theorem dX10_alike_33 : decode cX10_alike 33 = .ok (.invokestatic 110, 3) := by decide +kernel
theorem dX10_alike_36 : decode cX10_alike 36 = .ok (.lstore 4, 2) := by decide +kernel
theorem dX10_alike_38 : decode cX10_alike 38 = .ok (.iconst 0, 1) := by decide +kernel
theorem dX10_alike_39 : decode cX10_alike 39 = .ok (.istore 6, 2) := by decide +kernel
theorem dX10_alike_41 : decode cX10_alike 41 = .ok (.iconst 0, 1) := by decide +kernel
theorem dX10_alike_42 : decode cX10_alike 42 = .ok (.istore 7, 2) := by decide +kernel
theorem dX10_alike_44 : decode cX10_alike 44 = .ok (.iload 7, 2) := by decide +kernel
theorem dX10_alike_46 : decode cX10_alike 46 = .ok (.aload_n 0, 1) := by decide +kernel
theorem dX10_alike_47 : decode cX10_alike 47 = .ok (.getfield 17, 3) := by decide +kernel
theorem dX10_alike_50 : decode cX10_alike 50 = .ok (.if_icmp .ge 41, 3) := by decide +kernel
theorem dX10_alike_53 : decode cX10_alike 53 = .ok (.iload 7, 2) := by decide +kernel
theorem dX10_alike_55 : decode cX10_alike 55 = .ok (.aload_n 0, 1) := by decide +kernel
theorem dX10_alike_56 : decode cX10_alike 56 = .ok (.getfield 55, 3) := by decide +kernel
theorem dX10_alike_59 : decode cX10_alike 59 = .ok (.arraylength, 1) := by decide +kernel
theorem dX10_alike_60 : decode cX10_alike 60 = .ok (.if_icmp .ge 31, 3) := by decide +kernel
theorem dX10_alike_63 : decode cX10_alike 63 = .ok (.aload_n 0, 1) := by decide +kernel
theorem dX10_alike_64 : decode cX10_alike 64 = .ok (.getfield 55, 3) := by decide +kernel
theorem dX10_alike_67 : decode cX10_alike 67 = .ok (.iload 7, 2) := by decide +kernel
theorem dX10_alike_69 : decode cX10_alike 69 = .ok (.laload, 1) := by decide +kernel
theorem dX10_alike_70 : decode cX10_alike 70 = .ok (.lload 4, 2) := by decide +kernel
theorem dX10_alike_72 : decode cX10_alike 72 = .ok (.lcmp, 1) := by decide +kernel
theorem dX10_alike_73 : decode cX10_alike 73 = .ok (.ifCond .ne 12, 3) := by decide +kernel
theorem dX10_alike_76 : decode cX10_alike 76 = .ok (.iload 6, 2) := by decide +kernel
theorem dX10_alike_78 : decode cX10_alike 78 = .ok (.iconst 1, 1) := by decide +kernel
theorem dX10_alike_79 : decode cX10_alike 79 = .ok (.iload 7, 2) := by decide +kernel
theorem dX10_alike_81 : decode cX10_alike 81 = .ok (.ishl, 1) := by decide +kernel
theorem dX10_alike_82 : decode cX10_alike 82 = .ok (.ior, 1) := by decide +kernel
theorem dX10_alike_83 : decode cX10_alike 83 = .ok (.istore 6, 2) := by decide +kernel
theorem dX10_alike_85 : decode cX10_alike 85 = .ok (.iinc 7 1, 3) := by decide +kernel
theorem dX10_alike_88 : decode cX10_alike 88 = .ok (.goto (-44), 3) := by decide +kernel
theorem dX10_alike_91 : decode cX10_alike 91 = .ok (.iload 6, 2) := by decide +kernel
theorem dX10_alike_93 : decode cX10_alike 93 = .ok (.ireturn, 1) := by decide +kernel
theorem dX10_drawn_0 : decode cX10_drawn 0 = .ok (.aload_n 0, 1) := by decide +kernel
theorem dX10_drawn_1 : decode cX10_drawn 1 = .ok (.iload_n 1, 1) := by decide +kernel
theorem dX10_drawn_2 : decode cX10_drawn 2 = .ok (.invokevirtual 118, 3) := by decide +kernel
theorem dX10_drawn_5 : decode cX10_drawn 5 = .ok (.astore 4, 2) := by decide +kernel
theorem dX10_drawn_7 : decode cX10_drawn 7 = .ok (.aload 4, 2) := by decide +kernel
theorem dX10_drawn_9 : decode cX10_drawn 9 = .ok (.ifnull 13, 3) := by decide +kernel
theorem dX10_drawn_12 : decode cX10_drawn 12 = .ok (.iload_n 3, 1) := by decide +kernel
theorem dX10_drawn_13 : decode cX10_drawn 13 = .ok (.iconst 0, 1) := by decide +kernel
theorem dX10_drawn_14 : decode cX10_drawn 14 = .ok (.bipush 8, 2) := by decide +kernel
theorem dX10_drawn_16 : decode cX10_drawn 16 = .ok (.invokestatic 60, 3) := by decide +kernel
theorem dX10_drawn_19 : decode cX10_drawn 19 = .ok (.ifCond .ne 6, 3) := by decide +kernel
theorem dX10_drawn_22 : decode cX10_drawn 22 = .ok (.bipush (-2), 2) := by decide +kernel
theorem dX10_drawn_24 : decode cX10_drawn 24 = .ok (.ireturn, 1) := by decide +kernel
theorem dX10_drawn_25 : decode cX10_drawn 25 = .ok (.aload 4, 2) := by decide +kernel
theorem dX10_drawn_27 : decode cX10_drawn 27 = .ok (.invokevirtual 134, 3) := by decide +kernel
theorem dX10_drawn_30 : decode cX10_drawn 30 = .ok (.ifCond .eq 6, 3) := by decide +kernel
theorem dX10_drawn_33 : decode cX10_drawn 33 = .ok (.bipush (-11), 2) := by decide +kernel
theorem dX10_drawn_35 : decode cX10_drawn 35 = .ok (.ireturn, 1) := by decide +kernel
theorem dX10_drawn_36 : decode cX10_drawn 36 = .ok (.aload 4, 2) := by decide +kernel
theorem dX10_drawn_38 : decode cX10_drawn 38 = .ok (.getfield 161, 3) := by decide +kernel
theorem dX10_drawn_41 : decode cX10_drawn 41 = .ok (.iconst 1, 1) := by decide +kernel
theorem dX10_drawn_42 : decode cX10_drawn 42 = .ok (.if_icmp .ge 6, 3) := by decide +kernel
theorem dX10_drawn_45 : decode cX10_drawn 45 = .ok (.bipush (-3), 2) := by decide +kernel
theorem dX10_drawn_47 : decode cX10_drawn 47 = .ok (.ireturn, 1) := by decide +kernel
theorem dX10_drawn_48 : decode cX10_drawn 48 = .ok (.aload_n 0, 1) := by decide +kernel
theorem dX10_drawn_49 : decode cX10_drawn 49 = .ok (.getfield 51, 3) := by decide +kernel
theorem dX10_drawn_52 : decode cX10_drawn 52 = .ok (.aload 4, 2) := by decide +kernel
theorem dX10_drawn_54 : decode cX10_drawn 54 = .ok (.invokevirtual 140, 3) := by decide +kernel
theorem dX10_drawn_57 : decode cX10_drawn 57 = .ok (.aload 4, 2) := by decide +kernel
theorem dX10_drawn_59 : decode cX10_drawn 59 = .ok (.getfield 161, 3) := by decide +kernel
theorem dX10_drawn_62 : decode cX10_drawn 62 = .ok (.iload_n 2, 1) := by decide +kernel
theorem dX10_drawn_63 : decode cX10_drawn 63 = .ok (.iload_n 3, 1) := by decide +kernel
theorem dX10_drawn_64 : decode cX10_drawn 64 = .ok (.invokestatic 228, 3) := by decide +kernel
theorem dX10_drawn_67 : decode cX10_drawn 67 = .ok (.aload 4, 2) := by decide +kernel
theorem dX10_drawn_69 : decode cX10_drawn 69 = .ok (.getfield 161, 3) := by decide +kernel
theorem dX10_drawn_72 : decode cX10_drawn 72 = .ok (.invokevirtual 202, 3) := by decide +kernel
theorem dX10_drawn_75 : decode cX10_drawn 75 = .ok (.aload_n 0, 1) := by decide +kernel
theorem dX10_drawn_76 : decode cX10_drawn 76 = .ok (.getfield 51, 3) := by decide +kernel
theorem dX10_drawn_79 : decode cX10_drawn 79 = .ok (.getfield 203, 3) := by decide +kernel
theorem dX10_drawn_82 : decode cX10_drawn 82 = .ok (.ireturn, 1) := by decide +kernel
theorem dX10_chance_0 : decode cX10_chance 0 = .ok (.aload_n 0, 1) := by decide +kernel
theorem dX10_chance_1 : decode cX10_chance 1 = .ok (.iload_n 1, 1) := by decide +kernel
theorem dX10_chance_2 : decode cX10_chance 2 = .ok (.invokevirtual 118, 3) := by decide +kernel
theorem dX10_chance_5 : decode cX10_chance 5 = .ok (.astore 7, 2) := by decide +kernel
theorem dX10_chance_7 : decode cX10_chance 7 = .ok (.aload 7, 2) := by decide +kernel
theorem dX10_chance_9 : decode cX10_chance 9 = .ok (.ifnull 45, 3) := by decide +kernel
theorem dX10_chance_12 : decode cX10_chance 12 = .ok (.iload_n 3, 1) := by decide +kernel
theorem dX10_chance_13 : decode cX10_chance 13 = .ok (.iconst 1, 1) := by decide +kernel
theorem dX10_chance_14 : decode cX10_chance 14 = .ok (.bipush 20, 2) := by decide +kernel
theorem dX10_chance_16 : decode cX10_chance 16 = .ok (.invokestatic 60, 3) := by decide +kernel
theorem dX10_chance_19 : decode cX10_chance 19 = .ok (.ifCond .eq 35, 3) := by decide +kernel
theorem dX10_chance_22 : decode cX10_chance 22 = .ok (.iload 4, 2) := by decide +kernel
theorem dX10_chance_24 : decode cX10_chance 24 = .ok (.iconst 0, 1) := by decide +kernel
theorem dX10_chance_25 : decode cX10_chance 25 = .ok (.bipush 8, 2) := by decide +kernel
theorem dX10_chance_27 : decode cX10_chance 27 = .ok (.invokestatic 60, 3) := by decide +kernel
theorem dX10_chance_30 : decode cX10_chance 30 = .ok (.ifCond .eq 24, 3) := by decide +kernel
theorem dX10_chance_33 : decode cX10_chance 33 = .ok (.iload 5, 2) := by decide +kernel
theorem dX10_chance_35 : decode cX10_chance 35 = .ok (.iconst 0, 1) := by decide +kernel
theorem dX10_chance_36 : decode cX10_chance 36 = .ok (.bipush 40, 2) := by decide +kernel
theorem dX10_chance_38 : decode cX10_chance 38 = .ok (.invokestatic 60, 3) := by decide +kernel
theorem dX10_chance_41 : decode cX10_chance 41 = .ok (.ifCond .eq 13, 3) := by decide +kernel
theorem dX10_chance_44 : decode cX10_chance 44 = .ok (.iload 6, 2) := by decide +kernel
theorem dX10_chance_46 : decode cX10_chance 46 = .ok (.iconst 0, 1) := by decide +kernel
theorem dX10_chance_47 : decode cX10_chance 47 = .ok (.iconst 1, 1) := by decide +kernel
theorem dX10_chance_48 : decode cX10_chance 48 = .ok (.invokestatic 60, 3) := by decide +kernel
theorem dX10_chance_51 : decode cX10_chance 51 = .ok (.ifCond .ne 6, 3) := by decide +kernel
theorem dX10_chance_54 : decode cX10_chance 54 = .ok (.bipush (-2), 2) := by decide +kernel
theorem dX10_chance_56 : decode cX10_chance 56 = .ok (.ireturn, 1) := by decide +kernel
theorem dX10_chance_57 : decode cX10_chance 57 = .ok (.aload 7, 2) := by decide +kernel
theorem dX10_chance_59 : decode cX10_chance 59 = .ok (.invokevirtual 134, 3) := by decide +kernel
theorem dX10_chance_62 : decode cX10_chance 62 = .ok (.ifCond .eq 6, 3) := by decide +kernel
theorem dX10_chance_65 : decode cX10_chance 65 = .ok (.bipush (-11), 2) := by decide +kernel
theorem dX10_chance_67 : decode cX10_chance 67 = .ok (.ireturn, 1) := by decide +kernel
theorem dX10_chance_68 : decode cX10_chance 68 = .ok (.aload 7, 2) := by decide +kernel
theorem dX10_chance_70 : decode cX10_chance 70 = .ok (.getfield 161, 3) := by decide +kernel
theorem dX10_chance_73 : decode cX10_chance 73 = .ok (.iconst 1, 1) := by decide +kernel
theorem dX10_chance_74 : decode cX10_chance 74 = .ok (.if_icmp .ge 6, 3) := by decide +kernel
theorem dX10_chance_77 : decode cX10_chance 77 = .ok (.bipush (-3), 2) := by decide +kernel
theorem dX10_chance_79 : decode cX10_chance 79 = .ok (.ireturn, 1) := by decide +kernel
theorem dX10_chance_80 : decode cX10_chance 80 = .ok (.iconst 0, 1) := by decide +kernel
theorem dX10_chance_81 : decode cX10_chance 81 = .ok (.istore 8, 2) := by decide +kernel
theorem dX10_chance_83 : decode cX10_chance 83 = .ok (.iconst 0, 1) := by decide +kernel
theorem dX10_chance_84 : decode cX10_chance 84 = .ok (.istore 9, 2) := by decide +kernel
theorem dX10_chance_86 : decode cX10_chance 86 = .ok (.iload 9, 2) := by decide +kernel
theorem dX10_chance_88 : decode cX10_chance 88 = .ok (.iload_n 3, 1) := by decide +kernel
theorem dX10_chance_89 : decode cX10_chance 89 = .ok (.if_icmp .ge 55, 3) := by decide +kernel
theorem dX10_chance_92 : decode cX10_chance 92 = .ok (.aload_n 0, 1) := by decide +kernel
theorem dX10_chance_93 : decode cX10_chance 93 = .ok (.getfield 51, 3) := by decide +kernel
theorem dX10_chance_96 : decode cX10_chance 96 = .ok (.aload 7, 2) := by decide +kernel
theorem dX10_chance_98 : decode cX10_chance 98 = .ok (.invokevirtual 140, 3) := by decide +kernel
theorem dX10_chance_101 : decode cX10_chance 101 = .ok (.aload 7, 2) := by decide +kernel
theorem dX10_chance_103 : decode cX10_chance 103 = .ok (.getfield 161, 3) := by decide +kernel
theorem dX10_chance_106 : decode cX10_chance 106 = .ok (.iload_n 2, 1) := by decide +kernel
theorem dX10_chance_107 : decode cX10_chance 107 = .ok (.iload 9, 2) := by decide +kernel
theorem dX10_chance_109 : decode cX10_chance 109 = .ok (.iadd, 1) := by decide +kernel
theorem dX10_chance_110 : decode cX10_chance 110 = .ok (.iload 4, 2) := by decide +kernel
theorem dX10_chance_112 : decode cX10_chance 112 = .ok (.invokestatic 228, 3) := by decide +kernel
theorem dX10_chance_115 : decode cX10_chance 115 = .ok (.aload 7, 2) := by decide +kernel
theorem dX10_chance_117 : decode cX10_chance 117 = .ok (.getfield 161, 3) := by decide +kernel
theorem dX10_chance_120 : decode cX10_chance 120 = .ok (.invokevirtual 202, 3) := by decide +kernel
theorem dX10_chance_123 : decode cX10_chance 123 = .ok (.aload_n 0, 1) := by decide +kernel
theorem dX10_chance_124 : decode cX10_chance 124 = .ok (.getfield 51, 3) := by decide +kernel
theorem dX10_chance_127 : decode cX10_chance 127 = .ok (.getfield 203, 3) := by decide +kernel
theorem dX10_chance_130 : decode cX10_chance 130 = .ok (.iload 5, 2) := by decide +kernel
theorem dX10_chance_132 : decode cX10_chance 132 = .ok (.if_icmp .gt 6, 3) := by decide +kernel
theorem dX10_chance_135 : decode cX10_chance 135 = .ok (.iinc 8 1, 3) := by decide +kernel
theorem dX10_chance_138 : decode cX10_chance 138 = .ok (.iinc 9 1, 3) := by decide +kernel
theorem dX10_chance_141 : decode cX10_chance 141 = .ok (.goto (-55), 3) := by decide +kernel
theorem dX10_chance_144 : decode cX10_chance 144 = .ok (.iload 8, 2) := by decide +kernel
theorem dX10_chance_146 : decode cX10_chance 146 = .ok (.i2l, 1) := by decide +kernel
theorem dX10_chance_147 : decode cX10_chance 147 = .ok (.iload_n 3, 1) := by decide +kernel
theorem dX10_chance_148 : decode cX10_chance 148 = .ok (.i2l, 1) := by decide +kernel
theorem dX10_chance_149 : decode cX10_chance 149 = .ok (.iload 6, 2) := by decide +kernel
theorem dX10_chance_151 : decode cX10_chance 151 = .ok (.invokestatic 185, 3) := by decide +kernel
theorem dX10_chance_154 : decode cX10_chance 154 = .ok (.l2i, 1) := by decide +kernel
theorem dX10_chance_155 : decode cX10_chance 155 = .ok (.ireturn, 1) := by decide +kernel
theorem dX10_feed_0 : decode cX10_feed 0 = .ok (.iload_n 1, 1) := by decide +kernel
theorem dX10_feed_1 : decode cX10_feed 1 = .ok (.iconst 1, 1) := by decide +kernel
theorem dX10_feed_2 : decode cX10_feed 2 = .ok (.iconst 5, 1) := by decide +kernel
theorem dX10_feed_3 : decode cX10_feed 3 = .ok (.invokestatic 60, 3) := by decide +kernel
theorem dX10_feed_6 : decode cX10_feed 6 = .ok (.ifCond .eq 41, 3) := by decide +kernel
theorem dX10_feed_9 : decode cX10_feed 9 = .ok (.iload_n 2, 1) := by decide +kernel
theorem dX10_feed_10 : decode cX10_feed 10 = .ok (.invokestatic 232, 3) := by decide +kernel
theorem dX10_feed_13 : decode cX10_feed 13 = .ok (.ifCond .eq 34, 3) := by decide +kernel
theorem dX10_feed_16 : decode cX10_feed 16 = .ok (.iload_n 3, 1) := by decide +kernel
theorem dX10_feed_17 : decode cX10_feed 17 = .ok (.invokestatic 232, 3) := by decide +kernel
theorem dX10_feed_20 : decode cX10_feed 20 = .ok (.ifCond .eq 27, 3) := by decide +kernel
theorem dX10_feed_23 : decode cX10_feed 23 = .ok (.iload 4, 2) := by decide +kernel
theorem dX10_feed_25 : decode cX10_feed 25 = .ok (.invokestatic 232, 3) := by decide +kernel
theorem dX10_feed_28 : decode cX10_feed 28 = .ok (.ifCond .eq 19, 3) := by decide +kernel
theorem dX10_feed_31 : decode cX10_feed 31 = .ok (.iload 5, 2) := by decide +kernel
theorem dX10_feed_33 : decode cX10_feed 33 = .ok (.invokestatic 232, 3) := by decide +kernel
theorem dX10_feed_36 : decode cX10_feed 36 = .ok (.ifCond .eq 11, 3) := by decide +kernel
theorem dX10_feed_39 : decode cX10_feed 39 = .ok (.iload 6, 2) := by decide +kernel
theorem dX10_feed_41 : decode cX10_feed 41 = .ok (.invokestatic 232, 3) := by decide +kernel
theorem dX10_feed_44 : decode cX10_feed 44 = .ok (.ifCond .ne 6, 3) := by decide +kernel
theorem dX10_feed_47 : decode cX10_feed 47 = .ok (.bipush (-2), 2) := by decide +kernel
theorem dX10_feed_49 : decode cX10_feed 49 = .ok (.ireturn, 1) := by decide +kernel
theorem dX10_feed_50 : decode cX10_feed 50 = .ok (.aload_n 0, 1) := by decide +kernel
theorem dX10_feed_51 : decode cX10_feed 51 = .ok (.getfield 37, 3) := by decide +kernel
theorem dX10_feed_54 : decode cX10_feed 54 = .ok (.iload_n 1, 1) := by decide +kernel
theorem dX10_feed_55 : decode cX10_feed 55 = .ok (.invokevirtual 236, 3) := by decide +kernel
theorem dX10_feed_58 : decode cX10_feed 58 = .ok (.ifCond .ne 6, 3) := by decide +kernel
theorem dX10_feed_61 : decode cX10_feed 61 = .ok (.bipush (-4), 2) := by decide +kernel
theorem dX10_feed_63 : decode cX10_feed 63 = .ok (.ireturn, 1) := by decide +kernel
theorem dX10_feed_64 : decode cX10_feed 64 = .ok (.aload_n 0, 1) := by decide +kernel
theorem dX10_feed_65 : decode cX10_feed 65 = .ok (.getfield 37, 3) := by decide +kernel
theorem dX10_feed_68 : decode cX10_feed 68 = .ok (.iload_n 2, 1) := by decide +kernel
theorem dX10_feed_69 : decode cX10_feed 69 = .ok (.invokevirtual 239, 3) := by decide +kernel
theorem dX10_feed_72 : decode cX10_feed 72 = .ok (.iload_n 1, 1) := by decide +kernel
theorem dX10_feed_73 : decode cX10_feed 73 = .ok (.iconst 1, 1) := by decide +kernel
theorem dX10_feed_74 : decode cX10_feed 74 = .ok (.if_icmp .le 11, 3) := by decide +kernel
theorem dX10_feed_77 : decode cX10_feed 77 = .ok (.aload_n 0, 1) := by decide +kernel
theorem dX10_feed_78 : decode cX10_feed 78 = .ok (.getfield 37, 3) := by decide +kernel
theorem dX10_feed_81 : decode cX10_feed 81 = .ok (.iload_n 3, 1) := by decide +kernel
theorem dX10_feed_82 : decode cX10_feed 82 = .ok (.invokevirtual 239, 3) := by decide +kernel
theorem dX10_feed_85 : decode cX10_feed 85 = .ok (.iload_n 1, 1) := by decide +kernel
theorem dX10_feed_86 : decode cX10_feed 86 = .ok (.iconst 2, 1) := by decide +kernel
theorem dX10_feed_87 : decode cX10_feed 87 = .ok (.if_icmp .le 12, 3) := by decide +kernel
theorem dX10_feed_90 : decode cX10_feed 90 = .ok (.aload_n 0, 1) := by decide +kernel
theorem dX10_feed_91 : decode cX10_feed 91 = .ok (.getfield 37, 3) := by decide +kernel
theorem dX10_feed_94 : decode cX10_feed 94 = .ok (.iload 4, 2) := by decide +kernel
theorem dX10_feed_96 : decode cX10_feed 96 = .ok (.invokevirtual 239, 3) := by decide +kernel
theorem dX10_feed_99 : decode cX10_feed 99 = .ok (.iload_n 1, 1) := by decide +kernel
theorem dX10_feed_100 : decode cX10_feed 100 = .ok (.iconst 3, 1) := by decide +kernel
theorem dX10_feed_101 : decode cX10_feed 101 = .ok (.if_icmp .le 12, 3) := by decide +kernel
theorem dX10_feed_104 : decode cX10_feed 104 = .ok (.aload_n 0, 1) := by decide +kernel
theorem dX10_feed_105 : decode cX10_feed 105 = .ok (.getfield 37, 3) := by decide +kernel
theorem dX10_feed_108 : decode cX10_feed 108 = .ok (.iload 5, 2) := by decide +kernel
theorem dX10_feed_110 : decode cX10_feed 110 = .ok (.invokevirtual 239, 3) := by decide +kernel
theorem dX10_feed_113 : decode cX10_feed 113 = .ok (.iload_n 1, 1) := by decide +kernel
theorem dX10_feed_114 : decode cX10_feed 114 = .ok (.iconst 4, 1) := by decide +kernel
theorem dX10_feed_115 : decode cX10_feed 115 = .ok (.if_icmp .le 12, 3) := by decide +kernel
theorem dX10_feed_118 : decode cX10_feed 118 = .ok (.aload_n 0, 1) := by decide +kernel
theorem dX10_feed_119 : decode cX10_feed 119 = .ok (.getfield 37, 3) := by decide +kernel
theorem dX10_feed_122 : decode cX10_feed 122 = .ok (.iload 6, 2) := by decide +kernel
theorem dX10_feed_124 : decode cX10_feed 124 = .ok (.invokevirtual 239, 3) := by decide +kernel
theorem dX10_feed_127 : decode cX10_feed 127 = .ok (.aload_n 0, 1) := by decide +kernel
theorem dX10_feed_128 : decode cX10_feed 128 = .ok (.getfield 37, 3) := by decide +kernel
theorem dX10_feed_131 : decode cX10_feed 131 = .ok (.getfield 242, 3) := by decide +kernel
theorem dX10_feed_134 : decode cX10_feed 134 = .ok (.ireturn, 1) := by decide +kernel
theorem dX10_text_0 : decode cX10_text 0 = .ok (.aload_n 0, 1) := by decide +kernel
theorem dX10_text_1 : decode cX10_text 1 = .ok (.getfield 37, 3) := by decide +kernel
theorem dX10_text_4 : decode cX10_text 4 = .ok (.invokevirtual 243, 3) := by decide +kernel
theorem dX10_text_7 : decode cX10_text 7 = .ok (.istore_n 1, 1) := by decide +kernel
theorem dX10_text_8 : decode cX10_text 8 = .ok (.aload_n 0, 1) := by decide +kernel
theorem dX10_text_9 : decode cX10_text 9 = .ok (.getfield 37, 3) := by decide +kernel
theorem dX10_text_12 : decode cX10_text 12 = .ok (.iconst 0, 1) := by decide +kernel
theorem dX10_text_13 : decode cX10_text 13 = .ok (.putfield 242, 3) := by decide +kernel
theorem dX10_text_16 : decode cX10_text 16 = .ok (.iload_n 1, 1) := by decide +kernel
theorem dX10_text_17 : decode cX10_text 17 = .ok (.iconst (-1), 1) := by decide +kernel
theorem dX10_text_18 : decode cX10_text 18 = .ok (.if_icmp .eq 8, 3) := by decide +kernel
theorem dX10_text_21 : decode cX10_text 21 = .ok (.bipush (-100), 2) := by decide +kernel
theorem dX10_text_23 : decode cX10_text 23 = .ok (.iload_n 1, 1) := by decide +kernel
theorem dX10_text_24 : decode cX10_text 24 = .ok (.isub, 1) := by decide +kernel
theorem dX10_text_25 : decode cX10_text 25 = .ok (.ireturn, 1) := by decide +kernel
theorem dX10_text_26 : decode cX10_text 26 = .ok (.iconst 0, 1) := by decide +kernel
theorem dX10_text_27 : decode cX10_text 27 = .ok (.istore_n 2, 1) := by decide +kernel
theorem dX10_text_28 : decode cX10_text 28 = .ok (.iconst 0, 1) := by decide +kernel
theorem dX10_text_29 : decode cX10_text 29 = .ok (.istore_n 3, 1) := by decide +kernel
theorem dX10_text_30 : decode cX10_text 30 = .ok (.iload_n 3, 1) := by decide +kernel
theorem dX10_text_31 : decode cX10_text 31 = .ok (.aload_n 0, 1) := by decide +kernel
theorem dX10_text_32 : decode cX10_text 32 = .ok (.getfield 37, 3) := by decide +kernel
theorem dX10_text_35 : decode cX10_text 35 = .ok (.getfield 246, 3) := by decide +kernel
theorem dX10_text_38 : decode cX10_text 38 = .ok (.if_icmp .ge 28, 3) := by decide +kernel
theorem dX10_text_41 : decode cX10_text 41 = .ok (.aload_n 0, 1) := by decide +kernel
theorem dX10_text_42 : decode cX10_text 42 = .ok (.aload_n 0, 1) := by decide +kernel
theorem dX10_text_43 : decode cX10_text 43 = .ok (.getfield 37, 3) := by decide +kernel
theorem dX10_text_46 : decode cX10_text 46 = .ok (.iload_n 3, 1) := by decide +kernel
theorem dX10_text_47 : decode cX10_text 47 = .ok (.invokevirtual 249, 3) := by decide +kernel
theorem dX10_text_50 : decode cX10_text 50 = .ok (.iload_n 3, 1) := by decide +kernel
theorem dX10_text_51 : decode cX10_text 51 = .ok (.invokevirtual 252, 3) := by decide +kernel
theorem dX10_text_54 : decode cX10_text 54 = .ok (.ifCond .eq 6, 3) := by decide +kernel
theorem dX10_text_57 : decode cX10_text 57 = .ok (.iinc 2 1, 3) := by decide +kernel
theorem dX10_text_60 : decode cX10_text 60 = .ok (.iinc 3 1, 3) := by decide +kernel
theorem dX10_text_63 : decode cX10_text 63 = .ok (.goto (-33), 3) := by decide +kernel
theorem dX10_text_66 : decode cX10_text 66 = .ok (.iload_n 2, 1) := by decide +kernel
theorem dX10_text_67 : decode cX10_text 67 = .ok (.ireturn, 1) := by decide +kernel
theorem dX10_image_0 : decode cX10_image 0 = .ok (.iconst 0, 1) := by decide +kernel
theorem dX10_image_1 : decode cX10_image 1 = .ok (.istore_n 1, 1) := by decide +kernel
theorem dX10_image_2 : decode cX10_image 2 = .ok (.iload_n 1, 1) := by decide +kernel
theorem dX10_image_3 : decode cX10_image 3 = .ok (.aload_n 0, 1) := by decide +kernel
theorem dX10_image_4 : decode cX10_image 4 = .ok (.getfield 17, 3) := by decide +kernel
theorem dX10_image_7 : decode cX10_image 7 = .ok (.if_icmp .ge 21, 3) := by decide +kernel
theorem dX10_image_10 : decode cX10_image 10 = .ok (.aload_n 0, 1) := by decide +kernel
theorem dX10_image_11 : decode cX10_image 11 = .ok (.aload_n 0, 1) := by decide +kernel
theorem dX10_image_12 : decode cX10_image 12 = .ok (.iload_n 1, 1) := by decide +kernel
theorem dX10_image_13 : decode cX10_image 13 = .ok (.invokevirtual 76, 3) := by decide +kernel
theorem dX10_image_16 : decode cX10_image 16 = .ok (.iload_n 1, 1) := by decide +kernel
theorem dX10_image_17 : decode cX10_image 17 = .ok (.iconst 5, 1) := by decide +kernel
theorem dX10_image_18 : decode cX10_image 18 = .ok (.imul, 1) := by decide +kernel
theorem dX10_image_19 : decode cX10_image 19 = .ok (.invokevirtual 255, 3) := by decide +kernel
theorem dX10_image_22 : decode cX10_image 22 = .ok (.iinc 1 1, 3) := by decide +kernel
theorem dX10_image_25 : decode cX10_image 25 = .ok (.goto (-23), 3) := by decide +kernel
theorem dX10_image_28 : decode cX10_image 28 = .ok (.aload_n 0, 1) := by decide +kernel
theorem dX10_image_29 : decode cX10_image 29 = .ok (.aload_n 0, 1) := by decide +kernel
theorem dX10_image_30 : decode cX10_image 30 = .ok (.getfield 17, 3) := by decide +kernel
theorem dX10_image_33 : decode cX10_image 33 = .ok (.putfield 25, 3) := by decide +kernel
theorem dX10_image_36 : decode cX10_image 36 = .ok (.aload_n 0, 1) := by decide +kernel
theorem dX10_image_37 : decode cX10_image 37 = .ok (.getfield 17, 3) := by decide +kernel
theorem dX10_image_40 : decode cX10_image 40 = .ok (.ireturn, 1) := by decide +kernel
theorem dX10_back_0 : decode cX10_back 0 = .ok (.aload_n 0, 1) := by decide +kernel
theorem dX10_back_1 : decode cX10_back 1 = .ok (.getfield 25, 3) := by decide +kernel
theorem dX10_back_4 : decode cX10_back 4 = .ok (.iconst (-1), 1) := by decide +kernel
theorem dX10_back_5 : decode cX10_back 5 = .ok (.if_icmp .ne 6, 3) := by decide +kernel
theorem dX10_back_8 : decode cX10_back 8 = .ok (.bipush (-3), 2) := by decide +kernel
theorem dX10_back_10 : decode cX10_back 10 = .ok (.ireturn, 1) := by decide +kernel
theorem dX10_back_11 : decode cX10_back 11 = .ok (.iconst 0, 1) := by decide +kernel
theorem dX10_back_12 : decode cX10_back 12 = .ok (.istore_n 1, 1) := by decide +kernel
theorem dX10_back_13 : decode cX10_back 13 = .ok (.iload_n 1, 1) := by decide +kernel
theorem dX10_back_14 : decode cX10_back 14 = .ok (.aload_n 0, 1) := by decide +kernel
theorem dX10_back_15 : decode cX10_back 15 = .ok (.getfield 13, 3) := by decide +kernel
theorem dX10_back_18 : decode cX10_back 18 = .ok (.arraylength, 1) := by decide +kernel
theorem dX10_back_19 : decode cX10_back 19 = .ok (.if_icmp .ge 34, 3) := by decide +kernel
theorem dX10_back_22 : decode cX10_back 22 = .ok (.aload_n 0, 1) := by decide +kernel
theorem dX10_back_23 : decode cX10_back 23 = .ok (.getfield 13, 3) := by decide +kernel
theorem dX10_back_26 : decode cX10_back 26 = .ok (.iload_n 1, 1) := by decide +kernel
theorem dX10_back_27 : decode cX10_back 27 = .ok (.iload_n 1, 1) := by decide +kernel
theorem dX10_back_28 : decode cX10_back 28 = .ok (.aload_n 0, 1) := by decide +kernel
theorem dX10_back_29 : decode cX10_back 29 = .ok (.getfield 25, 3) := by decide +kernel
theorem dX10_back_32 : decode cX10_back 32 = .ok (.if_icmp .ge 13, 3) := by decide +kernel
theorem dX10_back_35 : decode cX10_back 35 = .ok (.aload_n 0, 1) := by decide +kernel
theorem dX10_back_36 : decode cX10_back 36 = .ok (.iload_n 1, 1) := by decide +kernel
theorem dX10_back_37 : decode cX10_back 37 = .ok (.iconst 5, 1) := by decide +kernel
theorem dX10_back_38 : decode cX10_back 38 = .ok (.imul, 1) := by decide +kernel
theorem dX10_back_39 : decode cX10_back 39 = .ok (.invokevirtual 259, 3) := by decide +kernel
theorem dX10_back_42 : decode cX10_back 42 = .ok (.goto 4, 3) := by decide +kernel
theorem dX10_back_45 : decode cX10_back 45 = .ok (.aconst_null, 1) := by decide +kernel
theorem dX10_back_46 : decode cX10_back 46 = .ok (.aastore, 1) := by decide +kernel
theorem dX10_back_47 : decode cX10_back 47 = .ok (.iinc 1 1, 3) := by decide +kernel
theorem dX10_back_50 : decode cX10_back 50 = .ok (.goto (-37), 3) := by decide +kernel
theorem dX10_back_53 : decode cX10_back 53 = .ok (.aload_n 0, 1) := by decide +kernel
theorem dX10_back_54 : decode cX10_back 54 = .ok (.aload_n 0, 1) := by decide +kernel
theorem dX10_back_55 : decode cX10_back 55 = .ok (.getfield 25, 3) := by decide +kernel
theorem dX10_back_58 : decode cX10_back 58 = .ok (.putfield 17, 3) := by decide +kernel
theorem dX10_back_61 : decode cX10_back 61 = .ok (.aload_n 0, 1) := by decide +kernel
theorem dX10_back_62 : decode cX10_back 62 = .ok (.getfield 17, 3) := by decide +kernel
theorem dX10_back_65 : decode cX10_back 65 = .ok (.ireturn, 1) := by decide +kernel
theorem dX10_load_0 : decode cX10_load 0 = .ok (.aload_n 0, 1) := by decide +kernel
theorem dX10_load_1 : decode cX10_load 1 = .ok (.iload_n 1, 1) := by decide +kernel
theorem dX10_load_2 : decode cX10_load 2 = .ok (.invokevirtual 118, 3) := by decide +kernel
theorem dX10_load_5 : decode cX10_load 5 = .ok (.astore 5, 2) := by decide +kernel
theorem dX10_load_7 : decode cX10_load 7 = .ok (.aload 5, 2) := by decide +kernel
theorem dX10_load_9 : decode cX10_load 9 = .ok (.ifnull 22, 3) := by decide +kernel
theorem dX10_load_12 : decode cX10_load 12 = .ok (.iload_n 2, 1) := by decide +kernel
theorem dX10_load_13 : decode cX10_load 13 = .ok (.iconst 0, 1) := by decide +kernel
theorem dX10_load_14 : decode cX10_load 14 = .ok (.iconst 1, 1) := by decide +kernel
theorem dX10_load_15 : decode cX10_load 15 = .ok (.invokestatic 60, 3) := by decide +kernel
theorem dX10_load_18 : decode cX10_load 18 = .ok (.ifCond .eq 13, 3) := by decide +kernel
theorem dX10_load_21 : decode cX10_load 21 = .ok (.iload 4, 2) := by decide +kernel
theorem dX10_load_23 : decode cX10_load 23 = .ok (.iconst 0, 1) := by decide +kernel
theorem dX10_load_24 : decode cX10_load 24 = .ok (.iconst 4, 1) := by decide +kernel
theorem dX10_load_25 : decode cX10_load 25 = .ok (.invokestatic 60, 3) := by decide +kernel
theorem dX10_load_28 : decode cX10_load 28 = .ok (.ifCond .ne 6, 3) := by decide +kernel
theorem dX10_load_31 : decode cX10_load 31 = .ok (.bipush (-2), 2) := by decide +kernel
theorem dX10_load_33 : decode cX10_load 33 = .ok (.ireturn, 1) := by decide +kernel
theorem dX10_load_34 : decode cX10_load 34 = .ok (.aload 5, 2) := by decide +kernel
theorem dX10_load_36 : decode cX10_load 36 = .ok (.invokevirtual 134, 3) := by decide +kernel
theorem dX10_load_39 : decode cX10_load 39 = .ok (.ifCond .eq 6, 3) := by decide +kernel
theorem dX10_load_42 : decode cX10_load 42 = .ok (.bipush (-11), 2) := by decide +kernel
theorem dX10_load_44 : decode cX10_load 44 = .ok (.ireturn, 1) := by decide +kernel
theorem dX10_load_45 : decode cX10_load 45 = .ok (.aload 5, 2) := by decide +kernel
theorem dX10_load_47 : decode cX10_load 47 = .ok (.getfield 262, 3) := by decide +kernel
theorem dX10_load_50 : decode cX10_load 50 = .ok (.iload_n 2, 1) := by decide +kernel
theorem dX10_load_51 : decode cX10_load 51 = .ok (.if_icmp .eq 6, 3) := by decide +kernel
theorem dX10_load_54 : decode cX10_load 54 = .ok (.bipush (-13), 2) := by decide +kernel
theorem dX10_load_56 : decode cX10_load 56 = .ok (.ireturn, 1) := by decide +kernel
theorem dX10_load_57 : decode cX10_load 57 = .ok (.iconst 0, 1) := by decide +kernel
theorem dX10_load_58 : decode cX10_load 58 = .ok (.istore 6, 2) := by decide +kernel
theorem dX10_load_60 : decode cX10_load 60 = .ok (.iconst 0, 1) := by decide +kernel
theorem dX10_load_61 : decode cX10_load 61 = .ok (.istore 7, 2) := by decide +kernel
theorem dX10_load_63 : decode cX10_load 63 = .ok (.iload 7, 2) := by decide +kernel
theorem dX10_load_65 : decode cX10_load 65 = .ok (.iload 4, 2) := by decide +kernel
theorem dX10_load_67 : decode cX10_load 67 = .ok (.if_icmp .ge 88, 3) := by decide +kernel
theorem dX10_load_70 : decode cX10_load 70 = .ok (.iload_n 3, 1) := by decide +kernel
theorem dX10_load_71 : decode cX10_load 71 = .ok (.i2l, 1) := by decide +kernel
theorem dX10_load_72 : decode cX10_load 72 = .ok (.iload 7, 2) := by decide +kernel
theorem dX10_load_74 : decode cX10_load 74 = .ok (.iconst 4, 1) := by decide +kernel
theorem dX10_load_75 : decode cX10_load 75 = .ok (.imul, 1) := by decide +kernel
theorem dX10_load_76 : decode cX10_load 76 = .ok (.i2l, 1) := by decide +kernel
theorem dX10_load_77 : decode cX10_load 77 = .ok (.ladd, 1) := by decide +kernel
theorem dX10_load_78 : decode cX10_load 78 = .ok (.lstore 8, 2) := by decide +kernel
theorem dX10_load_80 : decode cX10_load 80 = .ok (.aload 5, 2) := by decide +kernel
theorem dX10_load_82 : decode cX10_load 82 = .ok (.lload 8, 2) := by decide +kernel
theorem dX10_load_84 : decode cX10_load 84 = .ok (.ldc2_w 265, 3) := by decide +kernel
theorem dX10_load_87 : decode cX10_load 87 = .ok (.invokevirtual 267, 3) := by decide +kernel
theorem dX10_load_90 : decode cX10_load 90 = .ok (.ifCond .ne 6, 3) := by decide +kernel
theorem dX10_load_93 : decode cX10_load 93 = .ok (.bipush (-12), 2) := by decide +kernel
theorem dX10_load_95 : decode cX10_load 95 = .ok (.ireturn, 1) := by decide +kernel
theorem dX10_load_96 : decode cX10_load 96 = .ok (.lload 8, 2) := by decide +kernel
theorem dX10_load_98 : decode cX10_load 98 = .ok (.l2i, 1) := by decide +kernel
theorem dX10_load_99 : decode cX10_load 99 = .ok (.istore 10, 2) := by decide +kernel
theorem dX10_load_101 : decode cX10_load 101 = .ok (.aload_n 0, 1) := by decide +kernel
theorem dX10_load_102 : decode cX10_load 102 = .ok (.aload 5, 2) := by decide +kernel
theorem dX10_load_104 : decode cX10_load 104 = .ok (.getfield 271, 3) := by decide +kernel
theorem dX10_load_107 : decode cX10_load 107 = .ok (.iload 10, 2) := by decide +kernel
theorem dX10_load_109 : decode cX10_load 109 = .ok (.iaload, 1) := by decide +kernel
theorem dX10_load_110 : decode cX10_load 110 = .ok (.aload 5, 2) := by decide +kernel
theorem dX10_load_112 : decode cX10_load 112 = .ok (.getfield 271, 3) := by decide +kernel
theorem dX10_load_115 : decode cX10_load 115 = .ok (.iload 10, 2) := by decide +kernel
theorem dX10_load_117 : decode cX10_load 117 = .ok (.iconst 1, 1) := by decide +kernel
theorem dX10_load_118 : decode cX10_load 118 = .ok (.iadd, 1) := by decide +kernel
theorem dX10_load_119 : decode cX10_load 119 = .ok (.iaload, 1) := by decide +kernel
theorem dX10_load_120 : decode cX10_load 120 = .ok (.aload 5, 2) := by decide +kernel
theorem dX10_load_122 : decode cX10_load 122 = .ok (.getfield 271, 3) := by decide +kernel
theorem dX10_load_125 : decode cX10_load 125 = .ok (.iload 10, 2) := by decide +kernel
theorem dX10_load_127 : decode cX10_load 127 = .ok (.iconst 2, 1) := by decide +kernel
theorem dX10_load_128 : decode cX10_load 128 = .ok (.iadd, 1) := by decide +kernel
theorem dX10_load_129 : decode cX10_load 129 = .ok (.iaload, 1) := by decide +kernel
theorem dX10_load_130 : decode cX10_load 130 = .ok (.aload 5, 2) := by decide +kernel
theorem dX10_load_132 : decode cX10_load 132 = .ok (.getfield 271, 3) := by decide +kernel
theorem dX10_load_135 : decode cX10_load 135 = .ok (.iload 10, 2) := by decide +kernel
theorem dX10_load_137 : decode cX10_load 137 = .ok (.iconst 3, 1) := by decide +kernel
theorem dX10_load_138 : decode cX10_load 138 = .ok (.iadd, 1) := by decide +kernel
theorem dX10_load_139 : decode cX10_load 139 = .ok (.iaload, 1) := by decide +kernel
theorem dX10_load_140 : decode cX10_load 140 = .ok (.invokevirtual 274, 3) := by decide +kernel
theorem dX10_load_143 : decode cX10_load 143 = .ok (.ifCond .lt 6, 3) := by decide +kernel
theorem dX10_load_146 : decode cX10_load 146 = .ok (.iinc 6 1, 3) := by decide +kernel
theorem dX10_load_149 : decode cX10_load 149 = .ok (.iinc 7 1, 3) := by decide +kernel
theorem dX10_load_152 : decode cX10_load 152 = .ok (.goto (-89), 3) := by decide +kernel
theorem dX10_load_155 : decode cX10_load 155 = .ok (.iload 6, 2) := by decide +kernel
theorem dX10_load_157 : decode cX10_load 157 = .ok (.ireturn, 1) := by decide +kernel
theorem dX10_count_0 : decode cX10_count 0 = .ok (.iload_n 1, 1) := by decide +kernel
theorem dX10_count_1 : decode cX10_count 1 = .ok (.tableswitch 66 0 4 #[35, 40, 48, 54, 60], 35) := by decide +kernel
theorem dX10_count_36 : decode cX10_count 36 = .ok (.aload_n 0, 1) := by decide +kernel
theorem dX10_count_37 : decode cX10_count 37 = .ok (.getfield 17, 3) := by decide +kernel
theorem dX10_count_40 : decode cX10_count 40 = .ok (.ireturn, 1) := by decide +kernel
theorem dX10_count_41 : decode cX10_count 41 = .ok (.aload_n 0, 1) := by decide +kernel
theorem dX10_count_42 : decode cX10_count 42 = .ok (.getfield 37, 3) := by decide +kernel
theorem dX10_count_45 : decode cX10_count 45 = .ok (.getfield 242, 3) := by decide +kernel
theorem dX10_count_48 : decode cX10_count 48 = .ok (.ireturn, 1) := by decide +kernel
theorem dX10_count_49 : decode cX10_count 49 = .ok (.aload_n 0, 1) := by decide +kernel
theorem dX10_count_50 : decode cX10_count 50 = .ok (.iconst 0, 1) := by decide +kernel
theorem dX10_count_51 : decode cX10_count 51 = .ok (.invokevirtual 278, 3) := by decide +kernel
theorem dX10_count_54 : decode cX10_count 54 = .ok (.ireturn, 1) := by decide +kernel
theorem dX10_count_55 : decode cX10_count 55 = .ok (.aload_n 0, 1) := by decide +kernel
theorem dX10_count_56 : decode cX10_count 56 = .ok (.iconst 1, 1) := by decide +kernel
theorem dX10_count_57 : decode cX10_count 57 = .ok (.invokevirtual 281, 3) := by decide +kernel
theorem dX10_count_60 : decode cX10_count 60 = .ok (.ireturn, 1) := by decide +kernel
theorem dX10_count_61 : decode cX10_count 61 = .ok (.aload_n 0, 1) := by decide +kernel
theorem dX10_count_62 : decode cX10_count 62 = .ok (.iconst 5, 1) := by decide +kernel
theorem dX10_count_63 : decode cX10_count 63 = .ok (.invokevirtual 278, 3) := by decide +kernel
theorem dX10_count_66 : decode cX10_count 66 = .ok (.ireturn, 1) := by decide +kernel
theorem dX10_count_67 : decode cX10_count 67 = .ok (.bipush (-2), 2) := by decide +kernel
theorem dX10_count_69 : decode cX10_count 69 = .ok (.ireturn, 1) := by decide +kernel
theorem dX10_sheet_0 : decode cX10_sheet 0 = .ok (.aload_n 0, 1) := by decide +kernel
theorem dX10_sheet_1 : decode cX10_sheet 1 = .ok (.iload_n 1, 1) := by decide +kernel
theorem dX10_sheet_2 : decode cX10_sheet 2 = .ok (.invokevirtual 118, 3) := by decide +kernel
theorem dX10_sheet_5 : decode cX10_sheet 5 = .ok (.astore 4, 2) := by decide +kernel
theorem dX10_sheet_7 : decode cX10_sheet 7 = .ok (.aload 4, 2) := by decide +kernel
theorem dX10_sheet_9 : decode cX10_sheet 9 = .ok (.ifnull 12, 3) := by decide +kernel
theorem dX10_sheet_12 : decode cX10_sheet 12 = .ok (.iload_n 2, 1) := by decide +kernel
theorem dX10_sheet_13 : decode cX10_sheet 13 = .ok (.iconst (-1), 1) := by decide +kernel
theorem dX10_sheet_14 : decode cX10_sheet 14 = .ok (.iconst 1, 1) := by decide +kernel
theorem dX10_sheet_15 : decode cX10_sheet 15 = .ok (.invokestatic 60, 3) := by decide +kernel
theorem dX10_sheet_18 : decode cX10_sheet 18 = .ok (.ifCond .ne 6, 3) := by decide +kernel
theorem dX10_sheet_21 : decode cX10_sheet 21 = .ok (.bipush (-2), 2) := by decide +kernel
theorem dX10_sheet_23 : decode cX10_sheet 23 = .ok (.ireturn, 1) := by decide +kernel
theorem dX10_sheet_24 : decode cX10_sheet 24 = .ok (.iload_n 2, 1) := by decide +kernel
theorem dX10_sheet_25 : decode cX10_sheet 25 = .ok (.iconst (-1), 1) := by decide +kernel
theorem dX10_sheet_26 : decode cX10_sheet 26 = .ok (.if_icmp .ne 12, 3) := by decide +kernel
theorem dX10_sheet_29 : decode cX10_sheet 29 = .ok (.aload 4, 2) := by decide +kernel
theorem dX10_sheet_31 : decode cX10_sheet 31 = .ok (.iconst (-1), 1) := by decide +kernel
theorem dX10_sheet_32 : decode cX10_sheet 32 = .ok (.iconst 0, 1) := by decide +kernel
theorem dX10_sheet_33 : decode cX10_sheet 33 = .ok (.invokevirtual 284, 3) := by decide +kernel
theorem dX10_sheet_36 : decode cX10_sheet 36 = .ok (.iconst 1, 1) := by decide +kernel
theorem dX10_sheet_37 : decode cX10_sheet 37 = .ok (.ireturn, 1) := by decide +kernel
theorem dX10_sheet_38 : decode cX10_sheet 38 = .ok (.iload_n 3, 1) := by decide +kernel
theorem dX10_sheet_39 : decode cX10_sheet 39 = .ok (.bipush 40, 2) := by decide +kernel
theorem dX10_sheet_41 : decode cX10_sheet 41 = .ok (.if_icmp .le 6, 3) := by decide +kernel
theorem dX10_sheet_44 : decode cX10_sheet 44 = .ok (.bipush (-2), 2) := by decide +kernel
theorem dX10_sheet_46 : decode cX10_sheet 46 = .ok (.ireturn, 1) := by decide +kernel
theorem dX10_sheet_47 : decode cX10_sheet 47 = .ok (.iload_n 3, 1) := by decide +kernel
theorem dX10_sheet_48 : decode cX10_sheet 48 = .ok (.ifCond .ge 6, 3) := by decide +kernel
theorem dX10_sheet_51 : decode cX10_sheet 51 = .ok (.bipush (-14), 2) := by decide +kernel
theorem dX10_sheet_53 : decode cX10_sheet 53 = .ok (.ireturn, 1) := by decide +kernel
theorem dX10_sheet_54 : decode cX10_sheet 54 = .ok (.aload 4, 2) := by decide +kernel
theorem dX10_sheet_56 : decode cX10_sheet 56 = .ok (.iload_n 2, 1) := by decide +kernel
theorem dX10_sheet_57 : decode cX10_sheet 57 = .ok (.iload_n 3, 1) := by decide +kernel
theorem dX10_sheet_58 : decode cX10_sheet 58 = .ok (.invokevirtual 284, 3) := by decide +kernel
theorem dX10_sheet_61 : decode cX10_sheet 61 = .ok (.iconst 1, 1) := by decide +kernel
theorem dX10_sheet_62 : decode cX10_sheet 62 = .ok (.ireturn, 1) := by decide +kernel
theorem dX10_put_0 : decode cX10_put 0 = .ok (.aload_n 0, 1) := by decide +kernel
theorem dX10_put_1 : decode cX10_put 1 = .ok (.iload_n 1, 1) := by decide +kernel
theorem dX10_put_2 : decode cX10_put 2 = .ok (.invokevirtual 118, 3) := by decide +kernel
theorem dX10_put_5 : decode cX10_put 5 = .ok (.astore 4, 2) := by decide +kernel
theorem dX10_put_7 : decode cX10_put 7 = .ok (.aload 4, 2) := by decide +kernel
theorem dX10_put_9 : decode cX10_put 9 = .ok (.ifnonnull 6, 3) := by decide +kernel
theorem dX10_put_12 : decode cX10_put 12 = .ok (.bipush (-2), 2) := by decide +kernel
theorem dX10_put_14 : decode cX10_put 14 = .ok (.ireturn, 1) := by decide +kernel
theorem dX10_put_15 : decode cX10_put 15 = .ok (.aload 4, 2) := by decide +kernel
theorem dX10_put_17 : decode cX10_put 17 = .ok (.invokevirtual 134, 3) := by decide +kernel
theorem dX10_put_20 : decode cX10_put 20 = .ok (.ifCond .eq 6, 3) := by decide +kernel
theorem dX10_put_23 : decode cX10_put 23 = .ok (.bipush (-11), 2) := by decide +kernel
theorem dX10_put_25 : decode cX10_put 25 = .ok (.ireturn, 1) := by decide +kernel
theorem dX10_put_26 : decode cX10_put 26 = .ok (.aload 4, 2) := by decide +kernel
theorem dX10_put_28 : decode cX10_put 28 = .ok (.iload_n 2, 1) := by decide +kernel
theorem dX10_put_29 : decode cX10_put 29 = .ok (.i2l, 1) := by decide +kernel
theorem dX10_put_30 : decode cX10_put 30 = .ok (.lconst 1, 1) := by decide +kernel
theorem dX10_put_31 : decode cX10_put 31 = .ok (.invokevirtual 267, 3) := by decide +kernel
theorem dX10_put_34 : decode cX10_put 34 = .ok (.ifCond .ne 6, 3) := by decide +kernel
theorem dX10_put_37 : decode cX10_put 37 = .ok (.bipush (-12), 2) := by decide +kernel
theorem dX10_put_39 : decode cX10_put 39 = .ok (.ireturn, 1) := by decide +kernel
theorem dX10_put_40 : decode cX10_put 40 = .ok (.aload 4, 2) := by decide +kernel
theorem dX10_put_42 : decode cX10_put 42 = .ok (.getfield 271, 3) := by decide +kernel
theorem dX10_put_45 : decode cX10_put 45 = .ok (.iload_n 2, 1) := by decide +kernel
theorem dX10_put_46 : decode cX10_put 46 = .ok (.aload 4, 2) := by decide +kernel
theorem dX10_put_48 : decode cX10_put 48 = .ok (.getfield 262, 3) := by decide +kernel
theorem dX10_put_51 : decode cX10_put 51 = .ok (.ifCond .ne 8, 3) := by decide +kernel
theorem dX10_put_54 : decode cX10_put 54 = .ok (.iload_n 3, 1) := by decide +kernel
theorem dX10_put_55 : decode cX10_put 55 = .ok (.i2s, 1) := by decide +kernel
theorem dX10_put_56 : decode cX10_put 56 = .ok (.goto 4, 3) := by decide +kernel
theorem dX10_put_59 : decode cX10_put 59 = .ok (.iload_n 3, 1) := by decide +kernel
theorem dX10_put_60 : decode cX10_put 60 = .ok (.iastore, 1) := by decide +kernel
theorem dX10_put_61 : decode cX10_put 61 = .ok (.iconst 1, 1) := by decide +kernel
theorem dX10_put_62 : decode cX10_put 62 = .ok (.ireturn, 1) := by decide +kernel
theorem dX10_copy_0 : decode cX10_copy 0 = .ok (.aload_n 0, 1) := by decide +kernel
theorem dX10_copy_1 : decode cX10_copy 1 = .ok (.iload_n 1, 1) := by decide +kernel
theorem dX10_copy_2 : decode cX10_copy 2 = .ok (.invokevirtual 118, 3) := by decide +kernel
theorem dX10_copy_5 : decode cX10_copy 5 = .ok (.astore 6, 2) := by decide +kernel
theorem dX10_copy_7 : decode cX10_copy 7 = .ok (.aload_n 0, 1) := by decide +kernel
theorem dX10_copy_8 : decode cX10_copy 8 = .ok (.iload_n 3, 1) := by decide +kernel
theorem dX10_copy_9 : decode cX10_copy 9 = .ok (.invokevirtual 118, 3) := by decide +kernel
theorem dX10_copy_12 : decode cX10_copy 12 = .ok (.astore 7, 2) := by decide +kernel
theorem dX10_copy_14 : decode cX10_copy 14 = .ok (.aload 6, 2) := by decide +kernel
theorem dX10_copy_16 : decode cX10_copy 16 = .ok (.ifnull 8, 3) := by decide +kernel
theorem dX10_copy_19 : decode cX10_copy 19 = .ok (.aload 7, 2) := by decide +kernel
theorem dX10_copy_21 : decode cX10_copy 21 = .ok (.ifnonnull 6, 3) := by decide +kernel
theorem dX10_copy_24 : decode cX10_copy 24 = .ok (.bipush (-2), 2) := by decide +kernel
theorem dX10_copy_26 : decode cX10_copy 26 = .ok (.ireturn, 1) := by decide +kernel
theorem dX10_copy_27 : decode cX10_copy 27 = .ok (.aload 6, 2) := by decide +kernel
theorem dX10_copy_29 : decode cX10_copy 29 = .ok (.invokevirtual 134, 3) := by decide +kernel
theorem dX10_copy_32 : decode cX10_copy 32 = .ok (.ifCond .ne 11, 3) := by decide +kernel
theorem dX10_copy_35 : decode cX10_copy 35 = .ok (.aload 7, 2) := by decide +kernel
theorem dX10_copy_37 : decode cX10_copy 37 = .ok (.invokevirtual 134, 3) := by decide +kernel
theorem dX10_copy_40 : decode cX10_copy 40 = .ok (.ifCond .eq 6, 3) := by decide +kernel
theorem dX10_copy_43 : decode cX10_copy 43 = .ok (.bipush (-11), 2) := by decide +kernel
theorem dX10_copy_45 : decode cX10_copy 45 = .ok (.ireturn, 1) := by decide +kernel
theorem dX10_copy_46 : decode cX10_copy 46 = .ok (.aload 6, 2) := by decide +kernel
theorem dX10_copy_48 : decode cX10_copy 48 = .ok (.getfield 262, 3) := by decide +kernel
theorem dX10_copy_51 : decode cX10_copy 51 = .ok (.aload 7, 2) := by decide +kernel
theorem dX10_copy_53 : decode cX10_copy 53 = .ok (.getfield 262, 3) := by decide +kernel
theorem dX10_copy_56 : decode cX10_copy 56 = .ok (.if_icmp .eq 6, 3) := by decide +kernel
theorem dX10_copy_59 : decode cX10_copy 59 = .ok (.bipush (-13), 2) := by decide +kernel
theorem dX10_copy_61 : decode cX10_copy 61 = .ok (.ireturn, 1) := by decide +kernel
theorem dX10_copy_62 : decode cX10_copy 62 = .ok (.aload 6, 2) := by decide +kernel
theorem dX10_copy_64 : decode cX10_copy 64 = .ok (.iload_n 2, 1) := by decide +kernel
theorem dX10_copy_65 : decode cX10_copy 65 = .ok (.i2l, 1) := by decide +kernel
theorem dX10_copy_66 : decode cX10_copy 66 = .ok (.iload 5, 2) := by decide +kernel
theorem dX10_copy_68 : decode cX10_copy 68 = .ok (.i2l, 1) := by decide +kernel
theorem dX10_copy_69 : decode cX10_copy 69 = .ok (.invokevirtual 267, 3) := by decide +kernel
theorem dX10_copy_72 : decode cX10_copy 72 = .ok (.ifCond .eq 17, 3) := by decide +kernel
theorem dX10_copy_75 : decode cX10_copy 75 = .ok (.aload 7, 2) := by decide +kernel
theorem dX10_copy_77 : decode cX10_copy 77 = .ok (.iload 4, 2) := by decide +kernel
theorem dX10_copy_79 : decode cX10_copy 79 = .ok (.i2l, 1) := by decide +kernel
theorem dX10_copy_80 : decode cX10_copy 80 = .ok (.iload 5, 2) := by decide +kernel
theorem dX10_copy_82 : decode cX10_copy 82 = .ok (.i2l, 1) := by decide +kernel
theorem dX10_copy_83 : decode cX10_copy 83 = .ok (.invokevirtual 267, 3) := by decide +kernel
theorem dX10_copy_86 : decode cX10_copy 86 = .ok (.ifCond .ne 6, 3) := by decide +kernel
theorem dX10_copy_89 : decode cX10_copy 89 = .ok (.bipush (-12), 2) := by decide +kernel
theorem dX10_copy_91 : decode cX10_copy 91 = .ok (.ireturn, 1) := by decide +kernel
theorem dX10_copy_92 : decode cX10_copy 92 = .ok (.aload 6, 2) := by decide +kernel
theorem dX10_copy_94 : decode cX10_copy 94 = .ok (.getfield 271, 3) := by decide +kernel
theorem dX10_copy_97 : decode cX10_copy 97 = .ok (.iload_n 2, 1) := by decide +kernel
theorem dX10_copy_98 : decode cX10_copy 98 = .ok (.aload 7, 2) := by decide +kernel
theorem dX10_copy_100 : decode cX10_copy 100 = .ok (.getfield 271, 3) := by decide +kernel
theorem dX10_copy_103 : decode cX10_copy 103 = .ok (.iload 4, 2) := by decide +kernel
theorem dX10_copy_105 : decode cX10_copy 105 = .ok (.iload 5, 2) := by decide +kernel
theorem dX10_copy_107 : decode cX10_copy 107 = .ok (.invokestatic 288, 3) := by decide +kernel
theorem dX10_copy_110 : decode cX10_copy 110 = .ok (.iload 5, 2) := by decide +kernel
theorem dX10_copy_112 : decode cX10_copy 112 = .ok (.ireturn, 1) := by decide +kernel
theorem dX10_between_0 : decode cX10_between 0 = .ok (.iload_n 0, 1) := by decide +kernel
theorem dX10_between_1 : decode cX10_between 1 = .ok (.iload_n 1, 1) := by decide +kernel
theorem dX10_between_2 : decode cX10_between 2 = .ok (.if_icmp .lt 12, 3) := by decide +kernel
theorem dX10_between_5 : decode cX10_between 5 = .ok (.iload_n 0, 1) := by decide +kernel
theorem dX10_between_6 : decode cX10_between 6 = .ok (.iload_n 2, 1) := by decide +kernel
theorem dX10_between_7 : decode cX10_between 7 = .ok (.if_icmp .gt 7, 3) := by decide +kernel
theorem dX10_between_10 : decode cX10_between 10 = .ok (.iconst 1, 1) := by decide +kernel
theorem dX10_between_11 : decode cX10_between 11 = .ok (.goto 4, 3) := by decide +kernel
theorem dX10_between_14 : decode cX10_between 14 = .ok (.iconst 0, 1) := by decide +kernel
theorem dX10_between_15 : decode cX10_between 15 = .ok (.ireturn, 1) := by decide +kernel
theorem dX10_allCells_0 : decode cX10_allCells 0 = .ok (.iconst 1, 1) := by decide +kernel
theorem dX10_allCells_1 : decode cX10_allCells 1 = .ok (.iload_n 0, 1) := by decide +kernel
theorem dX10_allCells_2 : decode cX10_allCells 2 = .ok (.ishl, 1) := by decide +kernel
theorem dX10_allCells_3 : decode cX10_allCells 3 = .ok (.iconst 1, 1) := by decide +kernel
theorem dX10_allCells_4 : decode cX10_allCells 4 = .ok (.isub, 1) := by decide +kernel
theorem dX10_allCells_5 : decode cX10_allCells 5 = .ok (.ireturn, 1) := by decide +kernel
theorem dX10_made_0 : decode cX10_made 0 = .ok (.iload_n 0, 1) := by decide +kernel
theorem dX10_made_1 : decode cX10_made 1 = .ok (.tableswitch 106 1 5 #[35, 50, 64, 78, 92], 35) := by decide +kernel
theorem dX10_made_36 : decode cX10_made 36 = .ok (.new 294, 3) := by decide +kernel
theorem dX10_made_39 : decode cX10_made 39 = .ok (.dup, 1) := by decide +kernel
theorem dX10_made_40 : decode cX10_made 40 = .ok (.iconst 1, 1) := by decide +kernel
theorem dX10_made_41 : decode cX10_made 41 = .ok (.iload_n 1, 1) := by decide +kernel
theorem dX10_made_42 : decode cX10_made 42 = .ok (.iload_n 2, 1) := by decide +kernel
theorem dX10_made_43 : decode cX10_made 43 = .ok (.invokespecial 296, 3) := by decide +kernel
theorem dX10_made_46 : decode cX10_made 46 = .ok (.astore 5, 2) := by decide +kernel
theorem dX10_made_48 : decode cX10_made 48 = .ok (.goto 71, 3) := by decide +kernel
theorem dX10_made_51 : decode cX10_made 51 = .ok (.new 299, 3) := by decide +kernel
theorem dX10_made_54 : decode cX10_made 54 = .ok (.dup, 1) := by decide +kernel
theorem dX10_made_55 : decode cX10_made 55 = .ok (.iload_n 1, 1) := by decide +kernel
theorem dX10_made_56 : decode cX10_made 56 = .ok (.iload_n 2, 1) := by decide +kernel
theorem dX10_made_57 : decode cX10_made 57 = .ok (.invokespecial 301, 3) := by decide +kernel
theorem dX10_made_60 : decode cX10_made 60 = .ok (.astore 5, 2) := by decide +kernel
theorem dX10_made_62 : decode cX10_made 62 = .ok (.goto 57, 3) := by decide +kernel
theorem dX10_made_65 : decode cX10_made 65 = .ok (.new 303, 3) := by decide +kernel
theorem dX10_made_68 : decode cX10_made 68 = .ok (.dup, 1) := by decide +kernel
theorem dX10_made_69 : decode cX10_made 69 = .ok (.iload_n 1, 1) := by decide +kernel
theorem dX10_made_70 : decode cX10_made 70 = .ok (.iload_n 2, 1) := by decide +kernel
theorem dX10_made_71 : decode cX10_made 71 = .ok (.invokespecial 305, 3) := by decide +kernel
theorem dX10_made_74 : decode cX10_made 74 = .ok (.astore 5, 2) := by decide +kernel
theorem dX10_made_76 : decode cX10_made 76 = .ok (.goto 43, 3) := by decide +kernel
theorem dX10_made_79 : decode cX10_made 79 = .ok (.new 306, 3) := by decide +kernel
theorem dX10_made_82 : decode cX10_made 82 = .ok (.dup, 1) := by decide +kernel
theorem dX10_made_83 : decode cX10_made 83 = .ok (.iload_n 1, 1) := by decide +kernel
theorem dX10_made_84 : decode cX10_made 84 = .ok (.iload_n 2, 1) := by decide +kernel
theorem dX10_made_85 : decode cX10_made 85 = .ok (.invokespecial 308, 3) := by decide +kernel
theorem dX10_made_88 : decode cX10_made 88 = .ok (.astore 5, 2) := by decide +kernel
theorem dX10_made_90 : decode cX10_made 90 = .ok (.goto 29, 3) := by decide +kernel
theorem dX10_made_93 : decode cX10_made 93 = .ok (.new 309, 3) := by decide +kernel
theorem dX10_made_96 : decode cX10_made 96 = .ok (.dup, 1) := by decide +kernel
theorem dX10_made_97 : decode cX10_made 97 = .ok (.iload_n 1, 1) := by decide +kernel
theorem dX10_made_98 : decode cX10_made 98 = .ok (.iload_n 2, 1) := by decide +kernel
theorem dX10_made_99 : decode cX10_made 99 = .ok (.invokespecial 311, 3) := by decide +kernel
theorem dX10_made_102 : decode cX10_made 102 = .ok (.astore 5, 2) := by decide +kernel
theorem dX10_made_104 : decode cX10_made 104 = .ok (.goto 15, 3) := by decide +kernel
theorem dX10_made_107 : decode cX10_made 107 = .ok (.new 11, 3) := by decide +kernel
theorem dX10_made_110 : decode cX10_made 110 = .ok (.dup, 1) := by decide +kernel
theorem dX10_made_111 : decode cX10_made 111 = .ok (.iconst 0, 1) := by decide +kernel
theorem dX10_made_112 : decode cX10_made 112 = .ok (.iload_n 1, 1) := by decide +kernel
theorem dX10_made_113 : decode cX10_made 113 = .ok (.iload_n 2, 1) := by decide +kernel
theorem dX10_made_114 : decode cX10_made 114 = .ok (.invokespecial 312, 3) := by decide +kernel
theorem dX10_made_117 : decode cX10_made 117 = .ok (.astore 5, 2) := by decide +kernel
theorem dX10_made_119 : decode cX10_made 119 = .ok (.aload 5, 2) := by decide +kernel
theorem dX10_made_121 : decode cX10_made 121 = .ok (.iload_n 3, 1) := by decide +kernel
theorem dX10_made_122 : decode cX10_made 122 = .ok (.putfield 84, 3) := by decide +kernel
theorem dX10_made_125 : decode cX10_made 125 = .ok (.aload 5, 2) := by decide +kernel
theorem dX10_made_127 : decode cX10_made 127 = .ok (.iload 4, 2) := by decide +kernel
theorem dX10_made_129 : decode cX10_made 129 = .ok (.putfield 87, 3) := by decide +kernel
theorem dX10_made_132 : decode cX10_made 132 = .ok (.aload 5, 2) := by decide +kernel
theorem dX10_made_134 : decode cX10_made 134 = .ok (.areturn, 1) := by decide +kernel
theorem dX10_thoughtOf_0 : decode cX10_thoughtOf 0 = .ok (.aload_n 0, 1) := by decide +kernel
theorem dX10_thoughtOf_1 : decode cX10_thoughtOf 1 = .ok (.getfield 93, 3) := by decide +kernel
theorem dX10_thoughtOf_4 : decode cX10_thoughtOf 4 = .ok (.aload_n 0, 1) := by decide +kernel
theorem dX10_thoughtOf_5 : decode cX10_thoughtOf 5 = .ok (.getfield 96, 3) := by decide +kernel
theorem dX10_thoughtOf_8 : decode cX10_thoughtOf 8 = .ok (.aload_n 0, 1) := by decide +kernel
theorem dX10_thoughtOf_9 : decode cX10_thoughtOf 9 = .ok (.getfield 90, 3) := by decide +kernel
theorem dX10_thoughtOf_12 : decode cX10_thoughtOf 12 = .ok (.aload_n 0, 1) := by decide +kernel
theorem dX10_thoughtOf_13 : decode cX10_thoughtOf 13 = .ok (.getfield 84, 3) := by decide +kernel
theorem dX10_thoughtOf_16 : decode cX10_thoughtOf 16 = .ok (.aload_n 0, 1) := by decide +kernel
theorem dX10_thoughtOf_17 : decode cX10_thoughtOf 17 = .ok (.getfield 87, 3) := by decide +kernel
theorem dX10_thoughtOf_20 : decode cX10_thoughtOf 20 = .ok (.invokestatic 68, 3) := by decide +kernel
theorem dX10_thoughtOf_23 : decode cX10_thoughtOf 23 = .ok (.areturn, 1) := by decide +kernel
theorem dX10_isUnder_0 : decode cX10_isUnder 0 = .ok (.iload_n 1, 1) := by decide +kernel
theorem dX10_isUnder_1 : decode cX10_isUnder 1 = .ok (.tableswitch 60 1 5 #[35, 40, 45, 50, 55], 35) := by decide +kernel
theorem dX10_isUnder_36 : decode cX10_isUnder 36 = .ok (.aload_n 0, 1) := by decide +kernel
theorem dX10_isUnder_37 : decode cX10_isUnder 37 = .ok (.instanceof 294, 3) := by decide +kernel
theorem dX10_isUnder_40 : decode cX10_isUnder 40 = .ok (.ireturn, 1) := by decide +kernel
theorem dX10_isUnder_41 : decode cX10_isUnder 41 = .ok (.aload_n 0, 1) := by decide +kernel
theorem dX10_isUnder_42 : decode cX10_isUnder 42 = .ok (.instanceof 299, 3) := by decide +kernel
theorem dX10_isUnder_45 : decode cX10_isUnder 45 = .ok (.ireturn, 1) := by decide +kernel
theorem dX10_isUnder_46 : decode cX10_isUnder 46 = .ok (.aload_n 0, 1) := by decide +kernel
theorem dX10_isUnder_47 : decode cX10_isUnder 47 = .ok (.instanceof 303, 3) := by decide +kernel
theorem dX10_isUnder_50 : decode cX10_isUnder 50 = .ok (.ireturn, 1) := by decide +kernel
theorem dX10_isUnder_51 : decode cX10_isUnder 51 = .ok (.aload_n 0, 1) := by decide +kernel
theorem dX10_isUnder_52 : decode cX10_isUnder 52 = .ok (.instanceof 306, 3) := by decide +kernel
theorem dX10_isUnder_55 : decode cX10_isUnder 55 = .ok (.ireturn, 1) := by decide +kernel
theorem dX10_isUnder_56 : decode cX10_isUnder 56 = .ok (.aload_n 0, 1) := by decide +kernel
theorem dX10_isUnder_57 : decode cX10_isUnder 57 = .ok (.instanceof 309, 3) := by decide +kernel
theorem dX10_isUnder_60 : decode cX10_isUnder 60 = .ok (.ireturn, 1) := by decide +kernel
theorem dX10_isUnder_61 : decode cX10_isUnder 61 = .ok (.iconst 1, 1) := by decide +kernel
theorem dX10_isUnder_62 : decode cX10_isUnder 62 = .ok (.ireturn, 1) := by decide +kernel
theorem dX10_join_0 : decode cX10_join 0 = .ok (.aload_n 0, 1) := by decide +kernel
theorem dX10_join_1 : decode cX10_join 1 = .ok (.getfield 17, 3) := by decide +kernel
theorem dX10_join_4 : decode cX10_join 4 = .ok (.aload_n 0, 1) := by decide +kernel
theorem dX10_join_5 : decode cX10_join 5 = .ok (.getfield 13, 3) := by decide +kernel
theorem dX10_join_8 : decode cX10_join 8 = .ok (.arraylength, 1) := by decide +kernel
theorem dX10_join_9 : decode cX10_join 9 = .ok (.if_icmp .lt 6, 3) := by decide +kernel
theorem dX10_join_12 : decode cX10_join 12 = .ok (.bipush (-4), 2) := by decide +kernel
theorem dX10_join_14 : decode cX10_join 14 = .ok (.ireturn, 1) := by decide +kernel
theorem dX10_join_15 : decode cX10_join 15 = .ok (.aload_n 0, 1) := by decide +kernel
theorem dX10_join_16 : decode cX10_join 16 = .ok (.getfield 13, 3) := by decide +kernel
theorem dX10_join_19 : decode cX10_join 19 = .ok (.aload_n 0, 1) := by decide +kernel
theorem dX10_join_20 : decode cX10_join 20 = .ok (.getfield 17, 3) := by decide +kernel
theorem dX10_join_23 : decode cX10_join 23 = .ok (.aload_n 1, 1) := by decide +kernel
theorem dX10_join_24 : decode cX10_join 24 = .ok (.aastore, 1) := by decide +kernel
theorem dX10_join_25 : decode cX10_join 25 = .ok (.aload_n 0, 1) := by decide +kernel
theorem dX10_join_26 : decode cX10_join 26 = .ok (.dup, 1) := by decide +kernel
theorem dX10_join_27 : decode cX10_join 27 = .ok (.getfield 17, 3) := by decide +kernel
theorem dX10_join_30 : decode cX10_join 30 = .ok (.iconst 1, 1) := by decide +kernel
theorem dX10_join_31 : decode cX10_join 31 = .ok (.iadd, 1) := by decide +kernel
theorem dX10_join_32 : decode cX10_join 32 = .ok (.putfield 17, 3) := by decide +kernel
theorem dX10_join_35 : decode cX10_join 35 = .ok (.aload_n 0, 1) := by decide +kernel
theorem dX10_join_36 : decode cX10_join 36 = .ok (.getfield 17, 3) := by decide +kernel
theorem dX10_join_39 : decode cX10_join 39 = .ok (.iconst 1, 1) := by decide +kernel
theorem dX10_join_40 : decode cX10_join 40 = .ok (.isub, 1) := by decide +kernel
theorem dX10_join_41 : decode cX10_join 41 = .ok (.ireturn, 1) := by decide +kernel
theorem dX10_machineAt_0 : decode cX10_machineAt 0 = .ok (.iload_n 1, 1) := by decide +kernel
theorem dX10_machineAt_1 : decode cX10_machineAt 1 = .ok (.ifCond .lt 29, 3) := by decide +kernel
theorem dX10_machineAt_4 : decode cX10_machineAt 4 = .ok (.iload_n 1, 1) := by decide +kernel
theorem dX10_machineAt_5 : decode cX10_machineAt 5 = .ok (.aload_n 0, 1) := by decide +kernel
theorem dX10_machineAt_6 : decode cX10_machineAt 6 = .ok (.getfield 17, 3) := by decide +kernel
theorem dX10_machineAt_9 : decode cX10_machineAt 9 = .ok (.if_icmp .ge 21, 3) := by decide +kernel
theorem dX10_machineAt_12 : decode cX10_machineAt 12 = .ok (.iload_n 1, 1) := by decide +kernel
theorem dX10_machineAt_13 : decode cX10_machineAt 13 = .ok (.aload_n 0, 1) := by decide +kernel
theorem dX10_machineAt_14 : decode cX10_machineAt 14 = .ok (.getfield 13, 3) := by decide +kernel
theorem dX10_machineAt_17 : decode cX10_machineAt 17 = .ok (.arraylength, 1) := by decide +kernel
theorem dX10_machineAt_18 : decode cX10_machineAt 18 = .ok (.if_icmp .ge 12, 3) := by decide +kernel
theorem dX10_machineAt_21 : decode cX10_machineAt 21 = .ok (.aload_n 0, 1) := by decide +kernel
theorem dX10_machineAt_22 : decode cX10_machineAt 22 = .ok (.getfield 13, 3) := by decide +kernel
theorem dX10_machineAt_25 : decode cX10_machineAt 25 = .ok (.iload_n 1, 1) := by decide +kernel
theorem dX10_machineAt_26 : decode cX10_machineAt 26 = .ok (.aaload, 1) := by decide +kernel
theorem dX10_machineAt_27 : decode cX10_machineAt 27 = .ok (.goto 4, 3) := by decide +kernel
theorem dX10_machineAt_30 : decode cX10_machineAt 30 = .ok (.aconst_null, 1) := by decide +kernel
theorem dX10_machineAt_31 : decode cX10_machineAt 31 = .ok (.areturn, 1) := by decide +kernel
theorem dX10_canBecome_0 : decode cX10_canBecome 0 = .ok (.iload_n 1, 1) := by decide +kernel
theorem dX10_canBecome_1 : decode cX10_canBecome 1 = .ok (.tableswitch 73 0 3 #[31, 44, 53, 66], 31) := by decide +kernel
theorem dX10_canBecome_32 : decode cX10_canBecome 32 = .ok (.iload_n 2, 1) := by decide +kernel
theorem dX10_canBecome_33 : decode cX10_canBecome 33 = .ok (.iconst 0, 1) := by decide +kernel
theorem dX10_canBecome_34 : decode cX10_canBecome 34 = .ok (.aload_n 0, 1) := by decide +kernel
theorem dX10_canBecome_35 : decode cX10_canBecome 35 = .ok (.getfield 96, 3) := by decide +kernel
theorem dX10_canBecome_38 : decode cX10_canBecome 38 = .ok (.invokestatic 64, 3) := by decide +kernel
theorem dX10_canBecome_41 : decode cX10_canBecome 41 = .ok (.invokestatic 60, 3) := by decide +kernel
theorem dX10_canBecome_44 : decode cX10_canBecome 44 = .ok (.ireturn, 1) := by decide +kernel
theorem dX10_canBecome_45 : decode cX10_canBecome 45 = .ok (.iload_n 2, 1) := by decide +kernel
theorem dX10_canBecome_46 : decode cX10_canBecome 46 = .ok (.bipush (-9), 2) := by decide +kernel
theorem dX10_canBecome_48 : decode cX10_canBecome 48 = .ok (.bipush 9, 2) := by decide +kernel
theorem dX10_canBecome_50 : decode cX10_canBecome 50 = .ok (.invokestatic 60, 3) := by decide +kernel
theorem dX10_canBecome_53 : decode cX10_canBecome 53 = .ok (.ireturn, 1) := by decide +kernel
theorem dX10_canBecome_54 : decode cX10_canBecome 54 = .ok (.iload_n 2, 1) := by decide +kernel
theorem dX10_canBecome_55 : decode cX10_canBecome 55 = .ok (.iconst 1, 1) := by decide +kernel
theorem dX10_canBecome_56 : decode cX10_canBecome 56 = .ok (.aload_n 0, 1) := by decide +kernel
theorem dX10_canBecome_57 : decode cX10_canBecome 57 = .ok (.getfield 96, 3) := by decide +kernel
theorem dX10_canBecome_60 : decode cX10_canBecome 60 = .ok (.invokestatic 64, 3) := by decide +kernel
theorem dX10_canBecome_63 : decode cX10_canBecome 63 = .ok (.invokestatic 60, 3) := by decide +kernel
theorem dX10_canBecome_66 : decode cX10_canBecome 66 = .ok (.ireturn, 1) := by decide +kernel
theorem dX10_canBecome_67 : decode cX10_canBecome 67 = .ok (.iload_n 2, 1) := by decide +kernel
theorem dX10_canBecome_68 : decode cX10_canBecome 68 = .ok (.iconst 0, 1) := by decide +kernel
theorem dX10_canBecome_69 : decode cX10_canBecome 69 = .ok (.iconst 5, 1) := by decide +kernel
theorem dX10_canBecome_70 : decode cX10_canBecome 70 = .ok (.invokestatic 60, 3) := by decide +kernel
theorem dX10_canBecome_73 : decode cX10_canBecome 73 = .ok (.ireturn, 1) := by decide +kernel
theorem dX10_canBecome_74 : decode cX10_canBecome 74 = .ok (.iconst 0, 1) := by decide +kernel
theorem dX10_canBecome_75 : decode cX10_canBecome 75 = .ok (.ireturn, 1) := by decide +kernel
theorem dX10_cellsOf_0 : decode cX10_cellsOf 0 = .ok (.iconst 0, 1) := by decide +kernel
theorem dX10_cellsOf_1 : decode cX10_cellsOf 1 = .ok (.istore_n 2, 1) := by decide +kernel
theorem dX10_cellsOf_2 : decode cX10_cellsOf 2 = .ok (.iconst 0, 1) := by decide +kernel
theorem dX10_cellsOf_3 : decode cX10_cellsOf 3 = .ok (.istore_n 3, 1) := by decide +kernel
theorem dX10_cellsOf_4 : decode cX10_cellsOf 4 = .ok (.iload_n 3, 1) := by decide +kernel
theorem dX10_cellsOf_5 : decode cX10_cellsOf 5 = .ok (.aload_n 0, 1) := by decide +kernel
theorem dX10_cellsOf_6 : decode cX10_cellsOf 6 = .ok (.getfield 17, 3) := by decide +kernel
theorem dX10_cellsOf_9 : decode cX10_cellsOf 9 = .ok (.if_icmp .ge 38, 3) := by decide +kernel
theorem dX10_cellsOf_12 : decode cX10_cellsOf 12 = .ok (.aload_n 0, 1) := by decide +kernel
theorem dX10_cellsOf_13 : decode cX10_cellsOf 13 = .ok (.iload_n 3, 1) := by decide +kernel
theorem dX10_cellsOf_14 : decode cX10_cellsOf 14 = .ok (.invokevirtual 76, 3) := by decide +kernel
theorem dX10_cellsOf_17 : decode cX10_cellsOf 17 = .ok (.astore 4, 2) := by decide +kernel
theorem dX10_cellsOf_19 : decode cX10_cellsOf 19 = .ok (.aload 4, 2) := by decide +kernel
theorem dX10_cellsOf_21 : decode cX10_cellsOf 21 = .ok (.ifnull 20, 3) := by decide +kernel
theorem dX10_cellsOf_24 : decode cX10_cellsOf 24 = .ok (.aload 4, 2) := by decide +kernel
theorem dX10_cellsOf_26 : decode cX10_cellsOf 26 = .ok (.iload_n 1, 1) := by decide +kernel
theorem dX10_cellsOf_27 : decode cX10_cellsOf 27 = .ok (.invokestatic 106, 3) := by decide +kernel
theorem dX10_cellsOf_30 : decode cX10_cellsOf 30 = .ok (.ifCond .eq 11, 3) := by decide +kernel
theorem dX10_cellsOf_33 : decode cX10_cellsOf 33 = .ok (.iload_n 2, 1) := by decide +kernel
theorem dX10_cellsOf_34 : decode cX10_cellsOf 34 = .ok (.aload 4, 2) := by decide +kernel
theorem dX10_cellsOf_36 : decode cX10_cellsOf 36 = .ok (.getfield 96, 3) := by decide +kernel
theorem dX10_cellsOf_39 : decode cX10_cellsOf 39 = .ok (.iadd, 1) := by decide +kernel
theorem dX10_cellsOf_40 : decode cX10_cellsOf 40 = .ok (.istore_n 2, 1) := by decide +kernel
theorem dX10_cellsOf_41 : decode cX10_cellsOf 41 = .ok (.iinc 3 1, 3) := by decide +kernel
theorem dX10_cellsOf_44 : decode cX10_cellsOf 44 = .ok (.goto (-40), 3) := by decide +kernel
theorem dX10_cellsOf_47 : decode cX10_cellsOf 47 = .ok (.iload_n 2, 1) := by decide +kernel
theorem dX10_cellsOf_48 : decode cX10_cellsOf 48 = .ok (.ireturn, 1) := by decide +kernel
theorem dX10_numbersOf_0 : decode cX10_numbersOf 0 = .ok (.iconst 0, 1) := by decide +kernel
theorem dX10_numbersOf_1 : decode cX10_numbersOf 1 = .ok (.istore_n 2, 1) := by decide +kernel
theorem dX10_numbersOf_2 : decode cX10_numbersOf 2 = .ok (.iconst 0, 1) := by decide +kernel
theorem dX10_numbersOf_3 : decode cX10_numbersOf 3 = .ok (.istore_n 3, 1) := by decide +kernel
theorem dX10_numbersOf_4 : decode cX10_numbersOf 4 = .ok (.iload_n 3, 1) := by decide +kernel
theorem dX10_numbersOf_5 : decode cX10_numbersOf 5 = .ok (.aload_n 0, 1) := by decide +kernel
theorem dX10_numbersOf_6 : decode cX10_numbersOf 6 = .ok (.getfield 17, 3) := by decide +kernel
theorem dX10_numbersOf_9 : decode cX10_numbersOf 9 = .ok (.if_icmp .ge 36, 3) := by decide +kernel
theorem dX10_numbersOf_12 : decode cX10_numbersOf 12 = .ok (.aload_n 0, 1) := by decide +kernel
theorem dX10_numbersOf_13 : decode cX10_numbersOf 13 = .ok (.iload_n 3, 1) := by decide +kernel
theorem dX10_numbersOf_14 : decode cX10_numbersOf 14 = .ok (.invokevirtual 76, 3) := by decide +kernel
theorem dX10_numbersOf_17 : decode cX10_numbersOf 17 = .ok (.astore 4, 2) := by decide +kernel
theorem dX10_numbersOf_19 : decode cX10_numbersOf 19 = .ok (.aload 4, 2) := by decide +kernel
theorem dX10_numbersOf_21 : decode cX10_numbersOf 21 = .ok (.ifnull 18, 3) := by decide +kernel
theorem dX10_numbersOf_24 : decode cX10_numbersOf 24 = .ok (.aload 4, 2) := by decide +kernel
theorem dX10_numbersOf_26 : decode cX10_numbersOf 26 = .ok (.iload_n 1, 1) := by decide +kernel
theorem dX10_numbersOf_27 : decode cX10_numbersOf 27 = .ok (.invokestatic 106, 3) := by decide +kernel
theorem dX10_numbersOf_30 : decode cX10_numbersOf 30 = .ok (.ifCond .eq 9, 3) := by decide +kernel
theorem dX10_numbersOf_33 : decode cX10_numbersOf 33 = .ok (.iload_n 2, 1) := by decide +kernel
theorem dX10_numbersOf_34 : decode cX10_numbersOf 34 = .ok (.iconst 1, 1) := by decide +kernel
theorem dX10_numbersOf_35 : decode cX10_numbersOf 35 = .ok (.iload_n 3, 1) := by decide +kernel
theorem dX10_numbersOf_36 : decode cX10_numbersOf 36 = .ok (.ishl, 1) := by decide +kernel
theorem dX10_numbersOf_37 : decode cX10_numbersOf 37 = .ok (.ior, 1) := by decide +kernel
theorem dX10_numbersOf_38 : decode cX10_numbersOf 38 = .ok (.istore_n 2, 1) := by decide +kernel
theorem dX10_numbersOf_39 : decode cX10_numbersOf 39 = .ok (.iinc 3 1, 3) := by decide +kernel
theorem dX10_numbersOf_42 : decode cX10_numbersOf 42 = .ok (.goto (-38), 3) := by decide +kernel
theorem dX10_numbersOf_45 : decode cX10_numbersOf 45 = .ok (.iload_n 2, 1) := by decide +kernel
theorem dX10_numbersOf_46 : decode cX10_numbersOf 46 = .ok (.ireturn, 1) := by decide +kernel
theorem dX10_imageOne_0 : decode cX10_imageOne 0 = .ok (.aload_n 1, 1) := by decide +kernel
theorem dX10_imageOne_1 : decode cX10_imageOne 1 = .ok (.ifnull 18, 3) := by decide +kernel
theorem dX10_imageOne_4 : decode cX10_imageOne 4 = .ok (.iload_n 2, 1) := by decide +kernel
theorem dX10_imageOne_5 : decode cX10_imageOne 5 = .ok (.iconst 0, 1) := by decide +kernel
theorem dX10_imageOne_6 : decode cX10_imageOne 6 = .ok (.aload_n 0, 1) := by decide +kernel
theorem dX10_imageOne_7 : decode cX10_imageOne 7 = .ok (.getfield 21, 3) := by decide +kernel
theorem dX10_imageOne_10 : decode cX10_imageOne 10 = .ok (.arraylength, 1) := by decide +kernel
theorem dX10_imageOne_11 : decode cX10_imageOne 11 = .ok (.iconst 5, 1) := by decide +kernel
theorem dX10_imageOne_12 : decode cX10_imageOne 12 = .ok (.isub, 1) := by decide +kernel
theorem dX10_imageOne_13 : decode cX10_imageOne 13 = .ok (.invokestatic 60, 3) := by decide +kernel
theorem dX10_imageOne_16 : decode cX10_imageOne 16 = .ok (.ifCond .ne 4, 3) := by decide +kernel
theorem dX10_imageOne_19 : decode cX10_imageOne 19 = .ok (.return_, 1) := by decide +kernel
theorem dX10_imageOne_20 : decode cX10_imageOne 20 = .ok (.aload_n 0, 1) := by decide +kernel
theorem dX10_imageOne_21 : decode cX10_imageOne 21 = .ok (.getfield 21, 3) := by decide +kernel
theorem dX10_imageOne_24 : decode cX10_imageOne 24 = .ok (.iload_n 2, 1) := by decide +kernel
theorem dX10_imageOne_25 : decode cX10_imageOne 25 = .ok (.aload_n 1, 1) := by decide +kernel
theorem dX10_imageOne_26 : decode cX10_imageOne 26 = .ok (.getfield 93, 3) := by decide +kernel
theorem dX10_imageOne_29 : decode cX10_imageOne 29 = .ok (.iastore, 1) := by decide +kernel
theorem dX10_imageOne_30 : decode cX10_imageOne 30 = .ok (.aload_n 0, 1) := by decide +kernel
theorem dX10_imageOne_31 : decode cX10_imageOne 31 = .ok (.getfield 21, 3) := by decide +kernel
theorem dX10_imageOne_34 : decode cX10_imageOne 34 = .ok (.iload_n 2, 1) := by decide +kernel
theorem dX10_imageOne_35 : decode cX10_imageOne 35 = .ok (.iconst 1, 1) := by decide +kernel
theorem dX10_imageOne_36 : decode cX10_imageOne 36 = .ok (.iadd, 1) := by decide +kernel
theorem dX10_imageOne_37 : decode cX10_imageOne 37 = .ok (.aload_n 1, 1) := by decide +kernel
theorem dX10_imageOne_38 : decode cX10_imageOne 38 = .ok (.getfield 96, 3) := by decide +kernel
theorem dX10_imageOne_41 : decode cX10_imageOne 41 = .ok (.iastore, 1) := by decide +kernel
theorem dX10_imageOne_42 : decode cX10_imageOne 42 = .ok (.aload_n 0, 1) := by decide +kernel
theorem dX10_imageOne_43 : decode cX10_imageOne 43 = .ok (.getfield 21, 3) := by decide +kernel
theorem dX10_imageOne_46 : decode cX10_imageOne 46 = .ok (.iload_n 2, 1) := by decide +kernel
theorem dX10_imageOne_47 : decode cX10_imageOne 47 = .ok (.iconst 2, 1) := by decide +kernel
theorem dX10_imageOne_48 : decode cX10_imageOne 48 = .ok (.iadd, 1) := by decide +kernel
theorem dX10_imageOne_49 : decode cX10_imageOne 49 = .ok (.aload_n 1, 1) := by decide +kernel
theorem dX10_imageOne_50 : decode cX10_imageOne 50 = .ok (.getfield 90, 3) := by decide +kernel
theorem dX10_imageOne_53 : decode cX10_imageOne 53 = .ok (.iastore, 1) := by decide +kernel
theorem dX10_imageOne_54 : decode cX10_imageOne 54 = .ok (.aload_n 0, 1) := by decide +kernel
theorem dX10_imageOne_55 : decode cX10_imageOne 55 = .ok (.getfield 21, 3) := by decide +kernel
theorem dX10_imageOne_58 : decode cX10_imageOne 58 = .ok (.iload_n 2, 1) := by decide +kernel
theorem dX10_imageOne_59 : decode cX10_imageOne 59 = .ok (.iconst 3, 1) := by decide +kernel
theorem dX10_imageOne_60 : decode cX10_imageOne 60 = .ok (.iadd, 1) := by decide +kernel
theorem dX10_imageOne_61 : decode cX10_imageOne 61 = .ok (.aload_n 1, 1) := by decide +kernel
theorem dX10_imageOne_62 : decode cX10_imageOne 62 = .ok (.getfield 84, 3) := by decide +kernel
theorem dX10_imageOne_65 : decode cX10_imageOne 65 = .ok (.iastore, 1) := by decide +kernel
theorem dX10_imageOne_66 : decode cX10_imageOne 66 = .ok (.aload_n 0, 1) := by decide +kernel
theorem dX10_imageOne_67 : decode cX10_imageOne 67 = .ok (.getfield 21, 3) := by decide +kernel
theorem dX10_imageOne_70 : decode cX10_imageOne 70 = .ok (.iload_n 2, 1) := by decide +kernel
theorem dX10_imageOne_71 : decode cX10_imageOne 71 = .ok (.iconst 4, 1) := by decide +kernel
theorem dX10_imageOne_72 : decode cX10_imageOne 72 = .ok (.iadd, 1) := by decide +kernel
theorem dX10_imageOne_73 : decode cX10_imageOne 73 = .ok (.aload_n 1, 1) := by decide +kernel
theorem dX10_imageOne_74 : decode cX10_imageOne 74 = .ok (.getfield 87, 3) := by decide +kernel
theorem dX10_imageOne_77 : decode cX10_imageOne 77 = .ok (.iastore, 1) := by decide +kernel
theorem dX10_imageOne_78 : decode cX10_imageOne 78 = .ok (.return_, 1) := by decide +kernel
theorem dX10_imagedAt_0 : decode cX10_imagedAt 0 = .ok (.iload_n 1, 1) := by decide +kernel
theorem dX10_imagedAt_1 : decode cX10_imagedAt 1 = .ok (.iconst 0, 1) := by decide +kernel
theorem dX10_imagedAt_2 : decode cX10_imagedAt 2 = .ok (.aload_n 0, 1) := by decide +kernel
theorem dX10_imagedAt_3 : decode cX10_imagedAt 3 = .ok (.getfield 21, 3) := by decide +kernel
theorem dX10_imagedAt_6 : decode cX10_imagedAt 6 = .ok (.arraylength, 1) := by decide +kernel
theorem dX10_imagedAt_7 : decode cX10_imagedAt 7 = .ok (.iconst 5, 1) := by decide +kernel
theorem dX10_imagedAt_8 : decode cX10_imagedAt 8 = .ok (.isub, 1) := by decide +kernel
theorem dX10_imagedAt_9 : decode cX10_imagedAt 9 = .ok (.invokestatic 60, 3) := by decide +kernel
theorem dX10_imagedAt_12 : decode cX10_imagedAt 12 = .ok (.ifCond .ne 5, 3) := by decide +kernel
theorem dX10_imagedAt_15 : decode cX10_imagedAt 15 = .ok (.aconst_null, 1) := by decide +kernel
theorem dX10_imagedAt_16 : decode cX10_imagedAt 16 = .ok (.areturn, 1) := by decide +kernel
theorem dX10_imagedAt_17 : decode cX10_imagedAt 17 = .ok (.aload_n 0, 1) := by decide +kernel
theorem dX10_imagedAt_18 : decode cX10_imagedAt 18 = .ok (.getfield 21, 3) := by decide +kernel
theorem dX10_imagedAt_21 : decode cX10_imagedAt 21 = .ok (.iload_n 1, 1) := by decide +kernel
theorem dX10_imagedAt_22 : decode cX10_imagedAt 22 = .ok (.iaload, 1) := by decide +kernel
theorem dX10_imagedAt_23 : decode cX10_imagedAt 23 = .ok (.aload_n 0, 1) := by decide +kernel
theorem dX10_imagedAt_24 : decode cX10_imagedAt 24 = .ok (.getfield 21, 3) := by decide +kernel
theorem dX10_imagedAt_27 : decode cX10_imagedAt 27 = .ok (.iload_n 1, 1) := by decide +kernel
theorem dX10_imagedAt_28 : decode cX10_imagedAt 28 = .ok (.iconst 1, 1) := by decide +kernel
theorem dX10_imagedAt_29 : decode cX10_imagedAt 29 = .ok (.iadd, 1) := by decide +kernel
theorem dX10_imagedAt_30 : decode cX10_imagedAt 30 = .ok (.iaload, 1) := by decide +kernel
theorem dX10_imagedAt_31 : decode cX10_imagedAt 31 = .ok (.aload_n 0, 1) := by decide +kernel
theorem dX10_imagedAt_32 : decode cX10_imagedAt 32 = .ok (.getfield 21, 3) := by decide +kernel
theorem dX10_imagedAt_35 : decode cX10_imagedAt 35 = .ok (.iload_n 1, 1) := by decide +kernel
theorem dX10_imagedAt_36 : decode cX10_imagedAt 36 = .ok (.iconst 2, 1) := by decide +kernel
theorem dX10_imagedAt_37 : decode cX10_imagedAt 37 = .ok (.iadd, 1) := by decide +kernel
theorem dX10_imagedAt_38 : decode cX10_imagedAt 38 = .ok (.iaload, 1) := by decide +kernel
theorem dX10_imagedAt_39 : decode cX10_imagedAt 39 = .ok (.aload_n 0, 1) := by decide +kernel
theorem dX10_imagedAt_40 : decode cX10_imagedAt 40 = .ok (.getfield 21, 3) := by decide +kernel
theorem dX10_imagedAt_43 : decode cX10_imagedAt 43 = .ok (.iload_n 1, 1) := by decide +kernel
theorem dX10_imagedAt_44 : decode cX10_imagedAt 44 = .ok (.iconst 3, 1) := by decide +kernel
theorem dX10_imagedAt_45 : decode cX10_imagedAt 45 = .ok (.iadd, 1) := by decide +kernel
theorem dX10_imagedAt_46 : decode cX10_imagedAt 46 = .ok (.iaload, 1) := by decide +kernel
theorem dX10_imagedAt_47 : decode cX10_imagedAt 47 = .ok (.aload_n 0, 1) := by decide +kernel
theorem dX10_imagedAt_48 : decode cX10_imagedAt 48 = .ok (.getfield 21, 3) := by decide +kernel
theorem dX10_imagedAt_51 : decode cX10_imagedAt 51 = .ok (.iload_n 1, 1) := by decide +kernel
theorem dX10_imagedAt_52 : decode cX10_imagedAt 52 = .ok (.iconst 4, 1) := by decide +kernel
theorem dX10_imagedAt_53 : decode cX10_imagedAt 53 = .ok (.iadd, 1) := by decide +kernel
theorem dX10_imagedAt_54 : decode cX10_imagedAt 54 = .ok (.iaload, 1) := by decide +kernel
theorem dX10_imagedAt_55 : decode cX10_imagedAt 55 = .ok (.invokestatic 68, 3) := by decide +kernel
theorem dX10_imagedAt_58 : decode cX10_imagedAt 58 = .ok (.areturn, 1) := by decide +kernel
theorem dX10_tell_0 : decode cX10_tell 0 = .ok (.lconst 0, 1) := by decide +kernel
theorem dX10_tell_1 : decode cX10_tell 1 = .ok (.lstore_n 2, 1) := by decide +kernel
theorem dX10_tell_2 : decode cX10_tell 2 = .ok (.iconst 0, 1) := by decide +kernel
theorem dX10_tell_3 : decode cX10_tell 3 = .ok (.istore 4, 2) := by decide +kernel
theorem dX10_tell_5 : decode cX10_tell 5 = .ok (.iload 4, 2) := by decide +kernel
theorem dX10_tell_7 : decode cX10_tell 7 = .ok (.iload_n 1, 1) := by decide +kernel
theorem dX10_tell_8 : decode cX10_tell 8 = .ok (.if_icmp .ge 20, 3) := by decide +kernel
theorem dX10_tell_11 : decode cX10_tell 11 = .ok (.lload_n 2, 1) := by decide +kernel
theorem dX10_tell_12 : decode cX10_tell 12 = .ok (.aload_n 0, 1) := by decide +kernel
theorem dX10_tell_13 : decode cX10_tell 13 = .ok (.invokevirtual 313, 3) := by decide +kernel
theorem dX10_tell_16 : decode cX10_tell 16 = .ok (.i2l, 1) := by decide +kernel
theorem dX10_tell_17 : decode cX10_tell 17 = .ok (.iload 4, 2) := by decide +kernel
theorem dX10_tell_19 : decode cX10_tell 19 = .ok (.lshl, 1) := by decide +kernel
theorem dX10_tell_20 : decode cX10_tell 20 = .ok (.lor, 1) := by decide +kernel
theorem dX10_tell_21 : decode cX10_tell 21 = .ok (.lstore_n 2, 1) := by decide +kernel
theorem dX10_tell_22 : decode cX10_tell 22 = .ok (.iinc 4 1, 3) := by decide +kernel
theorem dX10_tell_25 : decode cX10_tell 25 = .ok (.goto (-20), 3) := by decide +kernel
theorem dX10_tell_28 : decode cX10_tell 28 = .ok (.lload_n 2, 1) := by decide +kernel
theorem dX10_tell_29 : decode cX10_tell 29 = .ok (.lreturn, 1) := by decide +kernel
theorem dX10_tellAll_0 : decode cX10_tellAll 0 = .ok (.iconst 0, 1) := by decide +kernel
theorem dX10_tellAll_1 : decode cX10_tellAll 1 = .ok (.istore_n 2, 1) := by decide +kernel
theorem dX10_tellAll_2 : decode cX10_tellAll 2 = .ok (.iload_n 2, 1) := by decide +kernel
theorem dX10_tellAll_3 : decode cX10_tellAll 3 = .ok (.aload_n 0, 1) := by decide +kernel
theorem dX10_tellAll_4 : decode cX10_tellAll 4 = .ok (.getfield 55, 3) := by decide +kernel
theorem dX10_tellAll_7 : decode cX10_tellAll 7 = .ok (.arraylength, 1) := by decide +kernel
theorem dX10_tellAll_8 : decode cX10_tellAll 8 = .ok (.if_icmp .ge 37, 3) := by decide +kernel
theorem dX10_tellAll_11 : decode cX10_tellAll 11 = .ok (.aload_n 0, 1) := by decide +kernel
theorem dX10_tellAll_12 : decode cX10_tellAll 12 = .ok (.iload_n 2, 1) := by decide +kernel
theorem dX10_tellAll_13 : decode cX10_tellAll 13 = .ok (.invokevirtual 76, 3) := by decide +kernel
theorem dX10_tellAll_16 : decode cX10_tellAll 16 = .ok (.astore_n 3, 1) := by decide +kernel
theorem dX10_tellAll_17 : decode cX10_tellAll 17 = .ok (.aload_n 0, 1) := by decide +kernel
theorem dX10_tellAll_18 : decode cX10_tellAll 18 = .ok (.getfield 55, 3) := by decide +kernel
theorem dX10_tellAll_21 : decode cX10_tellAll 21 = .ok (.iload_n 2, 1) := by decide +kernel
theorem dX10_tellAll_22 : decode cX10_tellAll 22 = .ok (.aload_n 3, 1) := by decide +kernel
theorem dX10_tellAll_23 : decode cX10_tellAll 23 = .ok (.ifnonnull 7, 3) := by decide +kernel
theorem dX10_tellAll_26 : decode cX10_tellAll 26 = .ok (.lconst 0, 1) := by decide +kernel
theorem dX10_tellAll_27 : decode cX10_tellAll 27 = .ok (.goto 11, 3) := by decide +kernel
theorem dX10_tellAll_30 : decode cX10_tellAll 30 = .ok (.aload_n 3, 1) := by decide +kernel
theorem dX10_tellAll_31 : decode cX10_tellAll 31 = .ok (.invokestatic 114, 3) := by decide +kernel
theorem dX10_tellAll_34 : decode cX10_tellAll 34 = .ok (.iload_n 1, 1) := by decide +kernel
theorem dX10_tellAll_35 : decode cX10_tellAll 35 = .ok (.invokestatic 110, 3) := by decide +kernel
theorem dX10_tellAll_38 : decode cX10_tellAll 38 = .ok (.lastore, 1) := by decide +kernel
theorem dX10_tellAll_39 : decode cX10_tellAll 39 = .ok (.iinc 2 1, 3) := by decide +kernel
theorem dX10_tellAll_42 : decode cX10_tellAll 42 = .ok (.goto (-40), 3) := by decide +kernel
theorem dX10_tellAll_45 : decode cX10_tellAll 45 = .ok (.return_, 1) := by decide +kernel
theorem dX10_toldTogether_0 : decode cX10_toldTogether 0 = .ok (.iconst 0, 1) := by decide +kernel
theorem dX10_toldTogether_1 : decode cX10_toldTogether 1 = .ok (.istore_n 3, 1) := by decide +kernel
theorem dX10_toldTogether_2 : decode cX10_toldTogether 2 = .ok (.iconst 0, 1) := by decide +kernel
theorem dX10_toldTogether_3 : decode cX10_toldTogether 3 = .ok (.istore 4, 2) := by decide +kernel
theorem dX10_toldTogether_5 : decode cX10_toldTogether 5 = .ok (.iload 4, 2) := by decide +kernel
theorem dX10_toldTogether_7 : decode cX10_toldTogether 7 = .ok (.aload_n 0, 1) := by decide +kernel
theorem dX10_toldTogether_8 : decode cX10_toldTogether 8 = .ok (.getfield 55, 3) := by decide +kernel
theorem dX10_toldTogether_11 : decode cX10_toldTogether 11 = .ok (.arraylength, 1) := by decide +kernel
theorem dX10_toldTogether_12 : decode cX10_toldTogether 12 = .ok (.if_icmp .ge 34, 3) := by decide +kernel
theorem dX10_toldTogether_15 : decode cX10_toldTogether 15 = .ok (.iload_n 1, 1) := by decide +kernel
theorem dX10_toldTogether_16 : decode cX10_toldTogether 16 = .ok (.iload 4, 2) := by decide +kernel
theorem dX10_toldTogether_18 : decode cX10_toldTogether 18 = .ok (.ishr, 1) := by decide +kernel
theorem dX10_toldTogether_19 : decode cX10_toldTogether 19 = .ok (.iconst 1, 1) := by decide +kernel
theorem dX10_toldTogether_20 : decode cX10_toldTogether 20 = .ok (.iand, 1) := by decide +kernel
theorem dX10_toldTogether_21 : decode cX10_toldTogether 21 = .ok (.iconst 1, 1) := by decide +kernel
theorem dX10_toldTogether_22 : decode cX10_toldTogether 22 = .ok (.if_icmp .ne 18, 3) := by decide +kernel
theorem dX10_toldTogether_25 : decode cX10_toldTogether 25 = .ok (.iload_n 3, 1) := by decide +kernel
theorem dX10_toldTogether_26 : decode cX10_toldTogether 26 = .ok (.aload_n 0, 1) := by decide +kernel
theorem dX10_toldTogether_27 : decode cX10_toldTogether 27 = .ok (.getfield 55, 3) := by decide +kernel
theorem dX10_toldTogether_30 : decode cX10_toldTogether 30 = .ok (.iload 4, 2) := by decide +kernel
theorem dX10_toldTogether_32 : decode cX10_toldTogether 32 = .ok (.laload, 1) := by decide +kernel
theorem dX10_toldTogether_33 : decode cX10_toldTogether 33 = .ok (.iload_n 2, 1) := by decide +kernel
theorem dX10_toldTogether_34 : decode cX10_toldTogether 34 = .ok (.lushr, 1) := by decide +kernel
theorem dX10_toldTogether_35 : decode cX10_toldTogether 35 = .ok (.lconst 1, 1) := by decide +kernel
theorem dX10_toldTogether_36 : decode cX10_toldTogether 36 = .ok (.land, 1) := by decide +kernel
theorem dX10_toldTogether_37 : decode cX10_toldTogether 37 = .ok (.l2i, 1) := by decide +kernel
theorem dX10_toldTogether_38 : decode cX10_toldTogether 38 = .ok (.iadd, 1) := by decide +kernel
theorem dX10_toldTogether_39 : decode cX10_toldTogether 39 = .ok (.istore_n 3, 1) := by decide +kernel
theorem dX10_toldTogether_40 : decode cX10_toldTogether 40 = .ok (.iinc 4 1, 3) := by decide +kernel
theorem dX10_toldTogether_43 : decode cX10_toldTogether 43 = .ok (.goto (-38), 3) := by decide +kernel
theorem dX10_toldTogether_46 : decode cX10_toldTogether 46 = .ok (.iload_n 3, 1) := by decide +kernel
theorem dX10_toldTogether_47 : decode cX10_toldTogether 47 = .ok (.ireturn, 1) := by decide +kernel
theorem dX10_stepsRound_0 : decode cX10_stepsRound 0 = .ok (.aload_n 0, 1) := by decide +kernel
theorem dX10_stepsRound_1 : decode cX10_stepsRound 1 = .ok (.invokestatic 114, 3) := by decide +kernel
theorem dX10_stepsRound_4 : decode cX10_stepsRound 4 = .ok (.astore_n 1, 1) := by decide +kernel
theorem dX10_stepsRound_5 : decode cX10_stepsRound 5 = .ok (.aload_n 0, 1) := by decide +kernel
theorem dX10_stepsRound_6 : decode cX10_stepsRound 6 = .ok (.invokestatic 114, 3) := by decide +kernel
theorem dX10_stepsRound_9 : decode cX10_stepsRound 9 = .ok (.astore_n 2, 1) := by decide +kernel
theorem dX10_stepsRound_10 : decode cX10_stepsRound 10 = .ok (.aload_n 2, 1) := by decide +kernel
theorem dX10_stepsRound_11 : decode cX10_stepsRound 11 = .ok (.invokevirtual 313, 3) := by decide +kernel
theorem dX10_stepsRound_14 : decode cX10_stepsRound 14 = .ok (.pop, 1) := by decide +kernel
theorem dX10_stepsRound_15 : decode cX10_stepsRound 15 = .ok (.iconst 1, 1) := by decide +kernel
theorem dX10_stepsRound_16 : decode cX10_stepsRound 16 = .ok (.istore_n 3, 1) := by decide +kernel
theorem dX10_stepsRound_17 : decode cX10_stepsRound 17 = .ok (.iconst 1, 1) := by decide +kernel
theorem dX10_stepsRound_18 : decode cX10_stepsRound 18 = .ok (.istore 4, 2) := by decide +kernel
theorem dX10_stepsRound_20 : decode cX10_stepsRound 20 = .ok (.iconst 0, 1) := by decide +kernel
theorem dX10_stepsRound_21 : decode cX10_stepsRound 21 = .ok (.istore 5, 2) := by decide +kernel
theorem dX10_stepsRound_23 : decode cX10_stepsRound 23 = .ok (.iload 5, 2) := by decide +kernel
theorem dX10_stepsRound_25 : decode cX10_stepsRound 25 = .ok (.ldc 152, 2) := by decide +kernel
theorem dX10_stepsRound_27 : decode cX10_stepsRound 27 = .ok (.if_icmp .ge 55, 3) := by decide +kernel
theorem dX10_stepsRound_30 : decode cX10_stepsRound 30 = .ok (.aload_n 2, 1) := by decide +kernel
theorem dX10_stepsRound_31 : decode cX10_stepsRound 31 = .ok (.aload_n 1, 1) := by decide +kernel
theorem dX10_stepsRound_32 : decode cX10_stepsRound 32 = .ok (.invokevirtual 316, 3) := by decide +kernel
theorem dX10_stepsRound_35 : decode cX10_stepsRound 35 = .ok (.ifCond .ne 47, 3) := by decide +kernel
theorem dX10_stepsRound_38 : decode cX10_stepsRound 38 = .ok (.iload_n 3, 1) := by decide +kernel
theorem dX10_stepsRound_39 : decode cX10_stepsRound 39 = .ok (.iload 4, 2) := by decide +kernel
theorem dX10_stepsRound_41 : decode cX10_stepsRound 41 = .ok (.if_icmp .ne 27, 3) := by decide +kernel
theorem dX10_stepsRound_44 : decode cX10_stepsRound 44 = .ok (.aload_n 1, 1) := by decide +kernel
theorem dX10_stepsRound_45 : decode cX10_stepsRound 45 = .ok (.aload_n 2, 1) := by decide +kernel
theorem dX10_stepsRound_46 : decode cX10_stepsRound 46 = .ok (.getfield 84, 3) := by decide +kernel
theorem dX10_stepsRound_49 : decode cX10_stepsRound 49 = .ok (.putfield 84, 3) := by decide +kernel
theorem dX10_stepsRound_52 : decode cX10_stepsRound 52 = .ok (.aload_n 1, 1) := by decide +kernel
theorem dX10_stepsRound_53 : decode cX10_stepsRound 53 = .ok (.aload_n 2, 1) := by decide +kernel
theorem dX10_stepsRound_54 : decode cX10_stepsRound 54 = .ok (.getfield 87, 3) := by decide +kernel
theorem dX10_stepsRound_57 : decode cX10_stepsRound 57 = .ok (.putfield 87, 3) := by decide +kernel
theorem dX10_stepsRound_60 : decode cX10_stepsRound 60 = .ok (.iload 4, 2) := by decide +kernel
theorem dX10_stepsRound_62 : decode cX10_stepsRound 62 = .ok (.iconst 2, 1) := by decide +kernel
theorem dX10_stepsRound_63 : decode cX10_stepsRound 63 = .ok (.imul, 1) := by decide +kernel
theorem dX10_stepsRound_64 : decode cX10_stepsRound 64 = .ok (.istore 4, 2) := by decide +kernel
theorem dX10_stepsRound_66 : decode cX10_stepsRound 66 = .ok (.iconst 0, 1) := by decide +kernel
theorem dX10_stepsRound_67 : decode cX10_stepsRound 67 = .ok (.istore_n 3, 1) := by decide +kernel
theorem dX10_stepsRound_68 : decode cX10_stepsRound 68 = .ok (.aload_n 2, 1) := by decide +kernel
theorem dX10_stepsRound_69 : decode cX10_stepsRound 69 = .ok (.invokevirtual 313, 3) := by decide +kernel
theorem dX10_stepsRound_72 : decode cX10_stepsRound 72 = .ok (.pop, 1) := by decide +kernel
theorem dX10_stepsRound_73 : decode cX10_stepsRound 73 = .ok (.iinc 3 1, 3) := by decide +kernel
theorem dX10_stepsRound_76 : decode cX10_stepsRound 76 = .ok (.iinc 5 1, 3) := by decide +kernel
theorem dX10_stepsRound_79 : decode cX10_stepsRound 79 = .ok (.goto (-56), 3) := by decide +kernel
theorem dX10_stepsRound_82 : decode cX10_stepsRound 82 = .ok (.iload_n 3, 1) := by decide +kernel
theorem dX10_stepsRound_83 : decode cX10_stepsRound 83 = .ok (.ireturn, 1) := by decide +kernel
theorem dX10_stepsAhead_0 : decode cX10_stepsAhead 0 = .ok (.aload_n 0, 1) := by decide +kernel
theorem dX10_stepsAhead_1 : decode cX10_stepsAhead 1 = .ok (.invokestatic 114, 3) := by decide +kernel
theorem dX10_stepsAhead_4 : decode cX10_stepsAhead 4 = .ok (.astore_n 2, 1) := by decide +kernel
theorem dX10_stepsAhead_5 : decode cX10_stepsAhead 5 = .ok (.aload_n 0, 1) := by decide +kernel
theorem dX10_stepsAhead_6 : decode cX10_stepsAhead 6 = .ok (.invokestatic 114, 3) := by decide +kernel
theorem dX10_stepsAhead_9 : decode cX10_stepsAhead 9 = .ok (.astore_n 3, 1) := by decide +kernel
theorem dX10_stepsAhead_10 : decode cX10_stepsAhead 10 = .ok (.iconst 0, 1) := by decide +kernel
theorem dX10_stepsAhead_11 : decode cX10_stepsAhead 11 = .ok (.istore 4, 2) := by decide +kernel
theorem dX10_stepsAhead_13 : decode cX10_stepsAhead 13 = .ok (.iload 4, 2) := by decide +kernel
theorem dX10_stepsAhead_15 : decode cX10_stepsAhead 15 = .ok (.iload_n 1, 1) := by decide +kernel
theorem dX10_stepsAhead_16 : decode cX10_stepsAhead 16 = .ok (.if_icmp .ge 14, 3) := by decide +kernel
theorem dX10_stepsAhead_19 : decode cX10_stepsAhead 19 = .ok (.aload_n 3, 1) := by decide +kernel
theorem dX10_stepsAhead_20 : decode cX10_stepsAhead 20 = .ok (.invokevirtual 313, 3) := by decide +kernel
theorem dX10_stepsAhead_23 : decode cX10_stepsAhead 23 = .ok (.pop, 1) := by decide +kernel
theorem dX10_stepsAhead_24 : decode cX10_stepsAhead 24 = .ok (.iinc 4 1, 3) := by decide +kernel
theorem dX10_stepsAhead_27 : decode cX10_stepsAhead 27 = .ok (.goto (-14), 3) := by decide +kernel
theorem dX10_stepsAhead_30 : decode cX10_stepsAhead 30 = .ok (.iconst 0, 1) := by decide +kernel
theorem dX10_stepsAhead_31 : decode cX10_stepsAhead 31 = .ok (.istore 4, 2) := by decide +kernel
