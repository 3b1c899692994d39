theorem dX10_stepsAhead_33 : decode cX10_stepsAhead 33 = .ok (.iload 4, 2) := by decide +kernel
theorem dX10_stepsAhead_35 : decode cX10_stepsAhead 35 = .ok (.ldc 152, 2) := by decide +kernel
theorem dX10_stepsAhead_37 : decode cX10_stepsAhead 37 = .ok (.if_icmp .ge 27, 3) := by decide +kernel
theorem dX10_stepsAhead_40 : decode cX10_stepsAhead 40 = .ok (.aload_n 3, 1) := by decide +kernel
theorem dX10_stepsAhead_41 : decode cX10_stepsAhead 41 = .ok (.aload_n 2, 1) := by decide +kernel
theorem dX10_stepsAhead_42 : decode cX10_stepsAhead 42 = .ok (.invokevirtual 316, 3) := by decide +kernel
theorem dX10_stepsAhead_45 : decode cX10_stepsAhead 45 = .ok (.ifCond .ne 19, 3) := by decide +kernel
theorem dX10_stepsAhead_48 : decode cX10_stepsAhead 48 = .ok (.aload_n 2, 1) := by decide +kernel
theorem dX10_stepsAhead_49 : decode cX10_stepsAhead 49 = .ok (.invokevirtual 313, 3) := by decide +kernel
theorem dX10_stepsAhead_52 : decode cX10_stepsAhead 52 = .ok (.pop, 1) := by decide +kernel
theorem dX10_stepsAhead_53 : decode cX10_stepsAhead 53 = .ok (.aload_n 3, 1) := by decide +kernel
theorem dX10_stepsAhead_54 : decode cX10_stepsAhead 54 = .ok (.invokevirtual 313, 3) := by decide +kernel
theorem dX10_stepsAhead_57 : decode cX10_stepsAhead 57 = .ok (.pop, 1) := by decide +kernel
theorem dX10_stepsAhead_58 : decode cX10_stepsAhead 58 = .ok (.iinc 4 1, 3) := by decide +kernel
theorem dX10_stepsAhead_61 : decode cX10_stepsAhead 61 = .ok (.goto (-28), 3) := by decide +kernel
theorem dX10_stepsAhead_64 : decode cX10_stepsAhead 64 = .ok (.iload 4, 2) := by decide +kernel
theorem dX10_stepsAhead_66 : decode cX10_stepsAhead 66 = .ok (.ireturn, 1) := by decide +kernel
theorem dX10_tellsRow_0 : decode cX10_tellsRow 0 = .ok (.iconst 0, 1) := by decide +kernel
theorem dX10_tellsRow_1 : decode cX10_tellsRow 1 = .ok (.istore 4, 2) := by decide +kernel
theorem dX10_tellsRow_3 : decode cX10_tellsRow 3 = .ok (.iload 4, 2) := by decide +kernel
theorem dX10_tellsRow_5 : decode cX10_tellsRow 5 = .ok (.iload_n 3, 1) := by decide +kernel
theorem dX10_tellsRow_6 : decode cX10_tellsRow 6 = .ok (.if_icmp .ge 25, 3) := by decide +kernel
theorem dX10_tellsRow_9 : decode cX10_tellsRow 9 = .ok (.aload_n 0, 1) := by decide +kernel
theorem dX10_tellsRow_10 : decode cX10_tellsRow 10 = .ok (.invokevirtual 313, 3) := by decide +kernel
theorem dX10_tellsRow_13 : decode cX10_tellsRow 13 = .ok (.lload_n 1, 1) := by decide +kernel
theorem dX10_tellsRow_14 : decode cX10_tellsRow 14 = .ok (.iload 4, 2) := by decide +kernel
theorem dX10_tellsRow_16 : decode cX10_tellsRow 16 = .ok (.lushr, 1) := by decide +kernel
theorem dX10_tellsRow_17 : decode cX10_tellsRow 17 = .ok (.lconst 1, 1) := by decide +kernel
theorem dX10_tellsRow_18 : decode cX10_tellsRow 18 = .ok (.land, 1) := by decide +kernel
theorem dX10_tellsRow_19 : decode cX10_tellsRow 19 = .ok (.l2i, 1) := by decide +kernel
theorem dX10_tellsRow_20 : decode cX10_tellsRow 20 = .ok (.if_icmp .eq 5, 3) := by decide +kernel
theorem dX10_tellsRow_23 : decode cX10_tellsRow 23 = .ok (.iconst 0, 1) := by decide +kernel
theorem dX10_tellsRow_24 : decode cX10_tellsRow 24 = .ok (.ireturn, 1) := by decide +kernel
theorem dX10_tellsRow_25 : decode cX10_tellsRow 25 = .ok (.iinc 4 1, 3) := by decide +kernel
theorem dX10_tellsRow_28 : decode cX10_tellsRow 28 = .ok (.goto (-25), 3) := by decide +kernel
theorem dX10_tellsRow_31 : decode cX10_tellsRow 31 = .ok (.iconst 1, 1) := by decide +kernel
theorem dX10_tellsRow_32 : decode cX10_tellsRow 32 = .ok (.ireturn, 1) := by decide +kernel
theorem dX10_firstOtherwise_0 : decode cX10_firstOtherwise 0 = .ok (.aload_n 0, 1) := by decide +kernel
theorem dX10_firstOtherwise_1 : decode cX10_firstOtherwise 1 = .ok (.invokestatic 114, 3) := by decide +kernel
theorem dX10_firstOtherwise_4 : decode cX10_firstOtherwise 4 = .ok (.iload_n 3, 1) := by decide +kernel
theorem dX10_firstOtherwise_5 : decode cX10_firstOtherwise 5 = .ok (.invokestatic 110, 3) := by decide +kernel
theorem dX10_firstOtherwise_8 : decode cX10_firstOtherwise 8 = .ok (.lload_n 1, 1) := by decide +kernel
theorem dX10_firstOtherwise_9 : decode cX10_firstOtherwise 9 = .ok (.lxor, 1) := by decide +kernel
theorem dX10_firstOtherwise_10 : decode cX10_firstOtherwise 10 = .ok (.lstore 4, 2) := by decide +kernel
theorem dX10_firstOtherwise_12 : decode cX10_firstOtherwise 12 = .ok (.lload 4, 2) := by decide +kernel
theorem dX10_firstOtherwise_14 : decode cX10_firstOtherwise 14 = .ok (.lconst 0, 1) := by decide +kernel
theorem dX10_firstOtherwise_15 : decode cX10_firstOtherwise 15 = .ok (.lcmp, 1) := by decide +kernel
theorem dX10_firstOtherwise_16 : decode cX10_firstOtherwise 16 = .ok (.ifCond .ne 7, 3) := by decide +kernel
theorem dX10_firstOtherwise_19 : decode cX10_firstOtherwise 19 = .ok (.iconst (-1), 1) := by decide +kernel
theorem dX10_firstOtherwise_20 : decode cX10_firstOtherwise 20 = .ok (.goto 8, 3) := by decide +kernel
theorem dX10_firstOtherwise_23 : decode cX10_firstOtherwise 23 = .ok (.lload 4, 2) := by decide +kernel
theorem dX10_firstOtherwise_25 : decode cX10_firstOtherwise 25 = .ok (.invokestatic 320, 3) := by decide +kernel
theorem dX10_firstOtherwise_28 : decode cX10_firstOtherwise 28 = .ok (.ireturn, 1) := by decide +kernel
theorem dX10_replayingKinds_0 : decode cX10_replayingKinds 0 = .ok (.iconst 0, 1) := by decide +kernel
theorem dX10_replayingKinds_1 : decode cX10_replayingKinds 1 = .ok (.istore 4, 2) := by decide +kernel
theorem dX10_replayingKinds_3 : decode cX10_replayingKinds 3 = .ok (.iconst 0, 1) := by decide +kernel
theorem dX10_replayingKinds_4 : decode cX10_replayingKinds 4 = .ok (.istore 5, 2) := by decide +kernel
theorem dX10_replayingKinds_6 : decode cX10_replayingKinds 6 = .ok (.iload 5, 2) := by decide +kernel
theorem dX10_replayingKinds_8 : decode cX10_replayingKinds 8 = .ok (.iconst 5, 1) := by decide +kernel
theorem dX10_replayingKinds_9 : decode cX10_replayingKinds 9 = .ok (.if_icmp .gt 47, 3) := by decide +kernel
theorem dX10_replayingKinds_12 : decode cX10_replayingKinds 12 = .ok (.iload 5, 2) := by decide +kernel
theorem dX10_replayingKinds_14 : decode cX10_replayingKinds 14 = .ok (.aload_n 0, 1) := by decide +kernel
theorem dX10_replayingKinds_15 : decode cX10_replayingKinds 15 = .ok (.getfield 96, 3) := by decide +kernel
theorem dX10_replayingKinds_18 : decode cX10_replayingKinds 18 = .ok (.aload_n 0, 1) := by decide +kernel
theorem dX10_replayingKinds_19 : decode cX10_replayingKinds 19 = .ok (.getfield 90, 3) := by decide +kernel
theorem dX10_replayingKinds_22 : decode cX10_replayingKinds 22 = .ok (.aload_n 0, 1) := by decide +kernel
theorem dX10_replayingKinds_23 : decode cX10_replayingKinds 23 = .ok (.getfield 84, 3) := by decide +kernel
theorem dX10_replayingKinds_26 : decode cX10_replayingKinds 26 = .ok (.aload_n 0, 1) := by decide +kernel
theorem dX10_replayingKinds_27 : decode cX10_replayingKinds 27 = .ok (.getfield 87, 3) := by decide +kernel
theorem dX10_replayingKinds_30 : decode cX10_replayingKinds 30 = .ok (.invokestatic 68, 3) := by decide +kernel
theorem dX10_replayingKinds_33 : decode cX10_replayingKinds 33 = .ok (.lload_n 1, 1) := by decide +kernel
theorem dX10_replayingKinds_34 : decode cX10_replayingKinds 34 = .ok (.iload_n 3, 1) := by decide +kernel
theorem dX10_replayingKinds_35 : decode cX10_replayingKinds 35 = .ok (.invokestatic 323, 3) := by decide +kernel
theorem dX10_replayingKinds_38 : decode cX10_replayingKinds 38 = .ok (.ifCond .eq 12, 3) := by decide +kernel
theorem dX10_replayingKinds_41 : decode cX10_replayingKinds 41 = .ok (.iload 4, 2) := by decide +kernel
theorem dX10_replayingKinds_43 : decode cX10_replayingKinds 43 = .ok (.iconst 1, 1) := by decide +kernel
theorem dX10_replayingKinds_44 : decode cX10_replayingKinds 44 = .ok (.iload 5, 2) := by decide +kernel
theorem dX10_replayingKinds_46 : decode cX10_replayingKinds 46 = .ok (.ishl, 1) := by decide +kernel
theorem dX10_replayingKinds_47 : decode cX10_replayingKinds 47 = .ok (.ior, 1) := by decide +kernel
theorem dX10_replayingKinds_48 : decode cX10_replayingKinds 48 = .ok (.istore 4, 2) := by decide +kernel
theorem dX10_replayingKinds_50 : decode cX10_replayingKinds 50 = .ok (.iinc 5 1, 3) := by decide +kernel
theorem dX10_replayingKinds_53 : decode cX10_replayingKinds 53 = .ok (.goto (-47), 3) := by decide +kernel
theorem dX10_replayingKinds_56 : decode cX10_replayingKinds 56 = .ok (.iload 4, 2) := by decide +kernel
theorem dX10_replayingKinds_58 : decode cX10_replayingKinds 58 = .ok (.ireturn, 1) := by decide +kernel
theorem dX10_replayingCarries_0 : decode cX10_replayingCarries 0 = .ok (.aload_n 0, 1) := by decide +kernel
theorem dX10_replayingCarries_1 : decode cX10_replayingCarries 1 = .ok (.invokestatic 114, 3) := by decide +kernel
theorem dX10_replayingCarries_4 : decode cX10_replayingCarries 4 = .ok (.astore 4, 2) := by decide +kernel
theorem dX10_replayingCarries_6 : decode cX10_replayingCarries 6 = .ok (.iconst 0, 1) := by decide +kernel
theorem dX10_replayingCarries_7 : decode cX10_replayingCarries 7 = .ok (.istore 5, 2) := by decide +kernel
theorem dX10_replayingCarries_9 : decode cX10_replayingCarries 9 = .ok (.bipush (-9), 2) := by decide +kernel
theorem dX10_replayingCarries_11 : decode cX10_replayingCarries 11 = .ok (.istore 6, 2) := by decide +kernel
theorem dX10_replayingCarries_13 : decode cX10_replayingCarries 13 = .ok (.iload 6, 2) := by decide +kernel
theorem dX10_replayingCarries_15 : decode cX10_replayingCarries 15 = .ok (.bipush 9, 2) := by decide +kernel
theorem dX10_replayingCarries_17 : decode cX10_replayingCarries 17 = .ok (.if_icmp .gt 47, 3) := by decide +kernel
theorem dX10_replayingCarries_20 : decode cX10_replayingCarries 20 = .ok (.aload 4, 2) := by decide +kernel
theorem dX10_replayingCarries_22 : decode cX10_replayingCarries 22 = .ok (.aload_n 0, 1) := by decide +kernel
theorem dX10_replayingCarries_23 : decode cX10_replayingCarries 23 = .ok (.getfield 84, 3) := by decide +kernel
theorem dX10_replayingCarries_26 : decode cX10_replayingCarries 26 = .ok (.putfield 84, 3) := by decide +kernel
theorem dX10_replayingCarries_29 : decode cX10_replayingCarries 29 = .ok (.aload 4, 2) := by decide +kernel
theorem dX10_replayingCarries_31 : decode cX10_replayingCarries 31 = .ok (.iload 6, 2) := by decide +kernel
theorem dX10_replayingCarries_33 : decode cX10_replayingCarries 33 = .ok (.putfield 87, 3) := by decide +kernel
theorem dX10_replayingCarries_36 : decode cX10_replayingCarries 36 = .ok (.aload 4, 2) := by decide +kernel
theorem dX10_replayingCarries_38 : decode cX10_replayingCarries 38 = .ok (.lload_n 1, 1) := by decide +kernel
theorem dX10_replayingCarries_39 : decode cX10_replayingCarries 39 = .ok (.iload_n 3, 1) := by decide +kernel
theorem dX10_replayingCarries_40 : decode cX10_replayingCarries 40 = .ok (.invokestatic 323, 3) := by decide +kernel
theorem dX10_replayingCarries_43 : decode cX10_replayingCarries 43 = .ok (.ifCond .eq 15, 3) := by decide +kernel
theorem dX10_replayingCarries_46 : decode cX10_replayingCarries 46 = .ok (.iload 5, 2) := by decide +kernel
theorem dX10_replayingCarries_48 : decode cX10_replayingCarries 48 = .ok (.iconst 1, 1) := by decide +kernel
theorem dX10_replayingCarries_49 : decode cX10_replayingCarries 49 = .ok (.iload 6, 2) := by decide +kernel
theorem dX10_replayingCarries_51 : decode cX10_replayingCarries 51 = .ok (.bipush 9, 2) := by decide +kernel
theorem dX10_replayingCarries_53 : decode cX10_replayingCarries 53 = .ok (.iadd, 1) := by decide +kernel
theorem dX10_replayingCarries_54 : decode cX10_replayingCarries 54 = .ok (.ishl, 1) := by decide +kernel
theorem dX10_replayingCarries_55 : decode cX10_replayingCarries 55 = .ok (.ior, 1) := by decide +kernel
theorem dX10_replayingCarries_56 : decode cX10_replayingCarries 56 = .ok (.istore 5, 2) := by decide +kernel
theorem dX10_replayingCarries_58 : decode cX10_replayingCarries 58 = .ok (.iinc 6 1, 3) := by decide +kernel
theorem dX10_replayingCarries_61 : decode cX10_replayingCarries 61 = .ok (.goto (-48), 3) := by decide +kernel
theorem dX10_replayingCarries_64 : decode cX10_replayingCarries 64 = .ok (.iload 5, 2) := by decide +kernel
theorem dX10_replayingCarries_66 : decode cX10_replayingCarries 66 = .ok (.ireturn, 1) := by decide +kernel
theorem dX10_firstReplaying_0 : decode cX10_firstReplaying 0 = .ok (.lload_n 0, 1) := by decide +kernel
theorem dX10_firstReplaying_1 : decode cX10_firstReplaying 1 = .ok (.iload 4, 2) := by decide +kernel
theorem dX10_firstReplaying_3 : decode cX10_firstReplaying 3 = .ok (.invokestatic 64, 3) := by decide +kernel
theorem dX10_firstReplaying_6 : decode cX10_firstReplaying 6 = .ok (.i2l, 1) := by decide +kernel
theorem dX10_firstReplaying_7 : decode cX10_firstReplaying 7 = .ok (.land, 1) := by decide +kernel
theorem dX10_firstReplaying_8 : decode cX10_firstReplaying 8 = .ok (.l2i, 1) := by decide +kernel
theorem dX10_firstReplaying_9 : decode cX10_firstReplaying 9 = .ok (.istore 5, 2) := by decide +kernel
theorem dX10_firstReplaying_11 : decode cX10_firstReplaying 11 = .ok (.iload_n 3, 1) := by decide +kernel
theorem dX10_firstReplaying_12 : decode cX10_firstReplaying 12 = .ok (.iload 4, 2) := by decide +kernel
theorem dX10_firstReplaying_14 : decode cX10_firstReplaying 14 = .ok (.iconst 1, 1) := by decide +kernel
theorem dX10_firstReplaying_15 : decode cX10_firstReplaying 15 = .ok (.iload 5, 2) := by decide +kernel
theorem dX10_firstReplaying_17 : decode cX10_firstReplaying 17 = .ok (.iconst 0, 1) := by decide +kernel
theorem dX10_firstReplaying_18 : decode cX10_firstReplaying 18 = .ok (.invokestatic 68, 3) := by decide +kernel
theorem dX10_firstReplaying_21 : decode cX10_firstReplaying 21 = .ok (.astore 6, 2) := by decide +kernel
theorem dX10_firstReplaying_23 : decode cX10_firstReplaying 23 = .ok (.iconst 1, 1) := by decide +kernel
theorem dX10_firstReplaying_24 : decode cX10_firstReplaying 24 = .ok (.istore 7, 2) := by decide +kernel
theorem dX10_firstReplaying_26 : decode cX10_firstReplaying 26 = .ok (.iload 7, 2) := by decide +kernel
theorem dX10_firstReplaying_28 : decode cX10_firstReplaying 28 = .ok (.iload 4, 2) := by decide +kernel
theorem dX10_firstReplaying_30 : decode cX10_firstReplaying 30 = .ok (.invokestatic 64, 3) := by decide +kernel
theorem dX10_firstReplaying_33 : decode cX10_firstReplaying 33 = .ok (.if_icmp .gt 69, 3) := by decide +kernel
theorem dX10_firstReplaying_36 : decode cX10_firstReplaying 36 = .ok (.aload 6, 2) := by decide +kernel
theorem dX10_firstReplaying_38 : decode cX10_firstReplaying 38 = .ok (.iload 7, 2) := by decide +kernel
theorem dX10_firstReplaying_40 : decode cX10_firstReplaying 40 = .ok (.putfield 90, 3) := by decide +kernel
theorem dX10_firstReplaying_43 : decode cX10_firstReplaying 43 = .ok (.bipush (-9), 2) := by decide +kernel
theorem dX10_firstReplaying_45 : decode cX10_firstReplaying 45 = .ok (.istore 8, 2) := by decide +kernel
theorem dX10_firstReplaying_47 : decode cX10_firstReplaying 47 = .ok (.iload 8, 2) := by decide +kernel
theorem dX10_firstReplaying_49 : decode cX10_firstReplaying 49 = .ok (.bipush 9, 2) := by decide +kernel
theorem dX10_firstReplaying_51 : decode cX10_firstReplaying 51 = .ok (.if_icmp .gt 45, 3) := by decide +kernel
theorem dX10_firstReplaying_54 : decode cX10_firstReplaying 54 = .ok (.aload 6, 2) := by decide +kernel
theorem dX10_firstReplaying_56 : decode cX10_firstReplaying 56 = .ok (.iload 5, 2) := by decide +kernel
theorem dX10_firstReplaying_58 : decode cX10_firstReplaying 58 = .ok (.putfield 84, 3) := by decide +kernel
theorem dX10_firstReplaying_61 : decode cX10_firstReplaying 61 = .ok (.aload 6, 2) := by decide +kernel
theorem dX10_firstReplaying_63 : decode cX10_firstReplaying 63 = .ok (.iload 8, 2) := by decide +kernel
theorem dX10_firstReplaying_65 : decode cX10_firstReplaying 65 = .ok (.putfield 87, 3) := by decide +kernel
theorem dX10_firstReplaying_68 : decode cX10_firstReplaying 68 = .ok (.aload 6, 2) := by decide +kernel
theorem dX10_firstReplaying_70 : decode cX10_firstReplaying 70 = .ok (.lload_n 0, 1) := by decide +kernel
theorem dX10_firstReplaying_71 : decode cX10_firstReplaying 71 = .ok (.iload_n 2, 1) := by decide +kernel
theorem dX10_firstReplaying_72 : decode cX10_firstReplaying 72 = .ok (.invokestatic 323, 3) := by decide +kernel
theorem dX10_firstReplaying_75 : decode cX10_firstReplaying 75 = .ok (.ifCond .eq 15, 3) := by decide +kernel
theorem dX10_firstReplaying_78 : decode cX10_firstReplaying 78 = .ok (.bipush 100, 2) := by decide +kernel
theorem dX10_firstReplaying_80 : decode cX10_firstReplaying 80 = .ok (.iload 7, 2) := by decide +kernel
theorem dX10_firstReplaying_82 : decode cX10_firstReplaying 82 = .ok (.imul, 1) := by decide +kernel
theorem dX10_firstReplaying_83 : decode cX10_firstReplaying 83 = .ok (.iload 8, 2) := by decide +kernel
theorem dX10_firstReplaying_85 : decode cX10_firstReplaying 85 = .ok (.iadd, 1) := by decide +kernel
theorem dX10_firstReplaying_86 : decode cX10_firstReplaying 86 = .ok (.bipush 9, 2) := by decide +kernel
theorem dX10_firstReplaying_88 : decode cX10_firstReplaying 88 = .ok (.iadd, 1) := by decide +kernel
theorem dX10_firstReplaying_89 : decode cX10_firstReplaying 89 = .ok (.ireturn, 1) := by decide +kernel
theorem dX10_firstReplaying_90 : decode cX10_firstReplaying 90 = .ok (.iinc 8 1, 3) := by decide +kernel
theorem dX10_firstReplaying_93 : decode cX10_firstReplaying 93 = .ok (.goto (-46), 3) := by decide +kernel
theorem dX10_firstReplaying_96 : decode cX10_firstReplaying 96 = .ok (.iinc 7 1, 3) := by decide +kernel
theorem dX10_firstReplaying_99 : decode cX10_firstReplaying 99 = .ok (.goto (-73), 3) := by decide +kernel
theorem dX10_firstReplaying_102 : decode cX10_firstReplaying 102 = .ok (.iconst (-1), 1) := by decide +kernel
theorem dX10_firstReplaying_103 : decode cX10_firstReplaying 103 = .ok (.ireturn, 1) := by decide +kernel
theorem dX10_sheetAt_0 : decode cX10_sheetAt 0 = .ok (.iload_n 1, 1) := by decide +kernel
theorem dX10_sheetAt_1 : decode cX10_sheetAt 1 = .ok (.ifCond .lt 21, 3) := by decide +kernel
theorem dX10_sheetAt_4 : decode cX10_sheetAt 4 = .ok (.iload_n 1, 1) := by decide +kernel
theorem dX10_sheetAt_5 : decode cX10_sheetAt 5 = .ok (.aload_n 0, 1) := by decide +kernel
theorem dX10_sheetAt_6 : decode cX10_sheetAt 6 = .ok (.getfield 30, 3) := by decide +kernel
theorem dX10_sheetAt_9 : decode cX10_sheetAt 9 = .ok (.arraylength, 1) := by decide +kernel
theorem dX10_sheetAt_10 : decode cX10_sheetAt 10 = .ok (.if_icmp .ge 12, 3) := by decide +kernel
theorem dX10_sheetAt_13 : decode cX10_sheetAt 13 = .ok (.aload_n 0, 1) := by decide +kernel
theorem dX10_sheetAt_14 : decode cX10_sheetAt 14 = .ok (.getfield 30, 3) := by decide +kernel
theorem dX10_sheetAt_17 : decode cX10_sheetAt 17 = .ok (.iload_n 1, 1) := by decide +kernel
theorem dX10_sheetAt_18 : decode cX10_sheetAt 18 = .ok (.aaload, 1) := by decide +kernel
theorem dX10_sheetAt_19 : decode cX10_sheetAt 19 = .ok (.goto 4, 3) := by decide +kernel
theorem dX10_sheetAt_22 : decode cX10_sheetAt 22 = .ok (.aconst_null, 1) := by decide +kernel
theorem dX10_sheetAt_23 : decode cX10_sheetAt 23 = .ok (.areturn, 1) := by decide +kernel
theorem dX10_isFraction_0 : decode cX10_isFraction 0 = .ok (.iload_n 0, 1) := by decide +kernel
theorem dX10_isFraction_1 : decode cX10_isFraction 1 = .ok (.sipush (-9999), 3) := by decide +kernel
theorem dX10_isFraction_4 : decode cX10_isFraction 4 = .ok (.sipush 9999, 3) := by decide +kernel
theorem dX10_isFraction_7 : decode cX10_isFraction 7 = .ok (.invokestatic 60, 3) := by decide +kernel
theorem dX10_isFraction_10 : decode cX10_isFraction 10 = .ok (.ifCond .eq 18, 3) := by decide +kernel
theorem dX10_isFraction_13 : decode cX10_isFraction 13 = .ok (.iload_n 1, 1) := by decide +kernel
theorem dX10_isFraction_14 : decode cX10_isFraction 14 = .ok (.iconst 1, 1) := by decide +kernel
theorem dX10_isFraction_15 : decode cX10_isFraction 15 = .ok (.sipush 9999, 3) := by decide +kernel
theorem dX10_isFraction_18 : decode cX10_isFraction 18 = .ok (.invokestatic 60, 3) := by decide +kernel
theorem dX10_isFraction_21 : decode cX10_isFraction 21 = .ok (.ifCond .eq 7, 3) := by decide +kernel
theorem dX10_isFraction_24 : decode cX10_isFraction 24 = .ok (.iconst 1, 1) := by decide +kernel
theorem dX10_isFraction_25 : decode cX10_isFraction 25 = .ok (.goto 4, 3) := by decide +kernel
theorem dX10_isFraction_28 : decode cX10_isFraction 28 = .ok (.iconst 0, 1) := by decide +kernel
theorem dX10_isFraction_29 : decode cX10_isFraction 29 = .ok (.ireturn, 1) := by decide +kernel
theorem dX10_behindDigit_0 : decode cX10_behindDigit 0 = .ok (.lload_n 0, 1) := by decide +kernel
theorem dX10_behindDigit_1 : decode cX10_behindDigit 1 = .ok (.lload_n 0, 1) := by decide +kernel
theorem dX10_behindDigit_2 : decode cX10_behindDigit 2 = .ok (.lconst 1, 1) := by decide +kernel
theorem dX10_behindDigit_3 : decode cX10_behindDigit 3 = .ok (.land, 1) := by decide +kernel
theorem dX10_behindDigit_4 : decode cX10_behindDigit 4 = .ok (.lload_n 2, 1) := by decide +kernel
theorem dX10_behindDigit_5 : decode cX10_behindDigit 5 = .ok (.lmul, 1) := by decide +kernel
theorem dX10_behindDigit_6 : decode cX10_behindDigit 6 = .ok (.lsub, 1) := by decide +kernel
theorem dX10_behindDigit_7 : decode cX10_behindDigit 7 = .ok (.iconst 1, 1) := by decide +kernel
theorem dX10_behindDigit_8 : decode cX10_behindDigit 8 = .ok (.lshr, 1) := by decide +kernel
theorem dX10_behindDigit_9 : decode cX10_behindDigit 9 = .ok (.lreturn, 1) := by decide +kernel
theorem dX10_firstDigits_0 : decode cX10_firstDigits 0 = .ok (.lconst 0, 1) := by decide +kernel
theorem dX10_firstDigits_1 : decode cX10_firstDigits 1 = .ok (.lstore 5, 2) := by decide +kernel
theorem dX10_firstDigits_3 : decode cX10_firstDigits 3 = .ok (.lload_n 0, 1) := by decide +kernel
theorem dX10_firstDigits_4 : decode cX10_firstDigits 4 = .ok (.lstore 7, 2) := by decide +kernel
theorem dX10_firstDigits_6 : decode cX10_firstDigits 6 = .ok (.iconst 0, 1) := by decide +kernel
theorem dX10_firstDigits_7 : decode cX10_firstDigits 7 = .ok (.istore 9, 2) := by decide +kernel
theorem dX10_firstDigits_9 : decode cX10_firstDigits 9 = .ok (.iload 9, 2) := by decide +kernel
theorem dX10_firstDigits_11 : decode cX10_firstDigits 11 = .ok (.iload 4, 2) := by decide +kernel
theorem dX10_firstDigits_13 : decode cX10_firstDigits 13 = .ok (.if_icmp .ge 29, 3) := by decide +kernel
theorem dX10_firstDigits_16 : decode cX10_firstDigits 16 = .ok (.lload 5, 2) := by decide +kernel
theorem dX10_firstDigits_18 : decode cX10_firstDigits 18 = .ok (.lload 7, 2) := by decide +kernel
theorem dX10_firstDigits_20 : decode cX10_firstDigits 20 = .ok (.lconst 1, 1) := by decide +kernel
theorem dX10_firstDigits_21 : decode cX10_firstDigits 21 = .ok (.land, 1) := by decide +kernel
theorem dX10_firstDigits_22 : decode cX10_firstDigits 22 = .ok (.iload 9, 2) := by decide +kernel
theorem dX10_firstDigits_24 : decode cX10_firstDigits 24 = .ok (.lshl, 1) := by decide +kernel
theorem dX10_firstDigits_25 : decode cX10_firstDigits 25 = .ok (.lor, 1) := by decide +kernel
theorem dX10_firstDigits_26 : decode cX10_firstDigits 26 = .ok (.lstore 5, 2) := by decide +kernel
theorem dX10_firstDigits_28 : decode cX10_firstDigits 28 = .ok (.lload 7, 2) := by decide +kernel
theorem dX10_firstDigits_30 : decode cX10_firstDigits 30 = .ok (.lload_n 2, 1) := by decide +kernel
theorem dX10_firstDigits_31 : decode cX10_firstDigits 31 = .ok (.invokestatic 153, 3) := by decide +kernel
theorem dX10_firstDigits_34 : decode cX10_firstDigits 34 = .ok (.lstore 7, 2) := by decide +kernel
theorem dX10_firstDigits_36 : decode cX10_firstDigits 36 = .ok (.iinc 9 1, 3) := by decide +kernel
theorem dX10_firstDigits_39 : decode cX10_firstDigits 39 = .ok (.goto (-30), 3) := by decide +kernel
theorem dX10_firstDigits_42 : decode cX10_firstDigits 42 = .ok (.lload 5, 2) := by decide +kernel
theorem dX10_firstDigits_44 : decode cX10_firstDigits 44 = .ok (.lreturn, 1) := by decide +kernel
theorem dX10_digitsRound_0 : decode cX10_digitsRound 0 = .ok (.lload_n 0, 1) := by decide +kernel
theorem dX10_digitsRound_1 : decode cX10_digitsRound 1 = .ok (.lload_n 2, 1) := by decide +kernel
theorem dX10_digitsRound_2 : decode cX10_digitsRound 2 = .ok (.invokestatic 153, 3) := by decide +kernel
theorem dX10_digitsRound_5 : decode cX10_digitsRound 5 = .ok (.lstore 4, 2) := by decide +kernel
theorem dX10_digitsRound_7 : decode cX10_digitsRound 7 = .ok (.iconst 1, 1) := by decide +kernel
theorem dX10_digitsRound_8 : decode cX10_digitsRound 8 = .ok (.istore 6, 2) := by decide +kernel
theorem dX10_digitsRound_10 : decode cX10_digitsRound 10 = .ok (.iload 6, 2) := by decide +kernel
theorem dX10_digitsRound_12 : decode cX10_digitsRound 12 = .ok (.ldc 152, 2) := by decide +kernel
theorem dX10_digitsRound_14 : decode cX10_digitsRound 14 = .ok (.if_icmp .ge 24, 3) := by decide +kernel
theorem dX10_digitsRound_17 : decode cX10_digitsRound 17 = .ok (.lload 4, 2) := by decide +kernel
theorem dX10_digitsRound_19 : decode cX10_digitsRound 19 = .ok (.lload_n 0, 1) := by decide +kernel
theorem dX10_digitsRound_20 : decode cX10_digitsRound 20 = .ok (.lcmp, 1) := by decide +kernel
theorem dX10_digitsRound_21 : decode cX10_digitsRound 21 = .ok (.ifCond .eq 17, 3) := by decide +kernel
theorem dX10_digitsRound_24 : decode cX10_digitsRound 24 = .ok (.lload 4, 2) := by decide +kernel
theorem dX10_digitsRound_26 : decode cX10_digitsRound 26 = .ok (.lload_n 2, 1) := by decide +kernel
theorem dX10_digitsRound_27 : decode cX10_digitsRound 27 = .ok (.invokestatic 153, 3) := by decide +kernel
theorem dX10_digitsRound_30 : decode cX10_digitsRound 30 = .ok (.lstore 4, 2) := by decide +kernel
theorem dX10_digitsRound_32 : decode cX10_digitsRound 32 = .ok (.iinc 6 1, 3) := by decide +kernel
theorem dX10_digitsRound_35 : decode cX10_digitsRound 35 = .ok (.goto (-25), 3) := by decide +kernel
theorem dX10_digitsRound_38 : decode cX10_digitsRound 38 = .ok (.iload 6, 2) := by decide +kernel
theorem dX10_digitsRound_40 : decode cX10_digitsRound 40 = .ok (.ireturn, 1) := by decide +kernel
theorem dX10_binaryDigits_0 : decode cX10_binaryDigits 0 = .ok (.bipush 64, 2) := by decide +kernel
theorem dX10_binaryDigits_2 : decode cX10_binaryDigits 2 = .ok (.lload_n 0, 1) := by decide +kernel
theorem dX10_binaryDigits_3 : decode cX10_binaryDigits 3 = .ok (.invokestatic 327, 3) := by decide +kernel
theorem dX10_binaryDigits_6 : decode cX10_binaryDigits 6 = .ok (.isub, 1) := by decide +kernel
theorem dX10_binaryDigits_7 : decode cX10_binaryDigits 7 = .ok (.ireturn, 1) := by decide +kernel
theorem dX10_commonDivisor_0 : decode cX10_commonDivisor 0 = .ok (.lload_n 0, 1) := by decide +kernel
theorem dX10_commonDivisor_1 : decode cX10_commonDivisor 1 = .ok (.lstore 4, 2) := by decide +kernel
theorem dX10_commonDivisor_3 : decode cX10_commonDivisor 3 = .ok (.lload_n 2, 1) := by decide +kernel
theorem dX10_commonDivisor_4 : decode cX10_commonDivisor 4 = .ok (.lstore 6, 2) := by decide +kernel
theorem dX10_commonDivisor_6 : decode cX10_commonDivisor 6 = .ok (.iconst 0, 1) := by decide +kernel
theorem dX10_commonDivisor_7 : decode cX10_commonDivisor 7 = .ok (.istore 8, 2) := by decide +kernel
theorem dX10_commonDivisor_9 : decode cX10_commonDivisor 9 = .ok (.iload 8, 2) := by decide +kernel
theorem dX10_commonDivisor_11 : decode cX10_commonDivisor 11 = .ok (.ldc 152, 2) := by decide +kernel
theorem dX10_commonDivisor_13 : decode cX10_commonDivisor 13 = .ok (.if_icmp .ge 31, 3) := by decide +kernel
theorem dX10_commonDivisor_16 : decode cX10_commonDivisor 16 = .ok (.lload 6, 2) := by decide +kernel
theorem dX10_commonDivisor_18 : decode cX10_commonDivisor 18 = .ok (.lconst 0, 1) := by decide +kernel
theorem dX10_commonDivisor_19 : decode cX10_commonDivisor 19 = .ok (.lcmp, 1) := by decide +kernel
theorem dX10_commonDivisor_20 : decode cX10_commonDivisor 20 = .ok (.ifCond .eq 24, 3) := by decide +kernel
theorem dX10_commonDivisor_23 : decode cX10_commonDivisor 23 = .ok (.lload 4, 2) := by decide +kernel
theorem dX10_commonDivisor_25 : decode cX10_commonDivisor 25 = .ok (.lload 6, 2) := by decide +kernel
theorem dX10_commonDivisor_27 : decode cX10_commonDivisor 27 = .ok (.lrem, 1) := by decide +kernel
theorem dX10_commonDivisor_28 : decode cX10_commonDivisor 28 = .ok (.lstore 9, 2) := by decide +kernel
theorem dX10_commonDivisor_30 : decode cX10_commonDivisor 30 = .ok (.lload 6, 2) := by decide +kernel
theorem dX10_commonDivisor_32 : decode cX10_commonDivisor 32 = .ok (.lstore 4, 2) := by decide +kernel
theorem dX10_commonDivisor_34 : decode cX10_commonDivisor 34 = .ok (.lload 9, 2) := by decide +kernel
theorem dX10_commonDivisor_36 : decode cX10_commonDivisor 36 = .ok (.lstore 6, 2) := by decide +kernel
theorem dX10_commonDivisor_38 : decode cX10_commonDivisor 38 = .ok (.iinc 8 1, 3) := by decide +kernel
theorem dX10_commonDivisor_41 : decode cX10_commonDivisor 41 = .ok (.goto (-32), 3) := by decide +kernel
theorem dX10_commonDivisor_44 : decode cX10_commonDivisor 44 = .ok (.lload 4, 2) := by decide +kernel
theorem dX10_commonDivisor_46 : decode cX10_commonDivisor 46 = .ok (.lreturn, 1) := by decide +kernel
theorem dX10_inLowestTerms_0 : decode cX10_inLowestTerms 0 = .ok (.lload_n 0, 1) := by decide +kernel
theorem dX10_inLowestTerms_1 : decode cX10_inLowestTerms 1 = .ok (.invokestatic 330, 3) := by decide +kernel
theorem dX10_inLowestTerms_4 : decode cX10_inLowestTerms 4 = .ok (.lload_n 2, 1) := by decide +kernel
theorem dX10_inLowestTerms_5 : decode cX10_inLowestTerms 5 = .ok (.invokestatic 336, 3) := by decide +kernel
theorem dX10_inLowestTerms_8 : decode cX10_inLowestTerms 8 = .ok (.lstore 5, 2) := by decide +kernel
theorem dX10_inLowestTerms_10 : decode cX10_inLowestTerms 10 = .ok (.iload 4, 2) := by decide +kernel
theorem dX10_inLowestTerms_12 : decode cX10_inLowestTerms 12 = .ok (.ifCond .ne 7, 3) := by decide +kernel
theorem dX10_inLowestTerms_15 : decode cX10_inLowestTerms 15 = .ok (.lload_n 0, 1) := by decide +kernel
theorem dX10_inLowestTerms_16 : decode cX10_inLowestTerms 16 = .ok (.goto 4, 3) := by decide +kernel
theorem dX10_inLowestTerms_19 : decode cX10_inLowestTerms 19 = .ok (.lload_n 2, 1) := by decide +kernel
theorem dX10_inLowestTerms_20 : decode cX10_inLowestTerms 20 = .ok (.lstore 7, 2) := by decide +kernel
theorem dX10_inLowestTerms_22 : decode cX10_inLowestTerms 22 = .ok (.lload 5, 2) := by decide +kernel
theorem dX10_inLowestTerms_24 : decode cX10_inLowestTerms 24 = .ok (.lconst 0, 1) := by decide +kernel
theorem dX10_inLowestTerms_25 : decode cX10_inLowestTerms 25 = .ok (.lcmp, 1) := by decide +kernel
theorem dX10_inLowestTerms_26 : decode cX10_inLowestTerms 26 = .ok (.ifCond .le 11, 3) := by decide +kernel
theorem dX10_inLowestTerms_29 : decode cX10_inLowestTerms 29 = .ok (.lload 7, 2) := by decide +kernel
theorem dX10_inLowestTerms_31 : decode cX10_inLowestTerms 31 = .ok (.lload 5, 2) := by decide +kernel
theorem dX10_inLowestTerms_33 : decode cX10_inLowestTerms 33 = .ok (.ldiv, 1) := by decide +kernel
theorem dX10_inLowestTerms_34 : decode cX10_inLowestTerms 34 = .ok (.goto 5, 3) := by decide +kernel
theorem dX10_inLowestTerms_37 : decode cX10_inLowestTerms 37 = .ok (.lload 7, 2) := by decide +kernel
theorem dX10_inLowestTerms_39 : decode cX10_inLowestTerms 39 = .ok (.lreturn, 1) := by decide +kernel
theorem dX10_aboveWithoutCarry_0 : decode cX10_aboveWithoutCarry 0 = .ok (.iload_n 2, 1) := by decide +kernel
theorem dX10_aboveWithoutCarry_1 : decode cX10_aboveWithoutCarry 1 = .ok (.ineg, 1) := by decide +kernel
theorem dX10_aboveWithoutCarry_2 : decode cX10_aboveWithoutCarry 2 = .ok (.i2l, 1) := by decide +kernel
theorem dX10_aboveWithoutCarry_3 : decode cX10_aboveWithoutCarry 3 = .ok (.lstore_n 3, 1) := by decide +kernel
theorem dX10_aboveWithoutCarry_4 : decode cX10_aboveWithoutCarry 4 = .ok (.iconst 0, 1) := by decide +kernel
theorem dX10_aboveWithoutCarry_5 : decode cX10_aboveWithoutCarry 5 = .ok (.istore 5, 2) := by decide +kernel
theorem dX10_aboveWithoutCarry_7 : decode cX10_aboveWithoutCarry 7 = .ok (.iload 5, 2) := by decide +kernel
theorem dX10_aboveWithoutCarry_9 : decode cX10_aboveWithoutCarry 9 = .ok (.iload_n 0, 1) := by decide +kernel
theorem dX10_aboveWithoutCarry_10 : decode cX10_aboveWithoutCarry 10 = .ok (.if_icmp .ge 35, 3) := by decide +kernel
theorem dX10_aboveWithoutCarry_13 : decode cX10_aboveWithoutCarry 13 = .ok (.iload_n 1, 1) := by decide +kernel
theorem dX10_aboveWithoutCarry_14 : decode cX10_aboveWithoutCarry 14 = .ok (.iload 5, 2) := by decide +kernel
theorem dX10_aboveWithoutCarry_16 : decode cX10_aboveWithoutCarry 16 = .ok (.ishr, 1) := by decide +kernel
theorem dX10_aboveWithoutCarry_17 : decode cX10_aboveWithoutCarry 17 = .ok (.iconst 1, 1) := by decide +kernel
theorem dX10_aboveWithoutCarry_18 : decode cX10_aboveWithoutCarry 18 = .ok (.iand, 1) := by decide +kernel
theorem dX10_aboveWithoutCarry_19 : decode cX10_aboveWithoutCarry 19 = .ok (.iconst 1, 1) := by decide +kernel
theorem dX10_aboveWithoutCarry_20 : decode cX10_aboveWithoutCarry 20 = .ok (.if_icmp .ne 19, 3) := by decide +kernel
theorem dX10_aboveWithoutCarry_23 : decode cX10_aboveWithoutCarry 23 = .ok (.lload_n 3, 1) := by decide +kernel
theorem dX10_aboveWithoutCarry_24 : decode cX10_aboveWithoutCarry 24 = .ok (.iload_n 2, 1) := by decide +kernel
theorem dX10_aboveWithoutCarry_25 : decode cX10_aboveWithoutCarry 25 = .ok (.iload 5, 2) := by decide +kernel
theorem dX10_aboveWithoutCarry_27 : decode cX10_aboveWithoutCarry 27 = .ok (.invokestatic 64, 3) := by decide +kernel
theorem dX10_aboveWithoutCarry_30 : decode cX10_aboveWithoutCarry 30 = .ok (.iand, 1) := by decide +kernel
theorem dX10_aboveWithoutCarry_31 : decode cX10_aboveWithoutCarry 31 = .ok (.i2l, 1) := by decide +kernel
theorem dX10_aboveWithoutCarry_32 : decode cX10_aboveWithoutCarry 32 = .ok (.iload_n 0, 1) := by decide +kernel
theorem dX10_aboveWithoutCarry_33 : decode cX10_aboveWithoutCarry 33 = .ok (.iload 5, 2) := by decide +kernel
theorem dX10_aboveWithoutCarry_35 : decode cX10_aboveWithoutCarry 35 = .ok (.isub, 1) := by decide +kernel
theorem dX10_aboveWithoutCarry_36 : decode cX10_aboveWithoutCarry 36 = .ok (.lshl, 1) := by decide +kernel
theorem dX10_aboveWithoutCarry_37 : decode cX10_aboveWithoutCarry 37 = .ok (.ladd, 1) := by decide +kernel
theorem dX10_aboveWithoutCarry_38 : decode cX10_aboveWithoutCarry 38 = .ok (.lstore_n 3, 1) := by decide +kernel
theorem dX10_aboveWithoutCarry_39 : decode cX10_aboveWithoutCarry 39 = .ok (.iinc 5 1, 3) := by decide +kernel
theorem dX10_aboveWithoutCarry_42 : decode cX10_aboveWithoutCarry 42 = .ok (.goto (-35), 3) := by decide +kernel
theorem dX10_aboveWithoutCarry_45 : decode cX10_aboveWithoutCarry 45 = .ok (.lload_n 3, 1) := by decide +kernel
theorem dX10_aboveWithoutCarry_46 : decode cX10_aboveWithoutCarry 46 = .ok (.lreturn, 1) := by decide +kernel
theorem dX10_buildFrom_0 : decode cX10_buildFrom 0 = .ok (.lload_n 3, 1) := by decide +kernel
theorem dX10_buildFrom_1 : decode cX10_buildFrom 1 = .ok (.lconst 1, 1) := by decide +kernel
theorem dX10_buildFrom_2 : decode cX10_buildFrom 2 = .ok (.ladd, 1) := by decide +kernel
theorem dX10_buildFrom_3 : decode cX10_buildFrom 3 = .ok (.invokestatic 177, 3) := by decide +kernel
theorem dX10_buildFrom_6 : decode cX10_buildFrom 6 = .ok (.iconst 1, 1) := by decide +kernel
theorem dX10_buildFrom_7 : decode cX10_buildFrom 7 = .ok (.isub, 1) := by decide +kernel
theorem dX10_buildFrom_8 : decode cX10_buildFrom 8 = .ok (.istore 5, 2) := by decide +kernel
theorem dX10_buildFrom_10 : decode cX10_buildFrom 10 = .ok (.iload 5, 2) := by decide +kernel
theorem dX10_buildFrom_12 : decode cX10_buildFrom 12 = .ok (.iconst 1, 1) := by decide +kernel
theorem dX10_buildFrom_13 : decode cX10_buildFrom 13 = .ok (.bipush 6, 2) := by decide +kernel
theorem dX10_buildFrom_15 : decode cX10_buildFrom 15 = .ok (.invokestatic 60, 3) := by decide +kernel
theorem dX10_buildFrom_18 : decode cX10_buildFrom 18 = .ok (.ifCond .ne 6, 3) := by decide +kernel
theorem dX10_buildFrom_21 : decode cX10_buildFrom 21 = .ok (.bipush (-3), 2) := by decide +kernel
theorem dX10_buildFrom_23 : decode cX10_buildFrom 23 = .ok (.ireturn, 1) := by decide +kernel
theorem dX10_buildFrom_24 : decode cX10_buildFrom 24 = .ok (.iconst 0, 1) := by decide +kernel
theorem dX10_buildFrom_25 : decode cX10_buildFrom 25 = .ok (.istore 6, 2) := by decide +kernel
theorem dX10_buildFrom_27 : decode cX10_buildFrom 27 = .ok (.iconst 0, 1) := by decide +kernel
theorem dX10_buildFrom_28 : decode cX10_buildFrom 28 = .ok (.istore 7, 2) := by decide +kernel
theorem dX10_buildFrom_30 : decode cX10_buildFrom 30 = .ok (.iload 7, 2) := by decide +kernel
theorem dX10_buildFrom_32 : decode cX10_buildFrom 32 = .ok (.iload 5, 2) := by decide +kernel
theorem dX10_buildFrom_34 : decode cX10_buildFrom 34 = .ok (.if_icmp .ge 29, 3) := by decide +kernel
theorem dX10_buildFrom_37 : decode cX10_buildFrom 37 = .ok (.iload 6, 2) := by decide +kernel
theorem dX10_buildFrom_39 : decode cX10_buildFrom 39 = .ok (.lload_n 3, 1) := by decide +kernel
theorem dX10_buildFrom_40 : decode cX10_buildFrom 40 = .ok (.lconst 1, 1) := by decide +kernel
theorem dX10_buildFrom_41 : decode cX10_buildFrom 41 = .ok (.ladd, 1) := by decide +kernel
theorem dX10_buildFrom_42 : decode cX10_buildFrom 42 = .ok (.iload 5, 2) := by decide +kernel
theorem dX10_buildFrom_44 : decode cX10_buildFrom 44 = .ok (.iload 7, 2) := by decide +kernel
theorem dX10_buildFrom_46 : decode cX10_buildFrom 46 = .ok (.isub, 1) := by decide +kernel
theorem dX10_buildFrom_47 : decode cX10_buildFrom 47 = .ok (.lshr, 1) := by decide +kernel
theorem dX10_buildFrom_48 : decode cX10_buildFrom 48 = .ok (.lconst 1, 1) := by decide +kernel
theorem dX10_buildFrom_49 : decode cX10_buildFrom 49 = .ok (.land, 1) := by decide +kernel
theorem dX10_buildFrom_50 : decode cX10_buildFrom 50 = .ok (.l2i, 1) := by decide +kernel
theorem dX10_buildFrom_51 : decode cX10_buildFrom 51 = .ok (.iload 7, 2) := by decide +kernel
theorem dX10_buildFrom_53 : decode cX10_buildFrom 53 = .ok (.ishl, 1) := by decide +kernel
theorem dX10_buildFrom_54 : decode cX10_buildFrom 54 = .ok (.ior, 1) := by decide +kernel
theorem dX10_buildFrom_55 : decode cX10_buildFrom 55 = .ok (.istore 6, 2) := by decide +kernel
theorem dX10_buildFrom_57 : decode cX10_buildFrom 57 = .ok (.iinc 7 1, 3) := by decide +kernel
theorem dX10_buildFrom_60 : decode cX10_buildFrom 60 = .ok (.goto (-30), 3) := by decide +kernel
theorem dX10_buildFrom_63 : decode cX10_buildFrom 63 = .ok (.lload_n 1, 1) := by decide +kernel
theorem dX10_buildFrom_64 : decode cX10_buildFrom 64 = .ok (.lload_n 3, 1) := by decide +kernel
theorem dX10_buildFrom_65 : decode cX10_buildFrom 65 = .ok (.iload 5, 2) := by decide +kernel
theorem dX10_buildFrom_67 : decode cX10_buildFrom 67 = .ok (.invokestatic 148, 3) := by decide +kernel
theorem dX10_buildFrom_70 : decode cX10_buildFrom 70 = .ok (.l2i, 1) := by decide +kernel
theorem dX10_buildFrom_71 : decode cX10_buildFrom 71 = .ok (.istore 7, 2) := by decide +kernel
theorem dX10_buildFrom_73 : decode cX10_buildFrom 73 = .ok (.iload 5, 2) := by decide +kernel
theorem dX10_buildFrom_75 : decode cX10_buildFrom 75 = .ok (.iload 6, 2) := by decide +kernel
theorem dX10_buildFrom_77 : decode cX10_buildFrom 77 = .ok (.iload 7, 2) := by decide +kernel
theorem dX10_buildFrom_79 : decode cX10_buildFrom 79 = .ok (.invokestatic 181, 3) := by decide +kernel
theorem dX10_buildFrom_82 : decode cX10_buildFrom 82 = .ok (.lload_n 1, 1) := by decide +kernel
theorem dX10_buildFrom_83 : decode cX10_buildFrom 83 = .ok (.lsub, 1) := by decide +kernel
theorem dX10_buildFrom_84 : decode cX10_buildFrom 84 = .ok (.iload 5, 2) := by decide +kernel
theorem dX10_buildFrom_86 : decode cX10_buildFrom 86 = .ok (.lshr, 1) := by decide +kernel
theorem dX10_buildFrom_87 : decode cX10_buildFrom 87 = .ok (.lstore 8, 2) := by decide +kernel
theorem dX10_buildFrom_89 : decode cX10_buildFrom 89 = .ok (.lload 8, 2) := by decide +kernel
theorem dX10_buildFrom_91 : decode cX10_buildFrom 91 = .ok (.ldc2_w 339, 3) := by decide +kernel
theorem dX10_buildFrom_94 : decode cX10_buildFrom 94 = .ok (.lcmp, 1) := by decide +kernel
theorem dX10_buildFrom_95 : decode cX10_buildFrom 95 = .ok (.ifCond .lt 12, 3) := by decide +kernel
theorem dX10_buildFrom_98 : decode cX10_buildFrom 98 = .ok (.lload 8, 2) := by decide +kernel
theorem dX10_buildFrom_100 : decode cX10_buildFrom 100 = .ok (.ldc2_w 341, 3) := by decide +kernel
theorem dX10_buildFrom_103 : decode cX10_buildFrom 103 = .ok (.lcmp, 1) := by decide +kernel
theorem dX10_buildFrom_104 : decode cX10_buildFrom 104 = .ok (.ifCond .le 6, 3) := by decide +kernel
theorem dX10_buildFrom_107 : decode cX10_buildFrom 107 = .ok (.bipush (-3), 2) := by decide +kernel
theorem dX10_buildFrom_109 : decode cX10_buildFrom 109 = .ok (.ireturn, 1) := by decide +kernel
theorem dX10_buildFrom_110 : decode cX10_buildFrom 110 = .ok (.aload_n 0, 1) := by decide +kernel
theorem dX10_buildFrom_111 : decode cX10_buildFrom 111 = .ok (.iconst 0, 1) := by decide +kernel
theorem dX10_buildFrom_112 : decode cX10_buildFrom 112 = .ok (.iload 5, 2) := by decide +kernel
theorem dX10_buildFrom_114 : decode cX10_buildFrom 114 = .ok (.iload 6, 2) := by decide +kernel
theorem dX10_buildFrom_116 : decode cX10_buildFrom 116 = .ok (.iload 7, 2) := by decide +kernel
theorem dX10_buildFrom_118 : decode cX10_buildFrom 118 = .ok (.lload 8, 2) := by decide +kernel
theorem dX10_buildFrom_120 : decode cX10_buildFrom 120 = .ok (.l2i, 1) := by decide +kernel
theorem dX10_buildFrom_121 : decode cX10_buildFrom 121 = .ok (.invokestatic 68, 3) := by decide +kernel
theorem dX10_buildFrom_124 : decode cX10_buildFrom 124 = .ok (.invokevirtual 72, 3) := by decide +kernel
theorem dX10_buildFrom_127 : decode cX10_buildFrom 127 = .ok (.ireturn, 1) := by decide +kernel
theorem dX10_lawAnswer_0 : decode cX10_lawAnswer 0 = .ok (.aload_n 0, 1) := by decide +kernel
theorem dX10_lawAnswer_1 : decode cX10_lawAnswer 1 = .ok (.getfield 51, 3) := by decide +kernel
theorem dX10_lawAnswer_4 : decode cX10_lawAnswer 4 = .ok (.lload_n 1, 1) := by decide +kernel
theorem dX10_lawAnswer_5 : decode cX10_lawAnswer 5 = .ok (.iload_n 3, 1) := by decide +kernel
theorem dX10_lawAnswer_6 : decode cX10_lawAnswer 6 = .ok (.invokevirtual 202, 3) := by decide +kernel
theorem dX10_lawAnswer_9 : decode cX10_lawAnswer 9 = .ok (.iload 4, 2) := by decide +kernel
theorem dX10_lawAnswer_11 : decode cX10_lawAnswer 11 = .ok (.ifCond .ne 12, 3) := by decide +kernel
theorem dX10_lawAnswer_14 : decode cX10_lawAnswer 14 = .ok (.aload_n 0, 1) := by decide +kernel
theorem dX10_lawAnswer_15 : decode cX10_lawAnswer 15 = .ok (.getfield 51, 3) := by decide +kernel
theorem dX10_lawAnswer_18 : decode cX10_lawAnswer 18 = .ok (.getfield 203, 3) := by decide +kernel
theorem dX10_lawAnswer_21 : decode cX10_lawAnswer 21 = .ok (.i2l, 1) := by decide +kernel
theorem dX10_lawAnswer_22 : decode cX10_lawAnswer 22 = .ok (.lreturn, 1) := by decide +kernel
theorem dX10_lawAnswer_23 : decode cX10_lawAnswer 23 = .ok (.iconst 2, 1) := by decide +kernel
theorem dX10_lawAnswer_24 : decode cX10_lawAnswer 24 = .ok (.aload_n 0, 1) := by decide +kernel
theorem dX10_lawAnswer_25 : decode cX10_lawAnswer 25 = .ok (.getfield 51, 3) := by decide +kernel
theorem dX10_lawAnswer_28 : decode cX10_lawAnswer 28 = .ok (.getfield 203, 3) := by decide +kernel
theorem dX10_lawAnswer_31 : decode cX10_lawAnswer 31 = .ok (.imul, 1) := by decide +kernel
theorem dX10_lawAnswer_32 : decode cX10_lawAnswer 32 = .ok (.iload_n 3, 1) := by decide +kernel
theorem dX10_lawAnswer_33 : decode cX10_lawAnswer 33 = .ok (.if_icmp .le 9, 3) := by decide +kernel
theorem dX10_lawAnswer_36 : decode cX10_lawAnswer 36 = .ok (.ldc2_w 343, 3) := by decide +kernel
theorem dX10_lawAnswer_39 : decode cX10_lawAnswer 39 = .ok (.goto 10, 3) := by decide +kernel
theorem dX10_lawAnswer_42 : decode cX10_lawAnswer 42 = .ok (.aload_n 0, 1) := by decide +kernel
theorem dX10_lawAnswer_43 : decode cX10_lawAnswer 43 = .ok (.getfield 51, 3) := by decide +kernel
theorem dX10_lawAnswer_46 : decode cX10_lawAnswer 46 = .ok (.getfield 345, 3) := by decide +kernel
theorem dX10_lawAnswer_49 : decode cX10_lawAnswer 49 = .ok (.lreturn, 1) := by decide +kernel
theorem dX10_countWords_0 : decode cX10_countWords 0 = .ok (.iconst 0, 1) := by decide +kernel
theorem dX10_countWords_1 : decode cX10_countWords 1 = .ok (.istore 5, 2) := by decide +kernel
theorem dX10_countWords_3 : decode cX10_countWords 3 = .ok (.iconst (-1), 1) := by decide +kernel
theorem dX10_countWords_4 : decode cX10_countWords 4 = .ok (.istore 6, 2) := by decide +kernel
theorem dX10_countWords_6 : decode cX10_countWords 6 = .ok (.iconst (-1), 1) := by decide +kernel
theorem dX10_countWords_7 : decode cX10_countWords 7 = .ok (.istore 7, 2) := by decide +kernel
theorem dX10_countWords_9 : decode cX10_countWords 9 = .ok (.iconst 0, 1) := by decide +kernel
theorem dX10_countWords_10 : decode cX10_countWords 10 = .ok (.istore 8, 2) := by decide +kernel
theorem dX10_countWords_12 : decode cX10_countWords 12 = .ok (.iload 8, 2) := by decide +kernel
theorem dX10_countWords_14 : decode cX10_countWords 14 = .ok (.iload_n 2, 1) := by decide +kernel
theorem dX10_countWords_15 : decode cX10_countWords 15 = .ok (.if_icmp .ge 62, 3) := by decide +kernel
theorem dX10_countWords_18 : decode cX10_countWords 18 = .ok (.lload_n 0, 1) := by decide +kernel
theorem dX10_countWords_19 : decode cX10_countWords 19 = .ok (.iload 8, 2) := by decide +kernel
theorem dX10_countWords_21 : decode cX10_countWords 21 = .ok (.lushr, 1) := by decide +kernel
theorem dX10_countWords_22 : decode cX10_countWords 22 = .ok (.iload_n 3, 1) := by decide +kernel
theorem dX10_countWords_23 : decode cX10_countWords 23 = .ok (.i2l, 1) := by decide +kernel
theorem dX10_countWords_24 : decode cX10_countWords 24 = .ok (.land, 1) := by decide +kernel
theorem dX10_countWords_25 : decode cX10_countWords 25 = .ok (.l2i, 1) := by decide +kernel
theorem dX10_countWords_26 : decode cX10_countWords 26 = .ok (.istore 9, 2) := by decide +kernel
theorem dX10_countWords_28 : decode cX10_countWords 28 = .ok (.lload_n 0, 1) := by decide +kernel
theorem dX10_countWords_29 : decode cX10_countWords 29 = .ok (.iload 8, 2) := by decide +kernel
theorem dX10_countWords_31 : decode cX10_countWords 31 = .ok (.iload_n 3, 1) := by decide +kernel
theorem dX10_countWords_32 : decode cX10_countWords 32 = .ok (.iload 9, 2) := by decide +kernel
theorem dX10_countWords_34 : decode cX10_countWords 34 = .ok (.invokestatic 347, 3) := by decide +kernel
theorem dX10_countWords_37 : decode cX10_countWords 37 = .ok (.ifCond .le 6, 3) := by decide +kernel
theorem dX10_countWords_40 : decode cX10_countWords 40 = .ok (.goto 31, 3) := by decide +kernel
theorem dX10_countWords_43 : decode cX10_countWords 43 = .ok (.iinc 5 1, 3) := by decide +kernel
theorem dX10_countWords_46 : decode cX10_countWords 46 = .ok (.lload_n 0, 1) := by decide +kernel
theorem dX10_countWords_47 : decode cX10_countWords 47 = .ok (.iload_n 2, 1) := by decide +kernel
theorem dX10_countWords_48 : decode cX10_countWords 48 = .ok (.iload_n 3, 1) := by decide +kernel
theorem dX10_countWords_49 : decode cX10_countWords 49 = .ok (.iload 9, 2) := by decide +kernel
theorem dX10_countWords_51 : decode cX10_countWords 51 = .ok (.invokestatic 347, 3) := by decide +kernel
theorem dX10_countWords_54 : decode cX10_countWords 54 = .ok (.istore 10, 2) := by decide +kernel
theorem dX10_countWords_56 : decode cX10_countWords 56 = .ok (.iload 10, 2) := by decide +kernel
theorem dX10_countWords_58 : decode cX10_countWords 58 = .ok (.iload 7, 2) := by decide +kernel
theorem dX10_countWords_60 : decode cX10_countWords 60 = .ok (.if_icmp .le 11, 3) := by decide +kernel
theorem dX10_countWords_63 : decode cX10_countWords 63 = .ok (.iload 10, 2) := by decide +kernel
theorem dX10_countWords_65 : decode cX10_countWords 65 = .ok (.istore 7, 2) := by decide +kernel
theorem dX10_countWords_67 : decode cX10_countWords 67 = .ok (.iload 9, 2) := by decide +kernel
theorem dX10_countWords_69 : decode cX10_countWords 69 = .ok (.istore 6, 2) := by decide +kernel
theorem dX10_countWords_71 : decode cX10_countWords 71 = .ok (.iinc 8 1, 3) := by decide +kernel
theorem dX10_countWords_74 : decode cX10_countWords 74 = .ok (.goto (-62), 3) := by decide +kernel
theorem dX10_countWords_77 : decode cX10_countWords 77 = .ok (.iload 4, 2) := by decide +kernel
theorem dX10_countWords_79 : decode cX10_countWords 79 = .ok (.lookupswitch 31 #[(0, 25), (1, 28)], 25) := by decide +kernel
theorem dX10_countWords_104 : decode cX10_countWords 104 = .ok (.iload 5, 2) := by decide +kernel
theorem dX10_countWords_106 : decode cX10_countWords 106 = .ok (.ireturn, 1) := by decide +kernel
theorem dX10_countWords_107 : decode cX10_countWords 107 = .ok (.iload 6, 2) := by decide +kernel
theorem dX10_countWords_109 : decode cX10_countWords 109 = .ok (.ireturn, 1) := by decide +kernel
theorem dX10_countWords_110 : decode cX10_countWords 110 = .ok (.iload 7, 2) := by decide +kernel
theorem dX10_countWords_112 : decode cX10_countWords 112 = .ok (.ireturn, 1) := by decide +kernel
theorem dX10_timesWord_0 : decode cX10_timesWord 0 = .ok (.iconst 0, 1) := by decide +kernel
theorem dX10_timesWord_1 : decode cX10_timesWord 1 = .ok (.istore 5, 2) := by decide +kernel
theorem dX10_timesWord_3 : decode cX10_timesWord 3 = .ok (.iconst 0, 1) := by decide +kernel
theorem dX10_timesWord_4 : decode cX10_timesWord 4 = .ok (.istore 6, 2) := by decide +kernel
theorem dX10_timesWord_6 : decode cX10_timesWord 6 = .ok (.iload 6, 2) := by decide +kernel
theorem dX10_timesWord_8 : decode cX10_timesWord 8 = .ok (.iload_n 2, 1) := by decide +kernel
theorem dX10_timesWord_9 : decode cX10_timesWord 9 = .ok (.if_icmp .ge 25, 3) := by decide +kernel
theorem dX10_timesWord_12 : decode cX10_timesWord 12 = .ok (.lload_n 0, 1) := by decide +kernel
theorem dX10_timesWord_13 : decode cX10_timesWord 13 = .ok (.iload 6, 2) := by decide +kernel
theorem dX10_timesWord_15 : decode cX10_timesWord 15 = .ok (.lushr, 1) := by decide +kernel
theorem dX10_timesWord_16 : decode cX10_timesWord 16 = .ok (.iload_n 3, 1) := by decide +kernel
theorem dX10_timesWord_17 : decode cX10_timesWord 17 = .ok (.i2l, 1) := by decide +kernel
theorem dX10_timesWord_18 : decode cX10_timesWord 18 = .ok (.land, 1) := by decide +kernel
theorem dX10_timesWord_19 : decode cX10_timesWord 19 = .ok (.l2i, 1) := by decide +kernel
theorem dX10_timesWord_20 : decode cX10_timesWord 20 = .ok (.iload 4, 2) := by decide +kernel
theorem dX10_timesWord_22 : decode cX10_timesWord 22 = .ok (.if_icmp .ne 6, 3) := by decide +kernel
theorem dX10_timesWord_25 : decode cX10_timesWord 25 = .ok (.iinc 5 1, 3) := by decide +kernel
theorem dX10_timesWord_28 : decode cX10_timesWord 28 = .ok (.iinc 6 1, 3) := by decide +kernel
theorem dX10_timesWord_31 : decode cX10_timesWord 31 = .ok (.goto (-25), 3) := by decide +kernel
theorem dX10_timesWord_34 : decode cX10_timesWord 34 = .ok (.iload 5, 2) := by decide +kernel
theorem dX10_timesWord_36 : decode cX10_timesWord 36 = .ok (.ireturn, 1) := by decide +kernel
theorem dX10_runLength_0 : decode cX10_runLength 0 = .ok (.lload_n 0, 1) := by decide +kernel
theorem dX10_runLength_1 : decode cX10_runLength 1 = .ok (.iload_n 3, 1) := by decide +kernel
theorem dX10_runLength_2 : decode cX10_runLength 2 = .ok (.lushr, 1) := by decide +kernel
theorem dX10_runLength_3 : decode cX10_runLength 3 = .ok (.lconst 1, 1) := by decide +kernel
theorem dX10_runLength_4 : decode cX10_runLength 4 = .ok (.land, 1) := by decide +kernel
theorem dX10_runLength_5 : decode cX10_runLength 5 = .ok (.lstore 4, 2) := by decide +kernel
theorem dX10_runLength_7 : decode cX10_runLength 7 = .ok (.iload_n 3, 1) := by decide +kernel
theorem dX10_runLength_8 : decode cX10_runLength 8 = .ok (.istore 6, 2) := by decide +kernel
theorem dX10_runLength_10 : decode cX10_runLength 10 = .ok (.iload 6, 2) := by decide +kernel
theorem dX10_runLength_12 : decode cX10_runLength 12 = .ok (.iload_n 2, 1) := by decide +kernel
theorem dX10_runLength_13 : decode cX10_runLength 13 = .ok (.if_icmp .ge 21, 3) := by decide +kernel
theorem dX10_runLength_16 : decode cX10_runLength 16 = .ok (.lload_n 0, 1) := by decide +kernel
theorem dX10_runLength_17 : decode cX10_runLength 17 = .ok (.iload 6, 2) := by decide +kernel
theorem dX10_runLength_19 : decode cX10_runLength 19 = .ok (.lushr, 1) := by decide +kernel
theorem dX10_runLength_20 : decode cX10_runLength 20 = .ok (.lconst 1, 1) := by decide +kernel
theorem dX10_runLength_21 : decode cX10_runLength 21 = .ok (.land, 1) := by decide +kernel
theorem dX10_runLength_22 : decode cX10_runLength 22 = .ok (.lload 4, 2) := by decide +kernel
theorem dX10_runLength_24 : decode cX10_runLength 24 = .ok (.lcmp, 1) := by decide +kernel
theorem dX10_runLength_25 : decode cX10_runLength 25 = .ok (.ifCond .ne 9, 3) := by decide +kernel
theorem dX10_runLength_28 : decode cX10_runLength 28 = .ok (.iinc 6 1, 3) := by decide +kernel
theorem dX10_runLength_31 : decode cX10_runLength 31 = .ok (.goto (-21), 3) := by decide +kernel
theorem dX10_runLength_34 : decode cX10_runLength 34 = .ok (.iload 6, 2) := by decide +kernel
theorem dX10_runLength_36 : decode cX10_runLength 36 = .ok (.iload_n 3, 1) := by decide +kernel
theorem dX10_runLength_37 : decode cX10_runLength 37 = .ok (.isub, 1) := by decide +kernel
theorem dX10_runLength_38 : decode cX10_runLength 38 = .ok (.ireturn, 1) := by decide +kernel
theorem dX10_runsOf_0 : decode cX10_runsOf 0 = .ok (.iconst 0, 1) := by decide +kernel
theorem dX10_runsOf_1 : decode cX10_runsOf 1 = .ok (.istore 5, 2) := by decide +kernel
theorem dX10_runsOf_3 : decode cX10_runsOf 3 = .ok (.iconst 0, 1) := by decide +kernel
theorem dX10_runsOf_4 : decode cX10_runsOf 4 = .ok (.istore 6, 2) := by decide +kernel
theorem dX10_runsOf_6 : decode cX10_runsOf 6 = .ok (.iload 6, 2) := by decide +kernel
theorem dX10_runsOf_8 : decode cX10_runsOf 8 = .ok (.iload_n 2, 1) := by decide +kernel
theorem dX10_runsOf_9 : decode cX10_runsOf 9 = .ok (.if_icmp .ge 45, 3) := by decide +kernel
theorem dX10_runsOf_12 : decode cX10_runsOf 12 = .ok (.lload_n 0, 1) := by decide +kernel
theorem dX10_runsOf_13 : decode cX10_runsOf 13 = .ok (.iload 6, 2) := by decide +kernel
theorem dX10_runsOf_15 : decode cX10_runsOf 15 = .ok (.invokestatic 350, 3) := by decide +kernel
theorem dX10_runsOf_18 : decode cX10_runsOf 18 = .ok (.ifCond .eq 30, 3) := by decide +kernel
theorem dX10_runsOf_21 : decode cX10_runsOf 21 = .ok (.lload_n 0, 1) := by decide +kernel
theorem dX10_runsOf_22 : decode cX10_runsOf 22 = .ok (.iload 6, 2) := by decide +kernel
theorem dX10_runsOf_24 : decode cX10_runsOf 24 = .ok (.lushr, 1) := by decide +kernel
theorem dX10_runsOf_25 : decode cX10_runsOf 25 = .ok (.lconst 1, 1) := by decide +kernel
theorem dX10_runsOf_26 : decode cX10_runsOf 26 = .ok (.land, 1) := by decide +kernel
theorem dX10_runsOf_27 : decode cX10_runsOf 27 = .ok (.iload_n 3, 1) := by decide +kernel
theorem dX10_runsOf_28 : decode cX10_runsOf 28 = .ok (.i2l, 1) := by decide +kernel
theorem dX10_runsOf_29 : decode cX10_runsOf 29 = .ok (.lcmp, 1) := by decide +kernel
theorem dX10_runsOf_30 : decode cX10_runsOf 30 = .ok (.ifCond .ne 18, 3) := by decide +kernel
theorem dX10_runsOf_33 : decode cX10_runsOf 33 = .ok (.lload_n 0, 1) := by decide +kernel
theorem dX10_runsOf_34 : decode cX10_runsOf 34 = .ok (.iload_n 2, 1) := by decide +kernel
theorem dX10_runsOf_35 : decode cX10_runsOf 35 = .ok (.iload 6, 2) := by decide +kernel
theorem dX10_runsOf_37 : decode cX10_runsOf 37 = .ok (.invokestatic 354, 3) := by decide +kernel
theorem dX10_runsOf_40 : decode cX10_runsOf 40 = .ok (.iload 4, 2) := by decide +kernel
theorem dX10_runsOf_42 : decode cX10_runsOf 42 = .ok (.if_icmp .ne 6, 3) := by decide +kernel
theorem dX10_runsOf_45 : decode cX10_runsOf 45 = .ok (.iinc 5 1, 3) := by decide +kernel
theorem dX10_runsOf_48 : decode cX10_runsOf 48 = .ok (.iinc 6 1, 3) := by decide +kernel
theorem dX10_runsOf_51 : decode cX10_runsOf 51 = .ok (.goto (-45), 3) := by decide +kernel
theorem dX10_runsOf_54 : decode cX10_runsOf 54 = .ok (.iload 5, 2) := by decide +kernel
theorem dX10_runsOf_56 : decode cX10_runsOf 56 = .ok (.ireturn, 1) := by decide +kernel
theorem dX10_unlikeRuns_0 : decode cX10_unlikeRuns 0 = .ok (.lconst 0, 1) := by decide +kernel
theorem dX10_unlikeRuns_1 : decode cX10_unlikeRuns 1 = .ok (.lstore_n 3, 1) := by decide +kernel
theorem dX10_unlikeRuns_2 : decode cX10_unlikeRuns 2 = .ok (.lconst 0, 1) := by decide +kernel
theorem dX10_unlikeRuns_3 : decode cX10_unlikeRuns 3 = .ok (.lstore 5, 2) := by decide +kernel
theorem dX10_unlikeRuns_5 : decode cX10_unlikeRuns 5 = .ok (.iconst 0, 1) := by decide +kernel
theorem dX10_unlikeRuns_6 : decode cX10_unlikeRuns 6 = .ok (.istore 7, 2) := by decide +kernel
theorem dX10_unlikeRuns_8 : decode cX10_unlikeRuns 8 = .ok (.iload 7, 2) := by decide +kernel
theorem dX10_unlikeRuns_10 : decode cX10_unlikeRuns 10 = .ok (.iload_n 2, 1) := by decide +kernel
theorem dX10_unlikeRuns_11 : decode cX10_unlikeRuns 11 = .ok (.if_icmp .ge 58, 3) := by decide +kernel
theorem dX10_unlikeRuns_14 : decode cX10_unlikeRuns 14 = .ok (.lload_n 0, 1) := by decide +kernel
theorem dX10_unlikeRuns_15 : decode cX10_unlikeRuns 15 = .ok (.iload 7, 2) := by decide +kernel
theorem dX10_unlikeRuns_17 : decode cX10_unlikeRuns 17 = .ok (.invokestatic 350, 3) := by decide +kernel
theorem dX10_unlikeRuns_20 : decode cX10_unlikeRuns 20 = .ok (.ifCond .ne 6, 3) := by decide +kernel
theorem dX10_unlikeRuns_23 : decode cX10_unlikeRuns 23 = .ok (.goto 40, 3) := by decide +kernel
theorem dX10_unlikeRuns_26 : decode cX10_unlikeRuns 26 = .ok (.lconst 1, 1) := by decide +kernel
theorem dX10_unlikeRuns_27 : decode cX10_unlikeRuns 27 = .ok (.lload_n 0, 1) := by decide +kernel
theorem dX10_unlikeRuns_28 : decode cX10_unlikeRuns 28 = .ok (.iload_n 2, 1) := by decide +kernel
theorem dX10_unlikeRuns_29 : decode cX10_unlikeRuns 29 = .ok (.iload 7, 2) := by decide +kernel
theorem dX10_unlikeRuns_31 : decode cX10_unlikeRuns 31 = .ok (.invokestatic 354, 3) := by decide +kernel
theorem dX10_unlikeRuns_34 : decode cX10_unlikeRuns 34 = .ok (.lshl, 1) := by decide +kernel
theorem dX10_unlikeRuns_35 : decode cX10_unlikeRuns 35 = .ok (.lstore 8, 2) := by decide +kernel
theorem dX10_unlikeRuns_37 : decode cX10_unlikeRuns 37 = .ok (.lload_n 0, 1) := by decide +kernel
theorem dX10_unlikeRuns_38 : decode cX10_unlikeRuns 38 = .ok (.iload 7, 2) := by decide +kernel
theorem dX10_unlikeRuns_40 : decode cX10_unlikeRuns 40 = .ok (.lushr, 1) := by decide +kernel
theorem dX10_unlikeRuns_41 : decode cX10_unlikeRuns 41 = .ok (.lconst 1, 1) := by decide +kernel
theorem dX10_unlikeRuns_42 : decode cX10_unlikeRuns 42 = .ok (.land, 1) := by decide +kernel
theorem dX10_unlikeRuns_43 : decode cX10_unlikeRuns 43 = .ok (.lconst 1, 1) := by decide +kernel
theorem dX10_unlikeRuns_44 : decode cX10_unlikeRuns 44 = .ok (.lcmp, 1) := by decide +kernel
theorem dX10_unlikeRuns_45 : decode cX10_unlikeRuns 45 = .ok (.ifCond .ne 13, 3) := by decide +kernel
theorem dX10_unlikeRuns_48 : decode cX10_unlikeRuns 48 = .ok (.lload 5, 2) := by decide +kernel
theorem dX10_unlikeRuns_50 : decode cX10_unlikeRuns 50 = .ok (.lload 8, 2) := by decide +kernel
theorem dX10_unlikeRuns_52 : decode cX10_unlikeRuns 52 = .ok (.lor, 1) := by decide +kernel
theorem dX10_unlikeRuns_53 : decode cX10_unlikeRuns 53 = .ok (.lstore 5, 2) := by decide +kernel
theorem dX10_unlikeRuns_55 : decode cX10_unlikeRuns 55 = .ok (.goto 8, 3) := by decide +kernel
theorem dX10_unlikeRuns_58 : decode cX10_unlikeRuns 58 = .ok (.lload_n 3, 1) := by decide +kernel
theorem dX10_unlikeRuns_59 : decode cX10_unlikeRuns 59 = .ok (.lload 8, 2) := by decide +kernel
theorem dX10_unlikeRuns_61 : decode cX10_unlikeRuns 61 = .ok (.lor, 1) := by decide +kernel
theorem dX10_unlikeRuns_62 : decode cX10_unlikeRuns 62 = .ok (.lstore_n 3, 1) := by decide +kernel
theorem dX10_unlikeRuns_63 : decode cX10_unlikeRuns 63 = .ok (.iinc 7 1, 3) := by decide +kernel
theorem dX10_unlikeRuns_66 : decode cX10_unlikeRuns 66 = .ok (.goto (-58), 3) := by decide +kernel
theorem dX10_unlikeRuns_69 : decode cX10_unlikeRuns 69 = .ok (.lload_n 3, 1) := by decide +kernel
theorem dX10_unlikeRuns_70 : decode cX10_unlikeRuns 70 = .ok (.invokestatic 358, 3) := by decide +kernel
theorem dX10_unlikeRuns_73 : decode cX10_unlikeRuns 73 = .ok (.lload 5, 2) := by decide +kernel
theorem dX10_unlikeRuns_75 : decode cX10_unlikeRuns 75 = .ok (.invokestatic 358, 3) := by decide +kernel
theorem dX10_unlikeRuns_78 : decode cX10_unlikeRuns 78 = .ok (.iadd, 1) := by decide +kernel
theorem dX10_unlikeRuns_79 : decode cX10_unlikeRuns 79 = .ok (.ireturn, 1) := by decide +kernel
theorem dX10_beginsRun_0 : decode cX10_beginsRun 0 = .ok (.iload_n 2, 1) := by decide +kernel
theorem dX10_beginsRun_1 : decode cX10_beginsRun 1 = .ok (.ifCond .eq 19, 3) := by decide +kernel
theorem dX10_beginsRun_4 : decode cX10_beginsRun 4 = .ok (.lload_n 0, 1) := by decide +kernel
theorem dX10_beginsRun_5 : decode cX10_beginsRun 5 = .ok (.iload_n 2, 1) := by decide +kernel
theorem dX10_beginsRun_6 : decode cX10_beginsRun 6 = .ok (.lushr, 1) := by decide +kernel
theorem dX10_beginsRun_7 : decode cX10_beginsRun 7 = .ok (.lconst 1, 1) := by decide +kernel
theorem dX10_beginsRun_8 : decode cX10_beginsRun 8 = .ok (.land, 1) := by decide +kernel
theorem dX10_beginsRun_9 : decode cX10_beginsRun 9 = .ok (.lload_n 0, 1) := by decide +kernel
theorem dX10_beginsRun_10 : decode cX10_beginsRun 10 = .ok (.iload_n 2, 1) := by decide +kernel
theorem dX10_beginsRun_11 : decode cX10_beginsRun 11 = .ok (.iconst 1, 1) := by decide +kernel
theorem dX10_beginsRun_12 : decode cX10_beginsRun 12 = .ok (.isub, 1) := by decide +kernel
theorem dX10_beginsRun_13 : decode cX10_beginsRun 13 = .ok (.lushr, 1) := by decide +kernel
theorem dX10_beginsRun_14 : decode cX10_beginsRun 14 = .ok (.lconst 1, 1) := by decide +kernel
theorem dX10_beginsRun_15 : decode cX10_beginsRun 15 = .ok (.land, 1) := by decide +kernel
theorem dX10_beginsRun_16 : decode cX10_beginsRun 16 = .ok (.lcmp, 1) := by decide +kernel
theorem dX10_beginsRun_17 : decode cX10_beginsRun 17 = .ok (.ifCond .eq 7, 3) := by decide +kernel
theorem dX10_beginsRun_20 : decode cX10_beginsRun 20 = .ok (.iconst 1, 1) := by decide +kernel
theorem dX10_beginsRun_21 : decode cX10_beginsRun 21 = .ok (.goto 4, 3) := by decide +kernel
theorem dX10_beginsRun_24 : decode cX10_beginsRun 24 = .ok (.iconst 0, 1) := by decide +kernel
theorem dX10_beginsRun_25 : decode cX10_beginsRun 25 = .ok (.ireturn, 1) := by decide +kernel
theorem dX10_spoilt_0 : decode cX10_spoilt 0 = .ok (.lload_n 0, 1) := by decide +kernel
theorem dX10_spoilt_1 : decode cX10_spoilt 1 = .ok (.lstore 5, 2) := by decide +kernel
theorem dX10_spoilt_3 : decode cX10_spoilt 3 = .ok (.iload_n 3, 1) := by decide +kernel
theorem dX10_spoilt_4 : decode cX10_spoilt 4 = .ok (.istore 7, 2) := by decide +kernel
theorem dX10_spoilt_6 : decode cX10_spoilt 6 = .ok (.iconst 0, 1) := by decide +kernel
theorem dX10_spoilt_7 : decode cX10_spoilt 7 = .ok (.istore 8, 2) := by decide +kernel
theorem dX10_spoilt_9 : decode cX10_spoilt 9 = .ok (.iload 8, 2) := by decide +kernel
theorem dX10_spoilt_11 : decode cX10_spoilt 11 = .ok (.iload 4, 2) := by decide +kernel
theorem dX10_spoilt_13 : decode cX10_spoilt 13 = .ok (.if_icmp .ge 39, 3) := by decide +kernel
theorem dX10_spoilt_16 : decode cX10_spoilt 16 = .ok (.iload_n 2, 1) := by decide +kernel
theorem dX10_spoilt_17 : decode cX10_spoilt 17 = .ok (.ifCond .le 35, 3) := by decide +kernel
theorem dX10_spoilt_20 : decode cX10_spoilt 20 = .ok (.iload 7, 2) := by decide +kernel
theorem dX10_spoilt_22 : decode cX10_spoilt 22 = .ok (.ldc_w 361, 3) := by decide +kernel
theorem dX10_spoilt_25 : decode cX10_spoilt 25 = .ok (.imul, 1) := by decide +kernel
theorem dX10_spoilt_26 : decode cX10_spoilt 26 = .ok (.sipush 12345, 3) := by decide +kernel
theorem dX10_spoilt_29 : decode cX10_spoilt 29 = .ok (.iadd, 1) := by decide +kernel
theorem dX10_spoilt_30 : decode cX10_spoilt 30 = .ok (.istore 7, 2) := by decide +kernel
theorem dX10_spoilt_32 : decode cX10_spoilt 32 = .ok (.lload 5, 2) := by decide +kernel
theorem dX10_spoilt_34 : decode cX10_spoilt 34 = .ok (.lconst 1, 1) := by decide +kernel
theorem dX10_spoilt_35 : decode cX10_spoilt 35 = .ok (.iload 7, 2) := by decide +kernel
theorem dX10_spoilt_37 : decode cX10_spoilt 37 = .ok (.bipush 9, 2) := by decide +kernel
theorem dX10_spoilt_39 : decode cX10_spoilt 39 = .ok (.iushr, 1) := by decide +kernel
theorem dX10_spoilt_40 : decode cX10_spoilt 40 = .ok (.iload_n 2, 1) := by decide +kernel
theorem dX10_spoilt_41 : decode cX10_spoilt 41 = .ok (.irem, 1) := by decide +kernel
theorem dX10_spoilt_42 : decode cX10_spoilt 42 = .ok (.lshl, 1) := by decide +kernel
theorem dX10_spoilt_43 : decode cX10_spoilt 43 = .ok (.lxor, 1) := by decide +kernel
theorem dX10_spoilt_44 : decode cX10_spoilt 44 = .ok (.lstore 5, 2) := by decide +kernel
theorem dX10_spoilt_46 : decode cX10_spoilt 46 = .ok (.iinc 8 1, 3) := by decide +kernel
theorem dX10_spoilt_49 : decode cX10_spoilt 49 = .ok (.goto (-40), 3) := by decide +kernel
theorem dX10_spoilt_52 : decode cX10_spoilt 52 = .ok (.lload 5, 2) := by decide +kernel
theorem dX10_spoilt_54 : decode cX10_spoilt 54 = .ok (.lreturn, 1) := by decide +kernel
theorem dX10_isByte_0 : decode cX10_isByte 0 = .ok (.iload_n 0, 1) := by decide +kernel
theorem dX10_isByte_1 : decode cX10_isByte 1 = .ok (.iconst 0, 1) := by decide +kernel
theorem dX10_isByte_2 : decode cX10_isByte 2 = .ok (.sipush 255, 3) := by decide +kernel
theorem dX10_isByte_5 : decode cX10_isByte 5 = .ok (.invokestatic 60, 3) := by decide +kernel
theorem dX10_isByte_8 : decode cX10_isByte 8 = .ok (.ireturn, 1) := by decide +kernel
theorem dX10_doClause_0 : decode cX10_doClause 0 = .ok (.aload_n 0, 1) := by decide +kernel
theorem dX10_doClause_1 : decode cX10_doClause 1 = .ok (.getfield 37, 3) := by decide +kernel
theorem dX10_doClause_4 : decode cX10_doClause 4 = .ok (.iload_n 2, 1) := by decide +kernel
theorem dX10_doClause_5 : decode cX10_doClause 5 = .ok (.iconst 0, 1) := by decide +kernel
theorem dX10_doClause_6 : decode cX10_doClause 6 = .ok (.invokevirtual 362, 3) := by decide +kernel
theorem dX10_doClause_9 : decode cX10_doClause 9 = .ok (.istore_n 3, 1) := by decide +kernel
theorem dX10_doClause_10 : decode cX10_doClause 10 = .ok (.aload_n 0, 1) := by decide +kernel
theorem dX10_doClause_11 : decode cX10_doClause 11 = .ok (.getfield 37, 3) := by decide +kernel
theorem dX10_doClause_14 : decode cX10_doClause 14 = .ok (.iload_n 2, 1) := by decide +kernel
theorem dX10_doClause_15 : decode cX10_doClause 15 = .ok (.iconst 1, 1) := by decide +kernel
theorem dX10_doClause_16 : decode cX10_doClause 16 = .ok (.invokevirtual 362, 3) := by decide +kernel
theorem dX10_doClause_19 : decode cX10_doClause 19 = .ok (.istore 4, 2) := by decide +kernel
theorem dX10_doClause_21 : decode cX10_doClause 21 = .ok (.iload_n 1, 1) := by decide +kernel
theorem dX10_doClause_22 : decode cX10_doClause 22 = .ok (.tableswitch 161 0 5 #[38, 72, 92, 112, 132, 148], 38) := by decide +kernel
theorem dX10_doClause_60 : decode cX10_doClause 60 = .ok (.aload_n 0, 1) := by decide +kernel
theorem dX10_doClause_61 : decode cX10_doClause 61 = .ok (.iload_n 3, 1) := by decide +kernel
theorem dX10_doClause_62 : decode cX10_doClause 62 = .ok (.iload 4, 2) := by decide +kernel
theorem dX10_doClause_64 : decode cX10_doClause 64 = .ok (.aload_n 0, 1) := by decide +kernel
theorem dX10_doClause_65 : decode cX10_doClause 65 = .ok (.getfield 37, 3) := by decide +kernel
theorem dX10_doClause_68 : decode cX10_doClause 68 = .ok (.iload_n 2, 1) := by decide +kernel
theorem dX10_doClause_69 : decode cX10_doClause 69 = .ok (.iconst 2, 1) := by decide +kernel
theorem dX10_doClause_70 : decode cX10_doClause 70 = .ok (.invokevirtual 362, 3) := by decide +kernel
theorem dX10_doClause_73 : decode cX10_doClause 73 = .ok (.aload_n 0, 1) := by decide +kernel
theorem dX10_doClause_74 : decode cX10_doClause 74 = .ok (.getfield 37, 3) := by decide +kernel
theorem dX10_doClause_77 : decode cX10_doClause 77 = .ok (.iload_n 2, 1) := by decide +kernel
theorem dX10_doClause_78 : decode cX10_doClause 78 = .ok (.iconst 3, 1) := by decide +kernel
theorem dX10_doClause_79 : decode cX10_doClause 79 = .ok (.invokevirtual 362, 3) := by decide +kernel
theorem dX10_doClause_82 : decode cX10_doClause 82 = .ok (.invokevirtual 274, 3) := by decide +kernel
theorem dX10_doClause_85 : decode cX10_doClause 85 = .ok (.ifCond .lt 7, 3) := by decide +kernel
theorem dX10_doClause_88 : decode cX10_doClause 88 = .ok (.iconst 1, 1) := by decide +kernel
theorem dX10_doClause_89 : decode cX10_doClause 89 = .ok (.goto 4, 3) := by decide +kernel
theorem dX10_doClause_92 : decode cX10_doClause 92 = .ok (.iconst 0, 1) := by decide +kernel
theorem dX10_doClause_93 : decode cX10_doClause 93 = .ok (.ireturn, 1) := by decide +kernel
theorem dX10_doClause_94 : decode cX10_doClause 94 = .ok (.aload_n 0, 1) := by decide +kernel
theorem dX10_doClause_95 : decode cX10_doClause 95 = .ok (.iload_n 3, 1) := by decide +kernel
theorem dX10_doClause_96 : decode cX10_doClause 96 = .ok (.iconst 0, 1) := by decide +kernel
theorem dX10_doClause_97 : decode cX10_doClause 97 = .ok (.iload 4, 2) := by decide +kernel
theorem dX10_doClause_99 : decode cX10_doClause 99 = .ok (.invokevirtual 365, 3) := by decide +kernel
theorem dX10_doClause_102 : decode cX10_doClause 102 = .ok (.sipush (-1000), 3) := by decide +kernel
theorem dX10_doClause_105 : decode cX10_doClause 105 = .ok (.if_icmp .eq 7, 3) := by decide +kernel
theorem dX10_doClause_108 : decode cX10_doClause 108 = .ok (.iconst 1, 1) := by decide +kernel
theorem dX10_doClause_109 : decode cX10_doClause 109 = .ok (.goto 4, 3) := by decide +kernel
theorem dX10_doClause_112 : decode cX10_doClause 112 = .ok (.iconst 0, 1) := by decide +kernel
theorem dX10_doClause_113 : decode cX10_doClause 113 = .ok (.ireturn, 1) := by decide +kernel
theorem dX10_doClause_114 : decode cX10_doClause 114 = .ok (.aload_n 0, 1) := by decide +kernel
theorem dX10_doClause_115 : decode cX10_doClause 115 = .ok (.iload_n 3, 1) := by decide +kernel
theorem dX10_doClause_116 : decode cX10_doClause 116 = .ok (.iconst 1, 1) := by decide +kernel
theorem dX10_doClause_117 : decode cX10_doClause 117 = .ok (.iload 4, 2) := by decide +kernel
theorem dX10_doClause_119 : decode cX10_doClause 119 = .ok (.invokevirtual 365, 3) := by decide +kernel
theorem dX10_doClause_122 : decode cX10_doClause 122 = .ok (.sipush (-1000), 3) := by decide +kernel
theorem dX10_doClause_125 : decode cX10_doClause 125 = .ok (.if_icmp .eq 7, 3) := by decide +kernel
theorem dX10_doClause_128 : decode cX10_doClause 128 = .ok (.iconst 1, 1) := by decide +kernel
theorem dX10_doClause_129 : decode cX10_doClause 129 = .ok (.goto 4, 3) := by decide +kernel
theorem dX10_doClause_132 : decode cX10_doClause 132 = .ok (.iconst 0, 1) := by decide +kernel
theorem dX10_doClause_133 : decode cX10_doClause 133 = .ok (.ireturn, 1) := by decide +kernel
theorem dX10_doClause_134 : decode cX10_doClause 134 = .ok (.aload_n 0, 1) := by decide +kernel
theorem dX10_doClause_135 : decode cX10_doClause 135 = .ok (.iload_n 3, 1) := by decide +kernel
theorem dX10_doClause_136 : decode cX10_doClause 136 = .ok (.iconst 2, 1) := by decide +kernel
theorem dX10_doClause_137 : decode cX10_doClause 137 = .ok (.iload 4, 2) := by decide +kernel
theorem dX10_doClause_139 : decode cX10_doClause 139 = .ok (.invokevirtual 365, 3) := by decide +kernel
theorem dX10_doClause_142 : decode cX10_doClause 142 = .ok (.sipush (-1000), 3) := by decide +kernel
theorem dX10_doClause_145 : decode cX10_doClause 145 = .ok (.if_icmp .eq 7, 3) := by decide +kernel
theorem dX10_doClause_148 : decode cX10_doClause 148 = .ok (.iconst 1, 1) := by decide +kernel
theorem dX10_doClause_149 : decode cX10_doClause 149 = .ok (.goto 4, 3) := by decide +kernel
theorem dX10_doClause_152 : decode cX10_doClause 152 = .ok (.iconst 0, 1) := by decide +kernel
theorem dX10_doClause_153 : decode cX10_doClause 153 = .ok (.ireturn, 1) := by decide +kernel
theorem dX10_doClause_154 : decode cX10_doClause 154 = .ok (.aload_n 0, 1) := by decide +kernel
theorem dX10_doClause_155 : decode cX10_doClause 155 = .ok (.iload_n 3, 1) := by decide +kernel
theorem dX10_doClause_156 : decode cX10_doClause 156 = .ok (.iload 4, 2) := by decide +kernel
theorem dX10_doClause_158 : decode cX10_doClause 158 = .ok (.invokevirtual 369, 3) := by decide +kernel
theorem dX10_doClause_161 : decode cX10_doClause 161 = .ok (.ifCond .lt 7, 3) := by decide +kernel
theorem dX10_doClause_164 : decode cX10_doClause 164 = .ok (.iconst 1, 1) := by decide +kernel
theorem dX10_doClause_165 : decode cX10_doClause 165 = .ok (.goto 4, 3) := by decide +kernel
theorem dX10_doClause_168 : decode cX10_doClause 168 = .ok (.iconst 0, 1) := by decide +kernel
theorem dX10_doClause_169 : decode cX10_doClause 169 = .ok (.ireturn, 1) := by decide +kernel
theorem dX10_doClause_170 : decode cX10_doClause 170 = .ok (.aload_n 0, 1) := by decide +kernel
theorem dX10_doClause_171 : decode cX10_doClause 171 = .ok (.invokevirtual 372, 3) := by decide +kernel
theorem dX10_doClause_174 : decode cX10_doClause 174 = .ok (.ifCond .lt 7, 3) := by decide +kernel
theorem dX10_doClause_177 : decode cX10_doClause 177 = .ok (.iconst 1, 1) := by decide +kernel
theorem dX10_doClause_178 : decode cX10_doClause 178 = .ok (.goto 4, 3) := by decide +kernel
theorem dX10_doClause_181 : decode cX10_doClause 181 = .ok (.iconst 0, 1) := by decide +kernel
theorem dX10_doClause_182 : decode cX10_doClause 182 = .ok (.ireturn, 1) := by decide +kernel
theorem dX10_doClause_183 : decode cX10_doClause 183 = .ok (.iconst 0, 1) := by decide +kernel
theorem dX10_doClause_184 : decode cX10_doClause 184 = .ok (.ireturn, 1) := by decide +kernel
theorem dX11_in_0 : decode cX11_in 0 = .ok (.iload_n 0, 1) := by decide +kernel
theorem dX11_in_1 : decode cX11_in 1 = .ok (.iload_n 1, 1) := by decide +kernel
theorem dX11_in_2 : decode cX11_in 2 = .ok (.if_icmp .lt 12, 3) := by decide +kernel
theorem dX11_in_5 : decode cX11_in 5 = .ok (.iload_n 0, 1) := by decide +kernel
theorem dX11_in_6 : decode cX11_in 6 = .ok (.iload_n 2, 1) := by decide +kernel
theorem dX11_in_7 : decode cX11_in 7 = .ok (.if_icmp .gt 7, 3) := by decide +kernel
theorem dX11_in_10 : decode cX11_in 10 = .ok (.iconst 1, 1) := by decide +kernel
theorem dX11_in_11 : decode cX11_in 11 = .ok (.goto 4, 3) := by decide +kernel
theorem dX11_in_14 : decode cX11_in 14 = .ok (.iconst 0, 1) := by decide +kernel
theorem dX11_in_15 : decode cX11_in 15 = .ok (.ireturn, 1) := by decide +kernel
theorem dX11_init_0 : decode cX11_init 0 = .ok (.aload_n 0, 1) := by decide +kernel
theorem dX11_init_1 : decode cX11_init 1 = .ok (.invokespecial 3, 3) := by decide +kernel
theorem dX11_init_4 : decode cX11_init 4 = .ok (.aload_n 0, 1) := by decide +kernel
theorem dX11_init_5 : decode cX11_init 5 = .ok (.iconst 4, 1) := by decide +kernel
theorem dX11_init_6 : decode cX11_init 6 = .ok (.newarray .int, 2) := by decide +kernel
theorem dX11_init_8 : decode cX11_init 8 = .ok (.putfield 11, 3) := by decide +kernel
theorem dX11_init_11 : decode cX11_init 11 = .ok (.aload_n 0, 1) := by decide +kernel
theorem dX11_init_12 : decode cX11_init 12 = .ok (.iconst 4, 1) := by decide +kernel
theorem dX11_init_13 : decode cX11_init 13 = .ok (.newarray .int, 2) := by decide +kernel
theorem dX11_init_15 : decode cX11_init 15 = .ok (.putfield 15, 3) := by decide +kernel
theorem dX11_init_18 : decode cX11_init 18 = .ok (.aload_n 0, 1) := by decide +kernel
theorem dX11_init_19 : decode cX11_init 19 = .ok (.iconst 4, 1) := by decide +kernel
theorem dX11_init_20 : decode cX11_init 20 = .ok (.newarray .int, 2) := by decide +kernel
theorem dX11_init_22 : decode cX11_init 22 = .ok (.putfield 18, 3) := by decide +kernel
theorem dX11_init_25 : decode cX11_init 25 = .ok (.aload_n 0, 1) := by decide +kernel
theorem dX11_init_26 : decode cX11_init 26 = .ok (.iconst 4, 1) := by decide +kernel
theorem dX11_init_27 : decode cX11_init 27 = .ok (.newarray .int, 2) := by decide +kernel
theorem dX11_init_29 : decode cX11_init 29 = .ok (.putfield 21, 3) := by decide +kernel
theorem dX11_init_32 : decode cX11_init 32 = .ok (.aload_n 0, 1) := by decide +kernel
theorem dX11_init_33 : decode cX11_init 33 = .ok (.iconst 4, 1) := by decide +kernel
theorem dX11_init_34 : decode cX11_init 34 = .ok (.newarray .int, 2) := by decide +kernel
theorem dX11_init_36 : decode cX11_init 36 = .ok (.putfield 24, 3) := by decide +kernel
theorem dX11_init_39 : decode cX11_init 39 = .ok (.aload_n 0, 1) := by decide +kernel
theorem dX11_init_40 : decode cX11_init 40 = .ok (.bipush 40, 2) := by decide +kernel
theorem dX11_init_42 : decode cX11_init 42 = .ok (.newarray .int, 2) := by decide +kernel
theorem dX11_init_44 : decode cX11_init 44 = .ok (.putfield 27, 3) := by decide +kernel
theorem dX11_init_47 : decode cX11_init 47 = .ok (.aload_n 0, 1) := by decide +kernel
theorem dX11_init_48 : decode cX11_init 48 = .ok (.bipush 40, 2) := by decide +kernel
theorem dX11_init_50 : decode cX11_init 50 = .ok (.newarray .int, 2) := by decide +kernel
theorem dX11_init_52 : decode cX11_init 52 = .ok (.putfield 30, 3) := by decide +kernel
theorem dX11_init_55 : decode cX11_init 55 = .ok (.aload_n 0, 1) := by decide +kernel
theorem dX11_init_56 : decode cX11_init 56 = .ok (.bipush 41, 2) := by decide +kernel
theorem dX11_init_58 : decode cX11_init 58 = .ok (.newarray .int, 2) := by decide +kernel
theorem dX11_init_60 : decode cX11_init 60 = .ok (.putfield 33, 3) := by decide +kernel
theorem dX11_init_63 : decode cX11_init 63 = .ok (.aload_n 0, 1) := by decide +kernel
theorem dX11_init_64 : decode cX11_init 64 = .ok (.bipush 41, 2) := by decide +kernel
theorem dX11_init_66 : decode cX11_init 66 = .ok (.newarray .int, 2) := by decide +kernel
theorem dX11_init_68 : decode cX11_init 68 = .ok (.putfield 36, 3) := by decide +kernel
theorem dX11_init_71 : decode cX11_init 71 = .ok (.aload_n 0, 1) := by decide +kernel
theorem dX11_init_72 : decode cX11_init 72 = .ok (.bipush 41, 2) := by decide +kernel
theorem dX11_init_74 : decode cX11_init 74 = .ok (.newarray .int, 2) := by decide +kernel
theorem dX11_init_76 : decode cX11_init 76 = .ok (.putfield 39, 3) := by decide +kernel
theorem dX11_init_79 : decode cX11_init 79 = .ok (.aload_n 0, 1) := by decide +kernel
theorem dX11_init_80 : decode cX11_init 80 = .ok (.sipush 256, 3) := by decide +kernel
theorem dX11_init_83 : decode cX11_init 83 = .ok (.newarray .int, 2) := by decide +kernel
theorem dX11_init_85 : decode cX11_init 85 = .ok (.putfield 42, 3) := by decide +kernel
theorem dX11_init_88 : decode cX11_init 88 = .ok (.aload_n 0, 1) := by decide +kernel
theorem dX11_init_89 : decode cX11_init 89 = .ok (.bipush 60, 2) := by decide +kernel
theorem dX11_init_91 : decode cX11_init 91 = .ok (.newarray .int, 2) := by decide +kernel
theorem dX11_init_93 : decode cX11_init 93 = .ok (.putfield 45, 3) := by decide +kernel
theorem dX11_init_96 : decode cX11_init 96 = .ok (.aload_n 0, 1) := by decide +kernel
theorem dX11_init_97 : decode cX11_init 97 = .ok (.bipush 60, 2) := by decide +kernel
theorem dX11_init_99 : decode cX11_init 99 = .ok (.newarray .int, 2) := by decide +kernel
theorem dX11_init_101 : decode cX11_init 101 = .ok (.putfield 48, 3) := by decide +kernel
theorem dX11_init_104 : decode cX11_init 104 = .ok (.aload_n 0, 1) := by decide +kernel
theorem dX11_init_105 : decode cX11_init 105 = .ok (.sipush 240, 3) := by decide +kernel
theorem dX11_init_108 : decode cX11_init 108 = .ok (.newarray .int, 2) := by decide +kernel
theorem dX11_init_110 : decode cX11_init 110 = .ok (.putfield 51, 3) := by decide +kernel
theorem dX11_init_113 : decode cX11_init 113 = .ok (.aload_n 0, 1) := by decide +kernel
theorem dX11_init_114 : decode cX11_init 114 = .ok (.bipush 20, 2) := by decide +kernel
theorem dX11_init_116 : decode cX11_init 116 = .ok (.newarray .int, 2) := by decide +kernel
theorem dX11_init_118 : decode cX11_init 118 = .ok (.putfield 54, 3) := by decide +kernel
theorem dX11_init_121 : decode cX11_init 121 = .ok (.aload_n 0, 1) := by decide +kernel
theorem dX11_init_122 : decode cX11_init 122 = .ok (.iconst 4, 1) := by decide +kernel
theorem dX11_init_123 : decode cX11_init 123 = .ok (.newarray .int, 2) := by decide +kernel
theorem dX11_init_125 : decode cX11_init 125 = .ok (.putfield 57, 3) := by decide +kernel
theorem dX11_init_128 : decode cX11_init 128 = .ok (.aload_n 0, 1) := by decide +kernel
theorem dX11_init_129 : decode cX11_init 129 = .ok (.iconst 4, 1) := by decide +kernel
theorem dX11_init_130 : decode cX11_init 130 = .ok (.newarray .int, 2) := by decide +kernel
theorem dX11_init_132 : decode cX11_init 132 = .ok (.putfield 60, 3) := by decide +kernel
theorem dX11_init_135 : decode cX11_init 135 = .ok (.aload_n 0, 1) := by decide +kernel
theorem dX11_init_136 : decode cX11_init 136 = .ok (.sipush 160, 3) := by decide +kernel
theorem dX11_init_139 : decode cX11_init 139 = .ok (.newarray .int, 2) := by decide +kernel
theorem dX11_init_141 : decode cX11_init 141 = .ok (.putfield 63, 3) := by decide +kernel
theorem dX11_init_144 : decode cX11_init 144 = .ok (.iconst 0, 1) := by decide +kernel
theorem dX11_init_145 : decode cX11_init 145 = .ok (.istore_n 1, 1) := by decide +kernel
theorem dX11_init_146 : decode cX11_init 146 = .ok (.iload_n 1, 1) := by decide +kernel
theorem dX11_init_147 : decode cX11_init 147 = .ok (.iconst 4, 1) := by decide +kernel
theorem dX11_init_148 : decode cX11_init 148 = .ok (.if_icmp .ge 16, 3) := by decide +kernel
theorem dX11_init_151 : decode cX11_init 151 = .ok (.aload_n 0, 1) := by decide +kernel
theorem dX11_init_152 : decode cX11_init 152 = .ok (.getfield 57, 3) := by decide +kernel
theorem dX11_init_155 : decode cX11_init 155 = .ok (.iload_n 1, 1) := by decide +kernel
theorem dX11_init_156 : decode cX11_init 156 = .ok (.iconst (-1), 1) := by decide +kernel
theorem dX11_init_157 : decode cX11_init 157 = .ok (.iastore, 1) := by decide +kernel
theorem dX11_init_158 : decode cX11_init 158 = .ok (.iinc 1 1, 3) := by decide +kernel
theorem dX11_init_161 : decode cX11_init 161 = .ok (.goto (-15), 3) := by decide +kernel
theorem dX11_init_164 : decode cX11_init 164 = .ok (.return_, 1) := by decide +kernel
theorem dX11_isMachine_0 : decode cX11_isMachine 0 = .ok (.iload_n 1, 1) := by decide +kernel
theorem dX11_isMachine_1 : decode cX11_isMachine 1 = .ok (.iconst 0, 1) := by decide +kernel
theorem dX11_isMachine_2 : decode cX11_isMachine 2 = .ok (.aload_n 0, 1) := by decide +kernel
theorem dX11_isMachine_3 : decode cX11_isMachine 3 = .ok (.getfield 66, 3) := by decide +kernel
theorem dX11_isMachine_6 : decode cX11_isMachine 6 = .ok (.iconst 1, 1) := by decide +kernel
theorem dX11_isMachine_7 : decode cX11_isMachine 7 = .ok (.isub, 1) := by decide +kernel
theorem dX11_isMachine_8 : decode cX11_isMachine 8 = .ok (.invokestatic 70, 3) := by decide +kernel
theorem dX11_isMachine_11 : decode cX11_isMachine 11 = .ok (.ireturn, 1) := by decide +kernel
theorem dX11_isState_0 : decode cX11_isState 0 = .ok (.iload_n 0, 1) := by decide +kernel
theorem dX11_isState_1 : decode cX11_isState 1 = .ok (.iconst 0, 1) := by decide +kernel
theorem dX11_isState_2 : decode cX11_isState 2 = .ok (.iconst 1, 1) := by decide +kernel
theorem dX11_isState_3 : decode cX11_isState 3 = .ok (.iload_n 1, 1) := by decide +kernel
theorem dX11_isState_4 : decode cX11_isState 4 = .ok (.ishl, 1) := by decide +kernel
theorem dX11_isState_5 : decode cX11_isState 5 = .ok (.iconst 1, 1) := by decide +kernel
theorem dX11_isState_6 : decode cX11_isState 6 = .ok (.isub, 1) := by decide +kernel
theorem dX11_isState_7 : decode cX11_isState 7 = .ok (.invokestatic 70, 3) := by decide +kernel
theorem dX11_isState_10 : decode cX11_isState 10 = .ok (.ireturn, 1) := by decide +kernel
theorem dX11_isKind_0 : decode cX11_isKind 0 = .ok (.iload_n 0, 1) := by decide +kernel
theorem dX11_isKind_1 : decode cX11_isKind 1 = .ok (.iconst 0, 1) := by decide +kernel
theorem dX11_isKind_2 : decode cX11_isKind 2 = .ok (.iconst 5, 1) := by decide +kernel
theorem dX11_isKind_3 : decode cX11_isKind 3 = .ok (.invokestatic 70, 3) := by decide +kernel
theorem dX11_isKind_6 : decode cX11_isKind 6 = .ok (.ireturn, 1) := by decide +kernel
theorem dX11_lay_0 : decode cX11_lay 0 = .ok (.aload_n 0, 1) := by decide +kernel
theorem dX11_lay_1 : decode cX11_lay 1 = .ok (.getfield 11, 3) := by decide +kernel
theorem dX11_lay_4 : decode cX11_lay 4 = .ok (.iload_n 1, 1) := by decide +kernel
theorem dX11_lay_5 : decode cX11_lay 5 = .ok (.iload_n 2, 1) := by decide +kernel
theorem dX11_lay_6 : decode cX11_lay 6 = .ok (.iastore, 1) := by decide +kernel
theorem dX11_lay_7 : decode cX11_lay 7 = .ok (.aload_n 0, 1) := by decide +kernel
theorem dX11_lay_8 : decode cX11_lay 8 = .ok (.getfield 15, 3) := by decide +kernel
theorem dX11_lay_11 : decode cX11_lay 11 = .ok (.iload_n 1, 1) := by decide +kernel
theorem dX11_lay_12 : decode cX11_lay 12 = .ok (.iload_n 3, 1) := by decide +kernel
theorem dX11_lay_13 : decode cX11_lay 13 = .ok (.iastore, 1) := by decide +kernel
theorem dX11_lay_14 : decode cX11_lay 14 = .ok (.aload_n 0, 1) := by decide +kernel
theorem dX11_lay_15 : decode cX11_lay 15 = .ok (.getfield 18, 3) := by decide +kernel
theorem dX11_lay_18 : decode cX11_lay 18 = .ok (.iload_n 1, 1) := by decide +kernel
theorem dX11_lay_19 : decode cX11_lay 19 = .ok (.iload 4, 2) := by decide +kernel
theorem dX11_lay_21 : decode cX11_lay 21 = .ok (.iastore, 1) := by decide +kernel
theorem dX11_lay_22 : decode cX11_lay 22 = .ok (.aload_n 0, 1) := by decide +kernel
theorem dX11_lay_23 : decode cX11_lay 23 = .ok (.getfield 21, 3) := by decide +kernel
theorem dX11_lay_26 : decode cX11_lay 26 = .ok (.iload_n 1, 1) := by decide +kernel
theorem dX11_lay_27 : decode cX11_lay 27 = .ok (.iload 5, 2) := by decide +kernel
theorem dX11_lay_29 : decode cX11_lay 29 = .ok (.iastore, 1) := by decide +kernel
theorem dX11_lay_30 : decode cX11_lay 30 = .ok (.aload_n 0, 1) := by decide +kernel
theorem dX11_lay_31 : decode cX11_lay 31 = .ok (.getfield 24, 3) := by decide +kernel
theorem dX11_lay_34 : decode cX11_lay 34 = .ok (.iload_n 1, 1) := by decide +kernel
theorem dX11_lay_35 : decode cX11_lay 35 = .ok (.iload 6, 2) := by decide +kernel
theorem dX11_lay_37 : decode cX11_lay 37 = .ok (.iastore, 1) := by decide +kernel
theorem dX11_lay_38 : decode cX11_lay 38 = .ok (.return_, 1) := by decide +kernel
theorem dX11_machine_0 : decode cX11_machine 0 = .ok (.iload_n 1, 1) := by decide +kernel
theorem dX11_machine_1 : decode cX11_machine 1 = .ok (.invokestatic 74, 3) := by decide +kernel
theorem dX11_machine_4 : decode cX11_machine 4 = .ok (.ifCond .eq 35, 3) := by decide +kernel
theorem dX11_machine_7 : decode cX11_machine 7 = .ok (.iload_n 2, 1) := by decide +kernel
theorem dX11_machine_8 : decode cX11_machine 8 = .ok (.iconst 1, 1) := by decide +kernel
theorem dX11_machine_9 : decode cX11_machine 9 = .ok (.bipush 6, 2) := by decide +kernel
theorem dX11_machine_11 : decode cX11_machine 11 = .ok (.invokestatic 70, 3) := by decide +kernel
theorem dX11_machine_14 : decode cX11_machine 14 = .ok (.ifCond .eq 25, 3) := by decide +kernel
theorem dX11_machine_17 : decode cX11_machine 17 = .ok (.iload_n 3, 1) := by decide +kernel
theorem dX11_machine_18 : decode cX11_machine 18 = .ok (.iconst 1, 1) := by decide +kernel
theorem dX11_machine_19 : decode cX11_machine 19 = .ok (.if_icmp .lt 20, 3) := by decide +kernel
theorem dX11_machine_22 : decode cX11_machine 22 = .ok (.iload_n 3, 1) := by decide +kernel
theorem dX11_machine_23 : decode cX11_machine 23 = .ok (.iload_n 2, 1) := by decide +kernel
theorem dX11_machine_24 : decode cX11_machine 24 = .ok (.invokestatic 78, 3) := by decide +kernel
theorem dX11_machine_27 : decode cX11_machine 27 = .ok (.ifCond .eq 12, 3) := by decide +kernel
theorem dX11_machine_30 : decode cX11_machine 30 = .ok (.iload 4, 2) := by decide +kernel
theorem dX11_machine_32 : decode cX11_machine 32 = .ok (.iload_n 2, 1) := by decide +kernel
theorem dX11_machine_33 : decode cX11_machine 33 = .ok (.invokestatic 78, 3) := by decide +kernel
theorem dX11_machine_36 : decode cX11_machine 36 = .ok (.ifCond .ne 6, 3) := by decide +kernel
theorem dX11_machine_39 : decode cX11_machine 39 = .ok (.bipush (-2), 2) := by decide +kernel
theorem dX11_machine_41 : decode cX11_machine 41 = .ok (.ireturn, 1) := by decide +kernel
theorem dX11_machine_42 : decode cX11_machine 42 = .ok (.aload_n 0, 1) := by decide +kernel
theorem dX11_machine_43 : decode cX11_machine 43 = .ok (.getfield 66, 3) := by decide +kernel
theorem dX11_machine_46 : decode cX11_machine 46 = .ok (.iconst 4, 1) := by decide +kernel
theorem dX11_machine_47 : decode cX11_machine 47 = .ok (.if_icmp .ne 6, 3) := by decide +kernel
theorem dX11_machine_50 : decode cX11_machine 50 = .ok (.bipush (-4), 2) := by decide +kernel
theorem dX11_machine_52 : decode cX11_machine 52 = .ok (.ireturn, 1) := by decide +kernel
theorem dX11_machine_53 : decode cX11_machine 53 = .ok (.aload_n 0, 1) := by decide +kernel
theorem dX11_machine_54 : decode cX11_machine 54 = .ok (.aload_n 0, 1) := by decide +kernel
theorem dX11_machine_55 : decode cX11_machine 55 = .ok (.getfield 66, 3) := by decide +kernel
theorem dX11_machine_58 : decode cX11_machine 58 = .ok (.iload_n 1, 1) := by decide +kernel
theorem dX11_machine_59 : decode cX11_machine 59 = .ok (.iload_n 2, 1) := by decide +kernel
theorem dX11_machine_60 : decode cX11_machine 60 = .ok (.iload_n 3, 1) := by decide +kernel
theorem dX11_machine_61 : decode cX11_machine 61 = .ok (.iload 4, 2) := by decide +kernel
theorem dX11_machine_63 : decode cX11_machine 63 = .ok (.iconst 0, 1) := by decide +kernel
theorem dX11_machine_64 : decode cX11_machine 64 = .ok (.invokevirtual 82, 3) := by decide +kernel
theorem dX11_machine_67 : decode cX11_machine 67 = .ok (.aload_n 0, 1) := by decide +kernel
theorem dX11_machine_68 : decode cX11_machine 68 = .ok (.dup, 1) := by decide +kernel
theorem dX11_machine_69 : decode cX11_machine 69 = .ok (.getfield 66, 3) := by decide +kernel
theorem dX11_machine_72 : decode cX11_machine 72 = .ok (.iconst 1, 1) := by decide +kernel
theorem dX11_machine_73 : decode cX11_machine 73 = .ok (.iadd, 1) := by decide +kernel
theorem dX11_machine_74 : decode cX11_machine 74 = .ok (.putfield 66, 3) := by decide +kernel
theorem dX11_machine_77 : decode cX11_machine 77 = .ok (.aload_n 0, 1) := by decide +kernel
theorem dX11_machine_78 : decode cX11_machine 78 = .ok (.getfield 66, 3) := by decide +kernel
theorem dX11_machine_81 : decode cX11_machine 81 = .ok (.iconst 1, 1) := by decide +kernel
theorem dX11_machine_82 : decode cX11_machine 82 = .ok (.isub, 1) := by decide +kernel
theorem dX11_machine_83 : decode cX11_machine 83 = .ok (.ireturn, 1) := by decide +kernel
theorem dX11_drop_0 : decode cX11_drop 0 = .ok (.aload_n 0, 1) := by decide +kernel
theorem dX11_drop_1 : decode cX11_drop 1 = .ok (.getfield 66, 3) := by decide +kernel
theorem dX11_drop_4 : decode cX11_drop 4 = .ok (.ifCond .ne 6, 3) := by decide +kernel
theorem dX11_drop_7 : decode cX11_drop 7 = .ok (.bipush (-3), 2) := by decide +kernel
theorem dX11_drop_9 : decode cX11_drop 9 = .ok (.ireturn, 1) := by decide +kernel
theorem dX11_drop_10 : decode cX11_drop 10 = .ok (.aload_n 0, 1) := by decide +kernel
theorem dX11_drop_11 : decode cX11_drop 11 = .ok (.dup, 1) := by decide +kernel
theorem dX11_drop_12 : decode cX11_drop 12 = .ok (.getfield 66, 3) := by decide +kernel
theorem dX11_drop_15 : decode cX11_drop 15 = .ok (.iconst 1, 1) := by decide +kernel
theorem dX11_drop_16 : decode cX11_drop 16 = .ok (.isub, 1) := by decide +kernel
theorem dX11_drop_17 : decode cX11_drop 17 = .ok (.putfield 66, 3) := by decide +kernel
theorem dX11_drop_20 : decode cX11_drop 20 = .ok (.aload_n 0, 1) := by decide +kernel
theorem dX11_drop_21 : decode cX11_drop 21 = .ok (.getfield 66, 3) := by decide +kernel
theorem dX11_drop_24 : decode cX11_drop 24 = .ok (.ireturn, 1) := by decide +kernel
theorem dX11_isSettable_0 : decode cX11_isSettable 0 = .ok (.iload_n 2, 1) := by decide +kernel
theorem dX11_isSettable_1 : decode cX11_isSettable 1 = .ok (.tableswitch 80 0 3 #[31, 42, 51, 75], 31) := by decide +kernel
theorem dX11_isSettable_32 : decode cX11_isSettable 32 = .ok (.iload_n 3, 1) := by decide +kernel
theorem dX11_isSettable_33 : decode cX11_isSettable 33 = .ok (.aload_n 0, 1) := by decide +kernel
theorem dX11_isSettable_34 : decode cX11_isSettable 34 = .ok (.getfield 15, 3) := by decide +kernel
theorem dX11_isSettable_37 : decode cX11_isSettable 37 = .ok (.iload_n 1, 1) := by decide +kernel
theorem dX11_isSettable_38 : decode cX11_isSettable 38 = .ok (.iaload, 1) := by decide +kernel
theorem dX11_isSettable_39 : decode cX11_isSettable 39 = .ok (.invokestatic 78, 3) := by decide +kernel
theorem dX11_isSettable_42 : decode cX11_isSettable 42 = .ok (.ireturn, 1) := by decide +kernel
theorem dX11_isSettable_43 : decode cX11_isSettable 43 = .ok (.iload_n 3, 1) := by decide +kernel
theorem dX11_isSettable_44 : decode cX11_isSettable 44 = .ok (.bipush (-9), 2) := by decide +kernel
theorem dX11_isSettable_46 : decode cX11_isSettable 46 = .ok (.bipush 9, 2) := by decide +kernel
theorem dX11_isSettable_48 : decode cX11_isSettable 48 = .ok (.invokestatic 70, 3) := by decide +kernel
theorem dX11_isSettable_51 : decode cX11_isSettable 51 = .ok (.ireturn, 1) := by decide +kernel
theorem dX11_isSettable_52 : decode cX11_isSettable 52 = .ok (.iload_n 3, 1) := by decide +kernel
theorem dX11_isSettable_53 : decode cX11_isSettable 53 = .ok (.iconst 1, 1) := by decide +kernel
theorem dX11_isSettable_54 : decode cX11_isSettable 54 = .ok (.if_icmp .lt 20, 3) := by decide +kernel
theorem dX11_isSettable_57 : decode cX11_isSettable 57 = .ok (.iload_n 3, 1) := by decide +kernel
theorem dX11_isSettable_58 : decode cX11_isSettable 58 = .ok (.aload_n 0, 1) := by decide +kernel
theorem dX11_isSettable_59 : decode cX11_isSettable 59 = .ok (.getfield 15, 3) := by decide +kernel
theorem dX11_isSettable_62 : decode cX11_isSettable 62 = .ok (.iload_n 1, 1) := by decide +kernel
theorem dX11_isSettable_63 : decode cX11_isSettable 63 = .ok (.iaload, 1) := by decide +kernel
theorem dX11_isSettable_64 : decode cX11_isSettable 64 = .ok (.invokestatic 78, 3) := by decide +kernel
theorem dX11_isSettable_67 : decode cX11_isSettable 67 = .ok (.ifCond .eq 7, 3) := by decide +kernel
theorem dX11_isSettable_70 : decode cX11_isSettable 70 = .ok (.iconst 1, 1) := by decide +kernel
theorem dX11_isSettable_71 : decode cX11_isSettable 71 = .ok (.goto 4, 3) := by decide +kernel
theorem dX11_isSettable_74 : decode cX11_isSettable 74 = .ok (.iconst 0, 1) := by decide +kernel
theorem dX11_isSettable_75 : decode cX11_isSettable 75 = .ok (.ireturn, 1) := by decide +kernel
theorem dX11_isSettable_76 : decode cX11_isSettable 76 = .ok (.iload_n 3, 1) := by decide +kernel
theorem dX11_isSettable_77 : decode cX11_isSettable 77 = .ok (.invokestatic 74, 3) := by decide +kernel
theorem dX11_isSettable_80 : decode cX11_isSettable 80 = .ok (.ireturn, 1) := by decide +kernel
theorem dX11_isSettable_81 : decode cX11_isSettable 81 = .ok (.iconst 0, 1) := by decide +kernel
theorem dX11_isSettable_82 : decode cX11_isSettable 82 = .ok (.ireturn, 1) := by decide +kernel
theorem dX11_rowOf_0 : decode cX11_rowOf 0 = .ok (.iload_n 1, 1) := by decide +kernel
theorem dX11_rowOf_1 : decode cX11_rowOf 1 = .ok (.ifCond .ne 10, 3) := by decide +kernel
theorem dX11_rowOf_4 : decode cX11_rowOf 4 = .ok (.aload_n 0, 1) := by decide +kernel
theorem dX11_rowOf_5 : decode cX11_rowOf 5 = .ok (.getfield 21, 3) := by decide +kernel
theorem dX11_rowOf_8 : decode cX11_rowOf 8 = .ok (.goto 31, 3) := by decide +kernel
theorem dX11_rowOf_11 : decode cX11_rowOf 11 = .ok (.iload_n 1, 1) := by decide +kernel
theorem dX11_rowOf_12 : decode cX11_rowOf 12 = .ok (.iconst 1, 1) := by decide +kernel
theorem dX11_rowOf_13 : decode cX11_rowOf 13 = .ok (.if_icmp .ne 10, 3) := by decide +kernel
theorem dX11_rowOf_16 : decode cX11_rowOf 16 = .ok (.aload_n 0, 1) := by decide +kernel
theorem dX11_rowOf_17 : decode cX11_rowOf 17 = .ok (.getfield 24, 3) := by decide +kernel
theorem dX11_rowOf_20 : decode cX11_rowOf 20 = .ok (.goto 19, 3) := by decide +kernel
theorem dX11_rowOf_23 : decode cX11_rowOf 23 = .ok (.iload_n 1, 1) := by decide +kernel
theorem dX11_rowOf_24 : decode cX11_rowOf 24 = .ok (.iconst 2, 1) := by decide +kernel
theorem dX11_rowOf_25 : decode cX11_rowOf 25 = .ok (.if_icmp .ne 10, 3) := by decide +kernel
theorem dX11_rowOf_28 : decode cX11_rowOf 28 = .ok (.aload_n 0, 1) := by decide +kernel
theorem dX11_rowOf_29 : decode cX11_rowOf 29 = .ok (.getfield 18, 3) := by decide +kernel
theorem dX11_rowOf_32 : decode cX11_rowOf 32 = .ok (.goto 7, 3) := by decide +kernel
theorem dX11_rowOf_35 : decode cX11_rowOf 35 = .ok (.aload_n 0, 1) := by decide +kernel
theorem dX11_rowOf_36 : decode cX11_rowOf 36 = .ok (.getfield 11, 3) := by decide +kernel
theorem dX11_rowOf_39 : decode cX11_rowOf 39 = .ok (.areturn, 1) := by decide +kernel
theorem dX11_set_0 : decode cX11_set 0 = .ok (.aload_n 0, 1) := by decide +kernel
theorem dX11_set_1 : decode cX11_set 1 = .ok (.iload_n 1, 1) := by decide +kernel
theorem dX11_set_2 : decode cX11_set 2 = .ok (.invokevirtual 86, 3) := by decide +kernel
theorem dX11_set_5 : decode cX11_set 5 = .ok (.ifCond .eq 13, 3) := by decide +kernel
theorem dX11_set_8 : decode cX11_set 8 = .ok (.aload_n 0, 1) := by decide +kernel
theorem dX11_set_9 : decode cX11_set 9 = .ok (.iload_n 1, 1) := by decide +kernel
theorem dX11_set_10 : decode cX11_set 10 = .ok (.iload_n 2, 1) := by decide +kernel
theorem dX11_set_11 : decode cX11_set 11 = .ok (.iload_n 3, 1) := by decide +kernel
theorem dX11_set_12 : decode cX11_set 12 = .ok (.invokevirtual 89, 3) := by decide +kernel
theorem dX11_set_15 : decode cX11_set 15 = .ok (.ifCond .ne 7, 3) := by decide +kernel
theorem dX11_set_18 : decode cX11_set 18 = .ok (.sipush (-1000), 3) := by decide +kernel
theorem dX11_set_21 : decode cX11_set 21 = .ok (.ireturn, 1) := by decide +kernel
theorem dX11_set_22 : decode cX11_set 22 = .ok (.aload_n 0, 1) := by decide +kernel
theorem dX11_set_23 : decode cX11_set 23 = .ok (.iload_n 2, 1) := by decide +kernel
theorem dX11_set_24 : decode cX11_set 24 = .ok (.invokevirtual 92, 3) := by decide +kernel
theorem dX11_set_27 : decode cX11_set 27 = .ok (.iload_n 1, 1) := by decide +kernel
theorem dX11_set_28 : decode cX11_set 28 = .ok (.iaload, 1) := by decide +kernel
theorem dX11_set_29 : decode cX11_set 29 = .ok (.istore 4, 2) := by decide +kernel
theorem dX11_set_31 : decode cX11_set 31 = .ok (.aload_n 0, 1) := by decide +kernel
theorem dX11_set_32 : decode cX11_set 32 = .ok (.iload_n 2, 1) := by decide +kernel
theorem dX11_set_33 : decode cX11_set 33 = .ok (.invokevirtual 92, 3) := by decide +kernel
theorem dX11_set_36 : decode cX11_set 36 = .ok (.iload_n 1, 1) := by decide +kernel
theorem dX11_set_37 : decode cX11_set 37 = .ok (.iload_n 3, 1) := by decide +kernel
theorem dX11_set_38 : decode cX11_set 38 = .ok (.iastore, 1) := by decide +kernel
theorem dX11_set_39 : decode cX11_set 39 = .ok (.iload 4, 2) := by decide +kernel
theorem dX11_set_41 : decode cX11_set 41 = .ok (.ireturn, 1) := by decide +kernel
theorem dX11_links_0 : decode cX11_links 0 = .ok (.iconst 0, 1) := by decide +kernel
theorem dX11_links_1 : decode cX11_links 1 = .ok (.istore_n 2, 1) := by decide +kernel
theorem dX11_links_2 : decode cX11_links 2 = .ok (.iconst 0, 1) := by decide +kernel
theorem dX11_links_3 : decode cX11_links 3 = .ok (.istore_n 3, 1) := by decide +kernel
theorem dX11_links_4 : decode cX11_links 4 = .ok (.iload_n 3, 1) := by decide +kernel
theorem dX11_links_5 : decode cX11_links 5 = .ok (.aload_n 0, 1) := by decide +kernel
theorem dX11_links_6 : decode cX11_links 6 = .ok (.getfield 15, 3) := by decide +kernel
theorem dX11_links_9 : decode cX11_links 9 = .ok (.iload_n 1, 1) := by decide +kernel
theorem dX11_links_10 : decode cX11_links 10 = .ok (.iaload, 1) := by decide +kernel
theorem dX11_links_11 : decode cX11_links 11 = .ok (.if_icmp .ge 35, 3) := by decide +kernel
theorem dX11_links_14 : decode cX11_links 14 = .ok (.aload_n 0, 1) := by decide +kernel
theorem dX11_links_15 : decode cX11_links 15 = .ok (.getfield 18, 3) := by decide +kernel
theorem dX11_links_18 : decode cX11_links 18 = .ok (.iload_n 1, 1) := by decide +kernel
theorem dX11_links_19 : decode cX11_links 19 = .ok (.iaload, 1) := by decide +kernel
theorem dX11_links_20 : decode cX11_links 20 = .ok (.iload_n 3, 1) := by decide +kernel
theorem dX11_links_21 : decode cX11_links 21 = .ok (.invokestatic 96, 3) := by decide +kernel
theorem dX11_links_24 : decode cX11_links 24 = .ok (.ifCond .eq 16, 3) := by decide +kernel
theorem dX11_links_27 : decode cX11_links 27 = .ok (.iload_n 2, 1) := by decide +kernel
theorem dX11_links_28 : decode cX11_links 28 = .ok (.iconst 1, 1) := by decide +kernel
theorem dX11_links_29 : decode cX11_links 29 = .ok (.aload_n 0, 1) := by decide +kernel
theorem dX11_links_30 : decode cX11_links 30 = .ok (.getfield 15, 3) := by decide +kernel
theorem dX11_links_33 : decode cX11_links 33 = .ok (.iload_n 1, 1) := by decide +kernel
theorem dX11_links_34 : decode cX11_links 34 = .ok (.iaload, 1) := by decide +kernel
theorem dX11_links_35 : decode cX11_links 35 = .ok (.iload_n 3, 1) := by decide +kernel
theorem dX11_links_36 : decode cX11_links 36 = .ok (.isub, 1) := by decide +kernel
theorem dX11_links_37 : decode cX11_links 37 = .ok (.ishl, 1) := by decide +kernel
theorem dX11_links_38 : decode cX11_links 38 = .ok (.iadd, 1) := by decide +kernel
theorem dX11_links_39 : decode cX11_links 39 = .ok (.istore_n 2, 1) := by decide +kernel
theorem dX11_links_40 : decode cX11_links 40 = .ok (.iinc 3 1, 3) := by decide +kernel
theorem dX11_links_43 : decode cX11_links 43 = .ok (.goto (-39), 3) := by decide +kernel
theorem dX11_links_46 : decode cX11_links 46 = .ok (.iload_n 2, 1) := by decide +kernel
theorem dX11_links_47 : decode cX11_links 47 = .ok (.iconst 1, 1) := by decide +kernel
theorem dX11_links_48 : decode cX11_links 48 = .ok (.isub, 1) := by decide +kernel
theorem dX11_links_49 : decode cX11_links 49 = .ok (.ireturn, 1) := by decide +kernel
theorem dX11_made_0 : decode cX11_made 0 = .ok (.aload_n 0, 1) := by decide +kernel
theorem dX11_made_1 : decode cX11_made 1 = .ok (.getfield 18, 3) := by decide +kernel
theorem dX11_made_4 : decode cX11_made 4 = .ok (.iload_n 1, 1) := by decide +kernel
theorem dX11_made_5 : decode cX11_made 5 = .ok (.iaload, 1) := by decide +kernel
theorem dX11_made_6 : decode cX11_made 6 = .ok (.iconst 1, 1) := by decide +kernel
theorem dX11_made_7 : decode cX11_made 7 = .ok (.if_icmp .ne 9, 3) := by decide +kernel
theorem dX11_made_10 : decode cX11_made 10 = .ok (.sipush 132, 3) := by decide +kernel
theorem dX11_made_13 : decode cX11_made 13 = .ok (.goto 5, 3) := by decide +kernel
theorem dX11_made_16 : decode cX11_made 16 = .ok (.bipush 13, 2) := by decide +kernel
theorem dX11_made_18 : decode cX11_made 18 = .ok (.istore_n 2, 1) := by decide +kernel
theorem dX11_made_19 : decode cX11_made 19 = .ok (.aload_n 0, 1) := by decide +kernel
theorem dX11_made_20 : decode cX11_made 20 = .ok (.getfield 11, 3) := by decide +kernel
theorem dX11_made_23 : decode cX11_made 23 = .ok (.iload_n 1, 1) := by decide +kernel
theorem dX11_made_24 : decode cX11_made 24 = .ok (.iaload, 1) := by decide +kernel
theorem dX11_made_25 : decode cX11_made 25 = .ok (.tableswitch 44 0 2 #[27, 29, 36], 27) := by decide +kernel
theorem dX11_made_52 : decode cX11_made 52 = .ok (.iload_n 2, 1) := by decide +kernel
theorem dX11_made_53 : decode cX11_made 53 = .ok (.ireturn, 1) := by decide +kernel
theorem dX11_made_54 : decode cX11_made 54 = .ok (.bipush 10, 2) := by decide +kernel
theorem dX11_made_56 : decode cX11_made 56 = .ok (.iload_n 2, 1) := by decide +kernel
theorem dX11_made_57 : decode cX11_made 57 = .ok (.imul, 1) := by decide +kernel
theorem dX11_made_58 : decode cX11_made 58 = .ok (.iconst 4, 1) := by decide +kernel
theorem dX11_made_59 : decode cX11_made 59 = .ok (.iadd, 1) := by decide +kernel
theorem dX11_made_60 : decode cX11_made 60 = .ok (.ireturn, 1) := by decide +kernel
theorem dX11_made_61 : decode cX11_made 61 = .ok (.bipush 100, 2) := by decide +kernel
theorem dX11_made_63 : decode cX11_made 63 = .ok (.iload_n 2, 1) := by decide +kernel
theorem dX11_made_64 : decode cX11_made 64 = .ok (.imul, 1) := by decide +kernel
theorem dX11_made_65 : decode cX11_made 65 = .ok (.bipush 45, 2) := by decide +kernel
theorem dX11_made_67 : decode cX11_made 67 = .ok (.iadd, 1) := by decide +kernel
theorem dX11_made_68 : decode cX11_made 68 = .ok (.ireturn, 1) := by decide +kernel
theorem dX11_made_69 : decode cX11_made 69 = .ok (.bipush 10, 2) := by decide +kernel
theorem dX11_made_71 : decode cX11_made 71 = .ok (.iload_n 2, 1) := by decide +kernel
theorem dX11_made_72 : decode cX11_made 72 = .ok (.imul, 1) := by decide +kernel
theorem dX11_made_73 : decode cX11_made 73 = .ok (.iconst 3, 1) := by decide +kernel
theorem dX11_made_74 : decode cX11_made 74 = .ok (.iadd, 1) := by decide +kernel
theorem dX11_made_75 : decode cX11_made 75 = .ok (.aload_n 0, 1) := by decide +kernel
theorem dX11_made_76 : decode cX11_made 76 = .ok (.getfield 11, 3) := by decide +kernel
theorem dX11_made_79 : decode cX11_made 79 = .ok (.iload_n 1, 1) := by decide +kernel
theorem dX11_made_80 : decode cX11_made 80 = .ok (.iaload, 1) := by decide +kernel
theorem dX11_made_81 : decode cX11_made 81 = .ok (.iadd, 1) := by decide +kernel
theorem dX11_made_82 : decode cX11_made 82 = .ok (.ireturn, 1) := by decide +kernel
theorem dX11_of_0 : decode cX11_of 0 = .ok (.aload_n 0, 1) := by decide +kernel
theorem dX11_of_1 : decode cX11_of 1 = .ok (.iload_n 1, 1) := by decide +kernel
theorem dX11_of_2 : decode cX11_of 2 = .ok (.invokevirtual 86, 3) := by decide +kernel
theorem dX11_of_5 : decode cX11_of 5 = .ok (.ifCond .ne 7, 3) := by decide +kernel
theorem dX11_of_8 : decode cX11_of 8 = .ok (.sipush (-1000), 3) := by decide +kernel
theorem dX11_of_11 : decode cX11_of 11 = .ok (.ireturn, 1) := by decide +kernel
theorem dX11_of_12 : decode cX11_of 12 = .ok (.iload_n 2, 1) := by decide +kernel
theorem dX11_of_13 : decode cX11_of 13 = .ok (.tableswitch 90 0 6 #[43, 50, 57, 64, 71, 78, 84], 43) := by decide +kernel
theorem dX11_of_56 : decode cX11_of 56 = .ok (.aload_n 0, 1) := by decide +kernel
theorem dX11_of_57 : decode cX11_of 57 = .ok (.getfield 11, 3) := by decide +kernel
theorem dX11_of_60 : decode cX11_of 60 = .ok (.iload_n 1, 1) := by decide +kernel
theorem dX11_of_61 : decode cX11_of 61 = .ok (.iaload, 1) := by decide +kernel
theorem dX11_of_62 : decode cX11_of 62 = .ok (.ireturn, 1) := by decide +kernel
theorem dX11_of_63 : decode cX11_of 63 = .ok (.aload_n 0, 1) := by decide +kernel
theorem dX11_of_64 : decode cX11_of 64 = .ok (.getfield 15, 3) := by decide +kernel
theorem dX11_of_67 : decode cX11_of 67 = .ok (.iload_n 1, 1) := by decide +kernel
theorem dX11_of_68 : decode cX11_of 68 = .ok (.iaload, 1) := by decide +kernel
theorem dX11_of_69 : decode cX11_of 69 = .ok (.ireturn, 1) := by decide +kernel
theorem dX11_of_70 : decode cX11_of 70 = .ok (.aload_n 0, 1) := by decide +kernel
theorem dX11_of_71 : decode cX11_of 71 = .ok (.getfield 18, 3) := by decide +kernel
theorem dX11_of_74 : decode cX11_of 74 = .ok (.iload_n 1, 1) := by decide +kernel
theorem dX11_of_75 : decode cX11_of 75 = .ok (.iaload, 1) := by decide +kernel
theorem dX11_of_76 : decode cX11_of 76 = .ok (.ireturn, 1) := by decide +kernel
theorem dX11_of_77 : decode cX11_of 77 = .ok (.aload_n 0, 1) := by decide +kernel
theorem dX11_of_78 : decode cX11_of 78 = .ok (.getfield 21, 3) := by decide +kernel
theorem dX11_of_81 : decode cX11_of 81 = .ok (.iload_n 1, 1) := by decide +kernel
theorem dX11_of_82 : decode cX11_of 82 = .ok (.iaload, 1) := by decide +kernel
theorem dX11_of_83 : decode cX11_of 83 = .ok (.ireturn, 1) := by decide +kernel
theorem dX11_of_84 : decode cX11_of 84 = .ok (.aload_n 0, 1) := by decide +kernel
theorem dX11_of_85 : decode cX11_of 85 = .ok (.getfield 24, 3) := by decide +kernel
theorem dX11_of_88 : decode cX11_of 88 = .ok (.iload_n 1, 1) := by decide +kernel
theorem dX11_of_89 : decode cX11_of 89 = .ok (.iaload, 1) := by decide +kernel
theorem dX11_of_90 : decode cX11_of 90 = .ok (.ireturn, 1) := by decide +kernel
theorem dX11_of_91 : decode cX11_of 91 = .ok (.aload_n 0, 1) := by decide +kernel
theorem dX11_of_92 : decode cX11_of 92 = .ok (.iload_n 1, 1) := by decide +kernel
theorem dX11_of_93 : decode cX11_of 93 = .ok (.invokevirtual 99, 3) := by decide +kernel
theorem dX11_of_96 : decode cX11_of 96 = .ok (.ireturn, 1) := by decide +kernel
theorem dX11_of_97 : decode cX11_of 97 = .ok (.aload_n 0, 1) := by decide +kernel
theorem dX11_of_98 : decode cX11_of 98 = .ok (.iload_n 1, 1) := by decide +kernel
theorem dX11_of_99 : decode cX11_of 99 = .ok (.invokevirtual 103, 3) := by decide +kernel
theorem dX11_of_102 : decode cX11_of 102 = .ok (.ireturn, 1) := by decide +kernel
theorem dX11_of_103 : decode cX11_of 103 = .ok (.sipush (-1000), 3) := by decide +kernel
theorem dX11_of_106 : decode cX11_of 106 = .ok (.ireturn, 1) := by decide +kernel
theorem dX11_isUnder_0 : decode cX11_isUnder 0 = .ok (.iload_n 1, 1) := by decide +kernel
theorem dX11_isUnder_1 : decode cX11_isUnder 1 = .ok (.ifCond .eq 18, 3) := by decide +kernel
theorem dX11_isUnder_4 : decode cX11_isUnder 4 = .ok (.iload_n 0, 1) := by decide +kernel
theorem dX11_isUnder_5 : decode cX11_isUnder 5 = .ok (.iload_n 1, 1) := by decide +kernel
theorem dX11_isUnder_6 : decode cX11_isUnder 6 = .ok (.if_icmp .eq 13, 3) := by decide +kernel
theorem dX11_isUnder_9 : decode cX11_isUnder 9 = .ok (.iload_n 0, 1) := by decide +kernel
theorem dX11_isUnder_10 : decode cX11_isUnder 10 = .ok (.iconst 2, 1) := by decide +kernel
theorem dX11_isUnder_11 : decode cX11_isUnder 11 = .ok (.if_icmp .ne 12, 3) := by decide +kernel
theorem dX11_isUnder_14 : decode cX11_isUnder 14 = .ok (.iload_n 1, 1) := by decide +kernel
theorem dX11_isUnder_15 : decode cX11_isUnder 15 = .ok (.iconst 1, 1) := by decide +kernel
theorem dX11_isUnder_16 : decode cX11_isUnder 16 = .ok (.if_icmp .ne 7, 3) := by decide +kernel
theorem dX11_isUnder_19 : decode cX11_isUnder 19 = .ok (.iconst 1, 1) := by decide +kernel
theorem dX11_isUnder_20 : decode cX11_isUnder 20 = .ok (.goto 4, 3) := by decide +kernel
theorem dX11_isUnder_23 : decode cX11_isUnder 23 = .ok (.iconst 0, 1) := by decide +kernel
theorem dX11_isUnder_24 : decode cX11_isUnder 24 = .ok (.ireturn, 1) := by decide +kernel
theorem dX11_taken_0 : decode cX11_taken 0 = .ok (.aload_n 0, 1) := by decide +kernel
theorem dX11_taken_1 : decode cX11_taken 1 = .ok (.iload_n 1, 1) := by decide +kernel
theorem dX11_taken_2 : decode cX11_taken 2 = .ok (.invokevirtual 86, 3) := by decide +kernel
theorem dX11_taken_5 : decode cX11_taken 5 = .ok (.ifCond .eq 10, 3) := by decide +kernel
theorem dX11_taken_8 : decode cX11_taken 8 = .ok (.iload_n 2, 1) := by decide +kernel
theorem dX11_taken_9 : decode cX11_taken 9 = .ok (.invokestatic 74, 3) := by decide +kernel
theorem dX11_taken_12 : decode cX11_taken 12 = .ok (.ifCond .ne 6, 3) := by decide +kernel
theorem dX11_taken_15 : decode cX11_taken 15 = .ok (.bipush (-2), 2) := by decide +kernel
theorem dX11_taken_17 : decode cX11_taken 17 = .ok (.ireturn, 1) := by decide +kernel
theorem dX11_taken_18 : decode cX11_taken 18 = .ok (.aload_n 0, 1) := by decide +kernel
theorem dX11_taken_19 : decode cX11_taken 19 = .ok (.getfield 11, 3) := by decide +kernel
theorem dX11_taken_22 : decode cX11_taken 22 = .ok (.iload_n 1, 1) := by decide +kernel
theorem dX11_taken_23 : decode cX11_taken 23 = .ok (.iaload, 1) := by decide +kernel
theorem dX11_taken_24 : decode cX11_taken 24 = .ok (.iload_n 2, 1) := by decide +kernel
theorem dX11_taken_25 : decode cX11_taken 25 = .ok (.invokestatic 106, 3) := by decide +kernel
theorem dX11_taken_28 : decode cX11_taken 28 = .ok (.ifCond .eq 12, 3) := by decide +kernel
theorem dX11_taken_31 : decode cX11_taken 31 = .ok (.aload_n 0, 1) := by decide +kernel
theorem dX11_taken_32 : decode cX11_taken 32 = .ok (.getfield 18, 3) := by decide +kernel
theorem dX11_taken_35 : decode cX11_taken 35 = .ok (.iload_n 1, 1) := by decide +kernel
theorem dX11_taken_36 : decode cX11_taken 36 = .ok (.iaload, 1) := by decide +kernel
theorem dX11_taken_37 : decode cX11_taken 37 = .ok (.goto 5, 3) := by decide +kernel
theorem dX11_taken_40 : decode cX11_taken 40 = .ok (.bipush (-13), 2) := by decide +kernel
theorem dX11_taken_42 : decode cX11_taken 42 = .ok (.ireturn, 1) := by decide +kernel
theorem dX11_has_0 : decode cX11_has 0 = .ok (.iload_n 0, 1) := by decide +kernel
theorem dX11_has_1 : decode cX11_has 1 = .ok (.iload_n 1, 1) := by decide +kernel
theorem dX11_has_2 : decode cX11_has 2 = .ok (.ishr, 1) := by decide +kernel
theorem dX11_has_3 : decode cX11_has 3 = .ok (.iconst 1, 1) := by decide +kernel
theorem dX11_has_4 : decode cX11_has 4 = .ok (.iand, 1) := by decide +kernel
theorem dX11_has_5 : decode cX11_has 5 = .ok (.iconst 1, 1) := by decide +kernel
theorem dX11_has_6 : decode cX11_has 6 = .ok (.if_icmp .ne 7, 3) := by decide +kernel
theorem dX11_has_9 : decode cX11_has 9 = .ok (.iconst 1, 1) := by decide +kernel
theorem dX11_has_10 : decode cX11_has 10 = .ok (.goto 4, 3) := by decide +kernel
theorem dX11_has_13 : decode cX11_has 13 = .ok (.iconst 0, 1) := by decide +kernel
theorem dX11_has_14 : decode cX11_has 14 = .ok (.ireturn, 1) := by decide +kernel
theorem dX11_thinks_0 : decode cX11_thinks 0 = .ok (.aload_n 0, 1) := by decide +kernel
theorem dX11_thinks_1 : decode cX11_thinks 1 = .ok (.aload_n 0, 1) := by decide +kernel
theorem dX11_thinks_2 : decode cX11_thinks 2 = .ok (.getfield 11, 3) := by decide +kernel
theorem dX11_thinks_5 : decode cX11_thinks 5 = .ok (.iload_n 1, 1) := by decide +kernel
theorem dX11_thinks_6 : decode cX11_thinks 6 = .ok (.iaload, 1) := by decide +kernel
theorem dX11_thinks_7 : decode cX11_thinks 7 = .ok (.putfield 109, 3) := by decide +kernel
theorem dX11_thinks_10 : decode cX11_thinks 10 = .ok (.aload_n 0, 1) := by decide +kernel
theorem dX11_thinks_11 : decode cX11_thinks 11 = .ok (.aload_n 0, 1) := by decide +kernel
theorem dX11_thinks_12 : decode cX11_thinks 12 = .ok (.getfield 15, 3) := by decide +kernel
theorem dX11_thinks_15 : decode cX11_thinks 15 = .ok (.iload_n 1, 1) := by decide +kernel
theorem dX11_thinks_16 : decode cX11_thinks 16 = .ok (.iaload, 1) := by decide +kernel
theorem dX11_thinks_17 : decode cX11_thinks 17 = .ok (.putfield 112, 3) := by decide +kernel
theorem dX11_thinks_20 : decode cX11_thinks 20 = .ok (.aload_n 0, 1) := by decide +kernel
theorem dX11_thinks_21 : decode cX11_thinks 21 = .ok (.aload_n 0, 1) := by decide +kernel
theorem dX11_thinks_22 : decode cX11_thinks 22 = .ok (.getfield 18, 3) := by decide +kernel
theorem dX11_thinks_25 : decode cX11_thinks 25 = .ok (.iload_n 1, 1) := by decide +kernel
theorem dX11_thinks_26 : decode cX11_thinks 26 = .ok (.iaload, 1) := by decide +kernel
theorem dX11_thinks_27 : decode cX11_thinks 27 = .ok (.putfield 115, 3) := by decide +kernel
theorem dX11_thinks_30 : decode cX11_thinks 30 = .ok (.aload_n 0, 1) := by decide +kernel
theorem dX11_thinks_31 : decode cX11_thinks 31 = .ok (.aload_n 0, 1) := by decide +kernel
theorem dX11_thinks_32 : decode cX11_thinks 32 = .ok (.getfield 21, 3) := by decide +kernel
theorem dX11_thinks_35 : decode cX11_thinks 35 = .ok (.iload_n 1, 1) := by decide +kernel
theorem dX11_thinks_36 : decode cX11_thinks 36 = .ok (.iaload, 1) := by decide +kernel
theorem dX11_thinks_37 : decode cX11_thinks 37 = .ok (.putfield 118, 3) := by decide +kernel
theorem dX11_thinks_40 : decode cX11_thinks 40 = .ok (.aload_n 0, 1) := by decide +kernel
theorem dX11_thinks_41 : decode cX11_thinks 41 = .ok (.aload_n 0, 1) := by decide +kernel
theorem dX11_thinks_42 : decode cX11_thinks 42 = .ok (.getfield 24, 3) := by decide +kernel
theorem dX11_thinks_45 : decode cX11_thinks 45 = .ok (.iload_n 1, 1) := by decide +kernel
theorem dX11_thinks_46 : decode cX11_thinks 46 = .ok (.iaload, 1) := by decide +kernel
theorem dX11_thinks_47 : decode cX11_thinks 47 = .ok (.putfield 121, 3) := by decide +kernel
theorem dX11_thinks_50 : decode cX11_thinks 50 = .ok (.return_, 1) := by decide +kernel
theorem dX11_bitsOf_0 : decode cX11_bitsOf 0 = .ok (.iconst 0, 1) := by decide +kernel
theorem dX11_bitsOf_1 : decode cX11_bitsOf 1 = .ok (.istore_n 1, 1) := by decide +kernel
theorem dX11_bitsOf_2 : decode cX11_bitsOf 2 = .ok (.iconst 0, 1) := by decide +kernel
theorem dX11_bitsOf_3 : decode cX11_bitsOf 3 = .ok (.istore_n 2, 1) := by decide +kernel
theorem dX11_bitsOf_4 : decode cX11_bitsOf 4 = .ok (.iload_n 2, 1) := by decide +kernel
theorem dX11_bitsOf_5 : decode cX11_bitsOf 5 = .ok (.bipush 6, 2) := by decide +kernel
theorem dX11_bitsOf_7 : decode cX11_bitsOf 7 = .ok (.if_icmp .ge 17, 3) := by decide +kernel
theorem dX11_bitsOf_10 : decode cX11_bitsOf 10 = .ok (.iload_n 1, 1) := by decide +kernel
theorem dX11_bitsOf_11 : decode cX11_bitsOf 11 = .ok (.iload_n 0, 1) := by decide +kernel
theorem dX11_bitsOf_12 : decode cX11_bitsOf 12 = .ok (.iload_n 2, 1) := by decide +kernel
theorem dX11_bitsOf_13 : decode cX11_bitsOf 13 = .ok (.ishr, 1) := by decide +kernel
theorem dX11_bitsOf_14 : decode cX11_bitsOf 14 = .ok (.iconst 1, 1) := by decide +kernel
theorem dX11_bitsOf_15 : decode cX11_bitsOf 15 = .ok (.iand, 1) := by decide +kernel
theorem dX11_bitsOf_16 : decode cX11_bitsOf 16 = .ok (.iadd, 1) := by decide +kernel
theorem dX11_bitsOf_17 : decode cX11_bitsOf 17 = .ok (.istore_n 1, 1) := by decide +kernel
theorem dX11_bitsOf_18 : decode cX11_bitsOf 18 = .ok (.iinc 2 1, 3) := by decide +kernel
theorem dX11_bitsOf_21 : decode cX11_bitsOf 21 = .ok (.goto (-17), 3) := by decide +kernel
theorem dX11_bitsOf_24 : decode cX11_bitsOf 24 = .ok (.iload_n 1, 1) := by decide +kernel
theorem dX11_bitsOf_25 : decode cX11_bitsOf 25 = .ok (.ireturn, 1) := by decide +kernel
theorem dX11_sum_0 : decode cX11_sum 0 = .ok (.aload_n 0, 1) := by decide +kernel
theorem dX11_sum_1 : decode cX11_sum 1 = .ok (.getfield 118, 3) := by decide +kernel
theorem dX11_sum_4 : decode cX11_sum 4 = .ok (.aload_n 0, 1) := by decide +kernel
theorem dX11_sum_5 : decode cX11_sum 5 = .ok (.getfield 115, 3) := by decide +kernel
theorem dX11_sum_8 : decode cX11_sum 8 = .ok (.iand, 1) := by decide +kernel
theorem dX11_sum_9 : decode cX11_sum 9 = .ok (.invokestatic 124, 3) := by decide +kernel
theorem dX11_sum_12 : decode cX11_sum 12 = .ok (.istore_n 1, 1) := by decide +kernel
theorem dX11_sum_13 : decode cX11_sum 13 = .ok (.aload_n 0, 1) := by decide +kernel
theorem dX11_sum_14 : decode cX11_sum 14 = .ok (.getfield 109, 3) := by decide +kernel
theorem dX11_sum_17 : decode cX11_sum 17 = .ok (.tableswitch 40 1 3 #[27, 29, 33], 27) := by decide +kernel
theorem dX11_sum_44 : decode cX11_sum 44 = .ok (.iload_n 1, 1) := by decide +kernel
theorem dX11_sum_45 : decode cX11_sum 45 = .ok (.ireturn, 1) := by decide +kernel
theorem dX11_sum_46 : decode cX11_sum 46 = .ok (.iload_n 1, 1) := by decide +kernel
theorem dX11_sum_47 : decode cX11_sum 47 = .ok (.iconst 1, 1) := by decide +kernel
theorem dX11_sum_48 : decode cX11_sum 48 = .ok (.iadd, 1) := by decide +kernel
theorem dX11_sum_49 : decode cX11_sum 49 = .ok (.ireturn, 1) := by decide +kernel
theorem dX11_sum_50 : decode cX11_sum 50 = .ok (.aload_n 0, 1) := by decide +kernel
theorem dX11_sum_51 : decode cX11_sum 51 = .ok (.getfield 121, 3) := by decide +kernel
theorem dX11_sum_54 : decode cX11_sum 54 = .ok (.iload_n 1, 1) := by decide +kernel
theorem dX11_sum_55 : decode cX11_sum 55 = .ok (.isub, 1) := by decide +kernel
theorem dX11_sum_56 : decode cX11_sum 56 = .ok (.ireturn, 1) := by decide +kernel
theorem dX11_sum_57 : decode cX11_sum 57 = .ok (.iload_n 1, 1) := by decide +kernel
theorem dX11_sum_58 : decode cX11_sum 58 = .ok (.aload_n 0, 1) := by decide +kernel
theorem dX11_sum_59 : decode cX11_sum 59 = .ok (.getfield 121, 3) := by decide +kernel
theorem dX11_sum_62 : decode cX11_sum 62 = .ok (.iadd, 1) := by decide +kernel
theorem dX11_sum_63 : decode cX11_sum 63 = .ok (.ireturn, 1) := by decide +kernel
theorem dX11_goesRound_0 : decode cX11_goesRound 0 = .ok (.aload_n 0, 1) := by decide +kernel
theorem dX11_goesRound_1 : decode cX11_goesRound 1 = .ok (.getfield 118, 3) := by decide +kernel
theorem dX11_goesRound_4 : decode cX11_goesRound 4 = .ok (.iconst 1, 1) := by decide +kernel
theorem dX11_goesRound_5 : decode cX11_goesRound 5 = .ok (.iand, 1) := by decide +kernel
theorem dX11_goesRound_6 : decode cX11_goesRound 6 = .ok (.istore_n 1, 1) := by decide +kernel
theorem dX11_goesRound_7 : decode cX11_goesRound 7 = .ok (.iconst 0, 1) := by decide +kernel
theorem dX11_goesRound_8 : decode cX11_goesRound 8 = .ok (.istore_n 2, 1) := by decide +kernel
theorem dX11_goesRound_9 : decode cX11_goesRound 9 = .ok (.iconst 0, 1) := by decide +kernel
theorem dX11_goesRound_10 : decode cX11_goesRound 10 = .ok (.istore_n 3, 1) := by decide +kernel
theorem dX11_goesRound_11 : decode cX11_goesRound 11 = .ok (.iconst 0, 1) := by decide +kernel
theorem dX11_goesRound_12 : decode cX11_goesRound 12 = .ok (.istore 4, 2) := by decide +kernel
theorem dX11_goesRound_14 : decode cX11_goesRound 14 = .ok (.iload 4, 2) := by decide +kernel
theorem dX11_goesRound_16 : decode cX11_goesRound 16 = .ok (.aload_n 0, 1) := by decide +kernel
theorem dX11_goesRound_17 : decode cX11_goesRound 17 = .ok (.getfield 112, 3) := by decide +kernel
theorem dX11_goesRound_20 : decode cX11_goesRound 20 = .ok (.if_icmp .ge 89, 3) := by decide +kernel
theorem dX11_goesRound_23 : decode cX11_goesRound 23 = .ok (.iload 4, 2) := by decide +kernel
theorem dX11_goesRound_25 : decode cX11_goesRound 25 = .ok (.iconst 1, 1) := by decide +kernel
theorem dX11_goesRound_26 : decode cX11_goesRound 26 = .ok (.iadd, 1) := by decide +kernel
theorem dX11_goesRound_27 : decode cX11_goesRound 27 = .ok (.aload_n 0, 1) := by decide +kernel
theorem dX11_goesRound_28 : decode cX11_goesRound 28 = .ok (.getfield 112, 3) := by decide +kernel
theorem dX11_goesRound_31 : decode cX11_goesRound 31 = .ok (.if_icmp .ge 21, 3) := by decide +kernel
theorem dX11_goesRound_34 : decode cX11_goesRound 34 = .ok (.aload_n 0, 1) := by decide +kernel
theorem dX11_goesRound_35 : decode cX11_goesRound 35 = .ok (.getfield 118, 3) := by decide +kernel
theorem dX11_goesRound_38 : decode cX11_goesRound 38 = .ok (.iload 4, 2) := by decide +kernel
theorem dX11_goesRound_40 : decode cX11_goesRound 40 = .ok (.iconst 1, 1) := by decide +kernel
theorem dX11_goesRound_41 : decode cX11_goesRound 41 = .ok (.iadd, 1) := by decide +kernel
theorem dX11_goesRound_42 : decode cX11_goesRound 42 = .ok (.invokestatic 96, 3) := by decide +kernel
theorem dX11_goesRound_45 : decode cX11_goesRound 45 = .ok (.ifCond .eq 7, 3) := by decide +kernel
theorem dX11_goesRound_48 : decode cX11_goesRound 48 = .ok (.iconst 1, 1) := by decide +kernel
theorem dX11_goesRound_49 : decode cX11_goesRound 49 = .ok (.goto 4, 3) := by decide +kernel
theorem dX11_goesRound_52 : decode cX11_goesRound 52 = .ok (.iconst 0, 1) := by decide +kernel
theorem dX11_goesRound_53 : decode cX11_goesRound 53 = .ok (.aload_n 0, 1) := by decide +kernel
theorem dX11_goesRound_54 : decode cX11_goesRound 54 = .ok (.getfield 121, 3) := by decide +kernel
theorem dX11_goesRound_57 : decode cX11_goesRound 57 = .ok (.iload 4, 2) := by decide +kernel
theorem dX11_goesRound_59 : decode cX11_goesRound 59 = .ok (.ishr, 1) := by decide +kernel
theorem dX11_goesRound_60 : decode cX11_goesRound 60 = .ok (.iconst 1, 1) := by decide +kernel
theorem dX11_goesRound_61 : decode cX11_goesRound 61 = .ok (.iand, 1) := by decide +kernel
theorem dX11_goesRound_62 : decode cX11_goesRound 62 = .ok (.iadd, 1) := by decide +kernel
theorem dX11_goesRound_63 : decode cX11_goesRound 63 = .ok (.aload_n 0, 1) := by decide +kernel
theorem dX11_goesRound_64 : decode cX11_goesRound 64 = .ok (.getfield 115, 3) := by decide +kernel
theorem dX11_goesRound_67 : decode cX11_goesRound 67 = .ok (.iload 4, 2) := by decide +kernel
theorem dX11_goesRound_69 : decode cX11_goesRound 69 = .ok (.invokestatic 96, 3) := by decide +kernel
theorem dX11_goesRound_72 : decode cX11_goesRound 72 = .ok (.ifCond .eq 7, 3) := by decide +kernel
theorem dX11_goesRound_75 : decode cX11_goesRound 75 = .ok (.iload_n 1, 1) := by decide +kernel
theorem dX11_goesRound_76 : decode cX11_goesRound 76 = .ok (.goto 4, 3) := by decide +kernel
theorem dX11_goesRound_79 : decode cX11_goesRound 79 = .ok (.iconst 0, 1) := by decide +kernel
theorem dX11_goesRound_80 : decode cX11_goesRound 80 = .ok (.iadd, 1) := by decide +kernel
theorem dX11_goesRound_81 : decode cX11_goesRound 81 = .ok (.istore 5, 2) := by decide +kernel
theorem dX11_goesRound_83 : decode cX11_goesRound 83 = .ok (.iload_n 2, 1) := by decide +kernel
theorem dX11_goesRound_84 : decode cX11_goesRound 84 = .ok (.iload 5, 2) := by decide +kernel
theorem dX11_goesRound_86 : decode cX11_goesRound 86 = .ok (.iconst 2, 1) := by decide +kernel
theorem dX11_goesRound_87 : decode cX11_goesRound 87 = .ok (.irem, 1) := by decide +kernel
theorem dX11_goesRound_88 : decode cX11_goesRound 88 = .ok (.iload 4, 2) := by decide +kernel
theorem dX11_goesRound_90 : decode cX11_goesRound 90 = .ok (.ishl, 1) := by decide +kernel
theorem dX11_goesRound_91 : decode cX11_goesRound 91 = .ok (.ior, 1) := by decide +kernel
theorem dX11_goesRound_92 : decode cX11_goesRound 92 = .ok (.istore_n 2, 1) := by decide +kernel
theorem dX11_goesRound_93 : decode cX11_goesRound 93 = .ok (.iload_n 3, 1) := by decide +kernel
theorem dX11_goesRound_94 : decode cX11_goesRound 94 = .ok (.iload 5, 2) := by decide +kernel
theorem dX11_goesRound_96 : decode cX11_goesRound 96 = .ok (.iconst 2, 1) := by decide +kernel
theorem dX11_goesRound_97 : decode cX11_goesRound 97 = .ok (.idiv, 1) := by decide +kernel
theorem dX11_goesRound_98 : decode cX11_goesRound 98 = .ok (.iload 4, 2) := by decide +kernel
theorem dX11_goesRound_100 : decode cX11_goesRound 100 = .ok (.ishl, 1) := by decide +kernel
theorem dX11_goesRound_101 : decode cX11_goesRound 101 = .ok (.ior, 1) := by decide +kernel
theorem dX11_goesRound_102 : decode cX11_goesRound 102 = .ok (.istore_n 3, 1) := by decide +kernel
theorem dX11_goesRound_103 : decode cX11_goesRound 103 = .ok (.iinc 4 1, 3) := by decide +kernel
theorem dX11_goesRound_106 : decode cX11_goesRound 106 = .ok (.goto (-92), 3) := by decide +kernel
theorem dX11_goesRound_109 : decode cX11_goesRound 109 = .ok (.aload_n 0, 1) := by decide +kernel
theorem dX11_goesRound_110 : decode cX11_goesRound 110 = .ok (.iload_n 2, 1) := by decide +kernel
theorem dX11_goesRound_111 : decode cX11_goesRound 111 = .ok (.putfield 118, 3) := by decide +kernel
theorem dX11_goesRound_114 : decode cX11_goesRound 114 = .ok (.aload_n 0, 1) := by decide +kernel
theorem dX11_goesRound_115 : decode cX11_goesRound 115 = .ok (.iload_n 3, 1) := by decide +kernel
theorem dX11_goesRound_116 : decode cX11_goesRound 116 = .ok (.putfield 121, 3) := by decide +kernel
theorem dX11_goesRound_119 : decode cX11_goesRound 119 = .ok (.iload_n 1, 1) := by decide +kernel
theorem dX11_goesRound_120 : decode cX11_goesRound 120 = .ok (.ireturn, 1) := by decide +kernel
theorem dX11_steps_0 : decode cX11_steps 0 = .ok (.aload_n 0, 1) := by decide +kernel
theorem dX11_steps_1 : decode cX11_steps 1 = .ok (.getfield 109, 3) := by decide +kernel
theorem dX11_steps_4 : decode cX11_steps 4 = .ok (.iconst 5, 1) := by decide +kernel
theorem dX11_steps_5 : decode cX11_steps 5 = .ok (.if_icmp .ne 8, 3) := by decide +kernel
theorem dX11_steps_8 : decode cX11_steps 8 = .ok (.aload_n 0, 1) := by decide +kernel
theorem dX11_steps_9 : decode cX11_steps 9 = .ok (.invokevirtual 127, 3) := by decide +kernel
theorem dX11_steps_12 : decode cX11_steps 12 = .ok (.ireturn, 1) := by decide +kernel
theorem dX11_steps_13 : decode cX11_steps 13 = .ok (.aload_n 0, 1) := by decide +kernel
theorem dX11_steps_14 : decode cX11_steps 14 = .ok (.getfield 118, 3) := by decide +kernel
theorem dX11_steps_17 : decode cX11_steps 17 = .ok (.iconst 1, 1) := by decide +kernel
theorem dX11_steps_18 : decode cX11_steps 18 = .ok (.iand, 1) := by decide +kernel
theorem dX11_steps_19 : decode cX11_steps 19 = .ok (.istore_n 1, 1) := by decide +kernel
theorem dX11_steps_20 : decode cX11_steps 20 = .ok (.aload_n 0, 1) := by decide +kernel
theorem dX11_steps_21 : decode cX11_steps 21 = .ok (.invokevirtual 131, 3) := by decide +kernel
theorem dX11_steps_24 : decode cX11_steps 24 = .ok (.istore_n 2, 1) := by decide +kernel
theorem dX11_steps_25 : decode cX11_steps 25 = .ok (.iload_n 2, 1) := by decide +kernel
theorem dX11_steps_26 : decode cX11_steps 26 = .ok (.iconst 1, 1) := by decide +kernel
theorem dX11_steps_27 : decode cX11_steps 27 = .ok (.ishr, 1) := by decide +kernel
theorem dX11_steps_28 : decode cX11_steps 28 = .ok (.istore_n 3, 1) := by decide +kernel
theorem dX11_steps_29 : decode cX11_steps 29 = .ok (.aload_n 0, 1) := by decide +kernel
theorem dX11_steps_30 : decode cX11_steps 30 = .ok (.aload_n 0, 1) := by decide +kernel
theorem dX11_steps_31 : decode cX11_steps 31 = .ok (.getfield 118, 3) := by decide +kernel
theorem dX11_steps_34 : decode cX11_steps 34 = .ok (.iconst 1, 1) := by decide +kernel
theorem dX11_steps_35 : decode cX11_steps 35 = .ok (.ishr, 1) := by decide +kernel
theorem dX11_steps_36 : decode cX11_steps 36 = .ok (.iload_n 2, 1) := by decide +kernel
theorem dX11_steps_37 : decode cX11_steps 37 = .ok (.iconst 1, 1) := by decide +kernel
theorem dX11_steps_38 : decode cX11_steps 38 = .ok (.iand, 1) := by decide +kernel
theorem dX11_steps_39 : decode cX11_steps 39 = .ok (.aload_n 0, 1) := by decide +kernel
theorem dX11_steps_40 : decode cX11_steps 40 = .ok (.getfield 112, 3) := by decide +kernel
theorem dX11_steps_43 : decode cX11_steps 43 = .ok (.iconst 1, 1) := by decide +kernel
theorem dX11_steps_44 : decode cX11_steps 44 = .ok (.isub, 1) := by decide +kernel
theorem dX11_steps_45 : decode cX11_steps 45 = .ok (.ishl, 1) := by decide +kernel
theorem dX11_steps_46 : decode cX11_steps 46 = .ok (.ior, 1) := by decide +kernel
theorem dX11_steps_47 : decode cX11_steps 47 = .ok (.putfield 118, 3) := by decide +kernel
theorem dX11_steps_50 : decode cX11_steps 50 = .ok (.aload_n 0, 1) := by decide +kernel
theorem dX11_steps_51 : decode cX11_steps 51 = .ok (.getfield 109, 3) := by decide +kernel
theorem dX11_steps_54 : decode cX11_steps 54 = .ok (.iconst 4, 1) := by decide +kernel
theorem dX11_steps_55 : decode cX11_steps 55 = .ok (.if_icmp .ne 15, 3) := by decide +kernel
theorem dX11_steps_58 : decode cX11_steps 58 = .ok (.aload_n 0, 1) := by decide +kernel
theorem dX11_steps_59 : decode cX11_steps 59 = .ok (.iconst 1, 1) := by decide +kernel
theorem dX11_steps_60 : decode cX11_steps 60 = .ok (.iload_n 3, 1) := by decide +kernel
theorem dX11_steps_61 : decode cX11_steps 61 = .ok (.invokestatic 134, 3) := by decide +kernel
theorem dX11_steps_64 : decode cX11_steps 64 = .ok (.putfield 121, 3) := by decide +kernel
theorem dX11_steps_67 : decode cX11_steps 67 = .ok (.goto 23, 3) := by decide +kernel
theorem dX11_steps_70 : decode cX11_steps 70 = .ok (.aload_n 0, 1) := by decide +kernel
theorem dX11_steps_71 : decode cX11_steps 71 = .ok (.getfield 109, 3) := by decide +kernel
theorem dX11_steps_74 : decode cX11_steps 74 = .ok (.ifCond .eq 11, 3) := by decide +kernel
theorem dX11_steps_77 : decode cX11_steps 77 = .ok (.aload_n 0, 1) := by decide +kernel
theorem dX11_steps_78 : decode cX11_steps 78 = .ok (.getfield 109, 3) := by decide +kernel
theorem dX11_steps_81 : decode cX11_steps 81 = .ok (.iconst 3, 1) := by decide +kernel
theorem dX11_steps_82 : decode cX11_steps 82 = .ok (.if_icmp .ne 8, 3) := by decide +kernel
theorem dX11_steps_85 : decode cX11_steps 85 = .ok (.aload_n 0, 1) := by decide +kernel
theorem dX11_steps_86 : decode cX11_steps 86 = .ok (.iload_n 3, 1) := by decide +kernel
theorem dX11_steps_87 : decode cX11_steps 87 = .ok (.putfield 121, 3) := by decide +kernel
theorem dX11_steps_90 : decode cX11_steps 90 = .ok (.iload_n 1, 1) := by decide +kernel
theorem dX11_steps_91 : decode cX11_steps 91 = .ok (.ireturn, 1) := by decide +kernel
theorem dX11_step_0 : decode cX11_step 0 = .ok (.aload_n 0, 1) := by decide +kernel
theorem dX11_step_1 : decode cX11_step 1 = .ok (.iload_n 1, 1) := by decide +kernel
theorem dX11_step_2 : decode cX11_step 2 = .ok (.invokevirtual 86, 3) := by decide +kernel
theorem dX11_step_5 : decode cX11_step 5 = .ok (.ifCond .eq 13, 3) := by decide +kernel
theorem dX11_step_8 : decode cX11_step 8 = .ok (.iload_n 2, 1) := by decide +kernel
theorem dX11_step_9 : decode cX11_step 9 = .ok (.iconst 1, 1) := by decide +kernel
theorem dX11_step_10 : decode cX11_step 10 = .ok (.bipush 30, 2) := by decide +kernel
theorem dX11_step_12 : decode cX11_step 12 = .ok (.invokestatic 70, 3) := by decide +kernel
theorem dX11_step_15 : decode cX11_step 15 = .ok (.ifCond .ne 6, 3) := by decide +kernel
theorem dX11_step_18 : decode cX11_step 18 = .ok (.bipush (-2), 2) := by decide +kernel
theorem dX11_step_20 : decode cX11_step 20 = .ok (.ireturn, 1) := by decide +kernel
theorem dX11_step_21 : decode cX11_step 21 = .ok (.aload_n 0, 1) := by decide +kernel
theorem dX11_step_22 : decode cX11_step 22 = .ok (.iload_n 1, 1) := by decide +kernel
theorem dX11_step_23 : decode cX11_step 23 = .ok (.invokevirtual 140, 3) := by decide +kernel
theorem dX11_step_26 : decode cX11_step 26 = .ok (.iconst 0, 1) := by decide +kernel
theorem dX11_step_27 : decode cX11_step 27 = .ok (.istore_n 3, 1) := by decide +kernel
theorem dX11_step_28 : decode cX11_step 28 = .ok (.iconst 0, 1) := by decide +kernel
theorem dX11_step_29 : decode cX11_step 29 = .ok (.istore 4, 2) := by decide +kernel
theorem dX11_step_31 : decode cX11_step 31 = .ok (.iload 4, 2) := by decide +kernel
theorem dX11_step_33 : decode cX11_step 33 = .ok (.iload_n 2, 1) := by decide +kernel
theorem dX11_step_34 : decode cX11_step 34 = .ok (.if_icmp .ge 19, 3) := by decide +kernel
theorem dX11_step_37 : decode cX11_step 37 = .ok (.iload_n 3, 1) := by decide +kernel
theorem dX11_step_38 : decode cX11_step 38 = .ok (.aload_n 0, 1) := by decide +kernel
theorem dX11_step_39 : decode cX11_step 39 = .ok (.invokevirtual 144, 3) := by decide +kernel
theorem dX11_step_42 : decode cX11_step 42 = .ok (.iload 4, 2) := by decide +kernel
theorem dX11_step_44 : decode cX11_step 44 = .ok (.ishl, 1) := by decide +kernel
theorem dX11_step_45 : decode cX11_step 45 = .ok (.ior, 1) := by decide +kernel
theorem dX11_step_46 : decode cX11_step 46 = .ok (.istore_n 3, 1) := by decide +kernel
theorem dX11_step_47 : decode cX11_step 47 = .ok (.iinc 4 1, 3) := by decide +kernel
theorem dX11_step_50 : decode cX11_step 50 = .ok (.goto (-19), 3) := by decide +kernel
theorem dX11_step_53 : decode cX11_step 53 = .ok (.aload_n 0, 1) := by decide +kernel
theorem dX11_step_54 : decode cX11_step 54 = .ok (.getfield 21, 3) := by decide +kernel
theorem dX11_step_57 : decode cX11_step 57 = .ok (.iload_n 1, 1) := by decide +kernel
theorem dX11_step_58 : decode cX11_step 58 = .ok (.aload_n 0, 1) := by decide +kernel
theorem dX11_step_59 : decode cX11_step 59 = .ok (.getfield 118, 3) := by decide +kernel
theorem dX11_step_62 : decode cX11_step 62 = .ok (.iastore, 1) := by decide +kernel
theorem dX11_step_63 : decode cX11_step 63 = .ok (.aload_n 0, 1) := by decide +kernel
theorem dX11_step_64 : decode cX11_step 64 = .ok (.getfield 24, 3) := by decide +kernel
theorem dX11_step_67 : decode cX11_step 67 = .ok (.iload_n 1, 1) := by decide +kernel
theorem dX11_step_68 : decode cX11_step 68 = .ok (.aload_n 0, 1) := by decide +kernel
theorem dX11_step_69 : decode cX11_step 69 = .ok (.getfield 121, 3) := by decide +kernel
theorem dX11_step_72 : decode cX11_step 72 = .ok (.iastore, 1) := by decide +kernel
theorem dX11_step_73 : decode cX11_step 73 = .ok (.iload_n 3, 1) := by decide +kernel
theorem dX11_step_74 : decode cX11_step 74 = .ok (.ireturn, 1) := by decide +kernel
theorem dX11_then_0 : decode cX11_then 0 = .ok (.aload_n 0, 1) := by decide +kernel
theorem dX11_then_1 : decode cX11_then 1 = .ok (.iload_n 1, 1) := by decide +kernel
theorem dX11_then_2 : decode cX11_then 2 = .ok (.invokevirtual 86, 3) := by decide +kernel
theorem dX11_then_5 : decode cX11_then 5 = .ok (.ifCond .eq 22, 3) := by decide +kernel
theorem dX11_then_8 : decode cX11_then 8 = .ok (.iload_n 2, 1) := by decide +kernel
theorem dX11_then_9 : decode cX11_then 9 = .ok (.iconst 0, 1) := by decide +kernel
theorem dX11_then_10 : decode cX11_then 10 = .ok (.bipush 40, 2) := by decide +kernel
theorem dX11_then_12 : decode cX11_then 12 = .ok (.invokestatic 70, 3) := by decide +kernel
theorem dX11_then_15 : decode cX11_then 15 = .ok (.ifCond .eq 12, 3) := by decide +kernel
theorem dX11_then_18 : decode cX11_then 18 = .ok (.iload_n 3, 1) := by decide +kernel
theorem dX11_then_19 : decode cX11_then 19 = .ok (.iconst 0, 1) := by decide +kernel
theorem dX11_then_20 : decode cX11_then 20 = .ok (.iconst 2, 1) := by decide +kernel
theorem dX11_then_21 : decode cX11_then 21 = .ok (.invokestatic 70, 3) := by decide +kernel
theorem dX11_then_24 : decode cX11_then 24 = .ok (.ifCond .ne 7, 3) := by decide +kernel
theorem dX11_then_27 : decode cX11_then 27 = .ok (.sipush (-1000), 3) := by decide +kernel
theorem dX11_then_30 : decode cX11_then 30 = .ok (.ireturn, 1) := by decide +kernel
theorem dX11_then_31 : decode cX11_then 31 = .ok (.aload_n 0, 1) := by decide +kernel
theorem dX11_then_32 : decode cX11_then 32 = .ok (.iload_n 1, 1) := by decide +kernel
theorem dX11_then_33 : decode cX11_then 33 = .ok (.invokevirtual 140, 3) := by decide +kernel
theorem dX11_then_36 : decode cX11_then 36 = .ok (.iconst 0, 1) := by decide +kernel
theorem dX11_then_37 : decode cX11_then 37 = .ok (.istore 4, 2) := by decide +kernel
theorem dX11_then_39 : decode cX11_then 39 = .ok (.iload 4, 2) := by decide +kernel
theorem dX11_then_41 : decode cX11_then 41 = .ok (.iload_n 2, 1) := by decide +kernel
theorem dX11_then_42 : decode cX11_then 42 = .ok (.if_icmp .ge 15, 3) := by decide +kernel
theorem dX11_then_45 : decode cX11_then 45 = .ok (.aload_n 0, 1) := by decide +kernel
theorem dX11_then_46 : decode cX11_then 46 = .ok (.invokevirtual 144, 3) := by decide +kernel
theorem dX11_then_49 : decode cX11_then 49 = .ok (.istore 5, 2) := by decide +kernel
theorem dX11_then_51 : decode cX11_then 51 = .ok (.iinc 4 1, 3) := by decide +kernel
theorem dX11_then_54 : decode cX11_then 54 = .ok (.goto (-15), 3) := by decide +kernel
theorem dX11_then_57 : decode cX11_then 57 = .ok (.iload_n 3, 1) := by decide +kernel
theorem dX11_then_58 : decode cX11_then 58 = .ok (.ifCond .ne 12, 3) := by decide +kernel
theorem dX11_then_61 : decode cX11_then 61 = .ok (.aload_n 0, 1) := by decide +kernel
theorem dX11_then_62 : decode cX11_then 62 = .ok (.getfield 118, 3) := by decide +kernel
theorem dX11_then_65 : decode cX11_then 65 = .ok (.iconst 1, 1) := by decide +kernel
theorem dX11_then_66 : decode cX11_then 66 = .ok (.iand, 1) := by decide +kernel
theorem dX11_then_67 : decode cX11_then 67 = .ok (.goto 19, 3) := by decide +kernel
theorem dX11_then_70 : decode cX11_then 70 = .ok (.iload_n 3, 1) := by decide +kernel
theorem dX11_then_71 : decode cX11_then 71 = .ok (.iconst 1, 1) := by decide +kernel
theorem dX11_then_72 : decode cX11_then 72 = .ok (.if_icmp .ne 10, 3) := by decide +kernel
theorem dX11_then_75 : decode cX11_then 75 = .ok (.aload_n 0, 1) := by decide +kernel
theorem dX11_then_76 : decode cX11_then 76 = .ok (.getfield 118, 3) := by decide +kernel
theorem dX11_then_79 : decode cX11_then 79 = .ok (.goto 7, 3) := by decide +kernel
theorem dX11_then_82 : decode cX11_then 82 = .ok (.aload_n 0, 1) := by decide +kernel
theorem dX11_then_83 : decode cX11_then 83 = .ok (.getfield 121, 3) := by decide +kernel
theorem dX11_then_86 : decode cX11_then 86 = .ok (.ireturn, 1) := by decide +kernel
theorem dX11_tells_0 : decode cX11_tells 0 = .ok (.aload_n 0, 1) := by decide +kernel
theorem dX11_tells_1 : decode cX11_tells 1 = .ok (.iload_n 1, 1) := by decide +kernel
theorem dX11_tells_2 : decode cX11_tells 2 = .ok (.invokevirtual 140, 3) := by decide +kernel
theorem dX11_tells_5 : decode cX11_tells 5 = .ok (.aload_n 0, 1) := by decide +kernel
theorem dX11_tells_6 : decode cX11_tells 6 = .ok (.iload_n 2, 1) := by decide +kernel
theorem dX11_tells_7 : decode cX11_tells 7 = .ok (.putfield 147, 3) := by decide +kernel
theorem dX11_tells_10 : decode cX11_tells 10 = .ok (.iconst 0, 1) := by decide +kernel
theorem dX11_tells_11 : decode cX11_tells 11 = .ok (.istore_n 3, 1) := by decide +kernel
theorem dX11_tells_12 : decode cX11_tells 12 = .ok (.iload_n 3, 1) := by decide +kernel
theorem dX11_tells_13 : decode cX11_tells 13 = .ok (.iload_n 2, 1) := by decide +kernel
theorem dX11_tells_14 : decode cX11_tells 14 = .ok (.if_icmp .ge 19, 3) := by decide +kernel
theorem dX11_tells_17 : decode cX11_tells 17 = .ok (.aload_n 0, 1) := by decide +kernel
theorem dX11_tells_18 : decode cX11_tells 18 = .ok (.getfield 27, 3) := by decide +kernel
theorem dX11_tells_21 : decode cX11_tells 21 = .ok (.iload_n 3, 1) := by decide +kernel
theorem dX11_tells_22 : decode cX11_tells 22 = .ok (.aload_n 0, 1) := by decide +kernel
theorem dX11_tells_23 : decode cX11_tells 23 = .ok (.invokevirtual 144, 3) := by decide +kernel
theorem dX11_tells_26 : decode cX11_tells 26 = .ok (.iastore, 1) := by decide +kernel
theorem dX11_tells_27 : decode cX11_tells 27 = .ok (.iinc 3 1, 3) := by decide +kernel
theorem dX11_tells_30 : decode cX11_tells 30 = .ok (.goto (-18), 3) := by decide +kernel
theorem dX11_tells_33 : decode cX11_tells 33 = .ok (.return_, 1) := by decide +kernel
theorem dX11_comesTo_0 : decode cX11_comesTo 0 = .ok (.aload_n 0, 1) := by decide +kernel
theorem dX11_comesTo_1 : decode cX11_comesTo 1 = .ok (.getfield 57, 3) := by decide +kernel
theorem dX11_comesTo_4 : decode cX11_comesTo 4 = .ok (.iload_n 1, 1) := by decide +kernel
theorem dX11_comesTo_5 : decode cX11_comesTo 5 = .ok (.iconst 0, 1) := by decide +kernel
theorem dX11_comesTo_6 : decode cX11_comesTo 6 = .ok (.iastore, 1) := by decide +kernel
theorem dX11_comesTo_7 : decode cX11_comesTo 7 = .ok (.aload_n 0, 1) := by decide +kernel
theorem dX11_comesTo_8 : decode cX11_comesTo 8 = .ok (.getfield 60, 3) := by decide +kernel
theorem dX11_comesTo_11 : decode cX11_comesTo 11 = .ok (.iload_n 1, 1) := by decide +kernel
theorem dX11_comesTo_12 : decode cX11_comesTo 12 = .ok (.aload_n 0, 1) := by decide +kernel
theorem dX11_comesTo_13 : decode cX11_comesTo 13 = .ok (.getfield 147, 3) := by decide +kernel
theorem dX11_comesTo_16 : decode cX11_comesTo 16 = .ok (.iastore, 1) := by decide +kernel
theorem dX11_comesTo_17 : decode cX11_comesTo 17 = .ok (.iconst 0, 1) := by decide +kernel
theorem dX11_comesTo_18 : decode cX11_comesTo 18 = .ok (.istore_n 2, 1) := by decide +kernel
theorem dX11_comesTo_19 : decode cX11_comesTo 19 = .ok (.iload_n 2, 1) := by decide +kernel
theorem dX11_comesTo_20 : decode cX11_comesTo 20 = .ok (.bipush 40, 2) := by decide +kernel
theorem dX11_comesTo_22 : decode cX11_comesTo 22 = .ok (.if_icmp .ge 38, 3) := by decide +kernel
theorem dX11_comesTo_25 : decode cX11_comesTo 25 = .ok (.aload_n 0, 1) := by decide +kernel
theorem dX11_comesTo_26 : decode cX11_comesTo 26 = .ok (.getfield 63, 3) := by decide +kernel
theorem dX11_comesTo_29 : decode cX11_comesTo 29 = .ok (.bipush 40, 2) := by decide +kernel
theorem dX11_comesTo_31 : decode cX11_comesTo 31 = .ok (.iload_n 1, 1) := by decide +kernel
theorem dX11_comesTo_32 : decode cX11_comesTo 32 = .ok (.imul, 1) := by decide +kernel
theorem dX11_comesTo_33 : decode cX11_comesTo 33 = .ok (.iload_n 2, 1) := by decide +kernel
theorem dX11_comesTo_34 : decode cX11_comesTo 34 = .ok (.iadd, 1) := by decide +kernel
theorem dX11_comesTo_35 : decode cX11_comesTo 35 = .ok (.iload_n 2, 1) := by decide +kernel
theorem dX11_comesTo_36 : decode cX11_comesTo 36 = .ok (.aload_n 0, 1) := by decide +kernel
theorem dX11_comesTo_37 : decode cX11_comesTo 37 = .ok (.getfield 147, 3) := by decide +kernel
theorem dX11_comesTo_40 : decode cX11_comesTo 40 = .ok (.if_icmp .ge 12, 3) := by decide +kernel
theorem dX11_comesTo_43 : decode cX11_comesTo 43 = .ok (.aload_n 0, 1) := by decide +kernel
theorem dX11_comesTo_44 : decode cX11_comesTo 44 = .ok (.getfield 27, 3) := by decide +kernel
theorem dX11_comesTo_47 : decode cX11_comesTo 47 = .ok (.iload_n 2, 1) := by decide +kernel
theorem dX11_comesTo_48 : decode cX11_comesTo 48 = .ok (.iaload, 1) := by decide +kernel
theorem dX11_comesTo_49 : decode cX11_comesTo 49 = .ok (.goto 4, 3) := by decide +kernel
theorem dX11_comesTo_52 : decode cX11_comesTo 52 = .ok (.iconst 0, 1) := by decide +kernel
theorem dX11_comesTo_53 : decode cX11_comesTo 53 = .ok (.iastore, 1) := by decide +kernel
theorem dX11_comesTo_54 : decode cX11_comesTo 54 = .ok (.iinc 2 1, 3) := by decide +kernel
theorem dX11_comesTo_57 : decode cX11_comesTo 57 = .ok (.goto (-38), 3) := by decide +kernel
theorem dX11_comesTo_60 : decode cX11_comesTo 60 = .ok (.aload_n 0, 1) := by decide +kernel
theorem dX11_comesTo_61 : decode cX11_comesTo 61 = .ok (.getfield 147, 3) := by decide +kernel
theorem dX11_comesTo_64 : decode cX11_comesTo 64 = .ok (.ireturn, 1) := by decide +kernel
theorem dX11_reads_0 : decode cX11_reads 0 = .ok (.aload_n 0, 1) := by decide +kernel
theorem dX11_reads_1 : decode cX11_reads 1 = .ok (.aload_n 0, 1) := by decide +kernel
theorem dX11_reads_2 : decode cX11_reads 2 = .ok (.getfield 60, 3) := by decide +kernel
theorem dX11_reads_5 : decode cX11_reads 5 = .ok (.iload_n 1, 1) := by decide +kernel
theorem dX11_reads_6 : decode cX11_reads 6 = .ok (.iaload, 1) := by decide +kernel
theorem dX11_reads_7 : decode cX11_reads 7 = .ok (.putfield 147, 3) := by decide +kernel
theorem dX11_reads_10 : decode cX11_reads 10 = .ok (.iconst 0, 1) := by decide +kernel
theorem dX11_reads_11 : decode cX11_reads 11 = .ok (.istore_n 2, 1) := by decide +kernel
theorem dX11_reads_12 : decode cX11_reads 12 = .ok (.iload_n 2, 1) := by decide +kernel
theorem dX11_reads_13 : decode cX11_reads 13 = .ok (.aload_n 0, 1) := by decide +kernel
theorem dX11_reads_14 : decode cX11_reads 14 = .ok (.getfield 147, 3) := by decide +kernel
theorem dX11_reads_17 : decode cX11_reads 17 = .ok (.if_icmp .ge 28, 3) := by decide +kernel
theorem dX11_reads_20 : decode cX11_reads 20 = .ok (.aload_n 0, 1) := by decide +kernel
theorem dX11_reads_21 : decode cX11_reads 21 = .ok (.getfield 27, 3) := by decide +kernel
theorem dX11_reads_24 : decode cX11_reads 24 = .ok (.iload_n 2, 1) := by decide +kernel
theorem dX11_reads_25 : decode cX11_reads 25 = .ok (.aload_n 0, 1) := by decide +kernel
theorem dX11_reads_26 : decode cX11_reads 26 = .ok (.getfield 63, 3) := by decide +kernel
theorem dX11_reads_29 : decode cX11_reads 29 = .ok (.bipush 40, 2) := by decide +kernel
theorem dX11_reads_31 : decode cX11_reads 31 = .ok (.iload_n 1, 1) := by decide +kernel
theorem dX11_reads_32 : decode cX11_reads 32 = .ok (.imul, 1) := by decide +kernel
theorem dX11_reads_33 : decode cX11_reads 33 = .ok (.iload_n 2, 1) := by decide +kernel
theorem dX11_reads_34 : decode cX11_reads 34 = .ok (.iadd, 1) := by decide +kernel
theorem dX11_reads_35 : decode cX11_reads 35 = .ok (.iaload, 1) := by decide +kernel
theorem dX11_reads_36 : decode cX11_reads 36 = .ok (.iconst 1, 1) := by decide +kernel
theorem dX11_reads_37 : decode cX11_reads 37 = .ok (.iand, 1) := by decide +kernel
theorem dX11_reads_38 : decode cX11_reads 38 = .ok (.iastore, 1) := by decide +kernel
theorem dX11_reads_39 : decode cX11_reads 39 = .ok (.iinc 2 1, 3) := by decide +kernel
theorem dX11_reads_42 : decode cX11_reads 42 = .ok (.goto (-30), 3) := by decide +kernel
theorem dX11_reads_45 : decode cX11_reads 45 = .ok (.return_, 1) := by decide +kernel
theorem dX11_film_0 : decode cX11_film 0 = .ok (.iload_n 1, 1) := by decide +kernel
theorem dX11_film_1 : decode cX11_film 1 = .ok (.invokestatic 150, 3) := by decide +kernel
theorem dX11_film_4 : decode cX11_film 4 = .ok (.ifCond .eq 21, 3) := by decide +kernel
theorem dX11_film_7 : decode cX11_film 7 = .ok (.aload_n 0, 1) := by decide +kernel
theorem dX11_film_8 : decode cX11_film 8 = .ok (.iload_n 2, 1) := by decide +kernel
theorem dX11_film_9 : decode cX11_film 9 = .ok (.invokevirtual 86, 3) := by decide +kernel
theorem dX11_film_12 : decode cX11_film 12 = .ok (.ifCond .eq 13, 3) := by decide +kernel
theorem dX11_film_15 : decode cX11_film 15 = .ok (.iload_n 3, 1) := by decide +kernel
theorem dX11_film_16 : decode cX11_film 16 = .ok (.iconst 0, 1) := by decide +kernel
theorem dX11_film_17 : decode cX11_film 17 = .ok (.bipush 40, 2) := by decide +kernel
theorem dX11_film_19 : decode cX11_film 19 = .ok (.invokestatic 70, 3) := by decide +kernel
theorem dX11_film_22 : decode cX11_film 22 = .ok (.ifCond .ne 6, 3) := by decide +kernel
theorem dX11_film_25 : decode cX11_film 25 = .ok (.bipush (-2), 2) := by decide +kernel
theorem dX11_film_27 : decode cX11_film 27 = .ok (.ireturn, 1) := by decide +kernel
theorem dX11_film_28 : decode cX11_film 28 = .ok (.aload_n 0, 1) := by decide +kernel
theorem dX11_film_29 : decode cX11_film 29 = .ok (.iload_n 2, 1) := by decide +kernel
theorem dX11_film_30 : decode cX11_film 30 = .ok (.iload_n 3, 1) := by decide +kernel
