theorem dX0_init_0 : decode cX0_init 0 = .ok (.aload_n 0, 1) := by decide +kernel
theorem dX0_init_1 : decode cX0_init 1 = .ok (.iconst 3, 1) := by decide +kernel
theorem dX0_init_2 : decode cX0_init 2 = .ok (.iload_n 1, 1) := by decide +kernel
theorem dX0_init_3 : decode cX0_init 3 = .ok (.iload_n 2, 1) := by decide +kernel
theorem dX0_init_4 : decode cX0_init 4 = .ok (.invokespecial 3, 3) := by decide +kernel
theorem dX0_init_7 : decode cX0_init 7 = .ok (.aload_n 0, 1) := by decide +kernel
theorem dX0_init_8 : decode cX0_init 8 = .ok (.bipush 6, 2) := by decide +kernel
theorem dX0_init_10 : decode cX0_init 10 = .ok (.invokevirtual 9, 3) := by decide +kernel
theorem dX0_init_13 : decode cX0_init 13 = .ok (.return_, 1) := by decide +kernel
theorem dX0_sumOf_0 : decode cX0_sumOf 0 = .ok (.aload_n 0, 1) := by decide +kernel
theorem dX0_sumOf_1 : decode cX0_sumOf 1 = .ok (.getfield 15, 3) := by decide +kernel
theorem dX0_sumOf_4 : decode cX0_sumOf 4 = .ok (.iload_n 1, 1) := by decide +kernel
theorem dX0_sumOf_5 : decode cX0_sumOf 5 = .ok (.isub, 1) := by decide +kernel
theorem dX0_sumOf_6 : decode cX0_sumOf 6 = .ok (.ireturn, 1) := by decide +kernel
theorem dX1_init_0 : decode cX1_init 0 = .ok (.aload_n 0, 1) := by decide +kernel
theorem dX1_init_1 : decode cX1_init 1 = .ok (.invokespecial 1, 3) := by decide +kernel
theorem dX1_init_4 : decode cX1_init 4 = .ok (.aload_n 0, 1) := by decide +kernel
theorem dX1_init_5 : decode cX1_init 5 = .ok (.iconst 0, 1) := by decide +kernel
theorem dX1_init_6 : decode cX1_init 6 = .ok (.putfield 7, 3) := by decide +kernel
theorem dX1_init_9 : decode cX1_init 9 = .ok (.aload_n 0, 1) := by decide +kernel
theorem dX1_init_10 : decode cX1_init 10 = .ok (.iconst 0, 1) := by decide +kernel
theorem dX1_init_11 : decode cX1_init 11 = .ok (.putfield 13, 3) := by decide +kernel
theorem dX1_init_14 : decode cX1_init 14 = .ok (.aload_n 0, 1) := by decide +kernel
theorem dX1_init_15 : decode cX1_init 15 = .ok (.iconst 0, 1) := by decide +kernel
theorem dX1_init_16 : decode cX1_init 16 = .ok (.putfield 16, 3) := by decide +kernel
theorem dX1_init_19 : decode cX1_init 19 = .ok (.aload_n 0, 1) := by decide +kernel
theorem dX1_init_20 : decode cX1_init 20 = .ok (.iload_n 1, 1) := by decide +kernel
theorem dX1_init_21 : decode cX1_init 21 = .ok (.putfield 19, 3) := by decide +kernel
theorem dX1_init_24 : decode cX1_init 24 = .ok (.aload_n 0, 1) := by decide +kernel
theorem dX1_init_25 : decode cX1_init 25 = .ok (.iload_n 2, 1) := by decide +kernel
theorem dX1_init_26 : decode cX1_init 26 = .ok (.putfield 22, 3) := by decide +kernel
theorem dX1_init_29 : decode cX1_init 29 = .ok (.aload_n 0, 1) := by decide +kernel
theorem dX1_init_30 : decode cX1_init 30 = .ok (.iload_n 3, 1) := by decide +kernel
theorem dX1_init_31 : decode cX1_init 31 = .ok (.putfield 25, 3) := by decide +kernel
theorem dX1_init_34 : decode cX1_init 34 = .ok (.aload_n 0, 1) := by decide +kernel
theorem dX1_init_35 : decode cX1_init 35 = .ok (.iconst 1, 1) := by decide +kernel
theorem dX1_init_36 : decode cX1_init 36 = .ok (.invokevirtual 28, 3) := by decide +kernel
theorem dX1_init_39 : decode cX1_init 39 = .ok (.aload_n 0, 1) := by decide +kernel
theorem dX1_init_40 : decode cX1_init 40 = .ok (.iconst 3, 1) := by decide +kernel
theorem dX1_init_41 : decode cX1_init 41 = .ok (.invokevirtual 28, 3) := by decide +kernel
theorem dX1_init_44 : decode cX1_init 44 = .ok (.iload_n 3, 1) := by decide +kernel
theorem dX1_init_45 : decode cX1_init 45 = .ok (.iconst 1, 1) := by decide +kernel
theorem dX1_init_46 : decode cX1_init 46 = .ok (.if_icmp .ne 8, 3) := by decide +kernel
theorem dX1_init_49 : decode cX1_init 49 = .ok (.aload_n 0, 1) := by decide +kernel
theorem dX1_init_50 : decode cX1_init 50 = .ok (.iconst 2, 1) := by decide +kernel
theorem dX1_init_51 : decode cX1_init 51 = .ok (.invokevirtual 28, 3) := by decide +kernel
theorem dX1_init_54 : decode cX1_init 54 = .ok (.return_, 1) := by decide +kernel
theorem dX1_leave_0 : decode cX1_leave 0 = .ok (.aload_n 0, 1) := by decide +kernel
theorem dX1_leave_1 : decode cX1_leave 1 = .ok (.aload_n 0, 1) := by decide +kernel
theorem dX1_leave_2 : decode cX1_leave 2 = .ok (.getfield 16, 3) := by decide +kernel
theorem dX1_leave_5 : decode cX1_leave 5 = .ok (.bipush 10, 2) := by decide +kernel
theorem dX1_leave_7 : decode cX1_leave 7 = .ok (.imul, 1) := by decide +kernel
theorem dX1_leave_8 : decode cX1_leave 8 = .ok (.iload_n 1, 1) := by decide +kernel
theorem dX1_leave_9 : decode cX1_leave 9 = .ok (.iadd, 1) := by decide +kernel
theorem dX1_leave_10 : decode cX1_leave 10 = .ok (.putfield 16, 3) := by decide +kernel
theorem dX1_leave_13 : decode cX1_leave 13 = .ok (.return_, 1) := by decide +kernel
theorem dX1_links_0 : decode cX1_links 0 = .ok (.iconst (-1), 1) := by decide +kernel
theorem dX1_links_1 : decode cX1_links 1 = .ok (.istore_n 1, 1) := by decide +kernel
theorem dX1_links_2 : decode cX1_links 2 = .ok (.iconst 0, 1) := by decide +kernel
theorem dX1_links_3 : decode cX1_links 3 = .ok (.istore_n 2, 1) := by decide +kernel
theorem dX1_links_4 : decode cX1_links 4 = .ok (.iload_n 2, 1) := by decide +kernel
theorem dX1_links_5 : decode cX1_links 5 = .ok (.aload_n 0, 1) := by decide +kernel
theorem dX1_links_6 : decode cX1_links 6 = .ok (.getfield 22, 3) := by decide +kernel
theorem dX1_links_9 : decode cX1_links 9 = .ok (.if_icmp .ge 27, 3) := by decide +kernel
theorem dX1_links_12 : decode cX1_links 12 = .ok (.iload_n 1, 1) := by decide +kernel
theorem dX1_links_13 : decode cX1_links 13 = .ok (.aload_n 0, 1) := by decide +kernel
theorem dX1_links_14 : decode cX1_links 14 = .ok (.getfield 25, 3) := by decide +kernel
theorem dX1_links_17 : decode cX1_links 17 = .ok (.iload_n 2, 1) := by decide +kernel
theorem dX1_links_18 : decode cX1_links 18 = .ok (.ishr, 1) := by decide +kernel
theorem dX1_links_19 : decode cX1_links 19 = .ok (.iconst 1, 1) := by decide +kernel
theorem dX1_links_20 : decode cX1_links 20 = .ok (.iand, 1) := by decide +kernel
theorem dX1_links_21 : decode cX1_links 21 = .ok (.aload_n 0, 1) := by decide +kernel
theorem dX1_links_22 : decode cX1_links 22 = .ok (.getfield 22, 3) := by decide +kernel
theorem dX1_links_25 : decode cX1_links 25 = .ok (.iload_n 2, 1) := by decide +kernel
theorem dX1_links_26 : decode cX1_links 26 = .ok (.isub, 1) := by decide +kernel
theorem dX1_links_27 : decode cX1_links 27 = .ok (.ishl, 1) := by decide +kernel
theorem dX1_links_28 : decode cX1_links 28 = .ok (.iadd, 1) := by decide +kernel
theorem dX1_links_29 : decode cX1_links 29 = .ok (.istore_n 1, 1) := by decide +kernel
theorem dX1_links_30 : decode cX1_links 30 = .ok (.iinc 2 1, 3) := by decide +kernel
theorem dX1_links_33 : decode cX1_links 33 = .ok (.goto (-29), 3) := by decide +kernel
theorem dX1_links_36 : decode cX1_links 36 = .ok (.iload_n 1, 1) := by decide +kernel
theorem dX1_links_37 : decode cX1_links 37 = .ok (.ireturn, 1) := by decide +kernel
theorem dX1_standsAs_0 : decode cX1_standsAs 0 = .ok (.aload_n 0, 1) := by decide +kernel
theorem dX1_standsAs_1 : decode cX1_standsAs 1 = .ok (.getfield 7, 3) := by decide +kernel
theorem dX1_standsAs_4 : decode cX1_standsAs 4 = .ok (.aload_n 1, 1) := by decide +kernel
theorem dX1_standsAs_5 : decode cX1_standsAs 5 = .ok (.getfield 7, 3) := by decide +kernel
theorem dX1_standsAs_8 : decode cX1_standsAs 8 = .ok (.if_icmp .ne 18, 3) := by decide +kernel
theorem dX1_standsAs_11 : decode cX1_standsAs 11 = .ok (.aload_n 0, 1) := by decide +kernel
theorem dX1_standsAs_12 : decode cX1_standsAs 12 = .ok (.getfield 13, 3) := by decide +kernel
theorem dX1_standsAs_15 : decode cX1_standsAs 15 = .ok (.aload_n 1, 1) := by decide +kernel
theorem dX1_standsAs_16 : decode cX1_standsAs 16 = .ok (.getfield 13, 3) := by decide +kernel
theorem dX1_standsAs_19 : decode cX1_standsAs 19 = .ok (.if_icmp .ne 7, 3) := by decide +kernel
theorem dX1_standsAs_22 : decode cX1_standsAs 22 = .ok (.iconst 1, 1) := by decide +kernel
theorem dX1_standsAs_23 : decode cX1_standsAs 23 = .ok (.goto 4, 3) := by decide +kernel
theorem dX1_standsAs_26 : decode cX1_standsAs 26 = .ok (.iconst 0, 1) := by decide +kernel
theorem dX1_standsAs_27 : decode cX1_standsAs 27 = .ok (.ireturn, 1) := by decide +kernel
theorem dX1_advance_0 : decode cX1_advance 0 = .ok (.aload_n 0, 1) := by decide +kernel
theorem dX1_advance_1 : decode cX1_advance 1 = .ok (.getfield 7, 3) := by decide +kernel
theorem dX1_advance_4 : decode cX1_advance 4 = .ok (.iconst 1, 1) := by decide +kernel
theorem dX1_advance_5 : decode cX1_advance 5 = .ok (.iand, 1) := by decide +kernel
theorem dX1_advance_6 : decode cX1_advance 6 = .ok (.istore_n 1, 1) := by decide +kernel
theorem dX1_advance_7 : decode cX1_advance 7 = .ok (.aload_n 0, 1) := by decide +kernel
theorem dX1_advance_8 : decode cX1_advance 8 = .ok (.aload_n 0, 1) := by decide +kernel
theorem dX1_advance_9 : decode cX1_advance 9 = .ok (.getfield 7, 3) := by decide +kernel
theorem dX1_advance_12 : decode cX1_advance 12 = .ok (.aload_n 0, 1) := by decide +kernel
theorem dX1_advance_13 : decode cX1_advance 13 = .ok (.getfield 25, 3) := by decide +kernel
theorem dX1_advance_16 : decode cX1_advance 16 = .ok (.iand, 1) := by decide +kernel
theorem dX1_advance_17 : decode cX1_advance 17 = .ok (.invokestatic 32, 3) := by decide +kernel
theorem dX1_advance_20 : decode cX1_advance 20 = .ok (.invokevirtual 38, 3) := by decide +kernel
theorem dX1_advance_23 : decode cX1_advance 23 = .ok (.istore_n 2, 1) := by decide +kernel
theorem dX1_advance_24 : decode cX1_advance 24 = .ok (.aload_n 0, 1) := by decide +kernel
theorem dX1_advance_25 : decode cX1_advance 25 = .ok (.aload_n 0, 1) := by decide +kernel
theorem dX1_advance_26 : decode cX1_advance 26 = .ok (.getfield 7, 3) := by decide +kernel
theorem dX1_advance_29 : decode cX1_advance 29 = .ok (.iconst 1, 1) := by decide +kernel
theorem dX1_advance_30 : decode cX1_advance 30 = .ok (.ishr, 1) := by decide +kernel
theorem dX1_advance_31 : decode cX1_advance 31 = .ok (.iload_n 2, 1) := by decide +kernel
theorem dX1_advance_32 : decode cX1_advance 32 = .ok (.iconst 1, 1) := by decide +kernel
theorem dX1_advance_33 : decode cX1_advance 33 = .ok (.iand, 1) := by decide +kernel
theorem dX1_advance_34 : decode cX1_advance 34 = .ok (.aload_n 0, 1) := by decide +kernel
theorem dX1_advance_35 : decode cX1_advance 35 = .ok (.getfield 22, 3) := by decide +kernel
theorem dX1_advance_38 : decode cX1_advance 38 = .ok (.iconst 1, 1) := by decide +kernel
theorem dX1_advance_39 : decode cX1_advance 39 = .ok (.isub, 1) := by decide +kernel
theorem dX1_advance_40 : decode cX1_advance 40 = .ok (.ishl, 1) := by decide +kernel
theorem dX1_advance_41 : decode cX1_advance 41 = .ok (.ior, 1) := by decide +kernel
theorem dX1_advance_42 : decode cX1_advance 42 = .ok (.putfield 7, 3) := by decide +kernel
theorem dX1_advance_45 : decode cX1_advance 45 = .ok (.aload_n 0, 1) := by decide +kernel
theorem dX1_advance_46 : decode cX1_advance 46 = .ok (.aload_n 0, 1) := by decide +kernel
theorem dX1_advance_47 : decode cX1_advance 47 = .ok (.iload_n 2, 1) := by decide +kernel
theorem dX1_advance_48 : decode cX1_advance 48 = .ok (.invokevirtual 41, 3) := by decide +kernel
theorem dX1_advance_51 : decode cX1_advance 51 = .ok (.putfield 13, 3) := by decide +kernel
theorem dX1_advance_54 : decode cX1_advance 54 = .ok (.iload_n 1, 1) := by decide +kernel
theorem dX1_advance_55 : decode cX1_advance 55 = .ok (.ireturn, 1) := by decide +kernel
theorem dX1_sumOf_0 : decode cX1_sumOf 0 = .ok (.iload_n 1, 1) := by decide +kernel
theorem dX1_sumOf_1 : decode cX1_sumOf 1 = .ok (.aload_n 0, 1) := by decide +kernel
theorem dX1_sumOf_2 : decode cX1_sumOf 2 = .ok (.getfield 13, 3) := by decide +kernel
theorem dX1_sumOf_5 : decode cX1_sumOf 5 = .ok (.iadd, 1) := by decide +kernel
theorem dX1_sumOf_6 : decode cX1_sumOf 6 = .ok (.ireturn, 1) := by decide +kernel
theorem dX1_carriedOf_0 : decode cX1_carriedOf 0 = .ok (.iload_n 1, 1) := by decide +kernel
theorem dX1_carriedOf_1 : decode cX1_carriedOf 1 = .ok (.iconst 1, 1) := by decide +kernel
theorem dX1_carriedOf_2 : decode cX1_carriedOf 2 = .ok (.ishr, 1) := by decide +kernel
theorem dX1_carriedOf_3 : decode cX1_carriedOf 3 = .ok (.ireturn, 1) := by decide +kernel
theorem dX2_init_0 : decode cX2_init 0 = .ok (.aload_n 0, 1) := by decide +kernel
theorem dX2_init_1 : decode cX2_init 1 = .ok (.iconst 4, 1) := by decide +kernel
theorem dX2_init_2 : decode cX2_init 2 = .ok (.iload_n 1, 1) := by decide +kernel
theorem dX2_init_3 : decode cX2_init 3 = .ok (.iload_n 2, 1) := by decide +kernel
theorem dX2_init_4 : decode cX2_init 4 = .ok (.invokespecial 3, 3) := by decide +kernel
theorem dX2_init_7 : decode cX2_init 7 = .ok (.aload_n 0, 1) := by decide +kernel
theorem dX2_init_8 : decode cX2_init 8 = .ok (.bipush 7, 2) := by decide +kernel
theorem dX2_init_10 : decode cX2_init 10 = .ok (.invokevirtual 9, 3) := by decide +kernel
theorem dX2_init_13 : decode cX2_init 13 = .ok (.return_, 1) := by decide +kernel
theorem dX2_carriedOf_0 : decode cX2_carriedOf 0 = .ok (.iconst 1, 1) := by decide +kernel
theorem dX2_carriedOf_1 : decode cX2_carriedOf 1 = .ok (.iload_n 1, 1) := by decide +kernel
theorem dX2_carriedOf_2 : decode cX2_carriedOf 2 = .ok (.iconst 1, 1) := by decide +kernel
theorem dX2_carriedOf_3 : decode cX2_carriedOf 3 = .ok (.ishr, 1) := by decide +kernel
theorem dX2_carriedOf_4 : decode cX2_carriedOf 4 = .ok (.invokestatic 15, 3) := by decide +kernel
theorem dX2_carriedOf_7 : decode cX2_carriedOf 7 = .ok (.ireturn, 1) := by decide +kernel
theorem dX3_init_0 : decode cX3_init 0 = .ok (.aload_n 0, 1) := by decide +kernel
theorem dX3_init_1 : decode cX3_init 1 = .ok (.invokespecial 1, 3) := by decide +kernel
theorem dX3_init_4 : decode cX3_init 4 = .ok (.aload_n 0, 1) := by decide +kernel
theorem dX3_init_5 : decode cX3_init 5 = .ok (.iconst 0, 1) := by decide +kernel
theorem dX3_init_6 : decode cX3_init 6 = .ok (.putfield 7, 3) := by decide +kernel
theorem dX3_init_9 : decode cX3_init 9 = .ok (.aload_n 0, 1) := by decide +kernel
theorem dX3_init_10 : decode cX3_init 10 = .ok (.lconst 0, 1) := by decide +kernel
theorem dX3_init_11 : decode cX3_init 11 = .ok (.putfield 13, 3) := by decide +kernel
theorem dX3_init_14 : decode cX3_init 14 = .ok (.return_, 1) := by decide +kernel
theorem dX3_find_0 : decode cX3_find 0 = .ok (.lconst 1, 1) := by decide +kernel
theorem dX3_find_1 : decode cX3_find 1 = .ok (.lstore 4, 2) := by decide +kernel
theorem dX3_find_3 : decode cX3_find 3 = .ok (.lconst 1, 1) := by decide +kernel
theorem dX3_find_4 : decode cX3_find 4 = .ok (.lstore 6, 2) := by decide +kernel
theorem dX3_find_6 : decode cX3_find 6 = .ok (.lconst 0, 1) := by decide +kernel
theorem dX3_find_7 : decode cX3_find 7 = .ok (.lstore 8, 2) := by decide +kernel
theorem dX3_find_9 : decode cX3_find 9 = .ok (.iconst 1, 1) := by decide +kernel
theorem dX3_find_10 : decode cX3_find 10 = .ok (.istore 10, 2) := by decide +kernel
theorem dX3_find_12 : decode cX3_find 12 = .ok (.aload_n 0, 1) := by decide +kernel
theorem dX3_find_13 : decode cX3_find 13 = .ok (.iconst 0, 1) := by decide +kernel
theorem dX3_find_14 : decode cX3_find 14 = .ok (.putfield 7, 3) := by decide +kernel
theorem dX3_find_17 : decode cX3_find 17 = .ok (.iconst 0, 1) := by decide +kernel
theorem dX3_find_18 : decode cX3_find 18 = .ok (.istore 11, 2) := by decide +kernel
theorem dX3_find_20 : decode cX3_find 20 = .ok (.iload 11, 2) := by decide +kernel
theorem dX3_find_22 : decode cX3_find 22 = .ok (.iload_n 3, 1) := by decide +kernel
theorem dX3_find_23 : decode cX3_find 23 = .ok (.if_icmp .ge 102, 3) := by decide +kernel
theorem dX3_find_26 : decode cX3_find 26 = .ok (.lload 8, 2) := by decide +kernel
theorem dX3_find_28 : decode cX3_find 28 = .ok (.iconst 1, 1) := by decide +kernel
theorem dX3_find_29 : decode cX3_find 29 = .ok (.lshl, 1) := by decide +kernel
theorem dX3_find_30 : decode cX3_find 30 = .ok (.lload_n 1, 1) := by decide +kernel
theorem dX3_find_31 : decode cX3_find 31 = .ok (.iload 11, 2) := by decide +kernel
theorem dX3_find_33 : decode cX3_find 33 = .ok (.lushr, 1) := by decide +kernel
theorem dX3_find_34 : decode cX3_find 34 = .ok (.lconst 1, 1) := by decide +kernel
theorem dX3_find_35 : decode cX3_find 35 = .ok (.land, 1) := by decide +kernel
theorem dX3_find_36 : decode cX3_find 36 = .ok (.lor, 1) := by decide +kernel
theorem dX3_find_37 : decode cX3_find 37 = .ok (.lstore 8, 2) := by decide +kernel
theorem dX3_find_39 : decode cX3_find 39 = .ok (.lload 4, 2) := by decide +kernel
theorem dX3_find_41 : decode cX3_find 41 = .ok (.lload 8, 2) := by decide +kernel
theorem dX3_find_43 : decode cX3_find 43 = .ok (.land, 1) := by decide +kernel
theorem dX3_find_44 : decode cX3_find 44 = .ok (.invokestatic 17, 3) := by decide +kernel
theorem dX3_find_47 : decode cX3_find 47 = .ok (.iconst 1, 1) := by decide +kernel
theorem dX3_find_48 : decode cX3_find 48 = .ok (.iand, 1) := by decide +kernel
theorem dX3_find_49 : decode cX3_find 49 = .ok (.ifCond .ne 9, 3) := by decide +kernel
theorem dX3_find_52 : decode cX3_find 52 = .ok (.iinc 10 1, 3) := by decide +kernel
theorem dX3_find_55 : decode cX3_find 55 = .ok (.goto 64, 3) := by decide +kernel
theorem dX3_find_58 : decode cX3_find 58 = .ok (.iconst 2, 1) := by decide +kernel
theorem dX3_find_59 : decode cX3_find 59 = .ok (.aload_n 0, 1) := by decide +kernel
theorem dX3_find_60 : decode cX3_find 60 = .ok (.getfield 7, 3) := by decide +kernel
theorem dX3_find_63 : decode cX3_find 63 = .ok (.imul, 1) := by decide +kernel
theorem dX3_find_64 : decode cX3_find 64 = .ok (.iload 11, 2) := by decide +kernel
theorem dX3_find_66 : decode cX3_find 66 = .ok (.if_icmp .gt 40, 3) := by decide +kernel
theorem dX3_find_69 : decode cX3_find 69 = .ok (.lload 4, 2) := by decide +kernel
theorem dX3_find_71 : decode cX3_find 71 = .ok (.lstore 12, 2) := by decide +kernel
theorem dX3_find_73 : decode cX3_find 73 = .ok (.lload 4, 2) := by decide +kernel
theorem dX3_find_75 : decode cX3_find 75 = .ok (.lload 6, 2) := by decide +kernel
theorem dX3_find_77 : decode cX3_find 77 = .ok (.iload 10, 2) := by decide +kernel
theorem dX3_find_79 : decode cX3_find 79 = .ok (.lshl, 1) := by decide +kernel
theorem dX3_find_80 : decode cX3_find 80 = .ok (.lxor, 1) := by decide +kernel
theorem dX3_find_81 : decode cX3_find 81 = .ok (.lstore 4, 2) := by decide +kernel
theorem dX3_find_83 : decode cX3_find 83 = .ok (.lload 12, 2) := by decide +kernel
theorem dX3_find_85 : decode cX3_find 85 = .ok (.lstore 6, 2) := by decide +kernel
theorem dX3_find_87 : decode cX3_find 87 = .ok (.aload_n 0, 1) := by decide +kernel
theorem dX3_find_88 : decode cX3_find 88 = .ok (.iload 11, 2) := by decide +kernel
theorem dX3_find_90 : decode cX3_find 90 = .ok (.iconst 1, 1) := by decide +kernel
theorem dX3_find_91 : decode cX3_find 91 = .ok (.iadd, 1) := by decide +kernel
theorem dX3_find_92 : decode cX3_find 92 = .ok (.aload_n 0, 1) := by decide +kernel
theorem dX3_find_93 : decode cX3_find 93 = .ok (.getfield 7, 3) := by decide +kernel
theorem dX3_find_96 : decode cX3_find 96 = .ok (.isub, 1) := by decide +kernel
theorem dX3_find_97 : decode cX3_find 97 = .ok (.putfield 7, 3) := by decide +kernel
theorem dX3_find_100 : decode cX3_find 100 = .ok (.iconst 1, 1) := by decide +kernel
theorem dX3_find_101 : decode cX3_find 101 = .ok (.istore 10, 2) := by decide +kernel
theorem dX3_find_103 : decode cX3_find 103 = .ok (.goto 16, 3) := by decide +kernel
theorem dX3_find_106 : decode cX3_find 106 = .ok (.lload 4, 2) := by decide +kernel
theorem dX3_find_108 : decode cX3_find 108 = .ok (.lload 6, 2) := by decide +kernel
theorem dX3_find_110 : decode cX3_find 110 = .ok (.iload 10, 2) := by decide +kernel
theorem dX3_find_112 : decode cX3_find 112 = .ok (.lshl, 1) := by decide +kernel
theorem dX3_find_113 : decode cX3_find 113 = .ok (.lxor, 1) := by decide +kernel
theorem dX3_find_114 : decode cX3_find 114 = .ok (.lstore 4, 2) := by decide +kernel
theorem dX3_find_116 : decode cX3_find 116 = .ok (.iinc 10 1, 3) := by decide +kernel
theorem dX3_find_119 : decode cX3_find 119 = .ok (.iinc 11 1, 3) := by decide +kernel
theorem dX3_find_122 : decode cX3_find 122 = .ok (.goto (-102), 3) := by decide +kernel
theorem dX3_find_125 : decode cX3_find 125 = .ok (.aload_n 0, 1) := by decide +kernel
theorem dX3_find_126 : decode cX3_find 126 = .ok (.lload 4, 2) := by decide +kernel
theorem dX3_find_128 : decode cX3_find 128 = .ok (.iconst 1, 1) := by decide +kernel
theorem dX3_find_129 : decode cX3_find 129 = .ok (.lushr, 1) := by decide +kernel
theorem dX3_find_130 : decode cX3_find 130 = .ok (.putfield 13, 3) := by decide +kernel
theorem dX3_find_133 : decode cX3_find 133 = .ok (.return_, 1) := by decide +kernel
theorem dX4_init_0 : decode cX4_init 0 = .ok (.aload_n 0, 1) := by decide +kernel
theorem dX4_init_1 : decode cX4_init 1 = .ok (.invokespecial 1, 3) := by decide +kernel
theorem dX4_init_4 : decode cX4_init 4 = .ok (.aload_n 0, 1) := by decide +kernel
theorem dX4_init_5 : decode cX4_init 5 = .ok (.ldc2_w 7, 3) := by decide +kernel
theorem dX4_init_8 : decode cX4_init 8 = .ok (.putfield 9, 3) := by decide +kernel
theorem dX4_init_11 : decode cX4_init 11 = .ok (.aload_n 0, 1) := by decide +kernel
theorem dX4_init_12 : decode cX4_init 12 = .ok (.lconst 1, 1) := by decide +kernel
theorem dX4_init_13 : decode cX4_init 13 = .ok (.putfield 15, 3) := by decide +kernel
theorem dX4_init_16 : decode cX4_init 16 = .ok (.return_, 1) := by decide +kernel
theorem dX4_find_0 : decode cX4_find 0 = .ok (.aload_n 0, 1) := by decide +kernel
theorem dX4_find_1 : decode cX4_find 1 = .ok (.ldc2_w 7, 3) := by decide +kernel
theorem dX4_find_4 : decode cX4_find 4 = .ok (.putfield 9, 3) := by decide +kernel
theorem dX4_find_7 : decode cX4_find 7 = .ok (.aload_n 0, 1) := by decide +kernel
theorem dX4_find_8 : decode cX4_find 8 = .ok (.lconst 1, 1) := by decide +kernel
theorem dX4_find_9 : decode cX4_find 9 = .ok (.putfield 15, 3) := by decide +kernel
theorem dX4_find_12 : decode cX4_find 12 = .ok (.iload_n 3, 1) := by decide +kernel
theorem dX4_find_13 : decode cX4_find 13 = .ok (.iconst 1, 1) := by decide +kernel
theorem dX4_find_14 : decode cX4_find 14 = .ok (.if_icmp .ge 4, 3) := by decide +kernel
theorem dX4_find_17 : decode cX4_find 17 = .ok (.return_, 1) := by decide +kernel
theorem dX4_find_18 : decode cX4_find 18 = .ok (.aload_n 0, 1) := by decide +kernel
theorem dX4_find_19 : decode cX4_find 19 = .ok (.lconst 0, 1) := by decide +kernel
theorem dX4_find_20 : decode cX4_find 20 = .ok (.putfield 15, 3) := by decide +kernel
theorem dX4_find_23 : decode cX4_find 23 = .ok (.aload_n 0, 1) := by decide +kernel
theorem dX4_find_24 : decode cX4_find 24 = .ok (.lload_n 1, 1) := by decide +kernel
theorem dX4_find_25 : decode cX4_find 25 = .ok (.lconst 1, 1) := by decide +kernel
theorem dX4_find_26 : decode cX4_find 26 = .ok (.iload_n 3, 1) := by decide +kernel
theorem dX4_find_27 : decode cX4_find 27 = .ok (.lshl, 1) := by decide +kernel
theorem dX4_find_28 : decode cX4_find 28 = .ok (.invokevirtual 18, 3) := by decide +kernel
theorem dX4_find_31 : decode cX4_find 31 = .ok (.aload_n 0, 1) := by decide +kernel
theorem dX4_find_32 : decode cX4_find 32 = .ok (.aload_n 0, 1) := by decide +kernel
theorem dX4_find_33 : decode cX4_find 33 = .ok (.getfield 22, 3) := by decide +kernel
theorem dX4_find_36 : decode cX4_find 36 = .ok (.aload_n 0, 1) := by decide +kernel
theorem dX4_find_37 : decode cX4_find 37 = .ok (.getfield 25, 3) := by decide +kernel
theorem dX4_find_40 : decode cX4_find 40 = .ok (.invokevirtual 28, 3) := by decide +kernel
theorem dX4_find_43 : decode cX4_find 43 = .ok (.aload_n 0, 1) := by decide +kernel
theorem dX4_find_44 : decode cX4_find 44 = .ok (.lconst 0, 1) := by decide +kernel
theorem dX4_find_45 : decode cX4_find 45 = .ok (.invokevirtual 31, 3) := by decide +kernel
theorem dX4_find_48 : decode cX4_find 48 = .ok (.aload_n 0, 1) := by decide +kernel
theorem dX4_find_49 : decode cX4_find 49 = .ok (.aload_n 0, 1) := by decide +kernel
theorem dX4_find_50 : decode cX4_find 50 = .ok (.getfield 35, 3) := by decide +kernel
theorem dX4_find_53 : decode cX4_find 53 = .ok (.aload_n 0, 1) := by decide +kernel
theorem dX4_find_54 : decode cX4_find 54 = .ok (.getfield 38, 3) := by decide +kernel
theorem dX4_find_57 : decode cX4_find 57 = .ok (.lsub, 1) := by decide +kernel
theorem dX4_find_58 : decode cX4_find 58 = .ok (.aload_n 0, 1) := by decide +kernel
theorem dX4_find_59 : decode cX4_find 59 = .ok (.getfield 22, 3) := by decide +kernel
theorem dX4_find_62 : decode cX4_find 62 = .ok (.aload_n 0, 1) := by decide +kernel
theorem dX4_find_63 : decode cX4_find 63 = .ok (.getfield 25, 3) := by decide +kernel
theorem dX4_find_66 : decode cX4_find 66 = .ok (.lsub, 1) := by decide +kernel
theorem dX4_find_67 : decode cX4_find 67 = .ok (.invokestatic 41, 3) := by decide +kernel
theorem dX4_find_70 : decode cX4_find 70 = .ok (.invokevirtual 31, 3) := by decide +kernel
theorem dX4_find_73 : decode cX4_find 73 = .ok (.aload_n 0, 1) := by decide +kernel
theorem dX4_find_74 : decode cX4_find 74 = .ok (.aload_n 0, 1) := by decide +kernel
theorem dX4_find_75 : decode cX4_find 75 = .ok (.getfield 35, 3) := by decide +kernel
theorem dX4_find_78 : decode cX4_find 78 = .ok (.aload_n 0, 1) := by decide +kernel
theorem dX4_find_79 : decode cX4_find 79 = .ok (.getfield 38, 3) := by decide +kernel
theorem dX4_find_82 : decode cX4_find 82 = .ok (.ladd, 1) := by decide +kernel
theorem dX4_find_83 : decode cX4_find 83 = .ok (.aload_n 0, 1) := by decide +kernel
theorem dX4_find_84 : decode cX4_find 84 = .ok (.getfield 22, 3) := by decide +kernel
theorem dX4_find_87 : decode cX4_find 87 = .ok (.aload_n 0, 1) := by decide +kernel
theorem dX4_find_88 : decode cX4_find 88 = .ok (.getfield 25, 3) := by decide +kernel
theorem dX4_find_91 : decode cX4_find 91 = .ok (.ladd, 1) := by decide +kernel
theorem dX4_find_92 : decode cX4_find 92 = .ok (.invokestatic 41, 3) := by decide +kernel
theorem dX4_find_95 : decode cX4_find 95 = .ok (.invokevirtual 31, 3) := by decide +kernel
theorem dX4_find_98 : decode cX4_find 98 = .ok (.return_, 1) := by decide +kernel
theorem dX4_greater_0 : decode cX4_greater 0 = .ok (.aload_n 0, 1) := by decide +kernel
theorem dX4_greater_1 : decode cX4_greater 1 = .ok (.getfield 15, 3) := by decide +kernel
theorem dX4_greater_4 : decode cX4_greater 4 = .ok (.aload_n 0, 1) := by decide +kernel
theorem dX4_greater_5 : decode cX4_greater 5 = .ok (.getfield 9, 3) := by decide +kernel
theorem dX4_greater_8 : decode cX4_greater 8 = .ok (.invokestatic 45, 3) := by decide +kernel
theorem dX4_greater_11 : decode cX4_greater 11 = .ok (.invokestatic 51, 3) := by decide +kernel
theorem dX4_greater_14 : decode cX4_greater 14 = .ok (.lreturn, 1) := by decide +kernel
theorem dX4_shorten_0 : decode cX4_shorten 0 = .ok (.aload_n 0, 1) := by decide +kernel
theorem dX4_shorten_1 : decode cX4_shorten 1 = .ok (.lload_n 1, 1) := by decide +kernel
theorem dX4_shorten_2 : decode cX4_shorten 2 = .ok (.putfield 22, 3) := by decide +kernel
theorem dX4_shorten_5 : decode cX4_shorten 5 = .ok (.aload_n 0, 1) := by decide +kernel
theorem dX4_shorten_6 : decode cX4_shorten 6 = .ok (.lconst 1, 1) := by decide +kernel
theorem dX4_shorten_7 : decode cX4_shorten 7 = .ok (.putfield 25, 3) := by decide +kernel
theorem dX4_shorten_10 : decode cX4_shorten 10 = .ok (.aload_n 0, 1) := by decide +kernel
theorem dX4_shorten_11 : decode cX4_shorten 11 = .ok (.lload_n 3, 1) := by decide +kernel
theorem dX4_shorten_12 : decode cX4_shorten 12 = .ok (.putfield 35, 3) := by decide +kernel
theorem dX4_shorten_15 : decode cX4_shorten 15 = .ok (.aload_n 0, 1) := by decide +kernel
theorem dX4_shorten_16 : decode cX4_shorten 16 = .ok (.lconst 0, 1) := by decide +kernel
theorem dX4_shorten_17 : decode cX4_shorten 17 = .ok (.putfield 38, 3) := by decide +kernel
theorem dX4_shorten_20 : decode cX4_shorten 20 = .ok (.iconst 0, 1) := by decide +kernel
theorem dX4_shorten_21 : decode cX4_shorten 21 = .ok (.istore 5, 2) := by decide +kernel
theorem dX4_shorten_23 : decode cX4_shorten 23 = .ok (.iload 5, 2) := by decide +kernel
theorem dX4_shorten_25 : decode cX4_shorten 25 = .ok (.sipush 1000, 3) := by decide +kernel
theorem dX4_shorten_28 : decode cX4_shorten 28 = .ok (.if_icmp .ge 126, 3) := by decide +kernel
theorem dX4_shorten_31 : decode cX4_shorten 31 = .ok (.aload_n 0, 1) := by decide +kernel
theorem dX4_shorten_32 : decode cX4_shorten 32 = .ok (.invokevirtual 54, 3) := by decide +kernel
theorem dX4_shorten_35 : decode cX4_shorten 35 = .ok (.aload_n 0, 1) := by decide +kernel
theorem dX4_shorten_36 : decode cX4_shorten 36 = .ok (.getfield 22, 3) := by decide +kernel
theorem dX4_shorten_39 : decode cX4_shorten 39 = .ok (.aload_n 0, 1) := by decide +kernel
theorem dX4_shorten_40 : decode cX4_shorten 40 = .ok (.getfield 22, 3) := by decide +kernel
theorem dX4_shorten_43 : decode cX4_shorten 43 = .ok (.lmul, 1) := by decide +kernel
theorem dX4_shorten_44 : decode cX4_shorten 44 = .ok (.aload_n 0, 1) := by decide +kernel
theorem dX4_shorten_45 : decode cX4_shorten 45 = .ok (.getfield 25, 3) := by decide +kernel
theorem dX4_shorten_48 : decode cX4_shorten 48 = .ok (.aload_n 0, 1) := by decide +kernel
theorem dX4_shorten_49 : decode cX4_shorten 49 = .ok (.getfield 25, 3) := by decide +kernel
theorem dX4_shorten_52 : decode cX4_shorten 52 = .ok (.lmul, 1) := by decide +kernel
theorem dX4_shorten_53 : decode cX4_shorten 53 = .ok (.ladd, 1) := by decide +kernel
theorem dX4_shorten_54 : decode cX4_shorten 54 = .ok (.lstore 6, 2) := by decide +kernel
theorem dX4_shorten_56 : decode cX4_shorten 56 = .ok (.aload_n 0, 1) := by decide +kernel
theorem dX4_shorten_57 : decode cX4_shorten 57 = .ok (.getfield 22, 3) := by decide +kernel
theorem dX4_shorten_60 : decode cX4_shorten 60 = .ok (.aload_n 0, 1) := by decide +kernel
theorem dX4_shorten_61 : decode cX4_shorten 61 = .ok (.getfield 35, 3) := by decide +kernel
theorem dX4_shorten_64 : decode cX4_shorten 64 = .ok (.lmul, 1) := by decide +kernel
theorem dX4_shorten_65 : decode cX4_shorten 65 = .ok (.aload_n 0, 1) := by decide +kernel
theorem dX4_shorten_66 : decode cX4_shorten 66 = .ok (.getfield 25, 3) := by decide +kernel
theorem dX4_shorten_69 : decode cX4_shorten 69 = .ok (.aload_n 0, 1) := by decide +kernel
theorem dX4_shorten_70 : decode cX4_shorten 70 = .ok (.getfield 38, 3) := by decide +kernel
theorem dX4_shorten_73 : decode cX4_shorten 73 = .ok (.lmul, 1) := by decide +kernel
theorem dX4_shorten_74 : decode cX4_shorten 74 = .ok (.ladd, 1) := by decide +kernel
theorem dX4_shorten_75 : decode cX4_shorten 75 = .ok (.lstore 8, 2) := by decide +kernel
theorem dX4_shorten_77 : decode cX4_shorten 77 = .ok (.lload 6, 2) := by decide +kernel
theorem dX4_shorten_79 : decode cX4_shorten 79 = .ok (.lconst 0, 1) := by decide +kernel
theorem dX4_shorten_80 : decode cX4_shorten 80 = .ok (.lcmp, 1) := by decide +kernel
theorem dX4_shorten_81 : decode cX4_shorten 81 = .ok (.ifCond .le 24, 3) := by decide +kernel
theorem dX4_shorten_84 : decode cX4_shorten 84 = .ok (.ldc2_w 57, 3) := by decide +kernel
theorem dX4_shorten_87 : decode cX4_shorten 87 = .ok (.lload 8, 2) := by decide +kernel
theorem dX4_shorten_89 : decode cX4_shorten 89 = .ok (.lmul, 1) := by decide +kernel
theorem dX4_shorten_90 : decode cX4_shorten 90 = .ok (.lload 6, 2) := by decide +kernel
theorem dX4_shorten_92 : decode cX4_shorten 92 = .ok (.ladd, 1) := by decide +kernel
theorem dX4_shorten_93 : decode cX4_shorten 93 = .ok (.ldc2_w 57, 3) := by decide +kernel
theorem dX4_shorten_96 : decode cX4_shorten 96 = .ok (.lload 6, 2) := by decide +kernel
theorem dX4_shorten_98 : decode cX4_shorten 98 = .ok (.lmul, 1) := by decide +kernel
theorem dX4_shorten_99 : decode cX4_shorten 99 = .ok (.invokestatic 59, 3) := by decide +kernel
theorem dX4_shorten_102 : decode cX4_shorten 102 = .ok (.goto 4, 3) := by decide +kernel
theorem dX4_shorten_105 : decode cX4_shorten 105 = .ok (.lconst 0, 1) := by decide +kernel
theorem dX4_shorten_106 : decode cX4_shorten 106 = .ok (.lstore 10, 2) := by decide +kernel
theorem dX4_shorten_108 : decode cX4_shorten 108 = .ok (.lload 10, 2) := by decide +kernel
theorem dX4_shorten_110 : decode cX4_shorten 110 = .ok (.lconst 0, 1) := by decide +kernel
theorem dX4_shorten_111 : decode cX4_shorten 111 = .ok (.lcmp, 1) := by decide +kernel
theorem dX4_shorten_112 : decode cX4_shorten 112 = .ok (.ifCond .ne 4, 3) := by decide +kernel
theorem dX4_shorten_115 : decode cX4_shorten 115 = .ok (.return_, 1) := by decide +kernel
theorem dX4_shorten_116 : decode cX4_shorten 116 = .ok (.aload_n 0, 1) := by decide +kernel
theorem dX4_shorten_117 : decode cX4_shorten 117 = .ok (.dup, 1) := by decide +kernel
theorem dX4_shorten_118 : decode cX4_shorten 118 = .ok (.getfield 35, 3) := by decide +kernel
theorem dX4_shorten_121 : decode cX4_shorten 121 = .ok (.lload 10, 2) := by decide +kernel
theorem dX4_shorten_123 : decode cX4_shorten 123 = .ok (.aload_n 0, 1) := by decide +kernel
theorem dX4_shorten_124 : decode cX4_shorten 124 = .ok (.getfield 22, 3) := by decide +kernel
theorem dX4_shorten_127 : decode cX4_shorten 127 = .ok (.lmul, 1) := by decide +kernel
theorem dX4_shorten_128 : decode cX4_shorten 128 = .ok (.lsub, 1) := by decide +kernel
theorem dX4_shorten_129 : decode cX4_shorten 129 = .ok (.putfield 35, 3) := by decide +kernel
theorem dX4_shorten_132 : decode cX4_shorten 132 = .ok (.aload_n 0, 1) := by decide +kernel
theorem dX4_shorten_133 : decode cX4_shorten 133 = .ok (.dup, 1) := by decide +kernel
theorem dX4_shorten_134 : decode cX4_shorten 134 = .ok (.getfield 38, 3) := by decide +kernel
theorem dX4_shorten_137 : decode cX4_shorten 137 = .ok (.lload 10, 2) := by decide +kernel
theorem dX4_shorten_139 : decode cX4_shorten 139 = .ok (.aload_n 0, 1) := by decide +kernel
theorem dX4_shorten_140 : decode cX4_shorten 140 = .ok (.getfield 25, 3) := by decide +kernel
theorem dX4_shorten_143 : decode cX4_shorten 143 = .ok (.lmul, 1) := by decide +kernel
theorem dX4_shorten_144 : decode cX4_shorten 144 = .ok (.lsub, 1) := by decide +kernel
theorem dX4_shorten_145 : decode cX4_shorten 145 = .ok (.putfield 38, 3) := by decide +kernel
theorem dX4_shorten_148 : decode cX4_shorten 148 = .ok (.iinc 5 1, 3) := by decide +kernel
theorem dX4_shorten_151 : decode cX4_shorten 151 = .ok (.goto (-128), 3) := by decide +kernel
theorem dX4_shorten_154 : decode cX4_shorten 154 = .ok (.return_, 1) := by decide +kernel
theorem dX4_swapIfLonger_0 : decode cX4_swapIfLonger 0 = .ok (.aload_n 0, 1) := by decide +kernel
theorem dX4_swapIfLonger_1 : decode cX4_swapIfLonger 1 = .ok (.getfield 22, 3) := by decide +kernel
theorem dX4_swapIfLonger_4 : decode cX4_swapIfLonger 4 = .ok (.aload_n 0, 1) := by decide +kernel
theorem dX4_swapIfLonger_5 : decode cX4_swapIfLonger 5 = .ok (.getfield 22, 3) := by decide +kernel
theorem dX4_swapIfLonger_8 : decode cX4_swapIfLonger 8 = .ok (.lmul, 1) := by decide +kernel
theorem dX4_swapIfLonger_9 : decode cX4_swapIfLonger 9 = .ok (.aload_n 0, 1) := by decide +kernel
theorem dX4_swapIfLonger_10 : decode cX4_swapIfLonger 10 = .ok (.getfield 25, 3) := by decide +kernel
theorem dX4_swapIfLonger_13 : decode cX4_swapIfLonger 13 = .ok (.aload_n 0, 1) := by decide +kernel
theorem dX4_swapIfLonger_14 : decode cX4_swapIfLonger 14 = .ok (.getfield 25, 3) := by decide +kernel
theorem dX4_swapIfLonger_17 : decode cX4_swapIfLonger 17 = .ok (.lmul, 1) := by decide +kernel
theorem dX4_swapIfLonger_18 : decode cX4_swapIfLonger 18 = .ok (.ladd, 1) := by decide +kernel
theorem dX4_swapIfLonger_19 : decode cX4_swapIfLonger 19 = .ok (.lstore_n 1, 1) := by decide +kernel
theorem dX4_swapIfLonger_20 : decode cX4_swapIfLonger 20 = .ok (.aload_n 0, 1) := by decide +kernel
theorem dX4_swapIfLonger_21 : decode cX4_swapIfLonger 21 = .ok (.getfield 35, 3) := by decide +kernel
theorem dX4_swapIfLonger_24 : decode cX4_swapIfLonger 24 = .ok (.aload_n 0, 1) := by decide +kernel
theorem dX4_swapIfLonger_25 : decode cX4_swapIfLonger 25 = .ok (.getfield 35, 3) := by decide +kernel
theorem dX4_swapIfLonger_28 : decode cX4_swapIfLonger 28 = .ok (.lmul, 1) := by decide +kernel
theorem dX4_swapIfLonger_29 : decode cX4_swapIfLonger 29 = .ok (.aload_n 0, 1) := by decide +kernel
theorem dX4_swapIfLonger_30 : decode cX4_swapIfLonger 30 = .ok (.getfield 38, 3) := by decide +kernel
theorem dX4_swapIfLonger_33 : decode cX4_swapIfLonger 33 = .ok (.aload_n 0, 1) := by decide +kernel
theorem dX4_swapIfLonger_34 : decode cX4_swapIfLonger 34 = .ok (.getfield 38, 3) := by decide +kernel
theorem dX4_swapIfLonger_37 : decode cX4_swapIfLonger 37 = .ok (.lmul, 1) := by decide +kernel
theorem dX4_swapIfLonger_38 : decode cX4_swapIfLonger 38 = .ok (.ladd, 1) := by decide +kernel
theorem dX4_swapIfLonger_39 : decode cX4_swapIfLonger 39 = .ok (.lstore_n 3, 1) := by decide +kernel
theorem dX4_swapIfLonger_40 : decode cX4_swapIfLonger 40 = .ok (.lload_n 1, 1) := by decide +kernel
theorem dX4_swapIfLonger_41 : decode cX4_swapIfLonger 41 = .ok (.lload_n 3, 1) := by decide +kernel
theorem dX4_swapIfLonger_42 : decode cX4_swapIfLonger 42 = .ok (.lcmp, 1) := by decide +kernel
theorem dX4_swapIfLonger_43 : decode cX4_swapIfLonger 43 = .ok (.ifCond .gt 4, 3) := by decide +kernel
theorem dX4_swapIfLonger_46 : decode cX4_swapIfLonger 46 = .ok (.return_, 1) := by decide +kernel
theorem dX4_swapIfLonger_47 : decode cX4_swapIfLonger 47 = .ok (.aload_n 0, 1) := by decide +kernel
theorem dX4_swapIfLonger_48 : decode cX4_swapIfLonger 48 = .ok (.getfield 22, 3) := by decide +kernel
theorem dX4_swapIfLonger_51 : decode cX4_swapIfLonger 51 = .ok (.lstore 5, 2) := by decide +kernel
theorem dX4_swapIfLonger_53 : decode cX4_swapIfLonger 53 = .ok (.aload_n 0, 1) := by decide +kernel
theorem dX4_swapIfLonger_54 : decode cX4_swapIfLonger 54 = .ok (.getfield 25, 3) := by decide +kernel
theorem dX4_swapIfLonger_57 : decode cX4_swapIfLonger 57 = .ok (.lstore 7, 2) := by decide +kernel
theorem dX4_swapIfLonger_59 : decode cX4_swapIfLonger 59 = .ok (.aload_n 0, 1) := by decide +kernel
theorem dX4_swapIfLonger_60 : decode cX4_swapIfLonger 60 = .ok (.aload_n 0, 1) := by decide +kernel
theorem dX4_swapIfLonger_61 : decode cX4_swapIfLonger 61 = .ok (.getfield 35, 3) := by decide +kernel
theorem dX4_swapIfLonger_64 : decode cX4_swapIfLonger 64 = .ok (.putfield 22, 3) := by decide +kernel
theorem dX4_swapIfLonger_67 : decode cX4_swapIfLonger 67 = .ok (.aload_n 0, 1) := by decide +kernel
theorem dX4_swapIfLonger_68 : decode cX4_swapIfLonger 68 = .ok (.aload_n 0, 1) := by decide +kernel
theorem dX4_swapIfLonger_69 : decode cX4_swapIfLonger 69 = .ok (.getfield 38, 3) := by decide +kernel
theorem dX4_swapIfLonger_72 : decode cX4_swapIfLonger 72 = .ok (.putfield 25, 3) := by decide +kernel
theorem dX4_swapIfLonger_75 : decode cX4_swapIfLonger 75 = .ok (.aload_n 0, 1) := by decide +kernel
theorem dX4_swapIfLonger_76 : decode cX4_swapIfLonger 76 = .ok (.lload 5, 2) := by decide +kernel
theorem dX4_swapIfLonger_78 : decode cX4_swapIfLonger 78 = .ok (.putfield 35, 3) := by decide +kernel
theorem dX4_swapIfLonger_81 : decode cX4_swapIfLonger 81 = .ok (.aload_n 0, 1) := by decide +kernel
theorem dX4_swapIfLonger_82 : decode cX4_swapIfLonger 82 = .ok (.lload 7, 2) := by decide +kernel
theorem dX4_swapIfLonger_84 : decode cX4_swapIfLonger 84 = .ok (.putfield 38, 3) := by decide +kernel
theorem dX4_swapIfLonger_87 : decode cX4_swapIfLonger 87 = .ok (.return_, 1) := by decide +kernel
theorem dX4_crossing_0 : decode cX4_crossing 0 = .ok (.lload_n 2, 1) := by decide +kernel
theorem dX4_crossing_1 : decode cX4_crossing 1 = .ok (.lconst 0, 1) := by decide +kernel
theorem dX4_crossing_2 : decode cX4_crossing 2 = .ok (.lcmp, 1) := by decide +kernel
theorem dX4_crossing_3 : decode cX4_crossing 3 = .ok (.ifCond .ne 7, 3) := by decide +kernel
theorem dX4_crossing_6 : decode cX4_crossing 6 = .ok (.lconst 0, 1) := by decide +kernel
theorem dX4_crossing_7 : decode cX4_crossing 7 = .ok (.goto 9, 3) := by decide +kernel
theorem dX4_crossing_10 : decode cX4_crossing 10 = .ok (.lload_n 0, 1) := by decide +kernel
theorem dX4_crossing_11 : decode cX4_crossing 11 = .ok (.lneg, 1) := by decide +kernel
theorem dX4_crossing_12 : decode cX4_crossing 12 = .ok (.lload_n 2, 1) := by decide +kernel
theorem dX4_crossing_13 : decode cX4_crossing 13 = .ok (.invokestatic 59, 3) := by decide +kernel
theorem dX4_crossing_16 : decode cX4_crossing 16 = .ok (.lreturn, 1) := by decide +kernel
theorem dX4_offerAround_0 : decode cX4_offerAround 0 = .ok (.aload_n 0, 1) := by decide +kernel
theorem dX4_offerAround_1 : decode cX4_offerAround 1 = .ok (.aload_n 0, 1) := by decide +kernel
theorem dX4_offerAround_2 : decode cX4_offerAround 2 = .ok (.getfield 35, 3) := by decide +kernel
theorem dX4_offerAround_5 : decode cX4_offerAround 5 = .ok (.lload_n 1, 1) := by decide +kernel
theorem dX4_offerAround_6 : decode cX4_offerAround 6 = .ok (.aload_n 0, 1) := by decide +kernel
theorem dX4_offerAround_7 : decode cX4_offerAround 7 = .ok (.getfield 22, 3) := by decide +kernel
theorem dX4_offerAround_10 : decode cX4_offerAround 10 = .ok (.lmul, 1) := by decide +kernel
theorem dX4_offerAround_11 : decode cX4_offerAround 11 = .ok (.ladd, 1) := by decide +kernel
theorem dX4_offerAround_12 : decode cX4_offerAround 12 = .ok (.aload_n 0, 1) := by decide +kernel
theorem dX4_offerAround_13 : decode cX4_offerAround 13 = .ok (.getfield 38, 3) := by decide +kernel
theorem dX4_offerAround_16 : decode cX4_offerAround 16 = .ok (.lload_n 1, 1) := by decide +kernel
theorem dX4_offerAround_17 : decode cX4_offerAround 17 = .ok (.aload_n 0, 1) := by decide +kernel
theorem dX4_offerAround_18 : decode cX4_offerAround 18 = .ok (.getfield 25, 3) := by decide +kernel
theorem dX4_offerAround_21 : decode cX4_offerAround 21 = .ok (.lmul, 1) := by decide +kernel
theorem dX4_offerAround_22 : decode cX4_offerAround 22 = .ok (.ladd, 1) := by decide +kernel
theorem dX4_offerAround_23 : decode cX4_offerAround 23 = .ok (.invokevirtual 28, 3) := by decide +kernel
theorem dX4_offerAround_26 : decode cX4_offerAround 26 = .ok (.aload_n 0, 1) := by decide +kernel
theorem dX4_offerAround_27 : decode cX4_offerAround 27 = .ok (.aload_n 0, 1) := by decide +kernel
theorem dX4_offerAround_28 : decode cX4_offerAround 28 = .ok (.getfield 35, 3) := by decide +kernel
theorem dX4_offerAround_31 : decode cX4_offerAround 31 = .ok (.lload_n 1, 1) := by decide +kernel
theorem dX4_offerAround_32 : decode cX4_offerAround 32 = .ok (.lconst 1, 1) := by decide +kernel
theorem dX4_offerAround_33 : decode cX4_offerAround 33 = .ok (.ladd, 1) := by decide +kernel
theorem dX4_offerAround_34 : decode cX4_offerAround 34 = .ok (.aload_n 0, 1) := by decide +kernel
theorem dX4_offerAround_35 : decode cX4_offerAround 35 = .ok (.getfield 22, 3) := by decide +kernel
theorem dX4_offerAround_38 : decode cX4_offerAround 38 = .ok (.lmul, 1) := by decide +kernel
theorem dX4_offerAround_39 : decode cX4_offerAround 39 = .ok (.ladd, 1) := by decide +kernel
theorem dX4_offerAround_40 : decode cX4_offerAround 40 = .ok (.aload_n 0, 1) := by decide +kernel
theorem dX4_offerAround_41 : decode cX4_offerAround 41 = .ok (.getfield 38, 3) := by decide +kernel
theorem dX4_offerAround_44 : decode cX4_offerAround 44 = .ok (.lload_n 1, 1) := by decide +kernel
theorem dX4_offerAround_45 : decode cX4_offerAround 45 = .ok (.lconst 1, 1) := by decide +kernel
theorem dX4_offerAround_46 : decode cX4_offerAround 46 = .ok (.ladd, 1) := by decide +kernel
theorem dX4_offerAround_47 : decode cX4_offerAround 47 = .ok (.aload_n 0, 1) := by decide +kernel
theorem dX4_offerAround_48 : decode cX4_offerAround 48 = .ok (.getfield 25, 3) := by decide +kernel
theorem dX4_offerAround_51 : decode cX4_offerAround 51 = .ok (.lmul, 1) := by decide +kernel
theorem dX4_offerAround_52 : decode cX4_offerAround 52 = .ok (.ladd, 1) := by decide +kernel
theorem dX4_offerAround_53 : decode cX4_offerAround 53 = .ok (.invokevirtual 28, 3) := by decide +kernel
theorem dX4_offerAround_56 : decode cX4_offerAround 56 = .ok (.return_, 1) := by decide +kernel
theorem dX4_offer_0 : decode cX4_offer 0 = .ok (.lload_n 3, 1) := by decide +kernel
theorem dX4_offer_1 : decode cX4_offer 1 = .ok (.lconst 1, 1) := by decide +kernel
theorem dX4_offer_2 : decode cX4_offer 2 = .ok (.land, 1) := by decide +kernel
theorem dX4_offer_3 : decode cX4_offer 3 = .ok (.lconst 0, 1) := by decide +kernel
theorem dX4_offer_4 : decode cX4_offer 4 = .ok (.lcmp, 1) := by decide +kernel
theorem dX4_offer_5 : decode cX4_offer 5 = .ok (.ifCond .ne 4, 3) := by decide +kernel
theorem dX4_offer_8 : decode cX4_offer 8 = .ok (.return_, 1) := by decide +kernel
theorem dX4_offer_9 : decode cX4_offer 9 = .ok (.lload_n 3, 1) := by decide +kernel
theorem dX4_offer_10 : decode cX4_offer 10 = .ok (.lconst 0, 1) := by decide +kernel
theorem dX4_offer_11 : decode cX4_offer 11 = .ok (.lcmp, 1) := by decide +kernel
theorem dX4_offer_12 : decode cX4_offer 12 = .ok (.ifCond .ge 8, 3) := by decide +kernel
theorem dX4_offer_15 : decode cX4_offer 15 = .ok (.lload_n 1, 1) := by decide +kernel
theorem dX4_offer_16 : decode cX4_offer 16 = .ok (.lneg, 1) := by decide +kernel
theorem dX4_offer_17 : decode cX4_offer 17 = .ok (.goto 4, 3) := by decide +kernel
theorem dX4_offer_20 : decode cX4_offer 20 = .ok (.lload_n 1, 1) := by decide +kernel
theorem dX4_offer_21 : decode cX4_offer 21 = .ok (.lstore 5, 2) := by decide +kernel
theorem dX4_offer_23 : decode cX4_offer 23 = .ok (.lload_n 3, 1) := by decide +kernel
theorem dX4_offer_24 : decode cX4_offer 24 = .ok (.lconst 0, 1) := by decide +kernel
theorem dX4_offer_25 : decode cX4_offer 25 = .ok (.lcmp, 1) := by decide +kernel
theorem dX4_offer_26 : decode cX4_offer 26 = .ok (.ifCond .ge 8, 3) := by decide +kernel
theorem dX4_offer_29 : decode cX4_offer 29 = .ok (.lload_n 3, 1) := by decide +kernel
theorem dX4_offer_30 : decode cX4_offer 30 = .ok (.lneg, 1) := by decide +kernel
theorem dX4_offer_31 : decode cX4_offer 31 = .ok (.goto 4, 3) := by decide +kernel
theorem dX4_offer_34 : decode cX4_offer 34 = .ok (.lload_n 3, 1) := by decide +kernel
theorem dX4_offer_35 : decode cX4_offer 35 = .ok (.lstore 7, 2) := by decide +kernel
theorem dX4_offer_37 : decode cX4_offer 37 = .ok (.aload_n 0, 1) := by decide +kernel
theorem dX4_offer_38 : decode cX4_offer 38 = .ok (.getfield 15, 3) := by decide +kernel
theorem dX4_offer_41 : decode cX4_offer 41 = .ok (.lconst 0, 1) := by decide +kernel
theorem dX4_offer_42 : decode cX4_offer 42 = .ok (.lcmp, 1) := by decide +kernel
theorem dX4_offer_43 : decode cX4_offer 43 = .ok (.ifCond .eq 14, 3) := by decide +kernel
theorem dX4_offer_46 : decode cX4_offer 46 = .ok (.aload_n 0, 1) := by decide +kernel
theorem dX4_offer_47 : decode cX4_offer 47 = .ok (.lload 5, 2) := by decide +kernel
theorem dX4_offer_49 : decode cX4_offer 49 = .ok (.lload 7, 2) := by decide +kernel
theorem dX4_offer_51 : decode cX4_offer 51 = .ok (.invokevirtual 62, 3) := by decide +kernel
theorem dX4_offer_54 : decode cX4_offer 54 = .ok (.ifCond .eq 15, 3) := by decide +kernel
theorem dX4_offer_57 : decode cX4_offer 57 = .ok (.aload_n 0, 1) := by decide +kernel
theorem dX4_offer_58 : decode cX4_offer 58 = .ok (.lload 5, 2) := by decide +kernel
theorem dX4_offer_60 : decode cX4_offer 60 = .ok (.putfield 9, 3) := by decide +kernel
theorem dX4_offer_63 : decode cX4_offer 63 = .ok (.aload_n 0, 1) := by decide +kernel
theorem dX4_offer_64 : decode cX4_offer 64 = .ok (.lload 7, 2) := by decide +kernel
theorem dX4_offer_66 : decode cX4_offer 66 = .ok (.putfield 15, 3) := by decide +kernel
theorem dX4_offer_69 : decode cX4_offer 69 = .ok (.return_, 1) := by decide +kernel
theorem dX4_isLess_0 : decode cX4_isLess 0 = .ok (.lload_n 3, 1) := by decide +kernel
theorem dX4_isLess_1 : decode cX4_isLess 1 = .ok (.lload_n 1, 1) := by decide +kernel
theorem dX4_isLess_2 : decode cX4_isLess 2 = .ok (.invokestatic 45, 3) := by decide +kernel
theorem dX4_isLess_5 : decode cX4_isLess 5 = .ok (.invokestatic 51, 3) := by decide +kernel
theorem dX4_isLess_8 : decode cX4_isLess 8 = .ok (.lstore 5, 2) := by decide +kernel
theorem dX4_isLess_10 : decode cX4_isLess 10 = .ok (.lload 5, 2) := by decide +kernel
theorem dX4_isLess_12 : decode cX4_isLess 12 = .ok (.aload_n 0, 1) := by decide +kernel
theorem dX4_isLess_13 : decode cX4_isLess 13 = .ok (.invokevirtual 66, 3) := by decide +kernel
theorem dX4_isLess_16 : decode cX4_isLess 16 = .ok (.lcmp, 1) := by decide +kernel
theorem dX4_isLess_17 : decode cX4_isLess 17 = .ok (.ifCond .eq 19, 3) := by decide +kernel
theorem dX4_isLess_20 : decode cX4_isLess 20 = .ok (.lload 5, 2) := by decide +kernel
theorem dX4_isLess_22 : decode cX4_isLess 22 = .ok (.aload_n 0, 1) := by decide +kernel
theorem dX4_isLess_23 : decode cX4_isLess 23 = .ok (.invokevirtual 66, 3) := by decide +kernel
theorem dX4_isLess_26 : decode cX4_isLess 26 = .ok (.lcmp, 1) := by decide +kernel
theorem dX4_isLess_27 : decode cX4_isLess 27 = .ok (.ifCond .ge 7, 3) := by decide +kernel
theorem dX4_isLess_30 : decode cX4_isLess 30 = .ok (.iconst 1, 1) := by decide +kernel
theorem dX4_isLess_31 : decode cX4_isLess 31 = .ok (.goto 4, 3) := by decide +kernel
theorem dX4_isLess_34 : decode cX4_isLess 34 = .ok (.iconst 0, 1) := by decide +kernel
theorem dX4_isLess_35 : decode cX4_isLess 35 = .ok (.ireturn, 1) := by decide +kernel
theorem dX4_isLess_36 : decode cX4_isLess 36 = .ok (.lload_n 3, 1) := by decide +kernel
theorem dX4_isLess_37 : decode cX4_isLess 37 = .ok (.aload_n 0, 1) := by decide +kernel
theorem dX4_isLess_38 : decode cX4_isLess 38 = .ok (.getfield 15, 3) := by decide +kernel
theorem dX4_isLess_41 : decode cX4_isLess 41 = .ok (.lcmp, 1) := by decide +kernel
theorem dX4_isLess_42 : decode cX4_isLess 42 = .ok (.ifCond .eq 20, 3) := by decide +kernel
theorem dX4_isLess_45 : decode cX4_isLess 45 = .ok (.lload_n 3, 1) := by decide +kernel
theorem dX4_isLess_46 : decode cX4_isLess 46 = .ok (.aload_n 0, 1) := by decide +kernel
theorem dX4_isLess_47 : decode cX4_isLess 47 = .ok (.getfield 15, 3) := by decide +kernel
theorem dX4_isLess_50 : decode cX4_isLess 50 = .ok (.lcmp, 1) := by decide +kernel
theorem dX4_isLess_51 : decode cX4_isLess 51 = .ok (.ifCond .ge 7, 3) := by decide +kernel
theorem dX4_isLess_54 : decode cX4_isLess 54 = .ok (.iconst 1, 1) := by decide +kernel
theorem dX4_isLess_55 : decode cX4_isLess 55 = .ok (.goto 21, 3) := by decide +kernel
theorem dX4_isLess_58 : decode cX4_isLess 58 = .ok (.iconst 0, 1) := by decide +kernel
theorem dX4_isLess_59 : decode cX4_isLess 59 = .ok (.goto 17, 3) := by decide +kernel
theorem dX4_isLess_62 : decode cX4_isLess 62 = .ok (.lload_n 1, 1) := by decide +kernel
theorem dX4_isLess_63 : decode cX4_isLess 63 = .ok (.aload_n 0, 1) := by decide +kernel
theorem dX4_isLess_64 : decode cX4_isLess 64 = .ok (.getfield 9, 3) := by decide +kernel
theorem dX4_isLess_67 : decode cX4_isLess 67 = .ok (.lcmp, 1) := by decide +kernel
theorem dX4_isLess_68 : decode cX4_isLess 68 = .ok (.ifCond .ge 7, 3) := by decide +kernel
theorem dX4_isLess_71 : decode cX4_isLess 71 = .ok (.iconst 1, 1) := by decide +kernel
theorem dX4_isLess_72 : decode cX4_isLess 72 = .ok (.goto 4, 3) := by decide +kernel
theorem dX4_isLess_75 : decode cX4_isLess 75 = .ok (.iconst 0, 1) := by decide +kernel
theorem dX4_isLess_76 : decode cX4_isLess 76 = .ok (.ireturn, 1) := by decide +kernel
theorem dX5_init_0 : decode cX5_init 0 = .ok (.aload_n 0, 1) := by decide +kernel
theorem dX5_init_1 : decode cX5_init 1 = .ok (.iload_n 1, 1) := by decide +kernel
theorem dX5_init_2 : decode cX5_init 2 = .ok (.iload_n 2, 1) := by decide +kernel
theorem dX5_init_3 : decode cX5_init 3 = .ok (.iload_n 3, 1) := by decide +kernel
theorem dX5_init_4 : decode cX5_init 4 = .ok (.invokespecial 1, 3) := by decide +kernel
theorem dX5_init_7 : decode cX5_init 7 = .ok (.aload_n 0, 1) := by decide +kernel
theorem dX5_init_8 : decode cX5_init 8 = .ok (.iconst 4, 1) := by decide +kernel
theorem dX5_init_9 : decode cX5_init 9 = .ok (.invokevirtual 7, 3) := by decide +kernel
theorem dX5_init_12 : decode cX5_init 12 = .ok (.return_, 1) := by decide +kernel
theorem dX5_sumOf_0 : decode cX5_sumOf 0 = .ok (.iload_n 1, 1) := by decide +kernel
theorem dX5_sumOf_1 : decode cX5_sumOf 1 = .ok (.ireturn, 1) := by decide +kernel
theorem dX5_carriedOf_0 : decode cX5_carriedOf 0 = .ok (.aload_n 0, 1) := by decide +kernel
theorem dX5_carriedOf_1 : decode cX5_carriedOf 1 = .ok (.getfield 13, 3) := by decide +kernel
theorem dX5_carriedOf_4 : decode cX5_carriedOf 4 = .ok (.ireturn, 1) := by decide +kernel
theorem dX6_init_0 : decode cX6_init 0 = .ok (.aload_n 0, 1) := by decide +kernel
theorem dX6_init_1 : decode cX6_init 1 = .ok (.iconst 5, 1) := by decide +kernel
theorem dX6_init_2 : decode cX6_init 2 = .ok (.iload_n 1, 1) := by decide +kernel
theorem dX6_init_3 : decode cX6_init 3 = .ok (.iload_n 2, 1) := by decide +kernel
theorem dX6_init_4 : decode cX6_init 4 = .ok (.invokespecial 3, 3) := by decide +kernel
theorem dX6_init_7 : decode cX6_init 7 = .ok (.aload_n 0, 1) := by decide +kernel
theorem dX6_init_8 : decode cX6_init 8 = .ok (.bipush 8, 2) := by decide +kernel
theorem dX6_init_10 : decode cX6_init 10 = .ok (.invokevirtual 9, 3) := by decide +kernel
theorem dX6_init_13 : decode cX6_init 13 = .ok (.return_, 1) := by decide +kernel
theorem dX6_advance_0 : decode cX6_advance 0 = .ok (.aload_n 0, 1) := by decide +kernel
theorem dX6_advance_1 : decode cX6_advance 1 = .ok (.getfield 15, 3) := by decide +kernel
theorem dX6_advance_4 : decode cX6_advance 4 = .ok (.iconst 1, 1) := by decide +kernel
theorem dX6_advance_5 : decode cX6_advance 5 = .ok (.iand, 1) := by decide +kernel
theorem dX6_advance_6 : decode cX6_advance 6 = .ok (.istore_n 1, 1) := by decide +kernel
theorem dX6_advance_7 : decode cX6_advance 7 = .ok (.aload_n 0, 1) := by decide +kernel
theorem dX6_advance_8 : decode cX6_advance 8 = .ok (.getfield 15, 3) := by decide +kernel
theorem dX6_advance_11 : decode cX6_advance 11 = .ok (.iconst 1, 1) := by decide +kernel
theorem dX6_advance_12 : decode cX6_advance 12 = .ok (.ishr, 1) := by decide +kernel
theorem dX6_advance_13 : decode cX6_advance 13 = .ok (.istore_n 2, 1) := by decide +kernel
theorem dX6_advance_14 : decode cX6_advance 14 = .ok (.aload_n 0, 1) := by decide +kernel
theorem dX6_advance_15 : decode cX6_advance 15 = .ok (.getfield 19, 3) := by decide +kernel
theorem dX6_advance_18 : decode cX6_advance 18 = .ok (.iconst 1, 1) := by decide +kernel
theorem dX6_advance_19 : decode cX6_advance 19 = .ok (.aload_n 0, 1) := by decide +kernel
theorem dX6_advance_20 : decode cX6_advance 20 = .ok (.getfield 22, 3) := by decide +kernel
theorem dX6_advance_23 : decode cX6_advance 23 = .ok (.ishl, 1) := by decide +kernel
theorem dX6_advance_24 : decode cX6_advance 24 = .ok (.iconst 1, 1) := by decide +kernel
theorem dX6_advance_25 : decode cX6_advance 25 = .ok (.isub, 1) := by decide +kernel
theorem dX6_advance_26 : decode cX6_advance 26 = .ok (.iand, 1) := by decide +kernel
theorem dX6_advance_27 : decode cX6_advance 27 = .ok (.istore_n 3, 1) := by decide +kernel
theorem dX6_advance_28 : decode cX6_advance 28 = .ok (.iload_n 1, 1) := by decide +kernel
theorem dX6_advance_29 : decode cX6_advance 29 = .ok (.iconst 1, 1) := by decide +kernel
theorem dX6_advance_30 : decode cX6_advance 30 = .ok (.if_icmp .ne 10, 3) := by decide +kernel
theorem dX6_advance_33 : decode cX6_advance 33 = .ok (.aload_n 0, 1) := by decide +kernel
theorem dX6_advance_34 : decode cX6_advance 34 = .ok (.getfield 25, 3) := by decide +kernel
theorem dX6_advance_37 : decode cX6_advance 37 = .ok (.goto 4, 3) := by decide +kernel
theorem dX6_advance_40 : decode cX6_advance 40 = .ok (.iconst 0, 1) := by decide +kernel
theorem dX6_advance_41 : decode cX6_advance 41 = .ok (.istore 4, 2) := by decide +kernel
theorem dX6_advance_43 : decode cX6_advance 43 = .ok (.aload_n 0, 1) := by decide +kernel
theorem dX6_advance_44 : decode cX6_advance 44 = .ok (.iload_n 2, 1) := by decide +kernel
theorem dX6_advance_45 : decode cX6_advance 45 = .ok (.iload_n 3, 1) := by decide +kernel
theorem dX6_advance_46 : decode cX6_advance 46 = .ok (.ixor, 1) := by decide +kernel
theorem dX6_advance_47 : decode cX6_advance 47 = .ok (.iload 4, 2) := by decide +kernel
theorem dX6_advance_49 : decode cX6_advance 49 = .ok (.ixor, 1) := by decide +kernel
theorem dX6_advance_50 : decode cX6_advance 50 = .ok (.putfield 15, 3) := by decide +kernel
theorem dX6_advance_53 : decode cX6_advance 53 = .ok (.aload_n 0, 1) := by decide +kernel
theorem dX6_advance_54 : decode cX6_advance 54 = .ok (.iload_n 2, 1) := by decide +kernel
theorem dX6_advance_55 : decode cX6_advance 55 = .ok (.iload_n 3, 1) := by decide +kernel
theorem dX6_advance_56 : decode cX6_advance 56 = .ok (.iand, 1) := by decide +kernel
theorem dX6_advance_57 : decode cX6_advance 57 = .ok (.iload_n 2, 1) := by decide +kernel
theorem dX6_advance_58 : decode cX6_advance 58 = .ok (.iload 4, 2) := by decide +kernel
theorem dX6_advance_60 : decode cX6_advance 60 = .ok (.iand, 1) := by decide +kernel
theorem dX6_advance_61 : decode cX6_advance 61 = .ok (.ior, 1) := by decide +kernel
theorem dX6_advance_62 : decode cX6_advance 62 = .ok (.iload_n 3, 1) := by decide +kernel
theorem dX6_advance_63 : decode cX6_advance 63 = .ok (.iload 4, 2) := by decide +kernel
theorem dX6_advance_65 : decode cX6_advance 65 = .ok (.iand, 1) := by decide +kernel
theorem dX6_advance_66 : decode cX6_advance 66 = .ok (.ior, 1) := by decide +kernel
theorem dX6_advance_67 : decode cX6_advance 67 = .ok (.putfield 19, 3) := by decide +kernel
theorem dX6_advance_70 : decode cX6_advance 70 = .ok (.iload_n 1, 1) := by decide +kernel
theorem dX6_advance_71 : decode cX6_advance 71 = .ok (.ireturn, 1) := by decide +kernel
theorem dX7_init_0 : decode cX7_init 0 = .ok (.aload_n 0, 1) := by decide +kernel
theorem dX7_init_1 : decode cX7_init 1 = .ok (.invokespecial 3, 3) := by decide +kernel
theorem dX7_init_4 : decode cX7_init 4 = .ok (.aload_n 0, 1) := by decide +kernel
theorem dX7_init_5 : decode cX7_init 5 = .ok (.bipush 60, 2) := by decide +kernel
theorem dX7_init_7 : decode cX7_init 7 = .ok (.newarray .int, 2) := by decide +kernel
theorem dX7_init_9 : decode cX7_init 9 = .ok (.putfield 11, 3) := by decide +kernel
theorem dX7_init_12 : decode cX7_init 12 = .ok (.aload_n 0, 1) := by decide +kernel
theorem dX7_init_13 : decode cX7_init 13 = .ok (.iconst 0, 1) := by decide +kernel
theorem dX7_init_14 : decode cX7_init 14 = .ok (.putfield 15, 3) := by decide +kernel
theorem dX7_init_17 : decode cX7_init 17 = .ok (.aload_n 0, 1) := by decide +kernel
theorem dX7_init_18 : decode cX7_init 18 = .ok (.iconst 0, 1) := by decide +kernel
theorem dX7_init_19 : decode cX7_init 19 = .ok (.putfield 19, 3) := by decide +kernel
theorem dX7_init_22 : decode cX7_init 22 = .ok (.aload_n 0, 1) := by decide +kernel
theorem dX7_init_23 : decode cX7_init 23 = .ok (.bipush 16, 2) := by decide +kernel
theorem dX7_init_25 : decode cX7_init 25 = .ok (.newarray .int, 2) := by decide +kernel
theorem dX7_init_27 : decode cX7_init 27 = .ok (.putfield 22, 3) := by decide +kernel
theorem dX7_init_30 : decode cX7_init 30 = .ok (.aload_n 0, 1) := by decide +kernel
theorem dX7_init_31 : decode cX7_init 31 = .ok (.bipush 64, 2) := by decide +kernel
theorem dX7_init_33 : decode cX7_init 33 = .ok (.newarray .int, 2) := by decide +kernel
theorem dX7_init_35 : decode cX7_init 35 = .ok (.putfield 25, 3) := by decide +kernel
theorem dX7_init_38 : decode cX7_init 38 = .ok (.aload_n 0, 1) := by decide +kernel
theorem dX7_init_39 : decode cX7_init 39 = .ok (.iconst 0, 1) := by decide +kernel
theorem dX7_init_40 : decode cX7_init 40 = .ok (.putfield 28, 3) := by decide +kernel
theorem dX7_init_43 : decode cX7_init 43 = .ok (.aload_n 0, 1) := by decide +kernel
theorem dX7_init_44 : decode cX7_init 44 = .ok (.iconst 0, 1) := by decide +kernel
theorem dX7_init_45 : decode cX7_init 45 = .ok (.putfield 31, 3) := by decide +kernel
theorem dX7_init_48 : decode cX7_init 48 = .ok (.aload_n 0, 1) := by decide +kernel
theorem dX7_init_49 : decode cX7_init 49 = .ok (.iconst 0, 1) := by decide +kernel
theorem dX7_init_50 : decode cX7_init 50 = .ok (.putfield 34, 3) := by decide +kernel
theorem dX7_init_53 : decode cX7_init 53 = .ok (.aload_n 0, 1) := by decide +kernel
theorem dX7_init_54 : decode cX7_init 54 = .ok (.iconst 0, 1) := by decide +kernel
theorem dX7_init_55 : decode cX7_init 55 = .ok (.putfield 37, 3) := by decide +kernel
theorem dX7_init_58 : decode cX7_init 58 = .ok (.return_, 1) := by decide +kernel
theorem dX7_hasRoom_0 : decode cX7_hasRoom 0 = .ok (.aload_n 0, 1) := by decide +kernel
theorem dX7_hasRoom_1 : decode cX7_hasRoom 1 = .ok (.getfield 15, 3) := by decide +kernel
theorem dX7_hasRoom_4 : decode cX7_hasRoom 4 = .ok (.iload_n 1, 1) := by decide +kernel
theorem dX7_hasRoom_5 : decode cX7_hasRoom 5 = .ok (.iadd, 1) := by decide +kernel
theorem dX7_hasRoom_6 : decode cX7_hasRoom 6 = .ok (.aload_n 0, 1) := by decide +kernel
theorem dX7_hasRoom_7 : decode cX7_hasRoom 7 = .ok (.getfield 11, 3) := by decide +kernel
theorem dX7_hasRoom_10 : decode cX7_hasRoom 10 = .ok (.arraylength, 1) := by decide +kernel
theorem dX7_hasRoom_11 : decode cX7_hasRoom 11 = .ok (.if_icmp .gt 7, 3) := by decide +kernel
theorem dX7_hasRoom_14 : decode cX7_hasRoom 14 = .ok (.iconst 1, 1) := by decide +kernel
theorem dX7_hasRoom_15 : decode cX7_hasRoom 15 = .ok (.goto 4, 3) := by decide +kernel
theorem dX7_hasRoom_18 : decode cX7_hasRoom 18 = .ok (.iconst 0, 1) := by decide +kernel
theorem dX7_hasRoom_19 : decode cX7_hasRoom 19 = .ok (.ireturn, 1) := by decide +kernel
theorem dX7_add_0 : decode cX7_add 0 = .ok (.aload_n 0, 1) := by decide +kernel
theorem dX7_add_1 : decode cX7_add 1 = .ok (.getfield 15, 3) := by decide +kernel
theorem dX7_add_4 : decode cX7_add 4 = .ok (.ifCond .lt 35, 3) := by decide +kernel
theorem dX7_add_7 : decode cX7_add 7 = .ok (.aload_n 0, 1) := by decide +kernel
theorem dX7_add_8 : decode cX7_add 8 = .ok (.getfield 15, 3) := by decide +kernel
theorem dX7_add_11 : decode cX7_add 11 = .ok (.aload_n 0, 1) := by decide +kernel
theorem dX7_add_12 : decode cX7_add 12 = .ok (.getfield 11, 3) := by decide +kernel
theorem dX7_add_15 : decode cX7_add 15 = .ok (.arraylength, 1) := by decide +kernel
theorem dX7_add_16 : decode cX7_add 16 = .ok (.if_icmp .ge 23, 3) := by decide +kernel
theorem dX7_add_19 : decode cX7_add 19 = .ok (.aload_n 0, 1) := by decide +kernel
theorem dX7_add_20 : decode cX7_add 20 = .ok (.getfield 11, 3) := by decide +kernel
theorem dX7_add_23 : decode cX7_add 23 = .ok (.aload_n 0, 1) := by decide +kernel
theorem dX7_add_24 : decode cX7_add 24 = .ok (.getfield 15, 3) := by decide +kernel
theorem dX7_add_27 : decode cX7_add 27 = .ok (.iload_n 1, 1) := by decide +kernel
theorem dX7_add_28 : decode cX7_add 28 = .ok (.iastore, 1) := by decide +kernel
theorem dX7_add_29 : decode cX7_add 29 = .ok (.aload_n 0, 1) := by decide +kernel
theorem dX7_add_30 : decode cX7_add 30 = .ok (.dup, 1) := by decide +kernel
theorem dX7_add_31 : decode cX7_add 31 = .ok (.getfield 15, 3) := by decide +kernel
theorem dX7_add_34 : decode cX7_add 34 = .ok (.iconst 1, 1) := by decide +kernel
theorem dX7_add_35 : decode cX7_add 35 = .ok (.iadd, 1) := by decide +kernel
theorem dX7_add_36 : decode cX7_add 36 = .ok (.putfield 15, 3) := by decide +kernel
theorem dX7_add_39 : decode cX7_add 39 = .ok (.return_, 1) := by decide +kernel
theorem dX7_wordOf_0 : decode cX7_wordOf 0 = .ok (.iload_n 1, 1) := by decide +kernel
theorem dX7_wordOf_1 : decode cX7_wordOf 1 = .ok (.ifCond .lt 21, 3) := by decide +kernel
theorem dX7_wordOf_4 : decode cX7_wordOf 4 = .ok (.iload_n 1, 1) := by decide +kernel
theorem dX7_wordOf_5 : decode cX7_wordOf 5 = .ok (.aload_n 0, 1) := by decide +kernel
theorem dX7_wordOf_6 : decode cX7_wordOf 6 = .ok (.getfield 22, 3) := by decide +kernel
theorem dX7_wordOf_9 : decode cX7_wordOf 9 = .ok (.arraylength, 1) := by decide +kernel
theorem dX7_wordOf_10 : decode cX7_wordOf 10 = .ok (.if_icmp .ge 12, 3) := by decide +kernel
theorem dX7_wordOf_13 : decode cX7_wordOf 13 = .ok (.aload_n 0, 1) := by decide +kernel
theorem dX7_wordOf_14 : decode cX7_wordOf 14 = .ok (.getfield 22, 3) := by decide +kernel
theorem dX7_wordOf_17 : decode cX7_wordOf 17 = .ok (.iload_n 1, 1) := by decide +kernel
theorem dX7_wordOf_18 : decode cX7_wordOf 18 = .ok (.iaload, 1) := by decide +kernel
theorem dX7_wordOf_19 : decode cX7_wordOf 19 = .ok (.goto 4, 3) := by decide +kernel
theorem dX7_wordOf_22 : decode cX7_wordOf 22 = .ok (.iconst (-1), 1) := by decide +kernel
theorem dX7_wordOf_23 : decode cX7_wordOf 23 = .ok (.ireturn, 1) := by decide +kernel
theorem dX7_numberOf_0 : decode cX7_numberOf 0 = .ok (.iload_n 1, 1) := by decide +kernel
theorem dX7_numberOf_1 : decode cX7_numberOf 1 = .ok (.iconst 4, 1) := by decide +kernel
theorem dX7_numberOf_2 : decode cX7_numberOf 2 = .ok (.imul, 1) := by decide +kernel
theorem dX7_numberOf_3 : decode cX7_numberOf 3 = .ok (.iload_n 2, 1) := by decide +kernel
theorem dX7_numberOf_4 : decode cX7_numberOf 4 = .ok (.iadd, 1) := by decide +kernel
theorem dX7_numberOf_5 : decode cX7_numberOf 5 = .ok (.istore_n 3, 1) := by decide +kernel
theorem dX7_numberOf_6 : decode cX7_numberOf 6 = .ok (.iload_n 3, 1) := by decide +kernel
theorem dX7_numberOf_7 : decode cX7_numberOf 7 = .ok (.ifCond .lt 21, 3) := by decide +kernel
theorem dX7_numberOf_10 : decode cX7_numberOf 10 = .ok (.iload_n 3, 1) := by decide +kernel
theorem dX7_numberOf_11 : decode cX7_numberOf 11 = .ok (.aload_n 0, 1) := by decide +kernel
theorem dX7_numberOf_12 : decode cX7_numberOf 12 = .ok (.getfield 25, 3) := by decide +kernel
theorem dX7_numberOf_15 : decode cX7_numberOf 15 = .ok (.arraylength, 1) := by decide +kernel
theorem dX7_numberOf_16 : decode cX7_numberOf 16 = .ok (.if_icmp .ge 12, 3) := by decide +kernel
theorem dX7_numberOf_19 : decode cX7_numberOf 19 = .ok (.aload_n 0, 1) := by decide +kernel
theorem dX7_numberOf_20 : decode cX7_numberOf 20 = .ok (.getfield 25, 3) := by decide +kernel
theorem dX7_numberOf_23 : decode cX7_numberOf 23 = .ok (.iload_n 3, 1) := by decide +kernel
theorem dX7_numberOf_24 : decode cX7_numberOf 24 = .ok (.iaload, 1) := by decide +kernel
theorem dX7_numberOf_25 : decode cX7_numberOf 25 = .ok (.goto 4, 3) := by decide +kernel
theorem dX7_numberOf_28 : decode cX7_numberOf 28 = .ok (.iconst 0, 1) := by decide +kernel
theorem dX7_numberOf_29 : decode cX7_numberOf 29 = .ok (.ireturn, 1) := by decide +kernel
theorem dX7_read_0 : decode cX7_read 0 = .ok (.aload_n 0, 1) := by decide +kernel
theorem dX7_read_1 : decode cX7_read 1 = .ok (.iconst 0, 1) := by decide +kernel
theorem dX7_read_2 : decode cX7_read 2 = .ok (.putfield 28, 3) := by decide +kernel
theorem dX7_read_5 : decode cX7_read 5 = .ok (.aload_n 0, 1) := by decide +kernel
theorem dX7_read_6 : decode cX7_read 6 = .ok (.iconst 0, 1) := by decide +kernel
theorem dX7_read_7 : decode cX7_read 7 = .ok (.putfield 19, 3) := by decide +kernel
theorem dX7_read_10 : decode cX7_read 10 = .ok (.iconst 0, 1) := by decide +kernel
theorem dX7_read_11 : decode cX7_read 11 = .ok (.istore_n 1, 1) := by decide +kernel
theorem dX7_read_12 : decode cX7_read 12 = .ok (.iload_n 1, 1) := by decide +kernel
theorem dX7_read_13 : decode cX7_read 13 = .ok (.bipush 16, 2) := by decide +kernel
theorem dX7_read_15 : decode cX7_read 15 = .ok (.if_icmp .ge 55, 3) := by decide +kernel
theorem dX7_read_18 : decode cX7_read 18 = .ok (.aload_n 0, 1) := by decide +kernel
theorem dX7_read_19 : decode cX7_read 19 = .ok (.iload_n 1, 1) := by decide +kernel
theorem dX7_read_20 : decode cX7_read 20 = .ok (.invokevirtual 40, 3) := by decide +kernel
theorem dX7_read_23 : decode cX7_read 23 = .ok (.ifCond .ne 8, 3) := by decide +kernel
theorem dX7_read_26 : decode cX7_read 26 = .ok (.aload_n 0, 1) := by decide +kernel
theorem dX7_read_27 : decode cX7_read 27 = .ok (.getfield 34, 3) := by decide +kernel
theorem dX7_read_30 : decode cX7_read 30 = .ok (.ireturn, 1) := by decide +kernel
theorem dX7_read_31 : decode cX7_read 31 = .ok (.aload_n 0, 1) := by decide +kernel
theorem dX7_read_32 : decode cX7_read 32 = .ok (.iload_n 1, 1) := by decide +kernel
theorem dX7_read_33 : decode cX7_read 33 = .ok (.iconst 1, 1) := by decide +kernel
theorem dX7_read_34 : decode cX7_read 34 = .ok (.iadd, 1) := by decide +kernel
theorem dX7_read_35 : decode cX7_read 35 = .ok (.putfield 19, 3) := by decide +kernel
theorem dX7_read_38 : decode cX7_read 38 = .ok (.aload_n 0, 1) := by decide +kernel
theorem dX7_read_39 : decode cX7_read 39 = .ok (.invokevirtual 44, 3) := by decide +kernel
theorem dX7_read_42 : decode cX7_read 42 = .ok (.aload_n 0, 1) := by decide +kernel
theorem dX7_read_43 : decode cX7_read 43 = .ok (.getfield 31, 3) := by decide +kernel
theorem dX7_read_46 : decode cX7_read 46 = .ok (.ifCond .ne 5, 3) := by decide +kernel
theorem dX7_read_49 : decode cX7_read 49 = .ok (.iconst (-1), 1) := by decide +kernel
theorem dX7_read_50 : decode cX7_read 50 = .ok (.ireturn, 1) := by decide +kernel
theorem dX7_read_51 : decode cX7_read 51 = .ok (.aload_n 0, 1) := by decide +kernel
theorem dX7_read_52 : decode cX7_read 52 = .ok (.getfield 31, 3) := by decide +kernel
theorem dX7_read_55 : decode cX7_read 55 = .ok (.iconst 3, 1) := by decide +kernel
theorem dX7_read_56 : decode cX7_read 56 = .ok (.if_icmp .eq 8, 3) := by decide +kernel
theorem dX7_read_59 : decode cX7_read 59 = .ok (.aload_n 0, 1) := by decide +kernel
theorem dX7_read_60 : decode cX7_read 60 = .ok (.getfield 34, 3) := by decide +kernel
theorem dX7_read_63 : decode cX7_read 63 = .ok (.ireturn, 1) := by decide +kernel
theorem dX7_read_64 : decode cX7_read 64 = .ok (.iinc 1 1, 3) := by decide +kernel
theorem dX7_read_67 : decode cX7_read 67 = .ok (.goto (-55), 3) := by decide +kernel
theorem dX7_read_70 : decode cX7_read 70 = .ok (.aload_n 0, 1) := by decide +kernel
theorem dX7_read_71 : decode cX7_read 71 = .ok (.getfield 34, 3) := by decide +kernel
theorem dX7_read_74 : decode cX7_read 74 = .ok (.ireturn, 1) := by decide +kernel
theorem dX7_readClause_0 : decode cX7_readClause 0 = .ok (.aload_n 0, 1) := by decide +kernel
theorem dX7_readClause_1 : decode cX7_readClause 1 = .ok (.invokevirtual 44, 3) := by decide +kernel
theorem dX7_readClause_4 : decode cX7_readClause 4 = .ok (.aload_n 0, 1) := by decide +kernel
theorem dX7_readClause_5 : decode cX7_readClause 5 = .ok (.getfield 31, 3) := by decide +kernel
theorem dX7_readClause_8 : decode cX7_readClause 8 = .ok (.iconst 1, 1) := by decide +kernel
theorem dX7_readClause_9 : decode cX7_readClause 9 = .ok (.if_icmp .ne 12, 3) := by decide +kernel
theorem dX7_readClause_12 : decode cX7_readClause 12 = .ok (.iload_n 1, 1) := by decide +kernel
theorem dX7_readClause_13 : decode cX7_readClause 13 = .ok (.aload_n 0, 1) := by decide +kernel
theorem dX7_readClause_14 : decode cX7_readClause 14 = .ok (.getfield 22, 3) := by decide +kernel
theorem dX7_readClause_17 : decode cX7_readClause 17 = .ok (.arraylength, 1) := by decide +kernel
theorem dX7_readClause_18 : decode cX7_readClause 18 = .ok (.if_icmp .lt 5, 3) := by decide +kernel
theorem dX7_readClause_21 : decode cX7_readClause 21 = .ok (.iconst 0, 1) := by decide +kernel
theorem dX7_readClause_22 : decode cX7_readClause 22 = .ok (.ireturn, 1) := by decide +kernel
theorem dX7_readClause_23 : decode cX7_readClause 23 = .ok (.aload_n 0, 1) := by decide +kernel
theorem dX7_readClause_24 : decode cX7_readClause 24 = .ok (.getfield 22, 3) := by decide +kernel
theorem dX7_readClause_27 : decode cX7_readClause 27 = .ok (.iload_n 1, 1) := by decide +kernel
theorem dX7_readClause_28 : decode cX7_readClause 28 = .ok (.aload_n 0, 1) := by decide +kernel
theorem dX7_readClause_29 : decode cX7_readClause 29 = .ok (.getfield 37, 3) := by decide +kernel
theorem dX7_readClause_32 : decode cX7_readClause 32 = .ok (.iastore, 1) := by decide +kernel
theorem dX7_readClause_33 : decode cX7_readClause 33 = .ok (.aload_n 0, 1) := by decide +kernel
theorem dX7_readClause_34 : decode cX7_readClause 34 = .ok (.getfield 37, 3) := by decide +kernel
theorem dX7_readClause_37 : decode cX7_readClause 37 = .ok (.invokestatic 47, 3) := by decide +kernel
theorem dX7_readClause_40 : decode cX7_readClause 40 = .ok (.istore_n 2, 1) := by decide +kernel
theorem dX7_readClause_41 : decode cX7_readClause 41 = .ok (.iconst 0, 1) := by decide +kernel
theorem dX7_readClause_42 : decode cX7_readClause 42 = .ok (.istore_n 3, 1) := by decide +kernel
theorem dX7_readClause_43 : decode cX7_readClause 43 = .ok (.iload_n 3, 1) := by decide +kernel
theorem dX7_readClause_44 : decode cX7_readClause 44 = .ok (.iload_n 2, 1) := by decide +kernel
theorem dX7_readClause_45 : decode cX7_readClause 45 = .ok (.if_icmp .ge 51, 3) := by decide +kernel
theorem dX7_readClause_48 : decode cX7_readClause 48 = .ok (.aload_n 0, 1) := by decide +kernel
theorem dX7_readClause_49 : decode cX7_readClause 49 = .ok (.invokevirtual 44, 3) := by decide +kernel
theorem dX7_readClause_52 : decode cX7_readClause 52 = .ok (.iload_n 1, 1) := by decide +kernel
theorem dX7_readClause_53 : decode cX7_readClause 53 = .ok (.iconst 4, 1) := by decide +kernel
theorem dX7_readClause_54 : decode cX7_readClause 54 = .ok (.imul, 1) := by decide +kernel
theorem dX7_readClause_55 : decode cX7_readClause 55 = .ok (.iload_n 3, 1) := by decide +kernel
theorem dX7_readClause_56 : decode cX7_readClause 56 = .ok (.iadd, 1) := by decide +kernel
theorem dX7_readClause_57 : decode cX7_readClause 57 = .ok (.istore 4, 2) := by decide +kernel
theorem dX7_readClause_59 : decode cX7_readClause 59 = .ok (.aload_n 0, 1) := by decide +kernel
theorem dX7_readClause_60 : decode cX7_readClause 60 = .ok (.getfield 31, 3) := by decide +kernel
theorem dX7_readClause_63 : decode cX7_readClause 63 = .ok (.iconst 2, 1) := by decide +kernel
theorem dX7_readClause_64 : decode cX7_readClause 64 = .ok (.if_icmp .ne 13, 3) := by decide +kernel
theorem dX7_readClause_67 : decode cX7_readClause 67 = .ok (.iload 4, 2) := by decide +kernel
theorem dX7_readClause_69 : decode cX7_readClause 69 = .ok (.aload_n 0, 1) := by decide +kernel
theorem dX7_readClause_70 : decode cX7_readClause 70 = .ok (.getfield 25, 3) := by decide +kernel
theorem dX7_readClause_73 : decode cX7_readClause 73 = .ok (.arraylength, 1) := by decide +kernel
theorem dX7_readClause_74 : decode cX7_readClause 74 = .ok (.if_icmp .lt 5, 3) := by decide +kernel
theorem dX7_readClause_77 : decode cX7_readClause 77 = .ok (.iconst 0, 1) := by decide +kernel
theorem dX7_readClause_78 : decode cX7_readClause 78 = .ok (.ireturn, 1) := by decide +kernel
theorem dX7_readClause_79 : decode cX7_readClause 79 = .ok (.aload_n 0, 1) := by decide +kernel
theorem dX7_readClause_80 : decode cX7_readClause 80 = .ok (.getfield 25, 3) := by decide +kernel
theorem dX7_readClause_83 : decode cX7_readClause 83 = .ok (.iload 4, 2) := by decide +kernel
theorem dX7_readClause_85 : decode cX7_readClause 85 = .ok (.aload_n 0, 1) := by decide +kernel
theorem dX7_readClause_86 : decode cX7_readClause 86 = .ok (.getfield 37, 3) := by decide +kernel
theorem dX7_readClause_89 : decode cX7_readClause 89 = .ok (.iastore, 1) := by decide +kernel
theorem dX7_readClause_90 : decode cX7_readClause 90 = .ok (.iinc 3 1, 3) := by decide +kernel
theorem dX7_readClause_93 : decode cX7_readClause 93 = .ok (.goto (-50), 3) := by decide +kernel
theorem dX7_readClause_96 : decode cX7_readClause 96 = .ok (.iconst 1, 1) := by decide +kernel
theorem dX7_readClause_97 : decode cX7_readClause 97 = .ok (.ireturn, 1) := by decide +kernel
theorem dX7_numbersOf_0 : decode cX7_numbersOf 0 = .ok (.iload_n 0, 1) := by decide +kernel
theorem dX7_numbersOf_1 : decode cX7_numbersOf 1 = .ok (.lookupswitch 31 #[(0, 27), (5, 29)], 27) := by decide +kernel
theorem dX7_numbersOf_28 : decode cX7_numbersOf 28 = .ok (.iconst 4, 1) := by decide +kernel
theorem dX7_numbersOf_29 : decode cX7_numbersOf 29 = .ok (.ireturn, 1) := by decide +kernel
theorem dX7_numbersOf_30 : decode cX7_numbersOf 30 = .ok (.iconst 0, 1) := by decide +kernel
theorem dX7_numbersOf_31 : decode cX7_numbersOf 31 = .ok (.ireturn, 1) := by decide +kernel
theorem dX7_numbersOf_32 : decode cX7_numbersOf 32 = .ok (.iconst 2, 1) := by decide +kernel
theorem dX7_numbersOf_33 : decode cX7_numbersOf 33 = .ok (.ireturn, 1) := by decide +kernel
theorem dX7_byteAt_0 : decode cX7_byteAt 0 = .ok (.iload_n 1, 1) := by decide +kernel
theorem dX7_byteAt_1 : decode cX7_byteAt 1 = .ok (.ifCond .lt 29, 3) := by decide +kernel
theorem dX7_byteAt_4 : decode cX7_byteAt 4 = .ok (.iload_n 1, 1) := by decide +kernel
theorem dX7_byteAt_5 : decode cX7_byteAt 5 = .ok (.aload_n 0, 1) := by decide +kernel
theorem dX7_byteAt_6 : decode cX7_byteAt 6 = .ok (.getfield 15, 3) := by decide +kernel
theorem dX7_byteAt_9 : decode cX7_byteAt 9 = .ok (.if_icmp .ge 21, 3) := by decide +kernel
theorem dX7_byteAt_12 : decode cX7_byteAt 12 = .ok (.iload_n 1, 1) := by decide +kernel
theorem dX7_byteAt_13 : decode cX7_byteAt 13 = .ok (.aload_n 0, 1) := by decide +kernel
theorem dX7_byteAt_14 : decode cX7_byteAt 14 = .ok (.getfield 11, 3) := by decide +kernel
theorem dX7_byteAt_17 : decode cX7_byteAt 17 = .ok (.arraylength, 1) := by decide +kernel
theorem dX7_byteAt_18 : decode cX7_byteAt 18 = .ok (.if_icmp .ge 12, 3) := by decide +kernel
theorem dX7_byteAt_21 : decode cX7_byteAt 21 = .ok (.aload_n 0, 1) := by decide +kernel
theorem dX7_byteAt_22 : decode cX7_byteAt 22 = .ok (.getfield 11, 3) := by decide +kernel
theorem dX7_byteAt_25 : decode cX7_byteAt 25 = .ok (.iload_n 1, 1) := by decide +kernel
theorem dX7_byteAt_26 : decode cX7_byteAt 26 = .ok (.iaload, 1) := by decide +kernel
theorem dX7_byteAt_27 : decode cX7_byteAt 27 = .ok (.goto 4, 3) := by decide +kernel
theorem dX7_byteAt_30 : decode cX7_byteAt 30 = .ok (.iconst (-1), 1) := by decide +kernel
theorem dX7_byteAt_31 : decode cX7_byteAt 31 = .ok (.ireturn, 1) := by decide +kernel
theorem dX7_isLetter_0 : decode cX7_isLetter 0 = .ok (.iload_n 0, 1) := by decide +kernel
theorem dX7_isLetter_1 : decode cX7_isLetter 1 = .ok (.bipush 97, 2) := by decide +kernel
theorem dX7_isLetter_3 : decode cX7_isLetter 3 = .ok (.if_icmp .lt 13, 3) := by decide +kernel
theorem dX7_isLetter_6 : decode cX7_isLetter 6 = .ok (.iload_n 0, 1) := by decide +kernel
theorem dX7_isLetter_7 : decode cX7_isLetter 7 = .ok (.bipush 122, 2) := by decide +kernel
theorem dX7_isLetter_9 : decode cX7_isLetter 9 = .ok (.if_icmp .gt 7, 3) := by decide +kernel
theorem dX7_isLetter_12 : decode cX7_isLetter 12 = .ok (.iconst 1, 1) := by decide +kernel
theorem dX7_isLetter_13 : decode cX7_isLetter 13 = .ok (.goto 4, 3) := by decide +kernel
theorem dX7_isLetter_16 : decode cX7_isLetter 16 = .ok (.iconst 0, 1) := by decide +kernel
theorem dX7_isLetter_17 : decode cX7_isLetter 17 = .ok (.ireturn, 1) := by decide +kernel
theorem dX7_isDigit_0 : decode cX7_isDigit 0 = .ok (.iload_n 0, 1) := by decide +kernel
theorem dX7_isDigit_1 : decode cX7_isDigit 1 = .ok (.bipush 48, 2) := by decide +kernel
theorem dX7_isDigit_3 : decode cX7_isDigit 3 = .ok (.if_icmp .lt 13, 3) := by decide +kernel
theorem dX7_isDigit_6 : decode cX7_isDigit 6 = .ok (.iload_n 0, 1) := by decide +kernel
theorem dX7_isDigit_7 : decode cX7_isDigit 7 = .ok (.bipush 57, 2) := by decide +kernel
theorem dX7_isDigit_9 : decode cX7_isDigit 9 = .ok (.if_icmp .gt 7, 3) := by decide +kernel
theorem dX7_isDigit_12 : decode cX7_isDigit 12 = .ok (.iconst 1, 1) := by decide +kernel
theorem dX7_isDigit_13 : decode cX7_isDigit 13 = .ok (.goto 4, 3) := by decide +kernel
theorem dX7_isDigit_16 : decode cX7_isDigit 16 = .ok (.iconst 0, 1) := by decide +kernel
theorem dX7_isDigit_17 : decode cX7_isDigit 17 = .ok (.ireturn, 1) := by decide +kernel
theorem dX7_readToken_0 : decode cX7_readToken 0 = .ok (.aload_n 0, 1) := by decide +kernel
theorem dX7_readToken_1 : decode cX7_readToken 1 = .ok (.getfield 28, 3) := by decide +kernel
theorem dX7_readToken_4 : decode cX7_readToken 4 = .ok (.aload_n 0, 1) := by decide +kernel
theorem dX7_readToken_5 : decode cX7_readToken 5 = .ok (.getfield 15, 3) := by decide +kernel
theorem dX7_readToken_8 : decode cX7_readToken 8 = .ok (.if_icmp .ge 42, 3) := by decide +kernel
theorem dX7_readToken_11 : decode cX7_readToken 11 = .ok (.aload_n 0, 1) := by decide +kernel
theorem dX7_readToken_12 : decode cX7_readToken 12 = .ok (.aload_n 0, 1) := by decide +kernel
theorem dX7_readToken_13 : decode cX7_readToken 13 = .ok (.getfield 28, 3) := by decide +kernel
theorem dX7_readToken_16 : decode cX7_readToken 16 = .ok (.invokevirtual 51, 3) := by decide +kernel
theorem dX7_readToken_19 : decode cX7_readToken 19 = .ok (.bipush 32, 2) := by decide +kernel
theorem dX7_readToken_21 : decode cX7_readToken 21 = .ok (.if_icmp .eq 16, 3) := by decide +kernel
theorem dX7_readToken_24 : decode cX7_readToken 24 = .ok (.aload_n 0, 1) := by decide +kernel
theorem dX7_readToken_25 : decode cX7_readToken 25 = .ok (.aload_n 0, 1) := by decide +kernel
theorem dX7_readToken_26 : decode cX7_readToken 26 = .ok (.getfield 28, 3) := by decide +kernel
theorem dX7_readToken_29 : decode cX7_readToken 29 = .ok (.invokevirtual 51, 3) := by decide +kernel
theorem dX7_readToken_32 : decode cX7_readToken 32 = .ok (.bipush 10, 2) := by decide +kernel
theorem dX7_readToken_34 : decode cX7_readToken 34 = .ok (.if_icmp .ne 16, 3) := by decide +kernel
theorem dX7_readToken_37 : decode cX7_readToken 37 = .ok (.aload_n 0, 1) := by decide +kernel
theorem dX7_readToken_38 : decode cX7_readToken 38 = .ok (.dup, 1) := by decide +kernel
theorem dX7_readToken_39 : decode cX7_readToken 39 = .ok (.getfield 28, 3) := by decide +kernel
theorem dX7_readToken_42 : decode cX7_readToken 42 = .ok (.iconst 1, 1) := by decide +kernel
theorem dX7_readToken_43 : decode cX7_readToken 43 = .ok (.iadd, 1) := by decide +kernel
theorem dX7_readToken_44 : decode cX7_readToken 44 = .ok (.putfield 28, 3) := by decide +kernel
theorem dX7_readToken_47 : decode cX7_readToken 47 = .ok (.goto (-47), 3) := by decide +kernel
theorem dX7_readToken_50 : decode cX7_readToken 50 = .ok (.aload_n 0, 1) := by decide +kernel
theorem dX7_readToken_51 : decode cX7_readToken 51 = .ok (.aload_n 0, 1) := by decide +kernel
theorem dX7_readToken_52 : decode cX7_readToken 52 = .ok (.getfield 28, 3) := by decide +kernel
theorem dX7_readToken_55 : decode cX7_readToken 55 = .ok (.putfield 34, 3) := by decide +kernel
theorem dX7_readToken_58 : decode cX7_readToken 58 = .ok (.aload_n 0, 1) := by decide +kernel
theorem dX7_readToken_59 : decode cX7_readToken 59 = .ok (.aload_n 0, 1) := by decide +kernel
theorem dX7_readToken_60 : decode cX7_readToken 60 = .ok (.getfield 28, 3) := by decide +kernel
theorem dX7_readToken_63 : decode cX7_readToken 63 = .ok (.invokevirtual 51, 3) := by decide +kernel
theorem dX7_readToken_66 : decode cX7_readToken 66 = .ok (.istore_n 1, 1) := by decide +kernel
theorem dX7_readToken_67 : decode cX7_readToken 67 = .ok (.iload_n 1, 1) := by decide +kernel
theorem dX7_readToken_68 : decode cX7_readToken 68 = .ok (.iconst (-1), 1) := by decide +kernel
theorem dX7_readToken_69 : decode cX7_readToken 69 = .ok (.if_icmp .ne 11, 3) := by decide +kernel
theorem dX7_readToken_72 : decode cX7_readToken 72 = .ok (.aload_n 0, 1) := by decide +kernel
theorem dX7_readToken_73 : decode cX7_readToken 73 = .ok (.iconst 0, 1) := by decide +kernel
theorem dX7_readToken_74 : decode cX7_readToken 74 = .ok (.putfield 31, 3) := by decide +kernel
theorem dX7_readToken_77 : decode cX7_readToken 77 = .ok (.goto 62, 3) := by decide +kernel
theorem dX7_readToken_80 : decode cX7_readToken 80 = .ok (.iload_n 1, 1) := by decide +kernel
theorem dX7_readToken_81 : decode cX7_readToken 81 = .ok (.invokestatic 54, 3) := by decide +kernel
theorem dX7_readToken_84 : decode cX7_readToken 84 = .ok (.ifCond .eq 10, 3) := by decide +kernel
theorem dX7_readToken_87 : decode cX7_readToken 87 = .ok (.aload_n 0, 1) := by decide +kernel
theorem dX7_readToken_88 : decode cX7_readToken 88 = .ok (.invokevirtual 57, 3) := by decide +kernel
theorem dX7_readToken_91 : decode cX7_readToken 91 = .ok (.goto 48, 3) := by decide +kernel
theorem dX7_readToken_94 : decode cX7_readToken 94 = .ok (.iload_n 1, 1) := by decide +kernel
theorem dX7_readToken_95 : decode cX7_readToken 95 = .ok (.invokestatic 60, 3) := by decide +kernel
theorem dX7_readToken_98 : decode cX7_readToken 98 = .ok (.ifCond .ne 9, 3) := by decide +kernel
theorem dX7_readToken_101 : decode cX7_readToken 101 = .ok (.iload_n 1, 1) := by decide +kernel
theorem dX7_readToken_102 : decode cX7_readToken 102 = .ok (.bipush 45, 2) := by decide +kernel
theorem dX7_readToken_104 : decode cX7_readToken 104 = .ok (.if_icmp .ne 10, 3) := by decide +kernel
theorem dX7_readToken_107 : decode cX7_readToken 107 = .ok (.aload_n 0, 1) := by decide +kernel
theorem dX7_readToken_108 : decode cX7_readToken 108 = .ok (.invokevirtual 63, 3) := by decide +kernel
theorem dX7_readToken_111 : decode cX7_readToken 111 = .ok (.goto 28, 3) := by decide +kernel
theorem dX7_readToken_114 : decode cX7_readToken 114 = .ok (.aload_n 0, 1) := by decide +kernel
theorem dX7_readToken_115 : decode cX7_readToken 115 = .ok (.iload_n 1, 1) := by decide +kernel
theorem dX7_readToken_116 : decode cX7_readToken 116 = .ok (.bipush 59, 2) := by decide +kernel
theorem dX7_readToken_118 : decode cX7_readToken 118 = .ok (.if_icmp .ne 7, 3) := by decide +kernel
theorem dX7_readToken_121 : decode cX7_readToken 121 = .ok (.iconst 3, 1) := by decide +kernel
theorem dX7_readToken_122 : decode cX7_readToken 122 = .ok (.goto 4, 3) := by decide +kernel
theorem dX7_readToken_125 : decode cX7_readToken 125 = .ok (.iconst 4, 1) := by decide +kernel
theorem dX7_readToken_126 : decode cX7_readToken 126 = .ok (.putfield 31, 3) := by decide +kernel
theorem dX7_readToken_129 : decode cX7_readToken 129 = .ok (.aload_n 0, 1) := by decide +kernel
theorem dX7_readToken_130 : decode cX7_readToken 130 = .ok (.dup, 1) := by decide +kernel
theorem dX7_readToken_131 : decode cX7_readToken 131 = .ok (.getfield 28, 3) := by decide +kernel
theorem dX7_readToken_134 : decode cX7_readToken 134 = .ok (.iconst 1, 1) := by decide +kernel
theorem dX7_readToken_135 : decode cX7_readToken 135 = .ok (.iadd, 1) := by decide +kernel
theorem dX7_readToken_136 : decode cX7_readToken 136 = .ok (.putfield 28, 3) := by decide +kernel
theorem dX7_readToken_139 : decode cX7_readToken 139 = .ok (.return_, 1) := by decide +kernel
theorem dX7_readWord_0 : decode cX7_readWord 0 = .ok (.aload_n 0, 1) := by decide +kernel
theorem dX7_readWord_1 : decode cX7_readWord 1 = .ok (.getfield 28, 3) := by decide +kernel
theorem dX7_readWord_4 : decode cX7_readWord 4 = .ok (.aload_n 0, 1) := by decide +kernel
theorem dX7_readWord_5 : decode cX7_readWord 5 = .ok (.getfield 15, 3) := by decide +kernel
theorem dX7_readWord_8 : decode cX7_readWord 8 = .ok (.if_icmp .ge 30, 3) := by decide +kernel
theorem dX7_readWord_11 : decode cX7_readWord 11 = .ok (.aload_n 0, 1) := by decide +kernel
theorem dX7_readWord_12 : decode cX7_readWord 12 = .ok (.aload_n 0, 1) := by decide +kernel
theorem dX7_readWord_13 : decode cX7_readWord 13 = .ok (.getfield 28, 3) := by decide +kernel
theorem dX7_readWord_16 : decode cX7_readWord 16 = .ok (.invokevirtual 51, 3) := by decide +kernel
theorem dX7_readWord_19 : decode cX7_readWord 19 = .ok (.invokestatic 54, 3) := by decide +kernel
theorem dX7_readWord_22 : decode cX7_readWord 22 = .ok (.ifCond .eq 16, 3) := by decide +kernel
theorem dX7_readWord_25 : decode cX7_readWord 25 = .ok (.aload_n 0, 1) := by decide +kernel
theorem dX7_readWord_26 : decode cX7_readWord 26 = .ok (.dup, 1) := by decide +kernel
theorem dX7_readWord_27 : decode cX7_readWord 27 = .ok (.getfield 28, 3) := by decide +kernel
theorem dX7_readWord_30 : decode cX7_readWord 30 = .ok (.iconst 1, 1) := by decide +kernel
theorem dX7_readWord_31 : decode cX7_readWord 31 = .ok (.iadd, 1) := by decide +kernel
theorem dX7_readWord_32 : decode cX7_readWord 32 = .ok (.putfield 28, 3) := by decide +kernel
theorem dX7_readWord_35 : decode cX7_readWord 35 = .ok (.goto (-35), 3) := by decide +kernel
theorem dX7_readWord_38 : decode cX7_readWord 38 = .ok (.aload_n 0, 1) := by decide +kernel
theorem dX7_readWord_39 : decode cX7_readWord 39 = .ok (.iconst 4, 1) := by decide +kernel
theorem dX7_readWord_40 : decode cX7_readWord 40 = .ok (.putfield 31, 3) := by decide +kernel
theorem dX7_readWord_43 : decode cX7_readWord 43 = .ok (.iconst 0, 1) := by decide +kernel
theorem dX7_readWord_44 : decode cX7_readWord 44 = .ok (.istore_n 1, 1) := by decide +kernel
theorem dX7_readWord_45 : decode cX7_readWord 45 = .ok (.iload_n 1, 1) := by decide +kernel
theorem dX7_readWord_46 : decode cX7_readWord 46 = .ok (.iconst 5, 1) := by decide +kernel
theorem dX7_readWord_47 : decode cX7_readWord 47 = .ok (.if_icmp .gt 30, 3) := by decide +kernel
theorem dX7_readWord_50 : decode cX7_readWord 50 = .ok (.aload_n 0, 1) := by decide +kernel
theorem dX7_readWord_51 : decode cX7_readWord 51 = .ok (.iload_n 1, 1) := by decide +kernel
theorem dX7_readWord_52 : decode cX7_readWord 52 = .ok (.invokestatic 66, 3) := by decide +kernel
theorem dX7_readWord_55 : decode cX7_readWord 55 = .ok (.invokevirtual 70, 3) := by decide +kernel
theorem dX7_readWord_58 : decode cX7_readWord 58 = .ok (.ifCond .eq 13, 3) := by decide +kernel
theorem dX7_readWord_61 : decode cX7_readWord 61 = .ok (.aload_n 0, 1) := by decide +kernel
theorem dX7_readWord_62 : decode cX7_readWord 62 = .ok (.iconst 1, 1) := by decide +kernel
theorem dX7_readWord_63 : decode cX7_readWord 63 = .ok (.putfield 31, 3) := by decide +kernel
theorem dX7_readWord_66 : decode cX7_readWord 66 = .ok (.aload_n 0, 1) := by decide +kernel
theorem dX7_readWord_67 : decode cX7_readWord 67 = .ok (.iload_n 1, 1) := by decide +kernel
theorem dX7_readWord_68 : decode cX7_readWord 68 = .ok (.putfield 37, 3) := by decide +kernel
theorem dX7_readWord_71 : decode cX7_readWord 71 = .ok (.iinc 1 1, 3) := by decide +kernel
theorem dX7_readWord_74 : decode cX7_readWord 74 = .ok (.goto (-29), 3) := by decide +kernel
theorem dX7_readWord_77 : decode cX7_readWord 77 = .ok (.return_, 1) := by decide +kernel
theorem dX7_isNamed_0 : decode cX7_isNamed 0 = .ok (.aload_n 1, 1) := by decide +kernel
theorem dX7_isNamed_1 : decode cX7_isNamed 1 = .ok (.invokevirtual 74, 3) := by decide +kernel
theorem dX7_isNamed_4 : decode cX7_isNamed 4 = .ok (.aload_n 0, 1) := by decide +kernel
theorem dX7_isNamed_5 : decode cX7_isNamed 5 = .ok (.getfield 28, 3) := by decide +kernel
theorem dX7_isNamed_8 : decode cX7_isNamed 8 = .ok (.aload_n 0, 1) := by decide +kernel
theorem dX7_isNamed_9 : decode cX7_isNamed 9 = .ok (.getfield 34, 3) := by decide +kernel
theorem dX7_isNamed_12 : decode cX7_isNamed 12 = .ok (.isub, 1) := by decide +kernel
theorem dX7_isNamed_13 : decode cX7_isNamed 13 = .ok (.if_icmp .eq 5, 3) := by decide +kernel
theorem dX7_isNamed_16 : decode cX7_isNamed 16 = .ok (.iconst 0, 1) := by decide +kernel
theorem dX7_isNamed_17 : decode cX7_isNamed 17 = .ok (.ireturn, 1) := by decide +kernel
theorem dX7_isNamed_18 : decode cX7_isNamed 18 = .ok (.iconst 0, 1) := by decide +kernel
theorem dX7_isNamed_19 : decode cX7_isNamed 19 = .ok (.istore_n 2, 1) := by decide +kernel
theorem dX7_isNamed_20 : decode cX7_isNamed 20 = .ok (.iload_n 2, 1) := by decide +kernel
theorem dX7_isNamed_21 : decode cX7_isNamed 21 = .ok (.aload_n 1, 1) := by decide +kernel
theorem dX7_isNamed_22 : decode cX7_isNamed 22 = .ok (.invokevirtual 74, 3) := by decide +kernel
theorem dX7_isNamed_25 : decode cX7_isNamed 25 = .ok (.if_icmp .ge 29, 3) := by decide +kernel
theorem dX7_isNamed_28 : decode cX7_isNamed 28 = .ok (.aload_n 1, 1) := by decide +kernel
theorem dX7_isNamed_29 : decode cX7_isNamed 29 = .ok (.iload_n 2, 1) := by decide +kernel
theorem dX7_isNamed_30 : decode cX7_isNamed 30 = .ok (.invokevirtual 80, 3) := by decide +kernel
theorem dX7_isNamed_33 : decode cX7_isNamed 33 = .ok (.aload_n 0, 1) := by decide +kernel
theorem dX7_isNamed_34 : decode cX7_isNamed 34 = .ok (.aload_n 0, 1) := by decide +kernel
theorem dX7_isNamed_35 : decode cX7_isNamed 35 = .ok (.getfield 34, 3) := by decide +kernel
theorem dX7_isNamed_38 : decode cX7_isNamed 38 = .ok (.iload_n 2, 1) := by decide +kernel
theorem dX7_isNamed_39 : decode cX7_isNamed 39 = .ok (.iadd, 1) := by decide +kernel
theorem dX7_isNamed_40 : decode cX7_isNamed 40 = .ok (.invokevirtual 51, 3) := by decide +kernel
theorem dX7_isNamed_43 : decode cX7_isNamed 43 = .ok (.if_icmp .eq 5, 3) := by decide +kernel
theorem dX7_isNamed_46 : decode cX7_isNamed 46 = .ok (.iconst 0, 1) := by decide +kernel
theorem dX7_isNamed_47 : decode cX7_isNamed 47 = .ok (.ireturn, 1) := by decide +kernel
theorem dX7_isNamed_48 : decode cX7_isNamed 48 = .ok (.iinc 2 1, 3) := by decide +kernel
theorem dX7_isNamed_51 : decode cX7_isNamed 51 = .ok (.goto (-31), 3) := by decide +kernel
theorem dX7_isNamed_54 : decode cX7_isNamed 54 = .ok (.iconst 1, 1) := by decide +kernel
theorem dX7_isNamed_55 : decode cX7_isNamed 55 = .ok (.ireturn, 1) := by decide +kernel
theorem dX7_nameOf_0 : decode cX7_nameOf 0 = .ok (.iload_n 0, 1) := by decide +kernel
theorem dX7_nameOf_1 : decode cX7_nameOf 1 = .ok (.tableswitch 50 0 4 #[35, 38, 41, 44, 47], 35) := by decide +kernel
theorem dX7_nameOf_36 : decode cX7_nameOf 36 = .ok (.ldc 84, 2) := by decide +kernel
theorem dX7_nameOf_38 : decode cX7_nameOf 38 = .ok (.areturn, 1) := by decide +kernel
theorem dX7_nameOf_39 : decode cX7_nameOf 39 = .ok (.ldc 86, 2) := by decide +kernel
theorem dX7_nameOf_41 : decode cX7_nameOf 41 = .ok (.areturn, 1) := by decide +kernel
theorem dX7_nameOf_42 : decode cX7_nameOf 42 = .ok (.ldc 88, 2) := by decide +kernel
theorem dX7_nameOf_44 : decode cX7_nameOf 44 = .ok (.areturn, 1) := by decide +kernel
theorem dX7_nameOf_45 : decode cX7_nameOf 45 = .ok (.ldc 90, 2) := by decide +kernel
theorem dX7_nameOf_47 : decode cX7_nameOf 47 = .ok (.areturn, 1) := by decide +kernel
theorem dX7_nameOf_48 : decode cX7_nameOf 48 = .ok (.ldc 92, 2) := by decide +kernel
theorem dX7_nameOf_50 : decode cX7_nameOf 50 = .ok (.areturn, 1) := by decide +kernel
theorem dX7_nameOf_51 : decode cX7_nameOf 51 = .ok (.ldc 94, 2) := by decide +kernel
theorem dX7_nameOf_53 : decode cX7_nameOf 53 = .ok (.areturn, 1) := by decide +kernel
theorem dX7_readNumber_0 : decode cX7_readNumber 0 = .ok (.aload_n 0, 1) := by decide +kernel
theorem dX7_readNumber_1 : decode cX7_readNumber 1 = .ok (.aload_n 0, 1) := by decide +kernel
theorem dX7_readNumber_2 : decode cX7_readNumber 2 = .ok (.getfield 28, 3) := by decide +kernel
theorem dX7_readNumber_5 : decode cX7_readNumber 5 = .ok (.invokevirtual 51, 3) := by decide +kernel
theorem dX7_readNumber_8 : decode cX7_readNumber 8 = .ok (.bipush 45, 2) := by decide +kernel
theorem dX7_readNumber_10 : decode cX7_readNumber 10 = .ok (.if_icmp .ne 7, 3) := by decide +kernel
theorem dX7_readNumber_13 : decode cX7_readNumber 13 = .ok (.iconst 1, 1) := by decide +kernel
theorem dX7_readNumber_14 : decode cX7_readNumber 14 = .ok (.goto 4, 3) := by decide +kernel
theorem dX7_readNumber_17 : decode cX7_readNumber 17 = .ok (.iconst 0, 1) := by decide +kernel
theorem dX7_readNumber_18 : decode cX7_readNumber 18 = .ok (.istore_n 1, 1) := by decide +kernel
theorem dX7_readNumber_19 : decode cX7_readNumber 19 = .ok (.iload_n 1, 1) := by decide +kernel
theorem dX7_readNumber_20 : decode cX7_readNumber 20 = .ok (.ifCond .eq 13, 3) := by decide +kernel
theorem dX7_readNumber_23 : decode cX7_readNumber 23 = .ok (.aload_n 0, 1) := by decide +kernel
theorem dX7_readNumber_24 : decode cX7_readNumber 24 = .ok (.dup, 1) := by decide +kernel
theorem dX7_readNumber_25 : decode cX7_readNumber 25 = .ok (.getfield 28, 3) := by decide +kernel
theorem dX7_readNumber_28 : decode cX7_readNumber 28 = .ok (.iconst 1, 1) := by decide +kernel
theorem dX7_readNumber_29 : decode cX7_readNumber 29 = .ok (.iadd, 1) := by decide +kernel
theorem dX7_readNumber_30 : decode cX7_readNumber 30 = .ok (.putfield 28, 3) := by decide +kernel
theorem dX7_readNumber_33 : decode cX7_readNumber 33 = .ok (.iconst 0, 1) := by decide +kernel
theorem dX7_readNumber_34 : decode cX7_readNumber 34 = .ok (.istore_n 2, 1) := by decide +kernel
theorem dX7_readNumber_35 : decode cX7_readNumber 35 = .ok (.iconst 0, 1) := by decide +kernel
theorem dX7_readNumber_36 : decode cX7_readNumber 36 = .ok (.istore_n 3, 1) := by decide +kernel
theorem dX7_readNumber_37 : decode cX7_readNumber 37 = .ok (.aload_n 0, 1) := by decide +kernel
theorem dX7_readNumber_38 : decode cX7_readNumber 38 = .ok (.getfield 28, 3) := by decide +kernel
theorem dX7_readNumber_41 : decode cX7_readNumber 41 = .ok (.aload_n 0, 1) := by decide +kernel
theorem dX7_readNumber_42 : decode cX7_readNumber 42 = .ok (.getfield 15, 3) := by decide +kernel
theorem dX7_readNumber_45 : decode cX7_readNumber 45 = .ok (.if_icmp .ge 59, 3) := by decide +kernel
theorem dX7_readNumber_48 : decode cX7_readNumber 48 = .ok (.aload_n 0, 1) := by decide +kernel
theorem dX7_readNumber_49 : decode cX7_readNumber 49 = .ok (.aload_n 0, 1) := by decide +kernel
theorem dX7_readNumber_50 : decode cX7_readNumber 50 = .ok (.getfield 28, 3) := by decide +kernel
theorem dX7_readNumber_53 : decode cX7_readNumber 53 = .ok (.invokevirtual 51, 3) := by decide +kernel
theorem dX7_readNumber_56 : decode cX7_readNumber 56 = .ok (.invokestatic 60, 3) := by decide +kernel
theorem dX7_readNumber_59 : decode cX7_readNumber 59 = .ok (.ifCond .eq 45, 3) := by decide +kernel
theorem dX7_readNumber_62 : decode cX7_readNumber 62 = .ok (.iload_n 2, 1) := by decide +kernel
theorem dX7_readNumber_63 : decode cX7_readNumber 63 = .ok (.iconst 2, 1) := by decide +kernel
theorem dX7_readNumber_64 : decode cX7_readNumber 64 = .ok (.if_icmp .ge 22, 3) := by decide +kernel
theorem dX7_readNumber_67 : decode cX7_readNumber 67 = .ok (.iload_n 3, 1) := by decide +kernel
theorem dX7_readNumber_68 : decode cX7_readNumber 68 = .ok (.bipush 10, 2) := by decide +kernel
theorem dX7_readNumber_70 : decode cX7_readNumber 70 = .ok (.imul, 1) := by decide +kernel
theorem dX7_readNumber_71 : decode cX7_readNumber 71 = .ok (.aload_n 0, 1) := by decide +kernel
theorem dX7_readNumber_72 : decode cX7_readNumber 72 = .ok (.aload_n 0, 1) := by decide +kernel
theorem dX7_readNumber_73 : decode cX7_readNumber 73 = .ok (.getfield 28, 3) := by decide +kernel
theorem dX7_readNumber_76 : decode cX7_readNumber 76 = .ok (.invokevirtual 51, 3) := by decide +kernel
theorem dX7_readNumber_79 : decode cX7_readNumber 79 = .ok (.iadd, 1) := by decide +kernel
theorem dX7_readNumber_80 : decode cX7_readNumber 80 = .ok (.bipush 48, 2) := by decide +kernel
theorem dX7_readNumber_82 : decode cX7_readNumber 82 = .ok (.isub, 1) := by decide +kernel
theorem dX7_readNumber_83 : decode cX7_readNumber 83 = .ok (.goto 4, 3) := by decide +kernel
theorem dX7_readNumber_86 : decode cX7_readNumber 86 = .ok (.iload_n 3, 1) := by decide +kernel
theorem dX7_readNumber_87 : decode cX7_readNumber 87 = .ok (.istore_n 3, 1) := by decide +kernel
theorem dX7_readNumber_88 : decode cX7_readNumber 88 = .ok (.iinc 2 1, 3) := by decide +kernel
theorem dX7_readNumber_91 : decode cX7_readNumber 91 = .ok (.aload_n 0, 1) := by decide +kernel
theorem dX7_readNumber_92 : decode cX7_readNumber 92 = .ok (.dup, 1) := by decide +kernel
theorem dX7_readNumber_93 : decode cX7_readNumber 93 = .ok (.getfield 28, 3) := by decide +kernel
theorem dX7_readNumber_96 : decode cX7_readNumber 96 = .ok (.iconst 1, 1) := by decide +kernel
theorem dX7_readNumber_97 : decode cX7_readNumber 97 = .ok (.iadd, 1) := by decide +kernel
theorem dX7_readNumber_98 : decode cX7_readNumber 98 = .ok (.putfield 28, 3) := by decide +kernel
theorem dX7_readNumber_101 : decode cX7_readNumber 101 = .ok (.goto (-64), 3) := by decide +kernel
theorem dX7_readNumber_104 : decode cX7_readNumber 104 = .ok (.aload_n 0, 1) := by decide +kernel
theorem dX7_readNumber_105 : decode cX7_readNumber 105 = .ok (.iload_n 2, 1) := by decide +kernel
theorem dX7_readNumber_106 : decode cX7_readNumber 106 = .ok (.iconst 1, 1) := by decide +kernel
theorem dX7_readNumber_107 : decode cX7_readNumber 107 = .ok (.if_icmp .lt 12, 3) := by decide +kernel
theorem dX7_readNumber_110 : decode cX7_readNumber 110 = .ok (.iload_n 2, 1) := by decide +kernel
theorem dX7_readNumber_111 : decode cX7_readNumber 111 = .ok (.iconst 2, 1) := by decide +kernel
theorem dX7_readNumber_112 : decode cX7_readNumber 112 = .ok (.if_icmp .gt 7, 3) := by decide +kernel
theorem dX7_readNumber_115 : decode cX7_readNumber 115 = .ok (.iconst 2, 1) := by decide +kernel
theorem dX7_readNumber_116 : decode cX7_readNumber 116 = .ok (.goto 4, 3) := by decide +kernel
theorem dX7_readNumber_119 : decode cX7_readNumber 119 = .ok (.iconst 4, 1) := by decide +kernel
theorem dX7_readNumber_120 : decode cX7_readNumber 120 = .ok (.putfield 31, 3) := by decide +kernel
theorem dX7_readNumber_123 : decode cX7_readNumber 123 = .ok (.aload_n 0, 1) := by decide +kernel
theorem dX7_readNumber_124 : decode cX7_readNumber 124 = .ok (.iload_n 1, 1) := by decide +kernel
theorem dX7_readNumber_125 : decode cX7_readNumber 125 = .ok (.ifCond .eq 8, 3) := by decide +kernel
theorem dX7_readNumber_128 : decode cX7_readNumber 128 = .ok (.iload_n 3, 1) := by decide +kernel
theorem dX7_readNumber_129 : decode cX7_readNumber 129 = .ok (.ineg, 1) := by decide +kernel
theorem dX7_readNumber_130 : decode cX7_readNumber 130 = .ok (.goto 4, 3) := by decide +kernel
theorem dX7_readNumber_133 : decode cX7_readNumber 133 = .ok (.iload_n 3, 1) := by decide +kernel
theorem dX7_readNumber_134 : decode cX7_readNumber 134 = .ok (.putfield 37, 3) := by decide +kernel
theorem dX7_readNumber_137 : decode cX7_readNumber 137 = .ok (.return_, 1) := by decide +kernel
theorem dX8_init_0 : decode cX8_init 0 = .ok (.aload_n 0, 1) := by decide +kernel
theorem dX8_init_1 : decode cX8_init 1 = .ok (.invokespecial 3, 3) := by decide +kernel
theorem dX8_init_4 : decode cX8_init 4 = .ok (.aload_n 0, 1) := by decide +kernel
theorem dX8_init_5 : decode cX8_init 5 = .ok (.bipush 40, 2) := by decide +kernel
theorem dX8_init_7 : decode cX8_init 7 = .ok (.newarray .int, 2) := by decide +kernel
theorem dX8_init_9 : decode cX8_init 9 = .ok (.putfield 9, 3) := by decide +kernel
theorem dX8_init_12 : decode cX8_init 12 = .ok (.aload_n 0, 1) := by decide +kernel
theorem dX8_init_13 : decode cX8_init 13 = .ok (.iconst (-1), 1) := by decide +kernel
theorem dX8_init_14 : decode cX8_init 14 = .ok (.putfield 15, 3) := by decide +kernel
theorem dX8_init_17 : decode cX8_init 17 = .ok (.aload_n 0, 1) := by decide +kernel
theorem dX8_init_18 : decode cX8_init 18 = .ok (.iconst 0, 1) := by decide +kernel
theorem dX8_init_19 : decode cX8_init 19 = .ok (.putfield 19, 3) := by decide +kernel
theorem dX8_init_22 : decode cX8_init 22 = .ok (.return_, 1) := by decide +kernel
theorem dX8_isMissing_0 : decode cX8_isMissing 0 = .ok (.aload_n 0, 1) := by decide +kernel
theorem dX8_isMissing_1 : decode cX8_isMissing 1 = .ok (.getfield 15, 3) := by decide +kernel
theorem dX8_isMissing_4 : decode cX8_isMissing 4 = .ok (.iconst (-1), 1) := by decide +kernel
theorem dX8_isMissing_5 : decode cX8_isMissing 5 = .ok (.if_icmp .ne 7, 3) := by decide +kernel
theorem dX8_isMissing_8 : decode cX8_isMissing 8 = .ok (.iconst 1, 1) := by decide +kernel
theorem dX8_isMissing_9 : decode cX8_isMissing 9 = .ok (.goto 4, 3) := by decide +kernel
theorem dX8_isMissing_12 : decode cX8_isMissing 12 = .ok (.iconst 0, 1) := by decide +kernel
theorem dX8_isMissing_13 : decode cX8_isMissing 13 = .ok (.ireturn, 1) := by decide +kernel
theorem dX8_has_0 : decode cX8_has 0 = .ok (.lload_n 1, 1) := by decide +kernel
theorem dX8_has_1 : decode cX8_has 1 = .ok (.lconst 0, 1) := by decide +kernel
theorem dX8_has_2 : decode cX8_has 2 = .ok (.lcmp, 1) := by decide +kernel
theorem dX8_has_3 : decode cX8_has 3 = .ok (.ifCond .lt 37, 3) := by decide +kernel
theorem dX8_has_6 : decode cX8_has 6 = .ok (.lload_n 3, 1) := by decide +kernel
theorem dX8_has_7 : decode cX8_has 7 = .ok (.lconst 0, 1) := by decide +kernel
theorem dX8_has_8 : decode cX8_has 8 = .ok (.lcmp, 1) := by decide +kernel
theorem dX8_has_9 : decode cX8_has 9 = .ok (.ifCond .lt 31, 3) := by decide +kernel
theorem dX8_has_12 : decode cX8_has 12 = .ok (.lload_n 1, 1) := by decide +kernel
theorem dX8_has_13 : decode cX8_has 13 = .ok (.lload_n 3, 1) := by decide +kernel
theorem dX8_has_14 : decode cX8_has 14 = .ok (.ladd, 1) := by decide +kernel
theorem dX8_has_15 : decode cX8_has 15 = .ok (.aload_n 0, 1) := by decide +kernel
theorem dX8_has_16 : decode cX8_has 16 = .ok (.getfield 19, 3) := by decide +kernel
theorem dX8_has_19 : decode cX8_has 19 = .ok (.i2l, 1) := by decide +kernel
theorem dX8_has_20 : decode cX8_has 20 = .ok (.lcmp, 1) := by decide +kernel
theorem dX8_has_21 : decode cX8_has 21 = .ok (.ifCond .gt 19, 3) := by decide +kernel
theorem dX8_has_24 : decode cX8_has 24 = .ok (.aload_n 0, 1) := by decide +kernel
theorem dX8_has_25 : decode cX8_has 25 = .ok (.getfield 19, 3) := by decide +kernel
theorem dX8_has_28 : decode cX8_has 28 = .ok (.aload_n 0, 1) := by decide +kernel
theorem dX8_has_29 : decode cX8_has 29 = .ok (.getfield 9, 3) := by decide +kernel
theorem dX8_has_32 : decode cX8_has 32 = .ok (.arraylength, 1) := by decide +kernel
theorem dX8_has_33 : decode cX8_has 33 = .ok (.if_icmp .gt 7, 3) := by decide +kernel
theorem dX8_has_36 : decode cX8_has 36 = .ok (.iconst 1, 1) := by decide +kernel
theorem dX8_has_37 : decode cX8_has 37 = .ok (.goto 4, 3) := by decide +kernel
theorem dX8_has_40 : decode cX8_has 40 = .ok (.iconst 0, 1) := by decide +kernel
theorem dX8_has_41 : decode cX8_has 41 = .ok (.ireturn, 1) := by decide +kernel
theorem dX8_become_0 : decode cX8_become 0 = .ok (.aload_n 0, 1) := by decide +kernel
theorem dX8_become_1 : decode cX8_become 1 = .ok (.iload_n 1, 1) := by decide +kernel
theorem dX8_become_2 : decode cX8_become 2 = .ok (.putfield 15, 3) := by decide +kernel
theorem dX8_become_5 : decode cX8_become 5 = .ok (.aload_n 0, 1) := by decide +kernel
theorem dX8_become_6 : decode cX8_become 6 = .ok (.iload_n 2, 1) := by decide +kernel
theorem dX8_become_7 : decode cX8_become 7 = .ok (.aload_n 0, 1) := by decide +kernel
theorem dX8_become_8 : decode cX8_become 8 = .ok (.getfield 9, 3) := by decide +kernel
theorem dX8_become_11 : decode cX8_become 11 = .ok (.arraylength, 1) := by decide +kernel
theorem dX8_become_12 : decode cX8_become 12 = .ok (.invokestatic 22, 3) := by decide +kernel
theorem dX8_become_15 : decode cX8_become 15 = .ok (.putfield 19, 3) := by decide +kernel
theorem dX8_become_18 : decode cX8_become 18 = .ok (.iconst 0, 1) := by decide +kernel
theorem dX8_become_19 : decode cX8_become 19 = .ok (.istore_n 3, 1) := by decide +kernel
theorem dX8_become_20 : decode cX8_become 20 = .ok (.iload_n 3, 1) := by decide +kernel
theorem dX8_become_21 : decode cX8_become 21 = .ok (.aload_n 0, 1) := by decide +kernel
theorem dX8_become_22 : decode cX8_become 22 = .ok (.getfield 9, 3) := by decide +kernel
theorem dX8_become_25 : decode cX8_become 25 = .ok (.arraylength, 1) := by decide +kernel
theorem dX8_become_26 : decode cX8_become 26 = .ok (.if_icmp .ge 16, 3) := by decide +kernel
theorem dX8_become_29 : decode cX8_become 29 = .ok (.aload_n 0, 1) := by decide +kernel
theorem dX8_become_30 : decode cX8_become 30 = .ok (.getfield 9, 3) := by decide +kernel
theorem dX8_become_33 : decode cX8_become 33 = .ok (.iload_n 3, 1) := by decide +kernel
theorem dX8_become_34 : decode cX8_become 34 = .ok (.iconst 0, 1) := by decide +kernel
theorem dX8_become_35 : decode cX8_become 35 = .ok (.iastore, 1) := by decide +kernel
theorem dX8_become_36 : decode cX8_become 36 = .ok (.iinc 3 1, 3) := by decide +kernel
theorem dX8_become_39 : decode cX8_become 39 = .ok (.goto (-19), 3) := by decide +kernel
theorem dX8_become_42 : decode cX8_become 42 = .ok (.return_, 1) := by decide +kernel
theorem dX8_becomeRow_0 : decode cX8_becomeRow 0 = .ok (.aload_n 0, 1) := by decide +kernel
theorem dX8_becomeRow_1 : decode cX8_becomeRow 1 = .ok (.iconst 0, 1) := by decide +kernel
theorem dX8_becomeRow_2 : decode cX8_becomeRow 2 = .ok (.iload_n 3, 1) := by decide +kernel
theorem dX8_becomeRow_3 : decode cX8_becomeRow 3 = .ok (.invokevirtual 28, 3) := by decide +kernel
theorem dX8_becomeRow_6 : decode cX8_becomeRow 6 = .ok (.iconst 0, 1) := by decide +kernel
theorem dX8_becomeRow_7 : decode cX8_becomeRow 7 = .ok (.istore 4, 2) := by decide +kernel
theorem dX8_becomeRow_9 : decode cX8_becomeRow 9 = .ok (.iload 4, 2) := by decide +kernel
theorem dX8_becomeRow_11 : decode cX8_becomeRow 11 = .ok (.aload_n 0, 1) := by decide +kernel
theorem dX8_becomeRow_12 : decode cX8_becomeRow 12 = .ok (.getfield 19, 3) := by decide +kernel
theorem dX8_becomeRow_15 : decode cX8_becomeRow 15 = .ok (.if_icmp .ge 33, 3) := by decide +kernel
theorem dX8_becomeRow_18 : decode cX8_becomeRow 18 = .ok (.iload 4, 2) := by decide +kernel
theorem dX8_becomeRow_20 : decode cX8_becomeRow 20 = .ok (.aload_n 0, 1) := by decide +kernel
theorem dX8_becomeRow_21 : decode cX8_becomeRow 21 = .ok (.getfield 9, 3) := by decide +kernel
theorem dX8_becomeRow_24 : decode cX8_becomeRow 24 = .ok (.arraylength, 1) := by decide +kernel
theorem dX8_becomeRow_25 : decode cX8_becomeRow 25 = .ok (.if_icmp .ge 23, 3) := by decide +kernel
theorem dX8_becomeRow_28 : decode cX8_becomeRow 28 = .ok (.aload_n 0, 1) := by decide +kernel
theorem dX8_becomeRow_29 : decode cX8_becomeRow 29 = .ok (.getfield 9, 3) := by decide +kernel
theorem dX8_becomeRow_32 : decode cX8_becomeRow 32 = .ok (.iload 4, 2) := by decide +kernel
theorem dX8_becomeRow_34 : decode cX8_becomeRow 34 = .ok (.lload_n 1, 1) := by decide +kernel
theorem dX8_becomeRow_35 : decode cX8_becomeRow 35 = .ok (.iload 4, 2) := by decide +kernel
theorem dX8_becomeRow_37 : decode cX8_becomeRow 37 = .ok (.lushr, 1) := by decide +kernel
theorem dX8_becomeRow_38 : decode cX8_becomeRow 38 = .ok (.lconst 1, 1) := by decide +kernel
theorem dX8_becomeRow_39 : decode cX8_becomeRow 39 = .ok (.land, 1) := by decide +kernel
theorem dX8_becomeRow_40 : decode cX8_becomeRow 40 = .ok (.l2i, 1) := by decide +kernel
theorem dX8_becomeRow_41 : decode cX8_becomeRow 41 = .ok (.iastore, 1) := by decide +kernel
theorem dX8_becomeRow_42 : decode cX8_becomeRow 42 = .ok (.iinc 4 1, 3) := by decide +kernel
theorem dX8_becomeRow_45 : decode cX8_becomeRow 45 = .ok (.goto (-36), 3) := by decide +kernel
theorem dX8_becomeRow_48 : decode cX8_becomeRow 48 = .ok (.return_, 1) := by decide +kernel
theorem dX8_bits_0 : decode cX8_bits 0 = .ok (.lconst 0, 1) := by decide +kernel
theorem dX8_bits_1 : decode cX8_bits 1 = .ok (.lstore_n 1, 1) := by decide +kernel
theorem dX8_bits_2 : decode cX8_bits 2 = .ok (.iconst 0, 1) := by decide +kernel
theorem dX8_bits_3 : decode cX8_bits 3 = .ok (.istore_n 3, 1) := by decide +kernel
theorem dX8_bits_4 : decode cX8_bits 4 = .ok (.iload_n 3, 1) := by decide +kernel
theorem dX8_bits_5 : decode cX8_bits 5 = .ok (.aload_n 0, 1) := by decide +kernel
theorem dX8_bits_6 : decode cX8_bits 6 = .ok (.getfield 19, 3) := by decide +kernel
theorem dX8_bits_9 : decode cX8_bits 9 = .ok (.if_icmp .ge 32, 3) := by decide +kernel
theorem dX8_bits_12 : decode cX8_bits 12 = .ok (.iload_n 3, 1) := by decide +kernel
theorem dX8_bits_13 : decode cX8_bits 13 = .ok (.aload_n 0, 1) := by decide +kernel
theorem dX8_bits_14 : decode cX8_bits 14 = .ok (.getfield 9, 3) := by decide +kernel
theorem dX8_bits_17 : decode cX8_bits 17 = .ok (.arraylength, 1) := by decide +kernel
theorem dX8_bits_18 : decode cX8_bits 18 = .ok (.if_icmp .ge 23, 3) := by decide +kernel
theorem dX8_bits_21 : decode cX8_bits 21 = .ok (.lload_n 1, 1) := by decide +kernel
theorem dX8_bits_22 : decode cX8_bits 22 = .ok (.aload_n 0, 1) := by decide +kernel
theorem dX8_bits_23 : decode cX8_bits 23 = .ok (.getfield 9, 3) := by decide +kernel
theorem dX8_bits_26 : decode cX8_bits 26 = .ok (.iload_n 3, 1) := by decide +kernel
theorem dX8_bits_27 : decode cX8_bits 27 = .ok (.iaload, 1) := by decide +kernel
theorem dX8_bits_28 : decode cX8_bits 28 = .ok (.iconst 1, 1) := by decide +kernel
theorem dX8_bits_29 : decode cX8_bits 29 = .ok (.iand, 1) := by decide +kernel
theorem dX8_bits_30 : decode cX8_bits 30 = .ok (.i2l, 1) := by decide +kernel
theorem dX8_bits_31 : decode cX8_bits 31 = .ok (.iload_n 3, 1) := by decide +kernel
theorem dX8_bits_32 : decode cX8_bits 32 = .ok (.lshl, 1) := by decide +kernel
theorem dX8_bits_33 : decode cX8_bits 33 = .ok (.lor, 1) := by decide +kernel
theorem dX8_bits_34 : decode cX8_bits 34 = .ok (.lstore_n 1, 1) := by decide +kernel
theorem dX8_bits_35 : decode cX8_bits 35 = .ok (.iinc 3 1, 3) := by decide +kernel
theorem dX8_bits_38 : decode cX8_bits 38 = .ok (.goto (-34), 3) := by decide +kernel
theorem dX8_bits_41 : decode cX8_bits 41 = .ok (.lload_n 1, 1) := by decide +kernel
theorem dX8_bits_42 : decode cX8_bits 42 = .ok (.lreturn, 1) := by decide +kernel
theorem dX9_init_0 : decode cX9_init 0 = .ok (.aload_n 0, 1) := by decide +kernel
theorem dX9_init_1 : decode cX9_init 1 = .ok (.iconst 2, 1) := by decide +kernel
theorem dX9_init_2 : decode cX9_init 2 = .ok (.iload_n 1, 1) := by decide +kernel
theorem dX9_init_3 : decode cX9_init 3 = .ok (.iload_n 2, 1) := by decide +kernel
theorem dX9_init_4 : decode cX9_init 4 = .ok (.invokespecial 3, 3) := by decide +kernel
theorem dX9_init_7 : decode cX9_init 7 = .ok (.aload_n 0, 1) := by decide +kernel
theorem dX9_init_8 : decode cX9_init 8 = .ok (.iconst 5, 1) := by decide +kernel
theorem dX9_init_9 : decode cX9_init 9 = .ok (.invokevirtual 9, 3) := by decide +kernel
theorem dX9_init_12 : decode cX9_init 12 = .ok (.return_, 1) := by decide +kernel
theorem dX9_sumOf_0 : decode cX9_sumOf 0 = .ok (.iload_n 1, 1) := by decide +kernel
theorem dX9_sumOf_1 : decode cX9_sumOf 1 = .ok (.iconst 1, 1) := by decide +kernel
theorem dX9_sumOf_2 : decode cX9_sumOf 2 = .ok (.iadd, 1) := by decide +kernel
theorem dX9_sumOf_3 : decode cX9_sumOf 3 = .ok (.ireturn, 1) := by decide +kernel
theorem dX10_init_0 : decode cX10_init 0 = .ok (.aload_n 0, 1) := by decide +kernel
theorem dX10_init_1 : decode cX10_init 1 = .ok (.invokespecial 3, 3) := by decide +kernel
theorem dX10_init_4 : decode cX10_init 4 = .ok (.aload_n 0, 1) := by decide +kernel
theorem dX10_init_5 : decode cX10_init 5 = .ok (.iconst 4, 1) := by decide +kernel
theorem dX10_init_6 : decode cX10_init 6 = .ok (.anewarray 11, 3) := by decide +kernel
theorem dX10_init_9 : decode cX10_init 9 = .ok (.putfield 13, 3) := by decide +kernel
theorem dX10_init_12 : decode cX10_init 12 = .ok (.aload_n 0, 1) := by decide +kernel
theorem dX10_init_13 : decode cX10_init 13 = .ok (.iconst 0, 1) := by decide +kernel
theorem dX10_init_14 : decode cX10_init 14 = .ok (.putfield 17, 3) := by decide +kernel
theorem dX10_init_17 : decode cX10_init 17 = .ok (.aload_n 0, 1) := by decide +kernel
theorem dX10_init_18 : decode cX10_init 18 = .ok (.bipush 20, 2) := by decide +kernel
theorem dX10_init_20 : decode cX10_init 20 = .ok (.newarray .int, 2) := by decide +kernel
theorem dX10_init_22 : decode cX10_init 22 = .ok (.putfield 21, 3) := by decide +kernel
theorem dX10_init_25 : decode cX10_init 25 = .ok (.aload_n 0, 1) := by decide +kernel
theorem dX10_init_26 : decode cX10_init 26 = .ok (.iconst (-1), 1) := by decide +kernel
theorem dX10_init_27 : decode cX10_init 27 = .ok (.putfield 25, 3) := by decide +kernel
theorem dX10_init_30 : decode cX10_init 30 = .ok (.aload_n 0, 1) := by decide +kernel
theorem dX10_init_31 : decode cX10_init 31 = .ok (.iconst 4, 1) := by decide +kernel
theorem dX10_init_32 : decode cX10_init 32 = .ok (.anewarray 28, 3) := by decide +kernel
theorem dX10_init_35 : decode cX10_init 35 = .ok (.putfield 30, 3) := by decide +kernel
theorem dX10_init_38 : decode cX10_init 38 = .ok (.aload_n 0, 1) := by decide +kernel
theorem dX10_init_39 : decode cX10_init 39 = .ok (.new 34, 3) := by decide +kernel
theorem dX10_init_42 : decode cX10_init 42 = .ok (.dup, 1) := by decide +kernel
theorem dX10_init_43 : decode cX10_init 43 = .ok (.invokespecial 36, 3) := by decide +kernel
theorem dX10_init_46 : decode cX10_init 46 = .ok (.putfield 37, 3) := by decide +kernel
theorem dX10_init_49 : decode cX10_init 49 = .ok (.aload_n 0, 1) := by decide +kernel
theorem dX10_init_50 : decode cX10_init 50 = .ok (.new 41, 3) := by decide +kernel
theorem dX10_init_53 : decode cX10_init 53 = .ok (.dup, 1) := by decide +kernel
theorem dX10_init_54 : decode cX10_init 54 = .ok (.invokespecial 43, 3) := by decide +kernel
theorem dX10_init_57 : decode cX10_init 57 = .ok (.putfield 44, 3) := by decide +kernel
theorem dX10_init_60 : decode cX10_init 60 = .ok (.aload_n 0, 1) := by decide +kernel
theorem dX10_init_61 : decode cX10_init 61 = .ok (.new 48, 3) := by decide +kernel
theorem dX10_init_64 : decode cX10_init 64 = .ok (.dup, 1) := by decide +kernel
theorem dX10_init_65 : decode cX10_init 65 = .ok (.invokespecial 50, 3) := by decide +kernel
theorem dX10_init_68 : decode cX10_init 68 = .ok (.putfield 51, 3) := by decide +kernel
theorem dX10_init_71 : decode cX10_init 71 = .ok (.aload_n 0, 1) := by decide +kernel
theorem dX10_init_72 : decode cX10_init 72 = .ok (.iconst 4, 1) := by decide +kernel
theorem dX10_init_73 : decode cX10_init 73 = .ok (.newarray .long, 2) := by decide +kernel
theorem dX10_init_75 : decode cX10_init 75 = .ok (.putfield 55, 3) := by decide +kernel
theorem dX10_init_78 : decode cX10_init 78 = .ok (.iconst 0, 1) := by decide +kernel
theorem dX10_init_79 : decode cX10_init 79 = .ok (.istore_n 1, 1) := by decide +kernel
theorem dX10_init_80 : decode cX10_init 80 = .ok (.iload_n 1, 1) := by decide +kernel
theorem dX10_init_81 : decode cX10_init 81 = .ok (.aload_n 0, 1) := by decide +kernel
theorem dX10_init_82 : decode cX10_init 82 = .ok (.getfield 30, 3) := by decide +kernel
theorem dX10_init_85 : decode cX10_init 85 = .ok (.arraylength, 1) := by decide +kernel
theorem dX10_init_86 : decode cX10_init 86 = .ok (.if_icmp .ge 22, 3) := by decide +kernel
theorem dX10_init_89 : decode cX10_init 89 = .ok (.aload_n 0, 1) := by decide +kernel
theorem dX10_init_90 : decode cX10_init 90 = .ok (.getfield 30, 3) := by decide +kernel
theorem dX10_init_93 : decode cX10_init 93 = .ok (.iload_n 1, 1) := by decide +kernel
theorem dX10_init_94 : decode cX10_init 94 = .ok (.new 28, 3) := by decide +kernel
theorem dX10_init_97 : decode cX10_init 97 = .ok (.dup, 1) := by decide +kernel
theorem dX10_init_98 : decode cX10_init 98 = .ok (.invokespecial 59, 3) := by decide +kernel
theorem dX10_init_101 : decode cX10_init 101 = .ok (.aastore, 1) := by decide +kernel
theorem dX10_init_102 : decode cX10_init 102 = .ok (.iinc 1 1, 3) := by decide +kernel
theorem dX10_init_105 : decode cX10_init 105 = .ok (.goto (-25), 3) := by decide +kernel
theorem dX10_init_108 : decode cX10_init 108 = .ok (.return_, 1) := by decide +kernel
theorem dX10_machine_0 : decode cX10_machine 0 = .ok (.iload_n 1, 1) := by decide +kernel
theorem dX10_machine_1 : decode cX10_machine 1 = .ok (.iconst 0, 1) := by decide +kernel
theorem dX10_machine_2 : decode cX10_machine 2 = .ok (.iconst 5, 1) := by decide +kernel
theorem dX10_machine_3 : decode cX10_machine 3 = .ok (.invokestatic 60, 3) := by decide +kernel
theorem dX10_machine_6 : decode cX10_machine 6 = .ok (.ifCond .eq 38, 3) := by decide +kernel
theorem dX10_machine_9 : decode cX10_machine 9 = .ok (.iload_n 2, 1) := by decide +kernel
theorem dX10_machine_10 : decode cX10_machine 10 = .ok (.iconst 1, 1) := by decide +kernel
theorem dX10_machine_11 : decode cX10_machine 11 = .ok (.bipush 6, 2) := by decide +kernel
theorem dX10_machine_13 : decode cX10_machine 13 = .ok (.invokestatic 60, 3) := by decide +kernel
theorem dX10_machine_16 : decode cX10_machine 16 = .ok (.ifCond .eq 28, 3) := by decide +kernel
theorem dX10_machine_19 : decode cX10_machine 19 = .ok (.iload_n 3, 1) := by decide +kernel
theorem dX10_machine_20 : decode cX10_machine 20 = .ok (.iconst 1, 1) := by decide +kernel
theorem dX10_machine_21 : decode cX10_machine 21 = .ok (.iload_n 2, 1) := by decide +kernel
theorem dX10_machine_22 : decode cX10_machine 22 = .ok (.invokestatic 64, 3) := by decide +kernel
theorem dX10_machine_25 : decode cX10_machine 25 = .ok (.invokestatic 60, 3) := by decide +kernel
theorem dX10_machine_28 : decode cX10_machine 28 = .ok (.ifCond .eq 16, 3) := by decide +kernel
theorem dX10_machine_31 : decode cX10_machine 31 = .ok (.iload 4, 2) := by decide +kernel
theorem dX10_machine_33 : decode cX10_machine 33 = .ok (.iconst 0, 1) := by decide +kernel
theorem dX10_machine_34 : decode cX10_machine 34 = .ok (.iload_n 2, 1) := by decide +kernel
theorem dX10_machine_35 : decode cX10_machine 35 = .ok (.invokestatic 64, 3) := by decide +kernel
theorem dX10_machine_38 : decode cX10_machine 38 = .ok (.invokestatic 60, 3) := by decide +kernel
theorem dX10_machine_41 : decode cX10_machine 41 = .ok (.ifCond .ne 6, 3) := by decide +kernel
theorem dX10_machine_44 : decode cX10_machine 44 = .ok (.bipush (-2), 2) := by decide +kernel
theorem dX10_machine_46 : decode cX10_machine 46 = .ok (.ireturn, 1) := by decide +kernel
theorem dX10_machine_47 : decode cX10_machine 47 = .ok (.aload_n 0, 1) := by decide +kernel
theorem dX10_machine_48 : decode cX10_machine 48 = .ok (.iload_n 1, 1) := by decide +kernel
theorem dX10_machine_49 : decode cX10_machine 49 = .ok (.iload_n 2, 1) := by decide +kernel
theorem dX10_machine_50 : decode cX10_machine 50 = .ok (.iload_n 3, 1) := by decide +kernel
theorem dX10_machine_51 : decode cX10_machine 51 = .ok (.iload 4, 2) := by decide +kernel
theorem dX10_machine_53 : decode cX10_machine 53 = .ok (.iconst 0, 1) := by decide +kernel
theorem dX10_machine_54 : decode cX10_machine 54 = .ok (.invokestatic 68, 3) := by decide +kernel
theorem dX10_machine_57 : decode cX10_machine 57 = .ok (.invokevirtual 72, 3) := by decide +kernel
theorem dX10_machine_60 : decode cX10_machine 60 = .ok (.ireturn, 1) := by decide +kernel
theorem dX10_drop_0 : decode cX10_drop 0 = .ok (.aload_n 0, 1) := by decide +kernel
theorem dX10_drop_1 : decode cX10_drop 1 = .ok (.getfield 17, 3) := by decide +kernel
theorem dX10_drop_4 : decode cX10_drop 4 = .ok (.iconst 1, 1) := by decide +kernel
theorem dX10_drop_5 : decode cX10_drop 5 = .ok (.if_icmp .lt 15, 3) := by decide +kernel
theorem dX10_drop_8 : decode cX10_drop 8 = .ok (.aload_n 0, 1) := by decide +kernel
theorem dX10_drop_9 : decode cX10_drop 9 = .ok (.getfield 17, 3) := by decide +kernel
theorem dX10_drop_12 : decode cX10_drop 12 = .ok (.aload_n 0, 1) := by decide +kernel
theorem dX10_drop_13 : decode cX10_drop 13 = .ok (.getfield 13, 3) := by decide +kernel
theorem dX10_drop_16 : decode cX10_drop 16 = .ok (.arraylength, 1) := by decide +kernel
theorem dX10_drop_17 : decode cX10_drop 17 = .ok (.if_icmp .le 6, 3) := by decide +kernel
theorem dX10_drop_20 : decode cX10_drop 20 = .ok (.bipush (-3), 2) := by decide +kernel
theorem dX10_drop_22 : decode cX10_drop 22 = .ok (.ireturn, 1) := by decide +kernel
theorem dX10_drop_23 : decode cX10_drop 23 = .ok (.aload_n 0, 1) := by decide +kernel
theorem dX10_drop_24 : decode cX10_drop 24 = .ok (.dup, 1) := by decide +kernel
theorem dX10_drop_25 : decode cX10_drop 25 = .ok (.getfield 17, 3) := by decide +kernel
theorem dX10_drop_28 : decode cX10_drop 28 = .ok (.iconst 1, 1) := by decide +kernel
theorem dX10_drop_29 : decode cX10_drop 29 = .ok (.isub, 1) := by decide +kernel
theorem dX10_drop_30 : decode cX10_drop 30 = .ok (.putfield 17, 3) := by decide +kernel
theorem dX10_drop_33 : decode cX10_drop 33 = .ok (.aload_n 0, 1) := by decide +kernel
theorem dX10_drop_34 : decode cX10_drop 34 = .ok (.getfield 13, 3) := by decide +kernel
theorem dX10_drop_37 : decode cX10_drop 37 = .ok (.aload_n 0, 1) := by decide +kernel
theorem dX10_drop_38 : decode cX10_drop 38 = .ok (.getfield 17, 3) := by decide +kernel
theorem dX10_drop_41 : decode cX10_drop 41 = .ok (.aconst_null, 1) := by decide +kernel
theorem dX10_drop_42 : decode cX10_drop 42 = .ok (.aastore, 1) := by decide +kernel
theorem dX10_drop_43 : decode cX10_drop 43 = .ok (.aload_n 0, 1) := by decide +kernel
theorem dX10_drop_44 : decode cX10_drop 44 = .ok (.getfield 17, 3) := by decide +kernel
theorem dX10_drop_47 : decode cX10_drop 47 = .ok (.ireturn, 1) := by decide +kernel
theorem dX10_set_0 : decode cX10_set 0 = .ok (.aload_n 0, 1) := by decide +kernel
theorem dX10_set_1 : decode cX10_set 1 = .ok (.iload_n 1, 1) := by decide +kernel
theorem dX10_set_2 : decode cX10_set 2 = .ok (.invokevirtual 76, 3) := by decide +kernel
theorem dX10_set_5 : decode cX10_set 5 = .ok (.astore 4, 2) := by decide +kernel
theorem dX10_set_7 : decode cX10_set 7 = .ok (.aload 4, 2) := by decide +kernel
theorem dX10_set_9 : decode cX10_set 9 = .ok (.ifnull 28, 3) := by decide +kernel
theorem dX10_set_12 : decode cX10_set 12 = .ok (.iload_n 1, 1) := by decide +kernel
theorem dX10_set_13 : decode cX10_set 13 = .ok (.iconst 0, 1) := by decide +kernel
theorem dX10_set_14 : decode cX10_set 14 = .ok (.aload_n 0, 1) := by decide +kernel
theorem dX10_set_15 : decode cX10_set 15 = .ok (.getfield 13, 3) := by decide +kernel
theorem dX10_set_18 : decode cX10_set 18 = .ok (.arraylength, 1) := by decide +kernel
theorem dX10_set_19 : decode cX10_set 19 = .ok (.iconst 1, 1) := by decide +kernel
theorem dX10_set_20 : decode cX10_set 20 = .ok (.isub, 1) := by decide +kernel
theorem dX10_set_21 : decode cX10_set 21 = .ok (.invokestatic 60, 3) := by decide +kernel
theorem dX10_set_24 : decode cX10_set 24 = .ok (.ifCond .eq 13, 3) := by decide +kernel
theorem dX10_set_27 : decode cX10_set 27 = .ok (.aload 4, 2) := by decide +kernel
theorem dX10_set_29 : decode cX10_set 29 = .ok (.iload_n 2, 1) := by decide +kernel
theorem dX10_set_30 : decode cX10_set 30 = .ok (.iload_n 3, 1) := by decide +kernel
theorem dX10_set_31 : decode cX10_set 31 = .ok (.invokestatic 80, 3) := by decide +kernel
theorem dX10_set_34 : decode cX10_set 34 = .ok (.ifCond .ne 7, 3) := by decide +kernel
theorem dX10_set_37 : decode cX10_set 37 = .ok (.sipush (-1000), 3) := by decide +kernel
theorem dX10_set_40 : decode cX10_set 40 = .ok (.ireturn, 1) := by decide +kernel
theorem dX10_set_41 : decode cX10_set 41 = .ok (.iload_n 2, 1) := by decide +kernel
theorem dX10_set_42 : decode cX10_set 42 = .ok (.tableswitch 98 0 2 #[26, 42, 58], 26) := by decide +kernel
theorem dX10_set_68 : decode cX10_set 68 = .ok (.aload 4, 2) := by decide +kernel
theorem dX10_set_70 : decode cX10_set 70 = .ok (.getfield 84, 3) := by decide +kernel
theorem dX10_set_73 : decode cX10_set 73 = .ok (.istore 5, 2) := by decide +kernel
theorem dX10_set_75 : decode cX10_set 75 = .ok (.aload 4, 2) := by decide +kernel
theorem dX10_set_77 : decode cX10_set 77 = .ok (.iload_n 3, 1) := by decide +kernel
theorem dX10_set_78 : decode cX10_set 78 = .ok (.putfield 84, 3) := by decide +kernel
theorem dX10_set_81 : decode cX10_set 81 = .ok (.goto 96, 3) := by decide +kernel
theorem dX10_set_84 : decode cX10_set 84 = .ok (.aload 4, 2) := by decide +kernel
theorem dX10_set_86 : decode cX10_set 86 = .ok (.getfield 87, 3) := by decide +kernel
theorem dX10_set_89 : decode cX10_set 89 = .ok (.istore 5, 2) := by decide +kernel
theorem dX10_set_91 : decode cX10_set 91 = .ok (.aload 4, 2) := by decide +kernel
theorem dX10_set_93 : decode cX10_set 93 = .ok (.iload_n 3, 1) := by decide +kernel
theorem dX10_set_94 : decode cX10_set 94 = .ok (.putfield 87, 3) := by decide +kernel
theorem dX10_set_97 : decode cX10_set 97 = .ok (.goto 80, 3) := by decide +kernel
theorem dX10_set_100 : decode cX10_set 100 = .ok (.aload 4, 2) := by decide +kernel
theorem dX10_set_102 : decode cX10_set 102 = .ok (.getfield 90, 3) := by decide +kernel
theorem dX10_set_105 : decode cX10_set 105 = .ok (.istore 5, 2) := by decide +kernel
theorem dX10_set_107 : decode cX10_set 107 = .ok (.aload_n 0, 1) := by decide +kernel
theorem dX10_set_108 : decode cX10_set 108 = .ok (.getfield 13, 3) := by decide +kernel
theorem dX10_set_111 : decode cX10_set 111 = .ok (.iload_n 1, 1) := by decide +kernel
theorem dX10_set_112 : decode cX10_set 112 = .ok (.aload 4, 2) := by decide +kernel
theorem dX10_set_114 : decode cX10_set 114 = .ok (.getfield 93, 3) := by decide +kernel
theorem dX10_set_117 : decode cX10_set 117 = .ok (.aload 4, 2) := by decide +kernel
theorem dX10_set_119 : decode cX10_set 119 = .ok (.getfield 96, 3) := by decide +kernel
theorem dX10_set_122 : decode cX10_set 122 = .ok (.iload_n 3, 1) := by decide +kernel
theorem dX10_set_123 : decode cX10_set 123 = .ok (.aload 4, 2) := by decide +kernel
theorem dX10_set_125 : decode cX10_set 125 = .ok (.getfield 84, 3) := by decide +kernel
theorem dX10_set_128 : decode cX10_set 128 = .ok (.aload 4, 2) := by decide +kernel
theorem dX10_set_130 : decode cX10_set 130 = .ok (.getfield 87, 3) := by decide +kernel
theorem dX10_set_133 : decode cX10_set 133 = .ok (.invokestatic 68, 3) := by decide +kernel
theorem dX10_set_136 : decode cX10_set 136 = .ok (.aastore, 1) := by decide +kernel
theorem dX10_set_137 : decode cX10_set 137 = .ok (.goto 40, 3) := by decide +kernel
theorem dX10_set_140 : decode cX10_set 140 = .ok (.aload 4, 2) := by decide +kernel
theorem dX10_set_142 : decode cX10_set 142 = .ok (.getfield 93, 3) := by decide +kernel
theorem dX10_set_145 : decode cX10_set 145 = .ok (.istore 5, 2) := by decide +kernel
theorem dX10_set_147 : decode cX10_set 147 = .ok (.aload_n 0, 1) := by decide +kernel
theorem dX10_set_148 : decode cX10_set 148 = .ok (.getfield 13, 3) := by decide +kernel
theorem dX10_set_151 : decode cX10_set 151 = .ok (.iload_n 1, 1) := by decide +kernel
theorem dX10_set_152 : decode cX10_set 152 = .ok (.iload_n 3, 1) := by decide +kernel
theorem dX10_set_153 : decode cX10_set 153 = .ok (.aload 4, 2) := by decide +kernel
theorem dX10_set_155 : decode cX10_set 155 = .ok (.getfield 96, 3) := by decide +kernel
theorem dX10_set_158 : decode cX10_set 158 = .ok (.aload 4, 2) := by decide +kernel
theorem dX10_set_160 : decode cX10_set 160 = .ok (.getfield 90, 3) := by decide +kernel
theorem dX10_set_163 : decode cX10_set 163 = .ok (.aload 4, 2) := by decide +kernel
theorem dX10_set_165 : decode cX10_set 165 = .ok (.getfield 84, 3) := by decide +kernel
theorem dX10_set_168 : decode cX10_set 168 = .ok (.aload 4, 2) := by decide +kernel
theorem dX10_set_170 : decode cX10_set 170 = .ok (.getfield 87, 3) := by decide +kernel
theorem dX10_set_173 : decode cX10_set 173 = .ok (.invokestatic 68, 3) := by decide +kernel
theorem dX10_set_176 : decode cX10_set 176 = .ok (.aastore, 1) := by decide +kernel
theorem dX10_set_177 : decode cX10_set 177 = .ok (.iload 5, 2) := by decide +kernel
theorem dX10_set_179 : decode cX10_set 179 = .ok (.ireturn, 1) := by decide +kernel
theorem dX10_of_0 : decode cX10_of 0 = .ok (.aload_n 0, 1) := by decide +kernel
theorem dX10_of_1 : decode cX10_of 1 = .ok (.iload_n 1, 1) := by decide +kernel
theorem dX10_of_2 : decode cX10_of 2 = .ok (.invokevirtual 76, 3) := by decide +kernel
theorem dX10_of_5 : decode cX10_of 5 = .ok (.astore_n 3, 1) := by decide +kernel
theorem dX10_of_6 : decode cX10_of 6 = .ok (.aload_n 3, 1) := by decide +kernel
theorem dX10_of_7 : decode cX10_of 7 = .ok (.ifnonnull 7, 3) := by decide +kernel
theorem dX10_of_10 : decode cX10_of 10 = .ok (.sipush (-1000), 3) := by decide +kernel
theorem dX10_of_13 : decode cX10_of 13 = .ok (.ireturn, 1) := by decide +kernel
theorem dX10_of_14 : decode cX10_of 14 = .ok (.iload_n 2, 1) := by decide +kernel
theorem dX10_of_15 : decode cX10_of 15 = .ok (.tableswitch 76 0 6 #[41, 46, 51, 56, 61, 66, 71], 41) := by decide +kernel
theorem dX10_of_56 : decode cX10_of 56 = .ok (.aload_n 3, 1) := by decide +kernel
theorem dX10_of_57 : decode cX10_of 57 = .ok (.getfield 93, 3) := by decide +kernel
theorem dX10_of_60 : decode cX10_of 60 = .ok (.ireturn, 1) := by decide +kernel
theorem dX10_of_61 : decode cX10_of 61 = .ok (.aload_n 3, 1) := by decide +kernel
theorem dX10_of_62 : decode cX10_of 62 = .ok (.getfield 96, 3) := by decide +kernel
theorem dX10_of_65 : decode cX10_of 65 = .ok (.ireturn, 1) := by decide +kernel
theorem dX10_of_66 : decode cX10_of 66 = .ok (.aload_n 3, 1) := by decide +kernel
theorem dX10_of_67 : decode cX10_of 67 = .ok (.getfield 90, 3) := by decide +kernel
theorem dX10_of_70 : decode cX10_of 70 = .ok (.ireturn, 1) := by decide +kernel
theorem dX10_of_71 : decode cX10_of 71 = .ok (.aload_n 3, 1) := by decide +kernel
theorem dX10_of_72 : decode cX10_of 72 = .ok (.getfield 84, 3) := by decide +kernel
theorem dX10_of_75 : decode cX10_of 75 = .ok (.ireturn, 1) := by decide +kernel
theorem dX10_of_76 : decode cX10_of 76 = .ok (.aload_n 3, 1) := by decide +kernel
theorem dX10_of_77 : decode cX10_of 77 = .ok (.getfield 87, 3) := by decide +kernel
theorem dX10_of_80 : decode cX10_of 80 = .ok (.ireturn, 1) := by decide +kernel
theorem dX10_of_81 : decode cX10_of 81 = .ok (.aload_n 3, 1) := by decide +kernel
theorem dX10_of_82 : decode cX10_of 82 = .ok (.getfield 99, 3) := by decide +kernel
theorem dX10_of_85 : decode cX10_of 85 = .ok (.ireturn, 1) := by decide +kernel
theorem dX10_of_86 : decode cX10_of 86 = .ok (.aload_n 3, 1) := by decide +kernel
theorem dX10_of_87 : decode cX10_of 87 = .ok (.invokevirtual 102, 3) := by decide +kernel
theorem dX10_of_90 : decode cX10_of 90 = .ok (.ireturn, 1) := by decide +kernel
theorem dX10_of_91 : decode cX10_of 91 = .ok (.sipush (-1000), 3) := by decide +kernel
theorem dX10_of_94 : decode cX10_of 94 = .ok (.ireturn, 1) := by decide +kernel
theorem dX10_taken_0 : decode cX10_taken 0 = .ok (.aload_n 0, 1) := by decide +kernel
theorem dX10_taken_1 : decode cX10_taken 1 = .ok (.iload_n 1, 1) := by decide +kernel
theorem dX10_taken_2 : decode cX10_taken 2 = .ok (.invokevirtual 76, 3) := by decide +kernel
theorem dX10_taken_5 : decode cX10_taken 5 = .ok (.astore_n 3, 1) := by decide +kernel
theorem dX10_taken_6 : decode cX10_taken 6 = .ok (.aload_n 3, 1) := by decide +kernel
theorem dX10_taken_7 : decode cX10_taken 7 = .ok (.ifnull 12, 3) := by decide +kernel
theorem dX10_taken_10 : decode cX10_taken 10 = .ok (.iload_n 2, 1) := by decide +kernel
theorem dX10_taken_11 : decode cX10_taken 11 = .ok (.iconst 0, 1) := by decide +kernel
theorem dX10_taken_12 : decode cX10_taken 12 = .ok (.iconst 5, 1) := by decide +kernel
theorem dX10_taken_13 : decode cX10_taken 13 = .ok (.invokestatic 60, 3) := by decide +kernel
theorem dX10_taken_16 : decode cX10_taken 16 = .ok (.ifCond .ne 6, 3) := by decide +kernel
theorem dX10_taken_19 : decode cX10_taken 19 = .ok (.bipush (-2), 2) := by decide +kernel
theorem dX10_taken_21 : decode cX10_taken 21 = .ok (.ireturn, 1) := by decide +kernel
theorem dX10_taken_22 : decode cX10_taken 22 = .ok (.aload_n 3, 1) := by decide +kernel
theorem dX10_taken_23 : decode cX10_taken 23 = .ok (.iload_n 2, 1) := by decide +kernel
theorem dX10_taken_24 : decode cX10_taken 24 = .ok (.invokestatic 106, 3) := by decide +kernel
theorem dX10_taken_27 : decode cX10_taken 27 = .ok (.ifCond .eq 10, 3) := by decide +kernel
theorem dX10_taken_30 : decode cX10_taken 30 = .ok (.aload_n 3, 1) := by decide +kernel
theorem dX10_taken_31 : decode cX10_taken 31 = .ok (.getfield 90, 3) := by decide +kernel
theorem dX10_taken_34 : decode cX10_taken 34 = .ok (.goto 5, 3) := by decide +kernel
theorem dX10_taken_37 : decode cX10_taken 37 = .ok (.bipush (-13), 2) := by decide +kernel
theorem dX10_taken_39 : decode cX10_taken 39 = .ok (.ireturn, 1) := by decide +kernel
theorem dX10_step_0 : decode cX10_step 0 = .ok (.aload_n 0, 1) := by decide +kernel
theorem dX10_step_1 : decode cX10_step 1 = .ok (.iload_n 1, 1) := by decide +kernel
theorem dX10_step_2 : decode cX10_step 2 = .ok (.invokevirtual 76, 3) := by decide +kernel
theorem dX10_step_5 : decode cX10_step 5 = .ok (.astore_n 3, 1) := by decide +kernel
theorem dX10_step_6 : decode cX10_step 6 = .ok (.aload_n 3, 1) := by decide +kernel
theorem dX10_step_7 : decode cX10_step 7 = .ok (.ifnull 13, 3) := by decide +kernel
theorem dX10_step_10 : decode cX10_step 10 = .ok (.iload_n 2, 1) := by decide +kernel
theorem dX10_step_11 : decode cX10_step 11 = .ok (.iconst 1, 1) := by decide +kernel
theorem dX10_step_12 : decode cX10_step 12 = .ok (.bipush 30, 2) := by decide +kernel
theorem dX10_step_14 : decode cX10_step 14 = .ok (.invokestatic 60, 3) := by decide +kernel
theorem dX10_step_17 : decode cX10_step 17 = .ok (.ifCond .ne 6, 3) := by decide +kernel
theorem dX10_step_20 : decode cX10_step 20 = .ok (.bipush (-2), 2) := by decide +kernel
theorem dX10_step_22 : decode cX10_step 22 = .ok (.ireturn, 1) := by decide +kernel
theorem dX10_step_23 : decode cX10_step 23 = .ok (.aload_n 3, 1) := by decide +kernel
theorem dX10_step_24 : decode cX10_step 24 = .ok (.iload_n 2, 1) := by decide +kernel
theorem dX10_step_25 : decode cX10_step 25 = .ok (.invokestatic 110, 3) := by decide +kernel
theorem dX10_step_28 : decode cX10_step 28 = .ok (.l2i, 1) := by decide +kernel
theorem dX10_step_29 : decode cX10_step 29 = .ok (.ireturn, 1) := by decide +kernel
theorem dX10_then_0 : decode cX10_then 0 = .ok (.aload_n 0, 1) := by decide +kernel
theorem dX10_then_1 : decode cX10_then 1 = .ok (.iload_n 1, 1) := by decide +kernel
theorem dX10_then_2 : decode cX10_then 2 = .ok (.invokevirtual 76, 3) := by decide +kernel
theorem dX10_then_5 : decode cX10_then 5 = .ok (.astore 4, 2) := by decide +kernel
theorem dX10_then_7 : decode cX10_then 7 = .ok (.aload 4, 2) := by decide +kernel
theorem dX10_then_9 : decode cX10_then 9 = .ok (.ifnull 22, 3) := by decide +kernel
theorem dX10_then_12 : decode cX10_then 12 = .ok (.iload_n 2, 1) := by decide +kernel
theorem dX10_then_13 : decode cX10_then 13 = .ok (.iconst 0, 1) := by decide +kernel
theorem dX10_then_14 : decode cX10_then 14 = .ok (.bipush 40, 2) := by decide +kernel
theorem dX10_then_16 : decode cX10_then 16 = .ok (.invokestatic 60, 3) := by decide +kernel
theorem dX10_then_19 : decode cX10_then 19 = .ok (.ifCond .eq 12, 3) := by decide +kernel
theorem dX10_then_22 : decode cX10_then 22 = .ok (.iload_n 3, 1) := by decide +kernel
theorem dX10_then_23 : decode cX10_then 23 = .ok (.iconst 0, 1) := by decide +kernel
theorem dX10_then_24 : decode cX10_then 24 = .ok (.iconst 2, 1) := by decide +kernel
theorem dX10_then_25 : decode cX10_then 25 = .ok (.invokestatic 60, 3) := by decide +kernel
theorem dX10_then_28 : decode cX10_then 28 = .ok (.ifCond .ne 7, 3) := by decide +kernel
theorem dX10_then_31 : decode cX10_then 31 = .ok (.sipush (-1000), 3) := by decide +kernel
theorem dX10_then_34 : decode cX10_then 34 = .ok (.ireturn, 1) := by decide +kernel
theorem dX10_then_35 : decode cX10_then 35 = .ok (.aload 4, 2) := by decide +kernel
theorem dX10_then_37 : decode cX10_then 37 = .ok (.invokestatic 114, 3) := by decide +kernel
theorem dX10_then_40 : decode cX10_then 40 = .ok (.astore 5, 2) := by decide +kernel
theorem dX10_then_42 : decode cX10_then 42 = .ok (.aload 5, 2) := by decide +kernel
theorem dX10_then_44 : decode cX10_then 44 = .ok (.iload_n 2, 1) := by decide +kernel
theorem dX10_then_45 : decode cX10_then 45 = .ok (.invokestatic 110, 3) := by decide +kernel
theorem dX10_then_48 : decode cX10_then 48 = .ok (.pop2, 1) := by decide +kernel
theorem dX10_then_49 : decode cX10_then 49 = .ok (.iload_n 3, 1) := by decide +kernel
theorem dX10_then_50 : decode cX10_then 50 = .ok (.lookupswitch 40 #[(0, 26), (1, 34)], 26) := by decide +kernel
theorem dX10_then_76 : decode cX10_then 76 = .ok (.aload 5, 2) := by decide +kernel
theorem dX10_then_78 : decode cX10_then 78 = .ok (.getfield 84, 3) := by decide +kernel
theorem dX10_then_81 : decode cX10_then 81 = .ok (.iconst 1, 1) := by decide +kernel
theorem dX10_then_82 : decode cX10_then 82 = .ok (.iand, 1) := by decide +kernel
theorem dX10_then_83 : decode cX10_then 83 = .ok (.ireturn, 1) := by decide +kernel
theorem dX10_then_84 : decode cX10_then 84 = .ok (.aload 5, 2) := by decide +kernel
theorem dX10_then_86 : decode cX10_then 86 = .ok (.getfield 84, 3) := by decide +kernel
theorem dX10_then_89 : decode cX10_then 89 = .ok (.ireturn, 1) := by decide +kernel
theorem dX10_then_90 : decode cX10_then 90 = .ok (.aload 5, 2) := by decide +kernel
theorem dX10_then_92 : decode cX10_then 92 = .ok (.getfield 87, 3) := by decide +kernel
theorem dX10_then_95 : decode cX10_then 95 = .ok (.ireturn, 1) := by decide +kernel
theorem dX10_film_0 : decode cX10_film 0 = .ok (.aload_n 0, 1) := by decide +kernel
theorem dX10_film_1 : decode cX10_film 1 = .ok (.iload_n 1, 1) := by decide +kernel
theorem dX10_film_2 : decode cX10_film 2 = .ok (.invokevirtual 118, 3) := by decide +kernel
theorem dX10_film_5 : decode cX10_film 5 = .ok (.astore 4, 2) := by decide +kernel
theorem dX10_film_7 : decode cX10_film 7 = .ok (.aload_n 0, 1) := by decide +kernel
theorem dX10_film_8 : decode cX10_film 8 = .ok (.iload_n 2, 1) := by decide +kernel
theorem dX10_film_9 : decode cX10_film 9 = .ok (.invokevirtual 76, 3) := by decide +kernel
theorem dX10_film_12 : decode cX10_film 12 = .ok (.astore 5, 2) := by decide +kernel
theorem dX10_film_14 : decode cX10_film 14 = .ok (.aload 4, 2) := by decide +kernel
theorem dX10_film_16 : decode cX10_film 16 = .ok (.ifnull 18, 3) := by decide +kernel
theorem dX10_film_19 : decode cX10_film 19 = .ok (.aload 5, 2) := by decide +kernel
theorem dX10_film_21 : decode cX10_film 21 = .ok (.ifnull 13, 3) := by decide +kernel
theorem dX10_film_24 : decode cX10_film 24 = .ok (.iload_n 3, 1) := by decide +kernel
theorem dX10_film_25 : decode cX10_film 25 = .ok (.iconst 0, 1) := by decide +kernel
theorem dX10_film_26 : decode cX10_film 26 = .ok (.bipush 40, 2) := by decide +kernel
theorem dX10_film_28 : decode cX10_film 28 = .ok (.invokestatic 60, 3) := by decide +kernel
theorem dX10_film_31 : decode cX10_film 31 = .ok (.ifCond .ne 6, 3) := by decide +kernel
theorem dX10_film_34 : decode cX10_film 34 = .ok (.bipush (-2), 2) := by decide +kernel
theorem dX10_film_36 : decode cX10_film 36 = .ok (.ireturn, 1) := by decide +kernel
theorem dX10_film_37 : decode cX10_film 37 = .ok (.aload 4, 2) := by decide +kernel
theorem dX10_film_39 : decode cX10_film 39 = .ok (.aload 5, 2) := by decide +kernel
theorem dX10_film_41 : decode cX10_film 41 = .ok (.invokestatic 114, 3) := by decide +kernel
theorem dX10_film_44 : decode cX10_film 44 = .ok (.iload_n 3, 1) := by decide +kernel
theorem dX10_film_45 : decode cX10_film 45 = .ok (.invokestatic 110, 3) := by decide +kernel
