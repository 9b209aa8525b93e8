theorem dX4_init_0 : decode cX4_init 0 = .ok (.aload_n 0, 1) := by decide +kernel
theorem dX4_init_1 : decode cX4_init 1 = .ok (.invokespecial 3, 3) := by decide +kernel
theorem dX4_init_4 : decode cX4_init 4 = .ok (.aload_n 0, 1) := by decide +kernel
theorem dX4_init_5 : decode cX4_init 5 = .ok (.iconst 5, 1) := by decide +kernel
theorem dX4_init_6 : decode cX4_init 6 = .ok (.newarray .long, 2) := by decide +kernel
theorem dX4_init_8 : decode cX4_init 8 = .ok (.putfield 9, 3) := by decide +kernel
theorem dX4_init_11 : decode cX4_init 11 = .ok (.iconst 0, 1) := by decide +kernel
theorem dX4_init_12 : decode cX4_init 12 = .ok (.istore_n 1, 1) := by decide +kernel
theorem dX4_init_13 : decode cX4_init 13 = .ok (.iload_n 1, 1) := by decide +kernel
theorem dX4_init_14 : decode cX4_init 14 = .ok (.iconst 5, 1) := by decide +kernel
theorem dX4_init_15 : decode cX4_init 15 = .ok (.if_icmp .ge 18, 3) := by decide +kernel
theorem dX4_init_18 : decode cX4_init 18 = .ok (.aload_n 0, 1) := by decide +kernel
theorem dX4_init_19 : decode cX4_init 19 = .ok (.getfield 9, 3) := by decide +kernel
theorem dX4_init_22 : decode cX4_init 22 = .ok (.iload_n 1, 1) := by decide +kernel
theorem dX4_init_23 : decode cX4_init 23 = .ok (.ldc2_w 15, 3) := by decide +kernel
theorem dX4_init_26 : decode cX4_init 26 = .ok (.lastore, 1) := by decide +kernel
theorem dX4_init_27 : decode cX4_init 27 = .ok (.iinc 1 1, 3) := by decide +kernel
theorem dX4_init_30 : decode cX4_init 30 = .ok (.goto (-17), 3) := by decide +kernel
theorem dX4_init_33 : decode cX4_init 33 = .ok (.aload_n 0, 1) := by decide +kernel
theorem dX4_init_34 : decode cX4_init 34 = .ok (.new 17, 3) := by decide +kernel
theorem dX4_init_37 : decode cX4_init 37 = .ok (.dup, 1) := by decide +kernel
theorem dX4_init_38 : decode cX4_init 38 = .ok (.invokespecial 19, 3) := by decide +kernel
theorem dX4_init_41 : decode cX4_init 41 = .ok (.putfield 20, 3) := by decide +kernel
theorem dX4_init_44 : decode cX4_init 44 = .ok (.aload_n 0, 1) := by decide +kernel
theorem dX4_init_45 : decode cX4_init 45 = .ok (.new 17, 3) := by decide +kernel
theorem dX4_init_48 : decode cX4_init 48 = .ok (.dup, 1) := by decide +kernel
theorem dX4_init_49 : decode cX4_init 49 = .ok (.invokespecial 19, 3) := by decide +kernel
theorem dX4_init_52 : decode cX4_init 52 = .ok (.putfield 24, 3) := by decide +kernel
theorem dX4_init_55 : decode cX4_init 55 = .ok (.aload_n 0, 1) := by decide +kernel
theorem dX4_init_56 : decode cX4_init 56 = .ok (.new 27, 3) := by decide +kernel
theorem dX4_init_59 : decode cX4_init 59 = .ok (.dup, 1) := by decide +kernel
theorem dX4_init_60 : decode cX4_init 60 = .ok (.invokespecial 29, 3) := by decide +kernel
theorem dX4_init_63 : decode cX4_init 63 = .ok (.putfield 30, 3) := by decide +kernel
theorem dX4_init_66 : decode cX4_init 66 = .ok (.return_, 1) := by decide +kernel
theorem dX4_weigh_0 : decode cX4_weigh 0 = .ok (.iload_n 1, 1) := by decide +kernel
theorem dX4_weigh_1 : decode cX4_weigh 1 = .ok (.ifCond .lt 29, 3) := by decide +kernel
theorem dX4_weigh_4 : decode cX4_weigh 4 = .ok (.iload_n 1, 1) := by decide +kernel
theorem dX4_weigh_5 : decode cX4_weigh 5 = .ok (.iconst 5, 1) := by decide +kernel
theorem dX4_weigh_6 : decode cX4_weigh 6 = .ok (.if_icmp .ge 24, 3) := by decide +kernel
theorem dX4_weigh_9 : decode cX4_weigh 9 = .ok (.lload 4, 2) := by decide +kernel
theorem dX4_weigh_11 : decode cX4_weigh 11 = .ok (.lconst 0, 1) := by decide +kernel
theorem dX4_weigh_12 : decode cX4_weigh 12 = .ok (.lcmp, 1) := by decide +kernel
theorem dX4_weigh_13 : decode cX4_weigh 13 = .ok (.ifCond .le 17, 3) := by decide +kernel
theorem dX4_weigh_16 : decode cX4_weigh 16 = .ok (.aload_n 0, 1) := by decide +kernel
theorem dX4_weigh_17 : decode cX4_weigh 17 = .ok (.getfield 9, 3) := by decide +kernel
theorem dX4_weigh_20 : decode cX4_weigh 20 = .ok (.iload_n 1, 1) := by decide +kernel
theorem dX4_weigh_21 : decode cX4_weigh 21 = .ok (.lload_n 2, 1) := by decide +kernel
theorem dX4_weigh_22 : decode cX4_weigh 22 = .ok (.ldc2_w 15, 3) := by decide +kernel
theorem dX4_weigh_25 : decode cX4_weigh 25 = .ok (.lload 4, 2) := by decide +kernel
theorem dX4_weigh_27 : decode cX4_weigh 27 = .ok (.ldiv, 1) := by decide +kernel
theorem dX4_weigh_28 : decode cX4_weigh 28 = .ok (.lmul, 1) := by decide +kernel
theorem dX4_weigh_29 : decode cX4_weigh 29 = .ok (.lastore, 1) := by decide +kernel
theorem dX4_weigh_30 : decode cX4_weigh 30 = .ok (.return_, 1) := by decide +kernel
theorem dX4_clear_0 : decode cX4_clear 0 = .ok (.aload_n 0, 1) := by decide +kernel
theorem dX4_clear_1 : decode cX4_clear 1 = .ok (.lconst 0, 1) := by decide +kernel
theorem dX4_clear_2 : decode cX4_clear 2 = .ok (.putfield 34, 3) := by decide +kernel
theorem dX4_clear_5 : decode cX4_clear 5 = .ok (.aload_n 0, 1) := by decide +kernel
theorem dX4_clear_6 : decode cX4_clear 6 = .ok (.lconst 1, 1) := by decide +kernel
theorem dX4_clear_7 : decode cX4_clear 7 = .ok (.putfield 38, 3) := by decide +kernel
theorem dX4_clear_10 : decode cX4_clear 10 = .ok (.aload_n 0, 1) := by decide +kernel
theorem dX4_clear_11 : decode cX4_clear 11 = .ok (.lconst 0, 1) := by decide +kernel
theorem dX4_clear_12 : decode cX4_clear 12 = .ok (.putfield 41, 3) := by decide +kernel
theorem dX4_clear_15 : decode cX4_clear 15 = .ok (.return_, 1) := by decide +kernel
theorem dX4_compare_0 : decode cX4_compare 0 = .ok (.aload_n 2, 1) := by decide +kernel
theorem dX4_compare_1 : decode cX4_compare 1 = .ok (.ifnull 7, 3) := by decide +kernel
theorem dX4_compare_4 : decode cX4_compare 4 = .ok (.aload_n 3, 1) := by decide +kernel
theorem dX4_compare_5 : decode cX4_compare 5 = .ok (.ifnonnull 4, 3) := by decide +kernel
theorem dX4_compare_8 : decode cX4_compare 8 = .ok (.return_, 1) := by decide +kernel
theorem dX4_compare_9 : decode cX4_compare 9 = .ok (.iload_n 1, 1) := by decide +kernel
theorem dX4_compare_10 : decode cX4_compare 10 = .ok (.tableswitch 91 0 4 #[34, 43, 58, 67, 76], 34) := by decide +kernel
theorem dX4_compare_44 : decode cX4_compare 44 = .ok (.aload_n 0, 1) := by decide +kernel
theorem dX4_compare_45 : decode cX4_compare 45 = .ok (.aload_n 2, 1) := by decide +kernel
theorem dX4_compare_46 : decode cX4_compare 46 = .ok (.aload_n 3, 1) := by decide +kernel
theorem dX4_compare_47 : decode cX4_compare 47 = .ok (.invokevirtual 44, 3) := by decide +kernel
theorem dX4_compare_50 : decode cX4_compare 50 = .ok (.goto 51, 3) := by decide +kernel
theorem dX4_compare_53 : decode cX4_compare 53 = .ok (.aload_n 0, 1) := by decide +kernel
theorem dX4_compare_54 : decode cX4_compare 54 = .ok (.aload_n 2, 1) := by decide +kernel
theorem dX4_compare_55 : decode cX4_compare 55 = .ok (.invokevirtual 48, 3) := by decide +kernel
theorem dX4_compare_58 : decode cX4_compare 58 = .ok (.aload_n 3, 1) := by decide +kernel
theorem dX4_compare_59 : decode cX4_compare 59 = .ok (.invokevirtual 48, 3) := by decide +kernel
theorem dX4_compare_62 : decode cX4_compare 62 = .ok (.invokevirtual 54, 3) := by decide +kernel
theorem dX4_compare_65 : decode cX4_compare 65 = .ok (.goto 36, 3) := by decide +kernel
theorem dX4_compare_68 : decode cX4_compare 68 = .ok (.aload_n 0, 1) := by decide +kernel
theorem dX4_compare_69 : decode cX4_compare 69 = .ok (.aload_n 2, 1) := by decide +kernel
theorem dX4_compare_70 : decode cX4_compare 70 = .ok (.aload_n 3, 1) := by decide +kernel
theorem dX4_compare_71 : decode cX4_compare 71 = .ok (.invokevirtual 58, 3) := by decide +kernel
theorem dX4_compare_74 : decode cX4_compare 74 = .ok (.goto 27, 3) := by decide +kernel
theorem dX4_compare_77 : decode cX4_compare 77 = .ok (.aload_n 0, 1) := by decide +kernel
theorem dX4_compare_78 : decode cX4_compare 78 = .ok (.aload_n 2, 1) := by decide +kernel
theorem dX4_compare_79 : decode cX4_compare 79 = .ok (.aload_n 3, 1) := by decide +kernel
theorem dX4_compare_80 : decode cX4_compare 80 = .ok (.invokevirtual 61, 3) := by decide +kernel
theorem dX4_compare_83 : decode cX4_compare 83 = .ok (.goto 18, 3) := by decide +kernel
theorem dX4_compare_86 : decode cX4_compare 86 = .ok (.aload_n 0, 1) := by decide +kernel
theorem dX4_compare_87 : decode cX4_compare 87 = .ok (.aload_n 2, 1) := by decide +kernel
theorem dX4_compare_88 : decode cX4_compare 88 = .ok (.invokevirtual 48, 3) := by decide +kernel
theorem dX4_compare_91 : decode cX4_compare 91 = .ok (.aload_n 3, 1) := by decide +kernel
theorem dX4_compare_92 : decode cX4_compare 92 = .ok (.invokevirtual 48, 3) := by decide +kernel
theorem dX4_compare_95 : decode cX4_compare 95 = .ok (.invokevirtual 64, 3) := by decide +kernel
theorem dX4_compare_98 : decode cX4_compare 98 = .ok (.goto 3, 3) := by decide +kernel
theorem dX4_compare_101 : decode cX4_compare 101 = .ok (.return_, 1) := by decide +kernel
theorem dX4_hasWeight_0 : decode cX4_hasWeight 0 = .ok (.aload_n 0, 1) := by decide +kernel
theorem dX4_hasWeight_1 : decode cX4_hasWeight 1 = .ok (.getfield 41, 3) := by decide +kernel
theorem dX4_hasWeight_4 : decode cX4_hasWeight 4 = .ok (.lconst 0, 1) := by decide +kernel
theorem dX4_hasWeight_5 : decode cX4_hasWeight 5 = .ok (.lcmp, 1) := by decide +kernel
theorem dX4_hasWeight_6 : decode cX4_hasWeight 6 = .ok (.ifCond .le 7, 3) := by decide +kernel
theorem dX4_hasWeight_9 : decode cX4_hasWeight 9 = .ok (.iconst 1, 1) := by decide +kernel
theorem dX4_hasWeight_10 : decode cX4_hasWeight 10 = .ok (.goto 4, 3) := by decide +kernel
theorem dX4_hasWeight_13 : decode cX4_hasWeight 13 = .ok (.iconst 0, 1) := by decide +kernel
theorem dX4_hasWeight_14 : decode cX4_hasWeight 14 = .ok (.ireturn, 1) := by decide +kernel
theorem dX4_above_0 : decode cX4_above 0 = .ok (.aload_n 0, 1) := by decide +kernel
theorem dX4_above_1 : decode cX4_above 1 = .ok (.getfield 34, 3) := by decide +kernel
theorem dX4_above_4 : decode cX4_above 4 = .ok (.aload_n 0, 1) := by decide +kernel
theorem dX4_above_5 : decode cX4_above 5 = .ok (.invokevirtual 67, 3) := by decide +kernel
theorem dX4_above_8 : decode cX4_above 8 = .ok (.ldiv, 1) := by decide +kernel
theorem dX4_above_9 : decode cX4_above 9 = .ok (.lreturn, 1) := by decide +kernel
theorem dX4_below_0 : decode cX4_below 0 = .ok (.aload_n 0, 1) := by decide +kernel
theorem dX4_below_1 : decode cX4_below 1 = .ok (.getfield 38, 3) := by decide +kernel
theorem dX4_below_4 : decode cX4_below 4 = .ok (.aload_n 0, 1) := by decide +kernel
theorem dX4_below_5 : decode cX4_below 5 = .ok (.getfield 41, 3) := by decide +kernel
theorem dX4_below_8 : decode cX4_below 8 = .ok (.lmul, 1) := by decide +kernel
theorem dX4_below_9 : decode cX4_below 9 = .ok (.aload_n 0, 1) := by decide +kernel
theorem dX4_below_10 : decode cX4_below 10 = .ok (.invokevirtual 67, 3) := by decide +kernel
theorem dX4_below_13 : decode cX4_below 13 = .ok (.ldiv, 1) := by decide +kernel
theorem dX4_below_14 : decode cX4_below 14 = .ok (.lreturn, 1) := by decide +kernel
theorem dX4_compareTitles_0 : decode cX4_compareTitles 0 = .ok (.aload_n 0, 1) := by decide +kernel
theorem dX4_compareTitles_1 : decode cX4_compareTitles 1 = .ok (.getfield 20, 3) := by decide +kernel
theorem dX4_compareTitles_4 : decode cX4_compareTitles 4 = .ok (.aload_n 1, 1) := by decide +kernel
theorem dX4_compareTitles_5 : decode cX4_compareTitles 5 = .ok (.invokevirtual 71, 3) := by decide +kernel
theorem dX4_compareTitles_8 : decode cX4_compareTitles 8 = .ok (.aload_n 0, 1) := by decide +kernel
theorem dX4_compareTitles_9 : decode cX4_compareTitles 9 = .ok (.getfield 24, 3) := by decide +kernel
theorem dX4_compareTitles_12 : decode cX4_compareTitles 12 = .ok (.aload_n 2, 1) := by decide +kernel
theorem dX4_compareTitles_13 : decode cX4_compareTitles 13 = .ok (.invokevirtual 71, 3) := by decide +kernel
theorem dX4_compareTitles_16 : decode cX4_compareTitles 16 = .ok (.aload_n 0, 1) := by decide +kernel
theorem dX4_compareTitles_17 : decode cX4_compareTitles 17 = .ok (.getfield 20, 3) := by decide +kernel
theorem dX4_compareTitles_20 : decode cX4_compareTitles 20 = .ok (.aload_n 0, 1) := by decide +kernel
theorem dX4_compareTitles_21 : decode cX4_compareTitles 21 = .ok (.getfield 24, 3) := by decide +kernel
theorem dX4_compareTitles_24 : decode cX4_compareTitles 24 = .ok (.invokevirtual 75, 3) := by decide +kernel
theorem dX4_compareTitles_27 : decode cX4_compareTitles 27 = .ok (.istore_n 3, 1) := by decide +kernel
theorem dX4_compareTitles_28 : decode cX4_compareTitles 28 = .ok (.aload_n 0, 1) := by decide +kernel
theorem dX4_compareTitles_29 : decode cX4_compareTitles 29 = .ok (.getfield 20, 3) := by decide +kernel
theorem dX4_compareTitles_32 : decode cX4_compareTitles 32 = .ok (.invokevirtual 79, 3) := by decide +kernel
theorem dX4_compareTitles_35 : decode cX4_compareTitles 35 = .ok (.aload_n 0, 1) := by decide +kernel
theorem dX4_compareTitles_36 : decode cX4_compareTitles 36 = .ok (.getfield 24, 3) := by decide +kernel
theorem dX4_compareTitles_39 : decode cX4_compareTitles 39 = .ok (.invokevirtual 79, 3) := by decide +kernel
theorem dX4_compareTitles_42 : decode cX4_compareTitles 42 = .ok (.iadd, 1) := by decide +kernel
theorem dX4_compareTitles_43 : decode cX4_compareTitles 43 = .ok (.iload_n 3, 1) := by decide +kernel
theorem dX4_compareTitles_44 : decode cX4_compareTitles 44 = .ok (.isub, 1) := by decide +kernel
theorem dX4_compareTitles_45 : decode cX4_compareTitles 45 = .ok (.istore 4, 2) := by decide +kernel
theorem dX4_compareTitles_47 : decode cX4_compareTitles 47 = .ok (.iload 4, 2) := by decide +kernel
theorem dX4_compareTitles_49 : decode cX4_compareTitles 49 = .ok (.ifCond .ne 13, 3) := by decide +kernel
theorem dX4_compareTitles_52 : decode cX4_compareTitles 52 = .ok (.aload_n 0, 1) := by decide +kernel
theorem dX4_compareTitles_53 : decode cX4_compareTitles 53 = .ok (.iconst 0, 1) := by decide +kernel
theorem dX4_compareTitles_54 : decode cX4_compareTitles 54 = .ok (.iconst 0, 1) := by decide +kernel
theorem dX4_compareTitles_55 : decode cX4_compareTitles 55 = .ok (.iconst 1, 1) := by decide +kernel
theorem dX4_compareTitles_56 : decode cX4_compareTitles 56 = .ok (.invokevirtual 82, 3) := by decide +kernel
theorem dX4_compareTitles_59 : decode cX4_compareTitles 59 = .ok (.goto 11, 3) := by decide +kernel
theorem dX4_compareTitles_62 : decode cX4_compareTitles 62 = .ok (.aload_n 0, 1) := by decide +kernel
theorem dX4_compareTitles_63 : decode cX4_compareTitles 63 = .ok (.iconst 0, 1) := by decide +kernel
theorem dX4_compareTitles_64 : decode cX4_compareTitles 64 = .ok (.iload_n 3, 1) := by decide +kernel
theorem dX4_compareTitles_65 : decode cX4_compareTitles 65 = .ok (.iload 4, 2) := by decide +kernel
theorem dX4_compareTitles_67 : decode cX4_compareTitles 67 = .ok (.invokevirtual 82, 3) := by decide +kernel
theorem dX4_compareTitles_70 : decode cX4_compareTitles 70 = .ok (.return_, 1) := by decide +kernel
theorem dX4_compareYears_0 : decode cX4_compareYears 0 = .ok (.iload_n 1, 1) := by decide +kernel
theorem dX4_compareYears_1 : decode cX4_compareYears 1 = .ok (.iload_n 2, 1) := by decide +kernel
theorem dX4_compareYears_2 : decode cX4_compareYears 2 = .ok (.isub, 1) := by decide +kernel
theorem dX4_compareYears_3 : decode cX4_compareYears 3 = .ok (.invokestatic 86, 3) := by decide +kernel
theorem dX4_compareYears_6 : decode cX4_compareYears 6 = .ok (.istore_n 3, 1) := by decide +kernel
theorem dX4_compareYears_7 : decode cX4_compareYears 7 = .ok (.aload_n 0, 1) := by decide +kernel
theorem dX4_compareYears_8 : decode cX4_compareYears 8 = .ok (.iconst 1, 1) := by decide +kernel
theorem dX4_compareYears_9 : decode cX4_compareYears 9 = .ok (.iconst 0, 1) := by decide +kernel
theorem dX4_compareYears_10 : decode cX4_compareYears 10 = .ok (.iconst 2, 1) := by decide +kernel
theorem dX4_compareYears_11 : decode cX4_compareYears 11 = .ok (.iload_n 3, 1) := by decide +kernel
theorem dX4_compareYears_12 : decode cX4_compareYears 12 = .ok (.isub, 1) := by decide +kernel
theorem dX4_compareYears_13 : decode cX4_compareYears 13 = .ok (.invokestatic 92, 3) := by decide +kernel
theorem dX4_compareYears_16 : decode cX4_compareYears 16 = .ok (.iconst 2, 1) := by decide +kernel
theorem dX4_compareYears_17 : decode cX4_compareYears 17 = .ok (.invokevirtual 82, 3) := by decide +kernel
theorem dX4_compareYears_20 : decode cX4_compareYears 20 = .ok (.return_, 1) := by decide +kernel
theorem dX4_compareBookNumbers_0 : decode cX4_compareBookNumbers 0 = .ok (.aload_n 0, 1) := by decide +kernel
theorem dX4_compareBookNumbers_1 : decode cX4_compareBookNumbers 1 = .ok (.getfield 30, 3) := by decide +kernel
theorem dX4_compareBookNumbers_4 : decode cX4_compareBookNumbers 4 = .ok (.aload_n 1, 1) := by decide +kernel
theorem dX4_compareBookNumbers_5 : decode cX4_compareBookNumbers 5 = .ok (.invokevirtual 96, 3) := by decide +kernel
theorem dX4_compareBookNumbers_8 : decode cX4_compareBookNumbers 8 = .ok (.lstore_n 3, 1) := by decide +kernel
theorem dX4_compareBookNumbers_9 : decode cX4_compareBookNumbers 9 = .ok (.lload_n 3, 1) := by decide +kernel
theorem dX4_compareBookNumbers_10 : decode cX4_compareBookNumbers 10 = .ok (.ldc2_w 100, 3) := by decide +kernel
theorem dX4_compareBookNumbers_13 : decode cX4_compareBookNumbers 13 = .ok (.lcmp, 1) := by decide +kernel
theorem dX4_compareBookNumbers_14 : decode cX4_compareBookNumbers 14 = .ok (.ifCond .eq 20, 3) := by decide +kernel
theorem dX4_compareBookNumbers_17 : decode cX4_compareBookNumbers 17 = .ok (.lload_n 3, 1) := by decide +kernel
theorem dX4_compareBookNumbers_18 : decode cX4_compareBookNumbers 18 = .ok (.aload_n 0, 1) := by decide +kernel
theorem dX4_compareBookNumbers_19 : decode cX4_compareBookNumbers 19 = .ok (.getfield 30, 3) := by decide +kernel
theorem dX4_compareBookNumbers_22 : decode cX4_compareBookNumbers 22 = .ok (.aload_n 2, 1) := by decide +kernel
theorem dX4_compareBookNumbers_23 : decode cX4_compareBookNumbers 23 = .ok (.invokevirtual 96, 3) := by decide +kernel
theorem dX4_compareBookNumbers_26 : decode cX4_compareBookNumbers 26 = .ok (.lcmp, 1) := by decide +kernel
theorem dX4_compareBookNumbers_27 : decode cX4_compareBookNumbers 27 = .ok (.ifCond .ne 7, 3) := by decide +kernel
theorem dX4_compareBookNumbers_30 : decode cX4_compareBookNumbers 30 = .ok (.iconst 1, 1) := by decide +kernel
theorem dX4_compareBookNumbers_31 : decode cX4_compareBookNumbers 31 = .ok (.goto 4, 3) := by decide +kernel
theorem dX4_compareBookNumbers_34 : decode cX4_compareBookNumbers 34 = .ok (.iconst 0, 1) := by decide +kernel
theorem dX4_compareBookNumbers_35 : decode cX4_compareBookNumbers 35 = .ok (.istore 5, 2) := by decide +kernel
theorem dX4_compareBookNumbers_37 : decode cX4_compareBookNumbers 37 = .ok (.aload_n 0, 1) := by decide +kernel
theorem dX4_compareBookNumbers_38 : decode cX4_compareBookNumbers 38 = .ok (.iconst 2, 1) := by decide +kernel
theorem dX4_compareBookNumbers_39 : decode cX4_compareBookNumbers 39 = .ok (.iload 5, 2) := by decide +kernel
theorem dX4_compareBookNumbers_41 : decode cX4_compareBookNumbers 41 = .ok (.ifCond .eq 7, 3) := by decide +kernel
theorem dX4_compareBookNumbers_44 : decode cX4_compareBookNumbers 44 = .ok (.iconst 1, 1) := by decide +kernel
theorem dX4_compareBookNumbers_45 : decode cX4_compareBookNumbers 45 = .ok (.goto 4, 3) := by decide +kernel
theorem dX4_compareBookNumbers_48 : decode cX4_compareBookNumbers 48 = .ok (.iconst 0, 1) := by decide +kernel
theorem dX4_compareBookNumbers_49 : decode cX4_compareBookNumbers 49 = .ok (.iconst 1, 1) := by decide +kernel
theorem dX4_compareBookNumbers_50 : decode cX4_compareBookNumbers 50 = .ok (.invokevirtual 82, 3) := by decide +kernel
theorem dX4_compareBookNumbers_53 : decode cX4_compareBookNumbers 53 = .ok (.return_, 1) := by decide +kernel
theorem dX4_comparePublishers_0 : decode cX4_comparePublishers 0 = .ok (.aload_n 0, 1) := by decide +kernel
theorem dX4_comparePublishers_1 : decode cX4_comparePublishers 1 = .ok (.getfield 20, 3) := by decide +kernel
theorem dX4_comparePublishers_4 : decode cX4_comparePublishers 4 = .ok (.aload_n 1, 1) := by decide +kernel
theorem dX4_comparePublishers_5 : decode cX4_comparePublishers 5 = .ok (.invokevirtual 71, 3) := by decide +kernel
theorem dX4_comparePublishers_8 : decode cX4_comparePublishers 8 = .ok (.aload_n 0, 1) := by decide +kernel
theorem dX4_comparePublishers_9 : decode cX4_comparePublishers 9 = .ok (.getfield 24, 3) := by decide +kernel
theorem dX4_comparePublishers_12 : decode cX4_comparePublishers 12 = .ok (.aload_n 2, 1) := by decide +kernel
theorem dX4_comparePublishers_13 : decode cX4_comparePublishers 13 = .ok (.invokevirtual 71, 3) := by decide +kernel
theorem dX4_comparePublishers_16 : decode cX4_comparePublishers 16 = .ok (.aload_n 0, 1) := by decide +kernel
theorem dX4_comparePublishers_17 : decode cX4_comparePublishers 17 = .ok (.iconst 3, 1) := by decide +kernel
theorem dX4_comparePublishers_18 : decode cX4_comparePublishers 18 = .ok (.aload_n 0, 1) := by decide +kernel
theorem dX4_comparePublishers_19 : decode cX4_comparePublishers 19 = .ok (.getfield 20, 3) := by decide +kernel
theorem dX4_comparePublishers_22 : decode cX4_comparePublishers 22 = .ok (.aload_n 0, 1) := by decide +kernel
theorem dX4_comparePublishers_23 : decode cX4_comparePublishers 23 = .ok (.getfield 24, 3) := by decide +kernel
theorem dX4_comparePublishers_26 : decode cX4_comparePublishers 26 = .ok (.invokevirtual 102, 3) := by decide +kernel
theorem dX4_comparePublishers_29 : decode cX4_comparePublishers 29 = .ok (.ifCond .eq 7, 3) := by decide +kernel
theorem dX4_comparePublishers_32 : decode cX4_comparePublishers 32 = .ok (.iconst 1, 1) := by decide +kernel
theorem dX4_comparePublishers_33 : decode cX4_comparePublishers 33 = .ok (.goto 4, 3) := by decide +kernel
theorem dX4_comparePublishers_36 : decode cX4_comparePublishers 36 = .ok (.iconst 0, 1) := by decide +kernel
theorem dX4_comparePublishers_37 : decode cX4_comparePublishers 37 = .ok (.iconst 1, 1) := by decide +kernel
theorem dX4_comparePublishers_38 : decode cX4_comparePublishers 38 = .ok (.invokevirtual 82, 3) := by decide +kernel
theorem dX4_comparePublishers_41 : decode cX4_comparePublishers 41 = .ok (.return_, 1) := by decide +kernel
theorem dX4_comparePages_0 : decode cX4_comparePages 0 = .ok (.iload_n 1, 1) := by decide +kernel
theorem dX4_comparePages_1 : decode cX4_comparePages 1 = .ok (.iload_n 2, 1) := by decide +kernel
theorem dX4_comparePages_2 : decode cX4_comparePages 2 = .ok (.if_icmp .ne 13, 3) := by decide +kernel
theorem dX4_comparePages_5 : decode cX4_comparePages 5 = .ok (.aload_n 0, 1) := by decide +kernel
theorem dX4_comparePages_6 : decode cX4_comparePages 6 = .ok (.iconst 4, 1) := by decide +kernel
theorem dX4_comparePages_7 : decode cX4_comparePages 7 = .ok (.iconst 1, 1) := by decide +kernel
theorem dX4_comparePages_8 : decode cX4_comparePages 8 = .ok (.iconst 1, 1) := by decide +kernel
theorem dX4_comparePages_9 : decode cX4_comparePages 9 = .ok (.invokevirtual 82, 3) := by decide +kernel
theorem dX4_comparePages_12 : decode cX4_comparePages 12 = .ok (.goto 18, 3) := by decide +kernel
theorem dX4_comparePages_15 : decode cX4_comparePages 15 = .ok (.aload_n 0, 1) := by decide +kernel
theorem dX4_comparePages_16 : decode cX4_comparePages 16 = .ok (.iconst 4, 1) := by decide +kernel
theorem dX4_comparePages_17 : decode cX4_comparePages 17 = .ok (.iload_n 1, 1) := by decide +kernel
theorem dX4_comparePages_18 : decode cX4_comparePages 18 = .ok (.iload_n 2, 1) := by decide +kernel
theorem dX4_comparePages_19 : decode cX4_comparePages 19 = .ok (.invokestatic 106, 3) := by decide +kernel
theorem dX4_comparePages_22 : decode cX4_comparePages 22 = .ok (.iload_n 1, 1) := by decide +kernel
theorem dX4_comparePages_23 : decode cX4_comparePages 23 = .ok (.iload_n 2, 1) := by decide +kernel
theorem dX4_comparePages_24 : decode cX4_comparePages 24 = .ok (.invokestatic 92, 3) := by decide +kernel
theorem dX4_comparePages_27 : decode cX4_comparePages 27 = .ok (.invokevirtual 82, 3) := by decide +kernel
theorem dX4_comparePages_30 : decode cX4_comparePages 30 = .ok (.return_, 1) := by decide +kernel
theorem dX4_add_0 : decode cX4_add 0 = .ok (.aload_n 0, 1) := by decide +kernel
theorem dX4_add_1 : decode cX4_add 1 = .ok (.aload_n 0, 1) := by decide +kernel
theorem dX4_add_2 : decode cX4_add 2 = .ok (.getfield 34, 3) := by decide +kernel
theorem dX4_add_5 : decode cX4_add 5 = .ok (.iload_n 3, 1) := by decide +kernel
theorem dX4_add_6 : decode cX4_add 6 = .ok (.i2l, 1) := by decide +kernel
theorem dX4_add_7 : decode cX4_add 7 = .ok (.lmul, 1) := by decide +kernel
theorem dX4_add_8 : decode cX4_add 8 = .ok (.aload_n 0, 1) := by decide +kernel
theorem dX4_add_9 : decode cX4_add 9 = .ok (.getfield 38, 3) := by decide +kernel
theorem dX4_add_12 : decode cX4_add 12 = .ok (.iload_n 2, 1) := by decide +kernel
theorem dX4_add_13 : decode cX4_add 13 = .ok (.i2l, 1) := by decide +kernel
theorem dX4_add_14 : decode cX4_add 14 = .ok (.lmul, 1) := by decide +kernel
theorem dX4_add_15 : decode cX4_add 15 = .ok (.aload_n 0, 1) := by decide +kernel
theorem dX4_add_16 : decode cX4_add 16 = .ok (.getfield 9, 3) := by decide +kernel
theorem dX4_add_19 : decode cX4_add 19 = .ok (.iload_n 1, 1) := by decide +kernel
theorem dX4_add_20 : decode cX4_add 20 = .ok (.laload, 1) := by decide +kernel
theorem dX4_add_21 : decode cX4_add 21 = .ok (.lmul, 1) := by decide +kernel
theorem dX4_add_22 : decode cX4_add 22 = .ok (.ladd, 1) := by decide +kernel
theorem dX4_add_23 : decode cX4_add 23 = .ok (.putfield 34, 3) := by decide +kernel
theorem dX4_add_26 : decode cX4_add 26 = .ok (.aload_n 0, 1) := by decide +kernel
theorem dX4_add_27 : decode cX4_add 27 = .ok (.dup, 1) := by decide +kernel
theorem dX4_add_28 : decode cX4_add 28 = .ok (.getfield 38, 3) := by decide +kernel
theorem dX4_add_31 : decode cX4_add 31 = .ok (.iload_n 3, 1) := by decide +kernel
theorem dX4_add_32 : decode cX4_add 32 = .ok (.i2l, 1) := by decide +kernel
theorem dX4_add_33 : decode cX4_add 33 = .ok (.lmul, 1) := by decide +kernel
theorem dX4_add_34 : decode cX4_add 34 = .ok (.putfield 38, 3) := by decide +kernel
theorem dX4_add_37 : decode cX4_add 37 = .ok (.aload_n 0, 1) := by decide +kernel
theorem dX4_add_38 : decode cX4_add 38 = .ok (.dup, 1) := by decide +kernel
theorem dX4_add_39 : decode cX4_add 39 = .ok (.getfield 41, 3) := by decide +kernel
theorem dX4_add_42 : decode cX4_add 42 = .ok (.aload_n 0, 1) := by decide +kernel
theorem dX4_add_43 : decode cX4_add 43 = .ok (.getfield 9, 3) := by decide +kernel
theorem dX4_add_46 : decode cX4_add 46 = .ok (.iload_n 1, 1) := by decide +kernel
theorem dX4_add_47 : decode cX4_add 47 = .ok (.laload, 1) := by decide +kernel
theorem dX4_add_48 : decode cX4_add 48 = .ok (.ladd, 1) := by decide +kernel
theorem dX4_add_49 : decode cX4_add 49 = .ok (.putfield 41, 3) := by decide +kernel
theorem dX4_add_52 : decode cX4_add 52 = .ok (.return_, 1) := by decide +kernel
theorem dX4_commonDivisor_0 : decode cX4_commonDivisor 0 = .ok (.aload_n 0, 1) := by decide +kernel
theorem dX4_commonDivisor_1 : decode cX4_commonDivisor 1 = .ok (.getfield 38, 3) := by decide +kernel
theorem dX4_commonDivisor_4 : decode cX4_commonDivisor 4 = .ok (.aload_n 0, 1) := by decide +kernel
theorem dX4_commonDivisor_5 : decode cX4_commonDivisor 5 = .ok (.getfield 41, 3) := by decide +kernel
theorem dX4_commonDivisor_8 : decode cX4_commonDivisor 8 = .ok (.lmul, 1) := by decide +kernel
theorem dX4_commonDivisor_9 : decode cX4_commonDivisor 9 = .ok (.lstore_n 1, 1) := by decide +kernel
theorem dX4_commonDivisor_10 : decode cX4_commonDivisor 10 = .ok (.aload_n 0, 1) := by decide +kernel
theorem dX4_commonDivisor_11 : decode cX4_commonDivisor 11 = .ok (.getfield 34, 3) := by decide +kernel
theorem dX4_commonDivisor_14 : decode cX4_commonDivisor 14 = .ok (.lstore_n 3, 1) := by decide +kernel
theorem dX4_commonDivisor_15 : decode cX4_commonDivisor 15 = .ok (.iconst 0, 1) := by decide +kernel
theorem dX4_commonDivisor_16 : decode cX4_commonDivisor 16 = .ok (.istore 5, 2) := by decide +kernel
theorem dX4_commonDivisor_18 : decode cX4_commonDivisor 18 = .ok (.iload 5, 2) := by decide +kernel
theorem dX4_commonDivisor_20 : decode cX4_commonDivisor 20 = .ok (.sipush 1000, 3) := by decide +kernel
theorem dX4_commonDivisor_23 : decode cX4_commonDivisor 23 = .ok (.if_icmp .ge 25, 3) := by decide +kernel
theorem dX4_commonDivisor_26 : decode cX4_commonDivisor 26 = .ok (.lload_n 3, 1) := by decide +kernel
theorem dX4_commonDivisor_27 : decode cX4_commonDivisor 27 = .ok (.lconst 0, 1) := by decide +kernel
theorem dX4_commonDivisor_28 : decode cX4_commonDivisor 28 = .ok (.lcmp, 1) := by decide +kernel
theorem dX4_commonDivisor_29 : decode cX4_commonDivisor 29 = .ok (.ifCond .eq 19, 3) := by decide +kernel
theorem dX4_commonDivisor_32 : decode cX4_commonDivisor 32 = .ok (.lload_n 1, 1) := by decide +kernel
theorem dX4_commonDivisor_33 : decode cX4_commonDivisor 33 = .ok (.lload_n 3, 1) := by decide +kernel
theorem dX4_commonDivisor_34 : decode cX4_commonDivisor 34 = .ok (.lrem, 1) := by decide +kernel
theorem dX4_commonDivisor_35 : decode cX4_commonDivisor 35 = .ok (.lstore 6, 2) := by decide +kernel
theorem dX4_commonDivisor_37 : decode cX4_commonDivisor 37 = .ok (.lload_n 3, 1) := by decide +kernel
theorem dX4_commonDivisor_38 : decode cX4_commonDivisor 38 = .ok (.lstore_n 1, 1) := by decide +kernel
theorem dX4_commonDivisor_39 : decode cX4_commonDivisor 39 = .ok (.lload 6, 2) := by decide +kernel
theorem dX4_commonDivisor_41 : decode cX4_commonDivisor 41 = .ok (.lstore_n 3, 1) := by decide +kernel
theorem dX4_commonDivisor_42 : decode cX4_commonDivisor 42 = .ok (.iinc 5 1, 3) := by decide +kernel
theorem dX4_commonDivisor_45 : decode cX4_commonDivisor 45 = .ok (.goto (-27), 3) := by decide +kernel
theorem dX4_commonDivisor_48 : decode cX4_commonDivisor 48 = .ok (.lconst 1, 1) := by decide +kernel
theorem dX4_commonDivisor_49 : decode cX4_commonDivisor 49 = .ok (.lload_n 1, 1) := by decide +kernel
theorem dX4_commonDivisor_50 : decode cX4_commonDivisor 50 = .ok (.invokestatic 109, 3) := by decide +kernel
theorem dX4_commonDivisor_53 : decode cX4_commonDivisor 53 = .ok (.lreturn, 1) := by decide +kernel
theorem dX8_init_0 : decode cX8_init 0 = .ok (.aload_n 0, 1) := by decide +kernel
theorem dX8_init_1 : decode cX8_init 1 = .ok (.invokespecial 1, 3) := by decide +kernel
theorem dX8_init_4 : decode cX8_init 4 = .ok (.aload_n 0, 1) := by decide +kernel
theorem dX8_init_5 : decode cX8_init 5 = .ok (.bipush 40, 2) := by decide +kernel
theorem dX8_init_7 : decode cX8_init 7 = .ok (.newarray .int, 2) := by decide +kernel
theorem dX8_init_9 : decode cX8_init 9 = .ok (.putfield 9, 3) := by decide +kernel
theorem dX8_init_12 : decode cX8_init 12 = .ok (.aload_n 0, 1) := by decide +kernel
theorem dX8_init_13 : decode cX8_init 13 = .ok (.new 13, 3) := by decide +kernel
theorem dX8_init_16 : decode cX8_init 16 = .ok (.dup, 1) := by decide +kernel
theorem dX8_init_17 : decode cX8_init 17 = .ok (.invokespecial 15, 3) := by decide +kernel
theorem dX8_init_20 : decode cX8_init 20 = .ok (.putfield 16, 3) := by decide +kernel
theorem dX8_init_23 : decode cX8_init 23 = .ok (.aload_n 0, 1) := by decide +kernel
theorem dX8_init_24 : decode cX8_init 24 = .ok (.new 20, 3) := by decide +kernel
theorem dX8_init_27 : decode cX8_init 27 = .ok (.dup, 1) := by decide +kernel
theorem dX8_init_28 : decode cX8_init 28 = .ok (.invokespecial 22, 3) := by decide +kernel
theorem dX8_init_31 : decode cX8_init 31 = .ok (.putfield 23, 3) := by decide +kernel
theorem dX8_init_34 : decode cX8_init 34 = .ok (.aload_n 0, 1) := by decide +kernel
theorem dX8_init_35 : decode cX8_init 35 = .ok (.new 27, 3) := by decide +kernel
theorem dX8_init_38 : decode cX8_init 38 = .ok (.dup, 1) := by decide +kernel
theorem dX8_init_39 : decode cX8_init 39 = .ok (.invokespecial 29, 3) := by decide +kernel
theorem dX8_init_42 : decode cX8_init 42 = .ok (.putfield 30, 3) := by decide +kernel
theorem dX8_init_45 : decode cX8_init 45 = .ok (.return_, 1) := by decide +kernel
theorem dX8_record_0 : decode cX8_record 0 = .ok (.aload_n 0, 1) := by decide +kernel
theorem dX8_record_1 : decode cX8_record 1 = .ok (.getfield 34, 3) := by decide +kernel
theorem dX8_record_4 : decode cX8_record 4 = .ok (.bipush 40, 2) := by decide +kernel
theorem dX8_record_6 : decode cX8_record 6 = .ok (.if_icmp .lt 5, 3) := by decide +kernel
theorem dX8_record_9 : decode cX8_record 9 = .ok (.iconst 0, 1) := by decide +kernel
theorem dX8_record_10 : decode cX8_record 10 = .ok (.ireturn, 1) := by decide +kernel
theorem dX8_record_11 : decode cX8_record 11 = .ok (.aload_n 0, 1) := by decide +kernel
theorem dX8_record_12 : decode cX8_record 12 = .ok (.dup, 1) := by decide +kernel
theorem dX8_record_13 : decode cX8_record 13 = .ok (.getfield 34, 3) := by decide +kernel
theorem dX8_record_16 : decode cX8_record 16 = .ok (.iconst 1, 1) := by decide +kernel
theorem dX8_record_17 : decode cX8_record 17 = .ok (.iadd, 1) := by decide +kernel
theorem dX8_record_18 : decode cX8_record 18 = .ok (.putfield 34, 3) := by decide +kernel
theorem dX8_record_21 : decode cX8_record 21 = .ok (.new 38, 3) := by decide +kernel
theorem dX8_record_24 : decode cX8_record 24 = .ok (.dup, 1) := by decide +kernel
theorem dX8_record_25 : decode cX8_record 25 = .ok (.aload_n 0, 1) := by decide +kernel
theorem dX8_record_26 : decode cX8_record 26 = .ok (.getfield 34, 3) := by decide +kernel
theorem dX8_record_29 : decode cX8_record 29 = .ok (.iload_n 1, 1) := by decide +kernel
theorem dX8_record_30 : decode cX8_record 30 = .ok (.invokespecial 40, 3) := by decide +kernel
theorem dX8_record_33 : decode cX8_record 33 = .ok (.astore_n 2, 1) := by decide +kernel
theorem dX8_record_34 : decode cX8_record 34 = .ok (.aload_n 0, 1) := by decide +kernel
theorem dX8_record_35 : decode cX8_record 35 = .ok (.getfield 43, 3) := by decide +kernel
theorem dX8_record_38 : decode cX8_record 38 = .ok (.ifnonnull 11, 3) := by decide +kernel
theorem dX8_record_41 : decode cX8_record 41 = .ok (.aload_n 0, 1) := by decide +kernel
theorem dX8_record_42 : decode cX8_record 42 = .ok (.aload_n 2, 1) := by decide +kernel
theorem dX8_record_43 : decode cX8_record 43 = .ok (.putfield 47, 3) := by decide +kernel
theorem dX8_record_46 : decode cX8_record 46 = .ok (.goto 11, 3) := by decide +kernel
theorem dX8_record_49 : decode cX8_record 49 = .ok (.aload_n 0, 1) := by decide +kernel
theorem dX8_record_50 : decode cX8_record 50 = .ok (.getfield 43, 3) := by decide +kernel
theorem dX8_record_53 : decode cX8_record 53 = .ok (.aload_n 2, 1) := by decide +kernel
theorem dX8_record_54 : decode cX8_record 54 = .ok (.putfield 50, 3) := by decide +kernel
theorem dX8_record_57 : decode cX8_record 57 = .ok (.aload_n 0, 1) := by decide +kernel
theorem dX8_record_58 : decode cX8_record 58 = .ok (.aload_n 2, 1) := by decide +kernel
theorem dX8_record_59 : decode cX8_record 59 = .ok (.putfield 43, 3) := by decide +kernel
theorem dX8_record_62 : decode cX8_record 62 = .ok (.aload_n 2, 1) := by decide +kernel
theorem dX8_record_63 : decode cX8_record 63 = .ok (.getfield 53, 3) := by decide +kernel
theorem dX8_record_66 : decode cX8_record 66 = .ok (.ireturn, 1) := by decide +kernel
theorem dX8_field_0 : decode cX8_field 0 = .ok (.aload_n 0, 1) := by decide +kernel
theorem dX8_field_1 : decode cX8_field 1 = .ok (.iload_n 1, 1) := by decide +kernel
theorem dX8_field_2 : decode cX8_field 2 = .ok (.invokevirtual 56, 3) := by decide +kernel
theorem dX8_field_5 : decode cX8_field 5 = .ok (.astore_n 3, 1) := by decide +kernel
theorem dX8_field_6 : decode cX8_field 6 = .ok (.aload_n 3, 1) := by decide +kernel
theorem dX8_field_7 : decode cX8_field 7 = .ok (.ifnull 23, 3) := by decide +kernel
theorem dX8_field_10 : decode cX8_field 10 = .ok (.iload_n 2, 1) := by decide +kernel
theorem dX8_field_11 : decode cX8_field 11 = .ok (.ifCond .lt 19, 3) := by decide +kernel
theorem dX8_field_14 : decode cX8_field 14 = .ok (.iload_n 2, 1) := by decide +kernel
theorem dX8_field_15 : decode cX8_field 15 = .ok (.bipush 9, 2) := by decide +kernel
theorem dX8_field_17 : decode cX8_field 17 = .ok (.if_icmp .gt 13, 3) := by decide +kernel
theorem dX8_field_20 : decode cX8_field 20 = .ok (.aload_n 0, 1) := by decide +kernel
theorem dX8_field_21 : decode cX8_field 21 = .ok (.getfield 60, 3) := by decide +kernel
theorem dX8_field_24 : decode cX8_field 24 = .ok (.sipush 200, 3) := by decide +kernel
theorem dX8_field_27 : decode cX8_field 27 = .ok (.if_icmp .lt 5, 3) := by decide +kernel
theorem dX8_field_30 : decode cX8_field 30 = .ok (.iconst 0, 1) := by decide +kernel
theorem dX8_field_31 : decode cX8_field 31 = .ok (.ireturn, 1) := by decide +kernel
theorem dX8_field_32 : decode cX8_field 32 = .ok (.aload_n 0, 1) := by decide +kernel
theorem dX8_field_33 : decode cX8_field 33 = .ok (.dup, 1) := by decide +kernel
theorem dX8_field_34 : decode cX8_field 34 = .ok (.getfield 60, 3) := by decide +kernel
theorem dX8_field_37 : decode cX8_field 37 = .ok (.iconst 1, 1) := by decide +kernel
theorem dX8_field_38 : decode cX8_field 38 = .ok (.iadd, 1) := by decide +kernel
theorem dX8_field_39 : decode cX8_field 39 = .ok (.putfield 60, 3) := by decide +kernel
theorem dX8_field_42 : decode cX8_field 42 = .ok (.new 63, 3) := by decide +kernel
theorem dX8_field_45 : decode cX8_field 45 = .ok (.dup, 1) := by decide +kernel
theorem dX8_field_46 : decode cX8_field 46 = .ok (.aload_n 0, 1) := by decide +kernel
theorem dX8_field_47 : decode cX8_field 47 = .ok (.getfield 60, 3) := by decide +kernel
theorem dX8_field_50 : decode cX8_field 50 = .ok (.iload_n 2, 1) := by decide +kernel
theorem dX8_field_51 : decode cX8_field 51 = .ok (.aload_n 3, 1) := by decide +kernel
theorem dX8_field_52 : decode cX8_field 52 = .ok (.invokespecial 65, 3) := by decide +kernel
theorem dX8_field_55 : decode cX8_field 55 = .ok (.astore 4, 2) := by decide +kernel
theorem dX8_field_57 : decode cX8_field 57 = .ok (.aload_n 0, 1) := by decide +kernel
theorem dX8_field_58 : decode cX8_field 58 = .ok (.getfield 68, 3) := by decide +kernel
theorem dX8_field_61 : decode cX8_field 61 = .ok (.ifnonnull 12, 3) := by decide +kernel
theorem dX8_field_64 : decode cX8_field 64 = .ok (.aload_n 0, 1) := by decide +kernel
theorem dX8_field_65 : decode cX8_field 65 = .ok (.aload 4, 2) := by decide +kernel
theorem dX8_field_67 : decode cX8_field 67 = .ok (.putfield 72, 3) := by decide +kernel
theorem dX8_field_70 : decode cX8_field 70 = .ok (.goto 12, 3) := by decide +kernel
theorem dX8_field_73 : decode cX8_field 73 = .ok (.aload_n 0, 1) := by decide +kernel
theorem dX8_field_74 : decode cX8_field 74 = .ok (.getfield 68, 3) := by decide +kernel
theorem dX8_field_77 : decode cX8_field 77 = .ok (.aload 4, 2) := by decide +kernel
theorem dX8_field_79 : decode cX8_field 79 = .ok (.putfield 75, 3) := by decide +kernel
theorem dX8_field_82 : decode cX8_field 82 = .ok (.aload_n 0, 1) := by decide +kernel
theorem dX8_field_83 : decode cX8_field 83 = .ok (.aload 4, 2) := by decide +kernel
theorem dX8_field_85 : decode cX8_field 85 = .ok (.putfield 68, 3) := by decide +kernel
theorem dX8_field_88 : decode cX8_field 88 = .ok (.aload 4, 2) := by decide +kernel
theorem dX8_field_90 : decode cX8_field 90 = .ok (.getfield 77, 3) := by decide +kernel
theorem dX8_field_93 : decode cX8_field 93 = .ok (.ireturn, 1) := by decide +kernel
theorem dX8_sign_0 : decode cX8_sign 0 = .ok (.aload_n 0, 1) := by decide +kernel
theorem dX8_sign_1 : decode cX8_sign 1 = .ok (.iload_n 1, 1) := by decide +kernel
theorem dX8_sign_2 : decode cX8_sign 2 = .ok (.invokevirtual 78, 3) := by decide +kernel
theorem dX8_sign_5 : decode cX8_sign 5 = .ok (.astore_n 3, 1) := by decide +kernel
theorem dX8_sign_6 : decode cX8_sign 6 = .ok (.aload_n 3, 1) := by decide +kernel
theorem dX8_sign_7 : decode cX8_sign 7 = .ok (.ifnull 13, 3) := by decide +kernel
theorem dX8_sign_10 : decode cX8_sign 10 = .ok (.aload_n 3, 1) := by decide +kernel
theorem dX8_sign_11 : decode cX8_sign 11 = .ok (.iload_n 2, 1) := by decide +kernel
theorem dX8_sign_12 : decode cX8_sign 12 = .ok (.sipush 255, 3) := by decide +kernel
theorem dX8_sign_15 : decode cX8_sign 15 = .ok (.iand, 1) := by decide +kernel
theorem dX8_sign_16 : decode cX8_sign 16 = .ok (.i2c, 1) := by decide +kernel
theorem dX8_sign_17 : decode cX8_sign 17 = .ok (.invokevirtual 82, 3) := by decide +kernel
theorem dX8_sign_20 : decode cX8_sign 20 = .ok (.return_, 1) := by decide +kernel
theorem dX8_isbn_0 : decode cX8_isbn 0 = .ok (.aload_n 0, 1) := by decide +kernel
theorem dX8_isbn_1 : decode cX8_isbn 1 = .ok (.iload_n 1, 1) := by decide +kernel
theorem dX8_isbn_2 : decode cX8_isbn 2 = .ok (.invokevirtual 56, 3) := by decide +kernel
theorem dX8_isbn_5 : decode cX8_isbn 5 = .ok (.astore_n 3, 1) := by decide +kernel
theorem dX8_isbn_6 : decode cX8_isbn 6 = .ok (.aload_n 3, 1) := by decide +kernel
theorem dX8_isbn_7 : decode cX8_isbn 7 = .ok (.ifnull 7, 3) := by decide +kernel
theorem dX8_isbn_10 : decode cX8_isbn 10 = .ok (.iload_n 2, 1) := by decide +kernel
theorem dX8_isbn_11 : decode cX8_isbn 11 = .ok (.ifCond .ge 5, 3) := by decide +kernel
theorem dX8_isbn_14 : decode cX8_isbn 14 = .ok (.iconst (-1), 1) := by decide +kernel
theorem dX8_isbn_15 : decode cX8_isbn 15 = .ok (.ireturn, 1) := by decide +kernel
theorem dX8_isbn_16 : decode cX8_isbn 16 = .ok (.iconst 0, 1) := by decide +kernel
theorem dX8_isbn_17 : decode cX8_isbn 17 = .ok (.istore 4, 2) := by decide +kernel
theorem dX8_isbn_19 : decode cX8_isbn 19 = .ok (.aload_n 0, 1) := by decide +kernel
theorem dX8_isbn_20 : decode cX8_isbn 20 = .ok (.getfield 72, 3) := by decide +kernel
theorem dX8_isbn_23 : decode cX8_isbn 23 = .ok (.astore 5, 2) := by decide +kernel
theorem dX8_isbn_25 : decode cX8_isbn 25 = .ok (.aload 5, 2) := by decide +kernel
theorem dX8_isbn_27 : decode cX8_isbn 27 = .ok (.ifnull 58, 3) := by decide +kernel
theorem dX8_isbn_30 : decode cX8_isbn 30 = .ok (.aload 5, 2) := by decide +kernel
theorem dX8_isbn_32 : decode cX8_isbn 32 = .ok (.getfield 86, 3) := by decide +kernel
theorem dX8_isbn_35 : decode cX8_isbn 35 = .ok (.iconst 2, 1) := by decide +kernel
theorem dX8_isbn_36 : decode cX8_isbn 36 = .ok (.if_icmp .ne 39, 3) := by decide +kernel
theorem dX8_isbn_39 : decode cX8_isbn 39 = .ok (.aload 5, 2) := by decide +kernel
theorem dX8_isbn_41 : decode cX8_isbn 41 = .ok (.aload_n 3, 1) := by decide +kernel
theorem dX8_isbn_42 : decode cX8_isbn 42 = .ok (.invokevirtual 89, 3) := by decide +kernel
theorem dX8_isbn_45 : decode cX8_isbn 45 = .ok (.ifCond .eq 30, 3) := by decide +kernel
theorem dX8_isbn_48 : decode cX8_isbn 48 = .ok (.iload 4, 2) := by decide +kernel
theorem dX8_isbn_50 : decode cX8_isbn 50 = .ok (.iload_n 2, 1) := by decide +kernel
theorem dX8_isbn_51 : decode cX8_isbn 51 = .ok (.if_icmp .ne 21, 3) := by decide +kernel
theorem dX8_isbn_54 : decode cX8_isbn 54 = .ok (.aload_n 0, 1) := by decide +kernel
theorem dX8_isbn_55 : decode cX8_isbn 55 = .ok (.getfield 16, 3) := by decide +kernel
theorem dX8_isbn_58 : decode cX8_isbn 58 = .ok (.aload 5, 2) := by decide +kernel
theorem dX8_isbn_60 : decode cX8_isbn 60 = .ok (.invokevirtual 93, 3) := by decide +kernel
theorem dX8_isbn_63 : decode cX8_isbn 63 = .ok (.ifCond .eq 7, 3) := by decide +kernel
theorem dX8_isbn_66 : decode cX8_isbn 66 = .ok (.iconst 1, 1) := by decide +kernel
theorem dX8_isbn_67 : decode cX8_isbn 67 = .ok (.goto 4, 3) := by decide +kernel
theorem dX8_isbn_70 : decode cX8_isbn 70 = .ok (.iconst 0, 1) := by decide +kernel
theorem dX8_isbn_71 : decode cX8_isbn 71 = .ok (.ireturn, 1) := by decide +kernel
theorem dX8_isbn_72 : decode cX8_isbn 72 = .ok (.iinc 4 1, 3) := by decide +kernel
theorem dX8_isbn_75 : decode cX8_isbn 75 = .ok (.aload 5, 2) := by decide +kernel
theorem dX8_isbn_77 : decode cX8_isbn 77 = .ok (.getfield 75, 3) := by decide +kernel
theorem dX8_isbn_80 : decode cX8_isbn 80 = .ok (.astore 5, 2) := by decide +kernel
theorem dX8_isbn_82 : decode cX8_isbn 82 = .ok (.goto (-57), 3) := by decide +kernel
theorem dX8_isbn_85 : decode cX8_isbn 85 = .ok (.iconst (-1), 1) := by decide +kernel
theorem dX8_isbn_86 : decode cX8_isbn 86 = .ok (.ireturn, 1) := by decide +kernel
theorem dX8_weight_0 : decode cX8_weight 0 = .ok (.iload_n 1, 1) := by decide +kernel
theorem dX8_weight_1 : decode cX8_weight 1 = .ok (.ifCond .lt 38, 3) := by decide +kernel
theorem dX8_weight_4 : decode cX8_weight 4 = .ok (.iload_n 1, 1) := by decide +kernel
theorem dX8_weight_5 : decode cX8_weight 5 = .ok (.iconst 5, 1) := by decide +kernel
theorem dX8_weight_6 : decode cX8_weight 6 = .ok (.if_icmp .ge 33, 3) := by decide +kernel
theorem dX8_weight_9 : decode cX8_weight 9 = .ok (.lload_n 2, 1) := by decide +kernel
theorem dX8_weight_10 : decode cX8_weight 10 = .ok (.lconst 0, 1) := by decide +kernel
theorem dX8_weight_11 : decode cX8_weight 11 = .ok (.lcmp, 1) := by decide +kernel
theorem dX8_weight_12 : decode cX8_weight 12 = .ok (.ifCond .lt 27, 3) := by decide +kernel
theorem dX8_weight_15 : decode cX8_weight 15 = .ok (.lload_n 2, 1) := by decide +kernel
theorem dX8_weight_16 : decode cX8_weight 16 = .ok (.ldc2_w 97, 3) := by decide +kernel
theorem dX8_weight_19 : decode cX8_weight 19 = .ok (.lcmp, 1) := by decide +kernel
theorem dX8_weight_20 : decode cX8_weight 20 = .ok (.ifCond .gt 19, 3) := by decide +kernel
theorem dX8_weight_23 : decode cX8_weight 23 = .ok (.lload 4, 2) := by decide +kernel
theorem dX8_weight_25 : decode cX8_weight 25 = .ok (.lconst 1, 1) := by decide +kernel
theorem dX8_weight_26 : decode cX8_weight 26 = .ok (.lcmp, 1) := by decide +kernel
theorem dX8_weight_27 : decode cX8_weight 27 = .ok (.ifCond .lt 12, 3) := by decide +kernel
theorem dX8_weight_30 : decode cX8_weight 30 = .ok (.lload 4, 2) := by decide +kernel
theorem dX8_weight_32 : decode cX8_weight 32 = .ok (.ldc2_w 99, 3) := by decide +kernel
theorem dX8_weight_35 : decode cX8_weight 35 = .ok (.lcmp, 1) := by decide +kernel
theorem dX8_weight_36 : decode cX8_weight 36 = .ok (.ifCond .le 5, 3) := by decide +kernel
theorem dX8_weight_39 : decode cX8_weight 39 = .ok (.iconst 0, 1) := by decide +kernel
theorem dX8_weight_40 : decode cX8_weight 40 = .ok (.ireturn, 1) := by decide +kernel
theorem dX8_weight_41 : decode cX8_weight 41 = .ok (.aload_n 0, 1) := by decide +kernel
theorem dX8_weight_42 : decode cX8_weight 42 = .ok (.getfield 30, 3) := by decide +kernel
theorem dX8_weight_45 : decode cX8_weight 45 = .ok (.iload_n 1, 1) := by decide +kernel
theorem dX8_weight_46 : decode cX8_weight 46 = .ok (.lload_n 2, 1) := by decide +kernel
theorem dX8_weight_47 : decode cX8_weight 47 = .ok (.lload 4, 2) := by decide +kernel
theorem dX8_weight_49 : decode cX8_weight 49 = .ok (.invokevirtual 101, 3) := by decide +kernel
theorem dX8_weight_52 : decode cX8_weight 52 = .ok (.iconst 1, 1) := by decide +kernel
theorem dX8_weight_53 : decode cX8_weight 53 = .ok (.ireturn, 1) := by decide +kernel
theorem dX8_score_0 : decode cX8_score 0 = .ok (.aload_n 0, 1) := by decide +kernel
theorem dX8_score_1 : decode cX8_score 1 = .ok (.iload_n 1, 1) := by decide +kernel
theorem dX8_score_2 : decode cX8_score 2 = .ok (.invokevirtual 56, 3) := by decide +kernel
theorem dX8_score_5 : decode cX8_score 5 = .ok (.astore 4, 2) := by decide +kernel
theorem dX8_score_7 : decode cX8_score 7 = .ok (.aload_n 0, 1) := by decide +kernel
theorem dX8_score_8 : decode cX8_score 8 = .ok (.iload_n 2, 1) := by decide +kernel
theorem dX8_score_9 : decode cX8_score 9 = .ok (.invokevirtual 56, 3) := by decide +kernel
theorem dX8_score_12 : decode cX8_score 12 = .ok (.astore 5, 2) := by decide +kernel
theorem dX8_score_14 : decode cX8_score 14 = .ok (.aload 4, 2) := by decide +kernel
theorem dX8_score_16 : decode cX8_score 16 = .ok (.ifnull 8, 3) := by decide +kernel
theorem dX8_score_19 : decode cX8_score 19 = .ok (.aload 5, 2) := by decide +kernel
theorem dX8_score_21 : decode cX8_score 21 = .ok (.ifnonnull 7, 3) := by decide +kernel
theorem dX8_score_24 : decode cX8_score 24 = .ok (.ldc2_w 105, 3) := by decide +kernel
theorem dX8_score_27 : decode cX8_score 27 = .ok (.lreturn, 1) := by decide +kernel
theorem dX8_score_28 : decode cX8_score 28 = .ok (.aload_n 0, 1) := by decide +kernel
theorem dX8_score_29 : decode cX8_score 29 = .ok (.getfield 30, 3) := by decide +kernel
theorem dX8_score_32 : decode cX8_score 32 = .ok (.invokevirtual 107, 3) := by decide +kernel
theorem dX8_score_35 : decode cX8_score 35 = .ok (.iconst 0, 1) := by decide +kernel
theorem dX8_score_36 : decode cX8_score 36 = .ok (.istore 6, 2) := by decide +kernel
theorem dX8_score_38 : decode cX8_score 38 = .ok (.iload 6, 2) := by decide +kernel
theorem dX8_score_40 : decode cX8_score 40 = .ok (.iconst 5, 1) := by decide +kernel
theorem dX8_score_41 : decode cX8_score 41 = .ok (.if_icmp .ge 34, 3) := by decide +kernel
theorem dX8_score_44 : decode cX8_score 44 = .ok (.aload_n 0, 1) := by decide +kernel
theorem dX8_score_45 : decode cX8_score 45 = .ok (.getfield 30, 3) := by decide +kernel
theorem dX8_score_48 : decode cX8_score 48 = .ok (.iload 6, 2) := by decide +kernel
theorem dX8_score_50 : decode cX8_score 50 = .ok (.aload_n 0, 1) := by decide +kernel
theorem dX8_score_51 : decode cX8_score 51 = .ok (.aload 4, 2) := by decide +kernel
theorem dX8_score_53 : decode cX8_score 53 = .ok (.iload 6, 2) := by decide +kernel
theorem dX8_score_55 : decode cX8_score 55 = .ok (.invokevirtual 110, 3) := by decide +kernel
theorem dX8_score_58 : decode cX8_score 58 = .ok (.aload_n 0, 1) := by decide +kernel
theorem dX8_score_59 : decode cX8_score 59 = .ok (.aload 5, 2) := by decide +kernel
theorem dX8_score_61 : decode cX8_score 61 = .ok (.iload 6, 2) := by decide +kernel
theorem dX8_score_63 : decode cX8_score 63 = .ok (.invokevirtual 110, 3) := by decide +kernel
theorem dX8_score_66 : decode cX8_score 66 = .ok (.invokevirtual 114, 3) := by decide +kernel
theorem dX8_score_69 : decode cX8_score 69 = .ok (.iinc 6 1, 3) := by decide +kernel
theorem dX8_score_72 : decode cX8_score 72 = .ok (.goto (-34), 3) := by decide +kernel
theorem dX8_score_75 : decode cX8_score 75 = .ok (.aload_n 0, 1) := by decide +kernel
theorem dX8_score_76 : decode cX8_score 76 = .ok (.getfield 30, 3) := by decide +kernel
theorem dX8_score_79 : decode cX8_score 79 = .ok (.invokevirtual 118, 3) := by decide +kernel
theorem dX8_score_82 : decode cX8_score 82 = .ok (.ifCond .ne 13, 3) := by decide +kernel
theorem dX8_score_85 : decode cX8_score 85 = .ok (.new 122, 3) := by decide +kernel
theorem dX8_score_88 : decode cX8_score 88 = .ok (.dup, 1) := by decide +kernel
theorem dX8_score_89 : decode cX8_score 89 = .ok (.ldc 124, 2) := by decide +kernel
theorem dX8_score_91 : decode cX8_score 91 = .ok (.invokespecial 126, 3) := by decide +kernel
theorem dX8_score_94 : decode cX8_score 94 = .ok (.athrow, 1) := by decide +kernel
theorem dX8_score_95 : decode cX8_score 95 = .ok (.iload_n 3, 1) := by decide +kernel
theorem dX8_score_96 : decode cX8_score 96 = .ok (.ifCond .ne 13, 3) := by decide +kernel
theorem dX8_score_99 : decode cX8_score 99 = .ok (.aload_n 0, 1) := by decide +kernel
theorem dX8_score_100 : decode cX8_score 100 = .ok (.getfield 30, 3) := by decide +kernel
theorem dX8_score_103 : decode cX8_score 103 = .ok (.invokevirtual 129, 3) := by decide +kernel
theorem dX8_score_106 : decode cX8_score 106 = .ok (.goto 10, 3) := by decide +kernel
theorem dX8_score_109 : decode cX8_score 109 = .ok (.aload_n 0, 1) := by decide +kernel
theorem dX8_score_110 : decode cX8_score 110 = .ok (.getfield 30, 3) := by decide +kernel
theorem dX8_score_113 : decode cX8_score 113 = .ok (.invokevirtual 133, 3) := by decide +kernel
theorem dX8_score_116 : decode cX8_score 116 = .ok (.lreturn, 1) := by decide +kernel
theorem dX8_candidates_0 : decode cX8_candidates 0 = .ok (.aload_n 0, 1) := by decide +kernel
theorem dX8_candidates_1 : decode cX8_candidates 1 = .ok (.iload_n 1, 1) := by decide +kernel
theorem dX8_candidates_2 : decode cX8_candidates 2 = .ok (.invokevirtual 56, 3) := by decide +kernel
theorem dX8_candidates_5 : decode cX8_candidates 5 = .ok (.astore_n 2, 1) := by decide +kernel
theorem dX8_candidates_6 : decode cX8_candidates 6 = .ok (.aload_n 2, 1) := by decide +kernel
theorem dX8_candidates_7 : decode cX8_candidates 7 = .ok (.ifnonnull 5, 3) := by decide +kernel
theorem dX8_candidates_10 : decode cX8_candidates 10 = .ok (.iconst (-1), 1) := by decide +kernel
theorem dX8_candidates_11 : decode cX8_candidates 11 = .ok (.ireturn, 1) := by decide +kernel
theorem dX8_candidates_12 : decode cX8_candidates 12 = .ok (.aload_n 0, 1) := by decide +kernel
theorem dX8_candidates_13 : decode cX8_candidates 13 = .ok (.aload_n 2, 1) := by decide +kernel
theorem dX8_candidates_14 : decode cX8_candidates 14 = .ok (.invokevirtual 136, 3) := by decide +kernel
theorem dX8_candidates_17 : decode cX8_candidates 17 = .ok (.aload_n 0, 1) := by decide +kernel
theorem dX8_candidates_18 : decode cX8_candidates 18 = .ok (.invokevirtual 140, 3) := by decide +kernel
theorem dX8_candidates_21 : decode cX8_candidates 21 = .ok (.aload_n 0, 1) := by decide +kernel
theorem dX8_candidates_22 : decode cX8_candidates 22 = .ok (.getfield 72, 3) := by decide +kernel
theorem dX8_candidates_25 : decode cX8_candidates 25 = .ok (.astore_n 3, 1) := by decide +kernel
theorem dX8_candidates_26 : decode cX8_candidates 26 = .ok (.aload_n 3, 1) := by decide +kernel
theorem dX8_candidates_27 : decode cX8_candidates 27 = .ok (.ifnull 40, 3) := by decide +kernel
theorem dX8_candidates_30 : decode cX8_candidates 30 = .ok (.aload_n 0, 1) := by decide +kernel
theorem dX8_candidates_31 : decode cX8_candidates 31 = .ok (.getfield 23, 3) := by decide +kernel
theorem dX8_candidates_34 : decode cX8_candidates 34 = .ok (.aload_n 0, 1) := by decide +kernel
theorem dX8_candidates_35 : decode cX8_candidates 35 = .ok (.getfield 16, 3) := by decide +kernel
theorem dX8_candidates_38 : decode cX8_candidates 38 = .ok (.aload_n 3, 1) := by decide +kernel
theorem dX8_candidates_39 : decode cX8_candidates 39 = .ok (.invokevirtual 143, 3) := by decide +kernel
theorem dX8_candidates_42 : decode cX8_candidates 42 = .ok (.invokevirtual 147, 3) := by decide +kernel
theorem dX8_candidates_45 : decode cX8_candidates 45 = .ok (.ifCond .eq 14, 3) := by decide +kernel
theorem dX8_candidates_48 : decode cX8_candidates 48 = .ok (.aload_n 3, 1) := by decide +kernel
theorem dX8_candidates_49 : decode cX8_candidates 49 = .ok (.getfield 151, 3) := by decide +kernel
theorem dX8_candidates_52 : decode cX8_candidates 52 = .ok (.invokevirtual 154, 3) := by decide +kernel
theorem dX8_candidates_55 : decode cX8_candidates 55 = .ok (.iconst 1, 1) := by decide +kernel
theorem dX8_candidates_56 : decode cX8_candidates 56 = .ok (.putfield 158, 3) := by decide +kernel
theorem dX8_candidates_59 : decode cX8_candidates 59 = .ok (.aload_n 3, 1) := by decide +kernel
theorem dX8_candidates_60 : decode cX8_candidates 60 = .ok (.getfield 75, 3) := by decide +kernel
theorem dX8_candidates_63 : decode cX8_candidates 63 = .ok (.astore_n 3, 1) := by decide +kernel
theorem dX8_candidates_64 : decode cX8_candidates 64 = .ok (.goto (-38), 3) := by decide +kernel
theorem dX8_candidates_67 : decode cX8_candidates 67 = .ok (.aload_n 2, 1) := by decide +kernel
theorem dX8_candidates_68 : decode cX8_candidates 68 = .ok (.iconst 0, 1) := by decide +kernel
theorem dX8_candidates_69 : decode cX8_candidates 69 = .ok (.putfield 158, 3) := by decide +kernel
theorem dX8_candidates_72 : decode cX8_candidates 72 = .ok (.aload_n 0, 1) := by decide +kernel
theorem dX8_candidates_73 : decode cX8_candidates 73 = .ok (.invokevirtual 162, 3) := by decide +kernel
theorem dX8_candidates_76 : decode cX8_candidates 76 = .ok (.aload_n 0, 1) := by decide +kernel
theorem dX8_candidates_77 : decode cX8_candidates 77 = .ok (.getfield 165, 3) := by decide +kernel
theorem dX8_candidates_80 : decode cX8_candidates 80 = .ok (.ireturn, 1) := by decide +kernel
theorem dX8_at_0 : decode cX8_at 0 = .ok (.iload_n 1, 1) := by decide +kernel
theorem dX8_at_1 : decode cX8_at 1 = .ok (.ifCond .lt 29, 3) := by decide +kernel
theorem dX8_at_4 : decode cX8_at 4 = .ok (.iload_n 1, 1) := by decide +kernel
theorem dX8_at_5 : decode cX8_at 5 = .ok (.aload_n 0, 1) := by decide +kernel
theorem dX8_at_6 : decode cX8_at 6 = .ok (.getfield 165, 3) := by decide +kernel
theorem dX8_at_9 : decode cX8_at 9 = .ok (.if_icmp .ge 21, 3) := by decide +kernel
theorem dX8_at_12 : decode cX8_at 12 = .ok (.iload_n 1, 1) := by decide +kernel
theorem dX8_at_13 : decode cX8_at 13 = .ok (.aload_n 0, 1) := by decide +kernel
theorem dX8_at_14 : decode cX8_at 14 = .ok (.getfield 9, 3) := by decide +kernel
theorem dX8_at_17 : decode cX8_at 17 = .ok (.arraylength, 1) := by decide +kernel
theorem dX8_at_18 : decode cX8_at 18 = .ok (.if_icmp .ge 12, 3) := by decide +kernel
theorem dX8_at_21 : decode cX8_at 21 = .ok (.aload_n 0, 1) := by decide +kernel
theorem dX8_at_22 : decode cX8_at 22 = .ok (.getfield 9, 3) := by decide +kernel
theorem dX8_at_25 : decode cX8_at 25 = .ok (.iload_n 1, 1) := by decide +kernel
theorem dX8_at_26 : decode cX8_at 26 = .ok (.iaload, 1) := by decide +kernel
theorem dX8_at_27 : decode cX8_at 27 = .ok (.goto 4, 3) := by decide +kernel
theorem dX8_at_30 : decode cX8_at 30 = .ok (.iconst (-1), 1) := by decide +kernel
theorem dX8_at_31 : decode cX8_at 31 = .ok (.ireturn, 1) := by decide +kernel
theorem dX8_merge_0 : decode cX8_merge 0 = .ok (.aload_n 0, 1) := by decide +kernel
theorem dX8_merge_1 : decode cX8_merge 1 = .ok (.iload_n 1, 1) := by decide +kernel
theorem dX8_merge_2 : decode cX8_merge 2 = .ok (.invokevirtual 56, 3) := by decide +kernel
theorem dX8_merge_5 : decode cX8_merge 5 = .ok (.astore_n 3, 1) := by decide +kernel
theorem dX8_merge_6 : decode cX8_merge 6 = .ok (.aload_n 0, 1) := by decide +kernel
theorem dX8_merge_7 : decode cX8_merge 7 = .ok (.iload_n 2, 1) := by decide +kernel
theorem dX8_merge_8 : decode cX8_merge 8 = .ok (.invokevirtual 56, 3) := by decide +kernel
theorem dX8_merge_11 : decode cX8_merge 11 = .ok (.astore 4, 2) := by decide +kernel
theorem dX8_merge_13 : decode cX8_merge 13 = .ok (.aload_n 3, 1) := by decide +kernel
theorem dX8_merge_14 : decode cX8_merge 14 = .ok (.ifnull 29, 3) := by decide +kernel
theorem dX8_merge_17 : decode cX8_merge 17 = .ok (.aload 4, 2) := by decide +kernel
theorem dX8_merge_19 : decode cX8_merge 19 = .ok (.ifnull 24, 3) := by decide +kernel
theorem dX8_merge_22 : decode cX8_merge 22 = .ok (.aload_n 3, 1) := by decide +kernel
theorem dX8_merge_23 : decode cX8_merge 23 = .ok (.aload 4, 2) := by decide +kernel
theorem dX8_merge_25 : decode cX8_merge 25 = .ok (.if_acmp .eq 18, 3) := by decide +kernel
theorem dX8_merge_28 : decode cX8_merge 28 = .ok (.aload_n 3, 1) := by decide +kernel
theorem dX8_merge_29 : decode cX8_merge 29 = .ok (.getfield 168, 3) := by decide +kernel
theorem dX8_merge_32 : decode cX8_merge 32 = .ok (.ifCond .eq 13, 3) := by decide +kernel
theorem dX8_merge_35 : decode cX8_merge 35 = .ok (.aload 4, 2) := by decide +kernel
theorem dX8_merge_37 : decode cX8_merge 37 = .ok (.getfield 168, 3) := by decide +kernel
theorem dX8_merge_40 : decode cX8_merge 40 = .ok (.ifCond .eq 5, 3) := by decide +kernel
theorem dX8_merge_43 : decode cX8_merge 43 = .ok (.iconst 0, 1) := by decide +kernel
theorem dX8_merge_44 : decode cX8_merge 44 = .ok (.ireturn, 1) := by decide +kernel
theorem dX8_merge_45 : decode cX8_merge 45 = .ok (.aload_n 3, 1) := by decide +kernel
theorem dX8_merge_46 : decode cX8_merge 46 = .ok (.aload 4, 2) := by decide +kernel
theorem dX8_merge_48 : decode cX8_merge 48 = .ok (.invokevirtual 171, 3) := by decide +kernel
theorem dX8_merge_51 : decode cX8_merge 51 = .ok (.ifCond .eq 14, 3) := by decide +kernel
theorem dX8_merge_54 : decode cX8_merge 54 = .ok (.aload_n 3, 1) := by decide +kernel
theorem dX8_merge_55 : decode cX8_merge 55 = .ok (.aload 4, 2) := by decide +kernel
theorem dX8_merge_57 : decode cX8_merge 57 = .ok (.invokevirtual 174, 3) := by decide +kernel
theorem dX8_merge_60 : decode cX8_merge 60 = .ok (.aload_n 3, 1) := by decide +kernel
theorem dX8_merge_61 : decode cX8_merge 61 = .ok (.getfield 53, 3) := by decide +kernel
theorem dX8_merge_64 : decode cX8_merge 64 = .ok (.ireturn, 1) := by decide +kernel
theorem dX8_merge_65 : decode cX8_merge 65 = .ok (.aload 4, 2) := by decide +kernel
theorem dX8_merge_67 : decode cX8_merge 67 = .ok (.aload_n 3, 1) := by decide +kernel
theorem dX8_merge_68 : decode cX8_merge 68 = .ok (.invokevirtual 174, 3) := by decide +kernel
theorem dX8_merge_71 : decode cX8_merge 71 = .ok (.aload 4, 2) := by decide +kernel
theorem dX8_merge_73 : decode cX8_merge 73 = .ok (.getfield 53, 3) := by decide +kernel
theorem dX8_merge_76 : decode cX8_merge 76 = .ok (.ireturn, 1) := by decide +kernel
theorem dX8_winner_0 : decode cX8_winner 0 = .ok (.aload_n 0, 1) := by decide +kernel
theorem dX8_winner_1 : decode cX8_winner 1 = .ok (.iload_n 1, 1) := by decide +kernel
theorem dX8_winner_2 : decode cX8_winner 2 = .ok (.invokevirtual 56, 3) := by decide +kernel
theorem dX8_winner_5 : decode cX8_winner 5 = .ok (.astore_n 3, 1) := by decide +kernel
theorem dX8_winner_6 : decode cX8_winner 6 = .ok (.aload_n 0, 1) := by decide +kernel
theorem dX8_winner_7 : decode cX8_winner 7 = .ok (.iload_n 2, 1) := by decide +kernel
theorem dX8_winner_8 : decode cX8_winner 8 = .ok (.invokevirtual 78, 3) := by decide +kernel
theorem dX8_winner_11 : decode cX8_winner 11 = .ok (.astore 4, 2) := by decide +kernel
theorem dX8_winner_13 : decode cX8_winner 13 = .ok (.aload_n 3, 1) := by decide +kernel
theorem dX8_winner_14 : decode cX8_winner 14 = .ok (.ifnull 17, 3) := by decide +kernel
theorem dX8_winner_17 : decode cX8_winner 17 = .ok (.aload 4, 2) := by decide +kernel
theorem dX8_winner_19 : decode cX8_winner 19 = .ok (.ifnull 12, 3) := by decide +kernel
theorem dX8_winner_22 : decode cX8_winner 22 = .ok (.aload 4, 2) := by decide +kernel
theorem dX8_winner_24 : decode cX8_winner 24 = .ok (.aload_n 3, 1) := by decide +kernel
theorem dX8_winner_25 : decode cX8_winner 25 = .ok (.invokevirtual 89, 3) := by decide +kernel
theorem dX8_winner_28 : decode cX8_winner 28 = .ok (.ifCond .ne 5, 3) := by decide +kernel
theorem dX8_winner_31 : decode cX8_winner 31 = .ok (.iconst 0, 1) := by decide +kernel
theorem dX8_winner_32 : decode cX8_winner 32 = .ok (.ireturn, 1) := by decide +kernel
theorem dX8_winner_33 : decode cX8_winner 33 = .ok (.aload 4, 2) := by decide +kernel
theorem dX8_winner_35 : decode cX8_winner 35 = .ok (.astore 5, 2) := by decide +kernel
theorem dX8_winner_37 : decode cX8_winner 37 = .ok (.aload_n 0, 1) := by decide +kernel
theorem dX8_winner_38 : decode cX8_winner 38 = .ok (.getfield 72, 3) := by decide +kernel
theorem dX8_winner_41 : decode cX8_winner 41 = .ok (.astore 6, 2) := by decide +kernel
theorem dX8_winner_43 : decode cX8_winner 43 = .ok (.aload 6, 2) := by decide +kernel
theorem dX8_winner_45 : decode cX8_winner 45 = .ok (.ifnull 49, 3) := by decide +kernel
theorem dX8_winner_48 : decode cX8_winner 48 = .ok (.aload 6, 2) := by decide +kernel
theorem dX8_winner_50 : decode cX8_winner 50 = .ok (.getfield 86, 3) := by decide +kernel
theorem dX8_winner_53 : decode cX8_winner 53 = .ok (.aload 4, 2) := by decide +kernel
theorem dX8_winner_55 : decode cX8_winner 55 = .ok (.getfield 86, 3) := by decide +kernel
theorem dX8_winner_58 : decode cX8_winner 58 = .ok (.if_icmp .ne 26, 3) := by decide +kernel
theorem dX8_winner_61 : decode cX8_winner 61 = .ok (.aload 6, 2) := by decide +kernel
theorem dX8_winner_63 : decode cX8_winner 63 = .ok (.aload_n 3, 1) := by decide +kernel
theorem dX8_winner_64 : decode cX8_winner 64 = .ok (.invokevirtual 89, 3) := by decide +kernel
theorem dX8_winner_67 : decode cX8_winner 67 = .ok (.ifCond .eq 17, 3) := by decide +kernel
theorem dX8_winner_70 : decode cX8_winner 70 = .ok (.aload 6, 2) := by decide +kernel
theorem dX8_winner_72 : decode cX8_winner 72 = .ok (.aload 5, 2) := by decide +kernel
theorem dX8_winner_74 : decode cX8_winner 74 = .ok (.invokevirtual 177, 3) := by decide +kernel
theorem dX8_winner_77 : decode cX8_winner 77 = .ok (.ifCond .eq 7, 3) := by decide +kernel
theorem dX8_winner_80 : decode cX8_winner 80 = .ok (.aload 6, 2) := by decide +kernel
theorem dX8_winner_82 : decode cX8_winner 82 = .ok (.astore 5, 2) := by decide +kernel
theorem dX8_winner_84 : decode cX8_winner 84 = .ok (.aload 6, 2) := by decide +kernel
theorem dX8_winner_86 : decode cX8_winner 86 = .ok (.getfield 75, 3) := by decide +kernel
theorem dX8_winner_89 : decode cX8_winner 89 = .ok (.astore 6, 2) := by decide +kernel
theorem dX8_winner_91 : decode cX8_winner 91 = .ok (.goto (-48), 3) := by decide +kernel
theorem dX8_winner_94 : decode cX8_winner 94 = .ok (.aload 5, 2) := by decide +kernel
theorem dX8_winner_96 : decode cX8_winner 96 = .ok (.getfield 77, 3) := by decide +kernel
theorem dX8_winner_99 : decode cX8_winner 99 = .ok (.ireturn, 1) := by decide +kernel
theorem dX8_undo_0 : decode cX8_undo 0 = .ok (.aload_n 0, 1) := by decide +kernel
theorem dX8_undo_1 : decode cX8_undo 1 = .ok (.iload_n 1, 1) := by decide +kernel
theorem dX8_undo_2 : decode cX8_undo 2 = .ok (.invokevirtual 56, 3) := by decide +kernel
theorem dX8_undo_5 : decode cX8_undo 5 = .ok (.astore_n 2, 1) := by decide +kernel
theorem dX8_undo_6 : decode cX8_undo 6 = .ok (.aload_n 2, 1) := by decide +kernel
theorem dX8_undo_7 : decode cX8_undo 7 = .ok (.ifnull 14, 3) := by decide +kernel
theorem dX8_undo_10 : decode cX8_undo 10 = .ok (.aload_n 2, 1) := by decide +kernel
theorem dX8_undo_11 : decode cX8_undo 11 = .ok (.invokevirtual 180, 3) := by decide +kernel
theorem dX8_undo_14 : decode cX8_undo 14 = .ok (.ifCond .eq 7, 3) := by decide +kernel
theorem dX8_undo_17 : decode cX8_undo 17 = .ok (.iconst 1, 1) := by decide +kernel
theorem dX8_undo_18 : decode cX8_undo 18 = .ok (.goto 4, 3) := by decide +kernel
theorem dX8_undo_21 : decode cX8_undo 21 = .ok (.iconst 0, 1) := by decide +kernel
theorem dX8_undo_22 : decode cX8_undo 22 = .ok (.ireturn, 1) := by decide +kernel
theorem dX8_locked_0 : decode cX8_locked 0 = .ok (.aload_n 0, 1) := by decide +kernel
theorem dX8_locked_1 : decode cX8_locked 1 = .ok (.iload_n 1, 1) := by decide +kernel
theorem dX8_locked_2 : decode cX8_locked 2 = .ok (.invokevirtual 183, 3) := by decide +kernel
theorem dX8_locked_5 : decode cX8_locked 5 = .ok (.astore_n 3, 1) := by decide +kernel
theorem dX8_locked_6 : decode cX8_locked 6 = .ok (.aload_n 3, 1) := by decide +kernel
theorem dX8_locked_7 : decode cX8_locked 7 = .ok (.ifnonnull 5, 3) := by decide +kernel
theorem dX8_locked_10 : decode cX8_locked 10 = .ok (.iconst (-1), 1) := by decide +kernel
theorem dX8_locked_11 : decode cX8_locked 11 = .ok (.ireturn, 1) := by decide +kernel
theorem dX8_locked_12 : decode cX8_locked 12 = .ok (.aload_n 3, 1) := by decide +kernel
theorem dX8_locked_13 : decode cX8_locked 13 = .ok (.getfield 168, 3) := by decide +kernel
theorem dX8_locked_16 : decode cX8_locked 16 = .ok (.istore 4, 2) := by decide +kernel
theorem dX8_locked_18 : decode cX8_locked 18 = .ok (.aload_n 3, 1) := by decide +kernel
theorem dX8_locked_19 : decode cX8_locked 19 = .ok (.iload_n 2, 1) := by decide +kernel
theorem dX8_locked_20 : decode cX8_locked 20 = .ok (.putfield 168, 3) := by decide +kernel
theorem dX8_locked_23 : decode cX8_locked 23 = .ok (.iload 4, 2) := by decide +kernel
theorem dX8_locked_25 : decode cX8_locked 25 = .ok (.ifCond .eq 7, 3) := by decide +kernel
theorem dX8_locked_28 : decode cX8_locked 28 = .ok (.iconst 1, 1) := by decide +kernel
theorem dX8_locked_29 : decode cX8_locked 29 = .ok (.goto 4, 3) := by decide +kernel
theorem dX8_locked_32 : decode cX8_locked 32 = .ok (.iconst 0, 1) := by decide +kernel
theorem dX8_locked_33 : decode cX8_locked 33 = .ok (.ireturn, 1) := by decide +kernel
theorem dX8_index_0 : decode cX8_index 0 = .ok (.aload_n 0, 1) := by decide +kernel
theorem dX8_index_1 : decode cX8_index 1 = .ok (.iload_n 1, 1) := by decide +kernel
theorem dX8_index_2 : decode cX8_index 2 = .ok (.invokevirtual 183, 3) := by decide +kernel
theorem dX8_index_5 : decode cX8_index 5 = .ok (.astore_n 3, 1) := by decide +kernel
theorem dX8_index_6 : decode cX8_index 6 = .ok (.aload_n 3, 1) := by decide +kernel
theorem dX8_index_7 : decode cX8_index 7 = .ok (.ifnonnull 5, 3) := by decide +kernel
theorem dX8_index_10 : decode cX8_index 10 = .ok (.iconst (-1), 1) := by decide +kernel
theorem dX8_index_11 : decode cX8_index 11 = .ok (.ireturn, 1) := by decide +kernel
theorem dX8_index_12 : decode cX8_index 12 = .ok (.aload_n 0, 1) := by decide +kernel
theorem dX8_index_13 : decode cX8_index 13 = .ok (.aload_n 3, 1) := by decide +kernel
theorem dX8_index_14 : decode cX8_index 14 = .ok (.invokevirtual 136, 3) := by decide +kernel
theorem dX8_index_17 : decode cX8_index 17 = .ok (.aload_n 0, 1) := by decide +kernel
theorem dX8_index_18 : decode cX8_index 18 = .ok (.getfield 23, 3) := by decide +kernel
theorem dX8_index_21 : decode cX8_index 21 = .ok (.iload_n 2, 1) := by decide +kernel
theorem dX8_index_22 : decode cX8_index 22 = .ok (.invokevirtual 186, 3) := by decide +kernel
theorem dX8_index_25 : decode cX8_index 25 = .ok (.ifCond .ne 13, 3) := by decide +kernel
theorem dX8_index_28 : decode cX8_index 28 = .ok (.new 190, 3) := by decide +kernel
theorem dX8_index_31 : decode cX8_index 31 = .ok (.dup, 1) := by decide +kernel
theorem dX8_index_32 : decode cX8_index 32 = .ok (.ldc 192, 2) := by decide +kernel
theorem dX8_index_34 : decode cX8_index 34 = .ok (.invokespecial 194, 3) := by decide +kernel
theorem dX8_index_37 : decode cX8_index 37 = .ok (.athrow, 1) := by decide +kernel
theorem dX8_index_38 : decode cX8_index 38 = .ok (.aload_n 0, 1) := by decide +kernel
theorem dX8_index_39 : decode cX8_index 39 = .ok (.aload_n 0, 1) := by decide +kernel
theorem dX8_index_40 : decode cX8_index 40 = .ok (.getfield 23, 3) := by decide +kernel
theorem dX8_index_43 : decode cX8_index 43 = .ok (.iload_n 2, 1) := by decide +kernel
theorem dX8_index_44 : decode cX8_index 44 = .ok (.invokevirtual 195, 3) := by decide +kernel
theorem dX8_index_47 : decode cX8_index 47 = .ok (.invokevirtual 199, 3) := by decide +kernel
theorem dX8_index_50 : decode cX8_index 50 = .ok (.ireturn, 1) := by decide +kernel
theorem dX8_bookOf_0 : decode cX8_bookOf 0 = .ok (.aload_n 0, 1) := by decide +kernel
theorem dX8_bookOf_1 : decode cX8_bookOf 1 = .ok (.getfield 47, 3) := by decide +kernel
theorem dX8_bookOf_4 : decode cX8_bookOf 4 = .ok (.astore_n 2, 1) := by decide +kernel
theorem dX8_bookOf_5 : decode cX8_bookOf 5 = .ok (.aload_n 2, 1) := by decide +kernel
theorem dX8_bookOf_6 : decode cX8_bookOf 6 = .ok (.ifnull 21, 3) := by decide +kernel
theorem dX8_bookOf_9 : decode cX8_bookOf 9 = .ok (.aload_n 2, 1) := by decide +kernel
theorem dX8_bookOf_10 : decode cX8_bookOf 10 = .ok (.getfield 53, 3) := by decide +kernel
theorem dX8_bookOf_13 : decode cX8_bookOf 13 = .ok (.iload_n 1, 1) := by decide +kernel
theorem dX8_bookOf_14 : decode cX8_bookOf 14 = .ok (.if_icmp .ne 5, 3) := by decide +kernel
theorem dX8_bookOf_17 : decode cX8_bookOf 17 = .ok (.aload_n 2, 1) := by decide +kernel
theorem dX8_bookOf_18 : decode cX8_bookOf 18 = .ok (.areturn, 1) := by decide +kernel
theorem dX8_bookOf_19 : decode cX8_bookOf 19 = .ok (.aload_n 2, 1) := by decide +kernel
theorem dX8_bookOf_20 : decode cX8_bookOf 20 = .ok (.getfield 50, 3) := by decide +kernel
theorem dX8_bookOf_23 : decode cX8_bookOf 23 = .ok (.astore_n 2, 1) := by decide +kernel
theorem dX8_bookOf_24 : decode cX8_bookOf 24 = .ok (.goto (-19), 3) := by decide +kernel
theorem dX8_bookOf_27 : decode cX8_bookOf 27 = .ok (.aconst_null, 1) := by decide +kernel
theorem dX8_bookOf_28 : decode cX8_bookOf 28 = .ok (.areturn, 1) := by decide +kernel
theorem dX8_standingBook_0 : decode cX8_standingBook 0 = .ok (.aload_n 0, 1) := by decide +kernel
theorem dX8_standingBook_1 : decode cX8_standingBook 1 = .ok (.iload_n 1, 1) := by decide +kernel
theorem dX8_standingBook_2 : decode cX8_standingBook 2 = .ok (.invokevirtual 183, 3) := by decide +kernel
theorem dX8_standingBook_5 : decode cX8_standingBook 5 = .ok (.astore_n 2, 1) := by decide +kernel
theorem dX8_standingBook_6 : decode cX8_standingBook 6 = .ok (.aload_n 2, 1) := by decide +kernel
theorem dX8_standingBook_7 : decode cX8_standingBook 7 = .ok (.ifnull 14, 3) := by decide +kernel
theorem dX8_standingBook_10 : decode cX8_standingBook 10 = .ok (.aload_n 2, 1) := by decide +kernel
theorem dX8_standingBook_11 : decode cX8_standingBook 11 = .ok (.getfield 203, 3) := by decide +kernel
theorem dX8_standingBook_14 : decode cX8_standingBook 14 = .ok (.ifnonnull 7, 3) := by decide +kernel
theorem dX8_standingBook_17 : decode cX8_standingBook 17 = .ok (.aload_n 2, 1) := by decide +kernel
theorem dX8_standingBook_18 : decode cX8_standingBook 18 = .ok (.goto 4, 3) := by decide +kernel
theorem dX8_standingBook_21 : decode cX8_standingBook 21 = .ok (.aconst_null, 1) := by decide +kernel
theorem dX8_standingBook_22 : decode cX8_standingBook 22 = .ok (.areturn, 1) := by decide +kernel
theorem dX8_textOf_0 : decode cX8_textOf 0 = .ok (.aload_n 0, 1) := by decide +kernel
theorem dX8_textOf_1 : decode cX8_textOf 1 = .ok (.getfield 72, 3) := by decide +kernel
theorem dX8_textOf_4 : decode cX8_textOf 4 = .ok (.astore_n 2, 1) := by decide +kernel
theorem dX8_textOf_5 : decode cX8_textOf 5 = .ok (.aload_n 2, 1) := by decide +kernel
theorem dX8_textOf_6 : decode cX8_textOf 6 = .ok (.ifnull 21, 3) := by decide +kernel
theorem dX8_textOf_9 : decode cX8_textOf 9 = .ok (.aload_n 2, 1) := by decide +kernel
theorem dX8_textOf_10 : decode cX8_textOf 10 = .ok (.getfield 77, 3) := by decide +kernel
theorem dX8_textOf_13 : decode cX8_textOf 13 = .ok (.iload_n 1, 1) := by decide +kernel
theorem dX8_textOf_14 : decode cX8_textOf 14 = .ok (.if_icmp .ne 5, 3) := by decide +kernel
theorem dX8_textOf_17 : decode cX8_textOf 17 = .ok (.aload_n 2, 1) := by decide +kernel
theorem dX8_textOf_18 : decode cX8_textOf 18 = .ok (.areturn, 1) := by decide +kernel
theorem dX8_textOf_19 : decode cX8_textOf 19 = .ok (.aload_n 2, 1) := by decide +kernel
theorem dX8_textOf_20 : decode cX8_textOf 20 = .ok (.getfield 75, 3) := by decide +kernel
theorem dX8_textOf_23 : decode cX8_textOf 23 = .ok (.astore_n 2, 1) := by decide +kernel
theorem dX8_textOf_24 : decode cX8_textOf 24 = .ok (.goto (-19), 3) := by decide +kernel
theorem dX8_textOf_27 : decode cX8_textOf 27 = .ok (.aconst_null, 1) := by decide +kernel
theorem dX8_textOf_28 : decode cX8_textOf 28 = .ok (.areturn, 1) := by decide +kernel
theorem dX8_firstTextOf_0 : decode cX8_firstTextOf 0 = .ok (.aload_n 0, 1) := by decide +kernel
theorem dX8_firstTextOf_1 : decode cX8_firstTextOf 1 = .ok (.getfield 72, 3) := by decide +kernel
theorem dX8_firstTextOf_4 : decode cX8_firstTextOf 4 = .ok (.astore_n 3, 1) := by decide +kernel
theorem dX8_firstTextOf_5 : decode cX8_firstTextOf 5 = .ok (.aload_n 3, 1) := by decide +kernel
theorem dX8_firstTextOf_6 : decode cX8_firstTextOf 6 = .ok (.ifnull 29, 3) := by decide +kernel
theorem dX8_firstTextOf_9 : decode cX8_firstTextOf 9 = .ok (.aload_n 3, 1) := by decide +kernel
theorem dX8_firstTextOf_10 : decode cX8_firstTextOf 10 = .ok (.getfield 86, 3) := by decide +kernel
theorem dX8_firstTextOf_13 : decode cX8_firstTextOf 13 = .ok (.iload_n 2, 1) := by decide +kernel
theorem dX8_firstTextOf_14 : decode cX8_firstTextOf 14 = .ok (.if_icmp .ne 13, 3) := by decide +kernel
theorem dX8_firstTextOf_17 : decode cX8_firstTextOf 17 = .ok (.aload_n 3, 1) := by decide +kernel
theorem dX8_firstTextOf_18 : decode cX8_firstTextOf 18 = .ok (.aload_n 1, 1) := by decide +kernel
theorem dX8_firstTextOf_19 : decode cX8_firstTextOf 19 = .ok (.invokevirtual 89, 3) := by decide +kernel
theorem dX8_firstTextOf_22 : decode cX8_firstTextOf 22 = .ok (.ifCond .eq 5, 3) := by decide +kernel
theorem dX8_firstTextOf_25 : decode cX8_firstTextOf 25 = .ok (.aload_n 3, 1) := by decide +kernel
theorem dX8_firstTextOf_26 : decode cX8_firstTextOf 26 = .ok (.areturn, 1) := by decide +kernel
theorem dX8_firstTextOf_27 : decode cX8_firstTextOf 27 = .ok (.aload_n 3, 1) := by decide +kernel
theorem dX8_firstTextOf_28 : decode cX8_firstTextOf 28 = .ok (.getfield 75, 3) := by decide +kernel
theorem dX8_firstTextOf_31 : decode cX8_firstTextOf 31 = .ok (.astore_n 3, 1) := by decide +kernel
theorem dX8_firstTextOf_32 : decode cX8_firstTextOf 32 = .ok (.goto (-27), 3) := by decide +kernel
theorem dX8_firstTextOf_35 : decode cX8_firstTextOf 35 = .ok (.aconst_null, 1) := by decide +kernel
theorem dX8_firstTextOf_36 : decode cX8_firstTextOf 36 = .ok (.areturn, 1) := by decide +kernel
theorem dX8_collectKeys_0 : decode cX8_collectKeys 0 = .ok (.aload_n 0, 1) := by decide +kernel
theorem dX8_collectKeys_1 : decode cX8_collectKeys 1 = .ok (.getfield 23, 3) := by decide +kernel
theorem dX8_collectKeys_4 : decode cX8_collectKeys 4 = .ok (.invokevirtual 206, 3) := by decide +kernel
theorem dX8_collectKeys_7 : decode cX8_collectKeys 7 = .ok (.aload_n 0, 1) := by decide +kernel
theorem dX8_collectKeys_8 : decode cX8_collectKeys 8 = .ok (.getfield 72, 3) := by decide +kernel
theorem dX8_collectKeys_11 : decode cX8_collectKeys 11 = .ok (.astore_n 2, 1) := by decide +kernel
theorem dX8_collectKeys_12 : decode cX8_collectKeys 12 = .ok (.aload_n 2, 1) := by decide +kernel
theorem dX8_collectKeys_13 : decode cX8_collectKeys 13 = .ok (.ifnull 34, 3) := by decide +kernel
theorem dX8_collectKeys_16 : decode cX8_collectKeys 16 = .ok (.aload_n 2, 1) := by decide +kernel
theorem dX8_collectKeys_17 : decode cX8_collectKeys 17 = .ok (.aload_n 1, 1) := by decide +kernel
theorem dX8_collectKeys_18 : decode cX8_collectKeys 18 = .ok (.invokevirtual 89, 3) := by decide +kernel
theorem dX8_collectKeys_21 : decode cX8_collectKeys 21 = .ok (.ifCond .eq 18, 3) := by decide +kernel
theorem dX8_collectKeys_24 : decode cX8_collectKeys 24 = .ok (.aload_n 0, 1) := by decide +kernel
theorem dX8_collectKeys_25 : decode cX8_collectKeys 25 = .ok (.getfield 23, 3) := by decide +kernel
theorem dX8_collectKeys_28 : decode cX8_collectKeys 28 = .ok (.aload_n 0, 1) := by decide +kernel
theorem dX8_collectKeys_29 : decode cX8_collectKeys 29 = .ok (.getfield 16, 3) := by decide +kernel
theorem dX8_collectKeys_32 : decode cX8_collectKeys 32 = .ok (.aload_n 2, 1) := by decide +kernel
theorem dX8_collectKeys_33 : decode cX8_collectKeys 33 = .ok (.invokevirtual 143, 3) := by decide +kernel
theorem dX8_collectKeys_36 : decode cX8_collectKeys 36 = .ok (.invokevirtual 207, 3) := by decide +kernel
theorem dX8_collectKeys_39 : decode cX8_collectKeys 39 = .ok (.aload_n 2, 1) := by decide +kernel
theorem dX8_collectKeys_40 : decode cX8_collectKeys 40 = .ok (.getfield 75, 3) := by decide +kernel
theorem dX8_collectKeys_43 : decode cX8_collectKeys 43 = .ok (.astore_n 2, 1) := by decide +kernel
theorem dX8_collectKeys_44 : decode cX8_collectKeys 44 = .ok (.goto (-32), 3) := by decide +kernel
theorem dX8_collectKeys_47 : decode cX8_collectKeys 47 = .ok (.return_, 1) := by decide +kernel
theorem dX8_countHolders_0 : decode cX8_countHolders 0 = .ok (.aload_n 0, 1) := by decide +kernel
theorem dX8_countHolders_1 : decode cX8_countHolders 1 = .ok (.invokevirtual 140, 3) := by decide +kernel
theorem dX8_countHolders_4 : decode cX8_countHolders 4 = .ok (.iconst 0, 1) := by decide +kernel
theorem dX8_countHolders_5 : decode cX8_countHolders 5 = .ok (.istore_n 3, 1) := by decide +kernel
theorem dX8_countHolders_6 : decode cX8_countHolders 6 = .ok (.aload_n 0, 1) := by decide +kernel
theorem dX8_countHolders_7 : decode cX8_countHolders 7 = .ok (.getfield 72, 3) := by decide +kernel
theorem dX8_countHolders_10 : decode cX8_countHolders 10 = .ok (.astore 4, 2) := by decide +kernel
theorem dX8_countHolders_12 : decode cX8_countHolders 12 = .ok (.aload 4, 2) := by decide +kernel
theorem dX8_countHolders_14 : decode cX8_countHolders 14 = .ok (.ifnull 54, 3) := by decide +kernel
theorem dX8_countHolders_17 : decode cX8_countHolders 17 = .ok (.aload 4, 2) := by decide +kernel
theorem dX8_countHolders_19 : decode cX8_countHolders 19 = .ok (.getfield 151, 3) := by decide +kernel
theorem dX8_countHolders_22 : decode cX8_countHolders 22 = .ok (.invokevirtual 154, 3) := by decide +kernel
theorem dX8_countHolders_25 : decode cX8_countHolders 25 = .ok (.astore 5, 2) := by decide +kernel
theorem dX8_countHolders_27 : decode cX8_countHolders 27 = .ok (.aload 5, 2) := by decide +kernel
theorem dX8_countHolders_29 : decode cX8_countHolders 29 = .ok (.getfield 158, 3) := by decide +kernel
theorem dX8_countHolders_32 : decode cX8_countHolders 32 = .ok (.ifCond .ne 26, 3) := by decide +kernel
theorem dX8_countHolders_35 : decode cX8_countHolders 35 = .ok (.aload_n 0, 1) := by decide +kernel
theorem dX8_countHolders_36 : decode cX8_countHolders 36 = .ok (.getfield 16, 3) := by decide +kernel
theorem dX8_countHolders_39 : decode cX8_countHolders 39 = .ok (.aload 4, 2) := by decide +kernel
theorem dX8_countHolders_41 : decode cX8_countHolders 41 = .ok (.invokevirtual 143, 3) := by decide +kernel
theorem dX8_countHolders_44 : decode cX8_countHolders 44 = .ok (.lload_n 1, 1) := by decide +kernel
theorem dX8_countHolders_45 : decode cX8_countHolders 45 = .ok (.lcmp, 1) := by decide +kernel
theorem dX8_countHolders_46 : decode cX8_countHolders 46 = .ok (.ifCond .ne 12, 3) := by decide +kernel
theorem dX8_countHolders_49 : decode cX8_countHolders 49 = .ok (.aload 5, 2) := by decide +kernel
theorem dX8_countHolders_51 : decode cX8_countHolders 51 = .ok (.iconst 1, 1) := by decide +kernel
theorem dX8_countHolders_52 : decode cX8_countHolders 52 = .ok (.putfield 158, 3) := by decide +kernel
theorem dX8_countHolders_55 : decode cX8_countHolders 55 = .ok (.iinc 3 1, 3) := by decide +kernel
theorem dX8_countHolders_58 : decode cX8_countHolders 58 = .ok (.aload 4, 2) := by decide +kernel
theorem dX8_countHolders_60 : decode cX8_countHolders 60 = .ok (.getfield 75, 3) := by decide +kernel
theorem dX8_countHolders_63 : decode cX8_countHolders 63 = .ok (.astore 4, 2) := by decide +kernel
theorem dX8_countHolders_65 : decode cX8_countHolders 65 = .ok (.goto (-53), 3) := by decide +kernel
theorem dX8_countHolders_68 : decode cX8_countHolders 68 = .ok (.iload_n 3, 1) := by decide +kernel
theorem dX8_countHolders_69 : decode cX8_countHolders 69 = .ok (.ireturn, 1) := by decide +kernel
theorem dX8_clearMarks_0 : decode cX8_clearMarks 0 = .ok (.aload_n 0, 1) := by decide +kernel
theorem dX8_clearMarks_1 : decode cX8_clearMarks 1 = .ok (.getfield 47, 3) := by decide +kernel
theorem dX8_clearMarks_4 : decode cX8_clearMarks 4 = .ok (.astore_n 1, 1) := by decide +kernel
theorem dX8_clearMarks_5 : decode cX8_clearMarks 5 = .ok (.aload_n 1, 1) := by decide +kernel
theorem dX8_clearMarks_6 : decode cX8_clearMarks 6 = .ok (.ifnull 16, 3) := by decide +kernel
theorem dX8_clearMarks_9 : decode cX8_clearMarks 9 = .ok (.aload_n 1, 1) := by decide +kernel
theorem dX8_clearMarks_10 : decode cX8_clearMarks 10 = .ok (.iconst 0, 1) := by decide +kernel
theorem dX8_clearMarks_11 : decode cX8_clearMarks 11 = .ok (.putfield 158, 3) := by decide +kernel
theorem dX8_clearMarks_14 : decode cX8_clearMarks 14 = .ok (.aload_n 1, 1) := by decide +kernel
theorem dX8_clearMarks_15 : decode cX8_clearMarks 15 = .ok (.getfield 50, 3) := by decide +kernel
theorem dX8_clearMarks_18 : decode cX8_clearMarks 18 = .ok (.astore_n 1, 1) := by decide +kernel
theorem dX8_clearMarks_19 : decode cX8_clearMarks 19 = .ok (.goto (-14), 3) := by decide +kernel
theorem dX8_clearMarks_22 : decode cX8_clearMarks 22 = .ok (.return_, 1) := by decide +kernel
theorem dX8_listMarked_0 : decode cX8_listMarked 0 = .ok (.aload_n 0, 1) := by decide +kernel
theorem dX8_listMarked_1 : decode cX8_listMarked 1 = .ok (.iconst 0, 1) := by decide +kernel
theorem dX8_listMarked_2 : decode cX8_listMarked 2 = .ok (.putfield 165, 3) := by decide +kernel
theorem dX8_listMarked_5 : decode cX8_listMarked 5 = .ok (.aload_n 0, 1) := by decide +kernel
theorem dX8_listMarked_6 : decode cX8_listMarked 6 = .ok (.getfield 47, 3) := by decide +kernel
theorem dX8_listMarked_9 : decode cX8_listMarked 9 = .ok (.astore_n 1, 1) := by decide +kernel
theorem dX8_listMarked_10 : decode cX8_listMarked 10 = .ok (.aload_n 1, 1) := by decide +kernel
theorem dX8_listMarked_11 : decode cX8_listMarked 11 = .ok (.ifnull 53, 3) := by decide +kernel
theorem dX8_listMarked_14 : decode cX8_listMarked 14 = .ok (.aload_n 1, 1) := by decide +kernel
theorem dX8_listMarked_15 : decode cX8_listMarked 15 = .ok (.getfield 158, 3) := by decide +kernel
theorem dX8_listMarked_18 : decode cX8_listMarked 18 = .ok (.ifCond .eq 38, 3) := by decide +kernel
theorem dX8_listMarked_21 : decode cX8_listMarked 21 = .ok (.aload_n 0, 1) := by decide +kernel
theorem dX8_listMarked_22 : decode cX8_listMarked 22 = .ok (.getfield 165, 3) := by decide +kernel
theorem dX8_listMarked_25 : decode cX8_listMarked 25 = .ok (.aload_n 0, 1) := by decide +kernel
theorem dX8_listMarked_26 : decode cX8_listMarked 26 = .ok (.getfield 9, 3) := by decide +kernel
theorem dX8_listMarked_29 : decode cX8_listMarked 29 = .ok (.arraylength, 1) := by decide +kernel
theorem dX8_listMarked_30 : decode cX8_listMarked 30 = .ok (.if_icmp .ge 26, 3) := by decide +kernel
theorem dX8_listMarked_33 : decode cX8_listMarked 33 = .ok (.aload_n 0, 1) := by decide +kernel
theorem dX8_listMarked_34 : decode cX8_listMarked 34 = .ok (.getfield 9, 3) := by decide +kernel
theorem dX8_listMarked_37 : decode cX8_listMarked 37 = .ok (.aload_n 0, 1) := by decide +kernel
theorem dX8_listMarked_38 : decode cX8_listMarked 38 = .ok (.getfield 165, 3) := by decide +kernel
theorem dX8_listMarked_41 : decode cX8_listMarked 41 = .ok (.aload_n 1, 1) := by decide +kernel
theorem dX8_listMarked_42 : decode cX8_listMarked 42 = .ok (.getfield 53, 3) := by decide +kernel
theorem dX8_listMarked_45 : decode cX8_listMarked 45 = .ok (.iastore, 1) := by decide +kernel
theorem dX8_listMarked_46 : decode cX8_listMarked 46 = .ok (.aload_n 0, 1) := by decide +kernel
theorem dX8_listMarked_47 : decode cX8_listMarked 47 = .ok (.dup, 1) := by decide +kernel
theorem dX8_listMarked_48 : decode cX8_listMarked 48 = .ok (.getfield 165, 3) := by decide +kernel
theorem dX8_listMarked_51 : decode cX8_listMarked 51 = .ok (.iconst 1, 1) := by decide +kernel
theorem dX8_listMarked_52 : decode cX8_listMarked 52 = .ok (.iadd, 1) := by decide +kernel
theorem dX8_listMarked_53 : decode cX8_listMarked 53 = .ok (.putfield 165, 3) := by decide +kernel
theorem dX8_listMarked_56 : decode cX8_listMarked 56 = .ok (.aload_n 1, 1) := by decide +kernel
theorem dX8_listMarked_57 : decode cX8_listMarked 57 = .ok (.getfield 50, 3) := by decide +kernel
theorem dX8_listMarked_60 : decode cX8_listMarked 60 = .ok (.astore_n 1, 1) := by decide +kernel
theorem dX8_listMarked_61 : decode cX8_listMarked 61 = .ok (.goto (-51), 3) := by decide +kernel
theorem dX8_listMarked_64 : decode cX8_listMarked 64 = .ok (.return_, 1) := by decide +kernel
