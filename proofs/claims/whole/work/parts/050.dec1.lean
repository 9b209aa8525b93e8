theorem dX0_init_0 : decode cX0_init 0 = .ok (.aload_n 0, 1) := by decide +kernel
theorem dX0_init_1 : decode cX0_init 1 = .ok (.invokespecial 1, 3) := by decide +kernel
theorem dX0_init_4 : decode cX0_init 4 = .ok (.aload_n 0, 1) := by decide +kernel
theorem dX0_init_5 : decode cX0_init 5 = .ok (.iload_n 1, 1) := by decide +kernel
theorem dX0_init_6 : decode cX0_init 6 = .ok (.putfield 7, 3) := by decide +kernel
theorem dX0_init_9 : decode cX0_init 9 = .ok (.aload_n 0, 1) := by decide +kernel
theorem dX0_init_10 : decode cX0_init 10 = .ok (.iload_n 2, 1) := by decide +kernel
theorem dX0_init_11 : decode cX0_init 11 = .ok (.putfield 13, 3) := by decide +kernel
theorem dX0_init_14 : decode cX0_init 14 = .ok (.return_, 1) := by decide +kernel
theorem dX0_outermost_0 : decode cX0_outermost 0 = .ok (.aload_n 0, 1) := by decide +kernel
theorem dX0_outermost_1 : decode cX0_outermost 1 = .ok (.astore_n 1, 1) := by decide +kernel
theorem dX0_outermost_2 : decode cX0_outermost 2 = .ok (.aload_n 1, 1) := by decide +kernel
theorem dX0_outermost_3 : decode cX0_outermost 3 = .ok (.getfield 16, 3) := by decide +kernel
theorem dX0_outermost_6 : decode cX0_outermost 6 = .ok (.ifnull 11, 3) := by decide +kernel
theorem dX0_outermost_9 : decode cX0_outermost 9 = .ok (.aload_n 1, 1) := by decide +kernel
theorem dX0_outermost_10 : decode cX0_outermost 10 = .ok (.getfield 16, 3) := by decide +kernel
theorem dX0_outermost_13 : decode cX0_outermost 13 = .ok (.astore_n 1, 1) := by decide +kernel
theorem dX0_outermost_14 : decode cX0_outermost 14 = .ok (.goto (-12), 3) := by decide +kernel
theorem dX0_outermost_17 : decode cX0_outermost 17 = .ok (.aload_n 1, 1) := by decide +kernel
theorem dX0_outermost_18 : decode cX0_outermost 18 = .ok (.areturn, 1) := by decide +kernel
theorem dX0_leads_0 : decode cX0_leads 0 = .ok (.aload_n 0, 1) := by decide +kernel
theorem dX0_leads_1 : decode cX0_leads 1 = .ok (.getfield 13, 3) := by decide +kernel
theorem dX0_leads_4 : decode cX0_leads 4 = .ok (.aload_n 1, 1) := by decide +kernel
theorem dX0_leads_5 : decode cX0_leads 5 = .ok (.getfield 13, 3) := by decide +kernel
theorem dX0_leads_8 : decode cX0_leads 8 = .ok (.if_icmp .gt 25, 3) := by decide +kernel
theorem dX0_leads_11 : decode cX0_leads 11 = .ok (.aload_n 0, 1) := by decide +kernel
theorem dX0_leads_12 : decode cX0_leads 12 = .ok (.getfield 13, 3) := by decide +kernel
theorem dX0_leads_15 : decode cX0_leads 15 = .ok (.aload_n 1, 1) := by decide +kernel
theorem dX0_leads_16 : decode cX0_leads 16 = .ok (.getfield 13, 3) := by decide +kernel
theorem dX0_leads_19 : decode cX0_leads 19 = .ok (.if_icmp .ne 18, 3) := by decide +kernel
theorem dX0_leads_22 : decode cX0_leads 22 = .ok (.aload_n 0, 1) := by decide +kernel
theorem dX0_leads_23 : decode cX0_leads 23 = .ok (.getfield 7, 3) := by decide +kernel
theorem dX0_leads_26 : decode cX0_leads 26 = .ok (.aload_n 1, 1) := by decide +kernel
theorem dX0_leads_27 : decode cX0_leads 27 = .ok (.getfield 7, 3) := by decide +kernel
theorem dX0_leads_30 : decode cX0_leads 30 = .ok (.if_icmp .ge 7, 3) := by decide +kernel
theorem dX0_leads_33 : decode cX0_leads 33 = .ok (.iconst 1, 1) := by decide +kernel
theorem dX0_leads_34 : decode cX0_leads 34 = .ok (.goto 4, 3) := by decide +kernel
theorem dX0_leads_37 : decode cX0_leads 37 = .ok (.iconst 0, 1) := by decide +kernel
theorem dX0_leads_38 : decode cX0_leads 38 = .ok (.ireturn, 1) := by decide +kernel
theorem dX0_take_0 : decode cX0_take 0 = .ok (.aload_n 1, 1) := by decide +kernel
theorem dX0_take_1 : decode cX0_take 1 = .ok (.aload_n 0, 1) := by decide +kernel
theorem dX0_take_2 : decode cX0_take 2 = .ok (.putfield 16, 3) := by decide +kernel
theorem dX0_take_5 : decode cX0_take 5 = .ok (.aload_n 1, 1) := by decide +kernel
theorem dX0_take_6 : decode cX0_take 6 = .ok (.aload_n 0, 1) := by decide +kernel
theorem dX0_take_7 : decode cX0_take 7 = .ok (.getfield 20, 3) := by decide +kernel
theorem dX0_take_10 : decode cX0_take 10 = .ok (.putfield 23, 3) := by decide +kernel
theorem dX0_take_13 : decode cX0_take 13 = .ok (.aload_n 0, 1) := by decide +kernel
theorem dX0_take_14 : decode cX0_take 14 = .ok (.aload_n 1, 1) := by decide +kernel
theorem dX0_take_15 : decode cX0_take 15 = .ok (.putfield 20, 3) := by decide +kernel
theorem dX0_take_18 : decode cX0_take 18 = .ok (.return_, 1) := by decide +kernel
theorem dX0_giveBackLatest_0 : decode cX0_giveBackLatest 0 = .ok (.aload_n 0, 1) := by decide +kernel
theorem dX0_giveBackLatest_1 : decode cX0_giveBackLatest 1 = .ok (.getfield 20, 3) := by decide +kernel
theorem dX0_giveBackLatest_4 : decode cX0_giveBackLatest 4 = .ok (.astore_n 1, 1) := by decide +kernel
theorem dX0_giveBackLatest_5 : decode cX0_giveBackLatest 5 = .ok (.aload_n 1, 1) := by decide +kernel
theorem dX0_giveBackLatest_6 : decode cX0_giveBackLatest 6 = .ok (.ifnonnull 5, 3) := by decide +kernel
theorem dX0_giveBackLatest_9 : decode cX0_giveBackLatest 9 = .ok (.iconst 0, 1) := by decide +kernel
theorem dX0_giveBackLatest_10 : decode cX0_giveBackLatest 10 = .ok (.ireturn, 1) := by decide +kernel
theorem dX0_giveBackLatest_11 : decode cX0_giveBackLatest 11 = .ok (.aload_n 0, 1) := by decide +kernel
theorem dX0_giveBackLatest_12 : decode cX0_giveBackLatest 12 = .ok (.aload_n 1, 1) := by decide +kernel
theorem dX0_giveBackLatest_13 : decode cX0_giveBackLatest 13 = .ok (.getfield 23, 3) := by decide +kernel
theorem dX0_giveBackLatest_16 : decode cX0_giveBackLatest 16 = .ok (.putfield 20, 3) := by decide +kernel
theorem dX0_giveBackLatest_19 : decode cX0_giveBackLatest 19 = .ok (.aload_n 1, 1) := by decide +kernel
theorem dX0_giveBackLatest_20 : decode cX0_giveBackLatest 20 = .ok (.aconst_null, 1) := by decide +kernel
theorem dX0_giveBackLatest_21 : decode cX0_giveBackLatest 21 = .ok (.putfield 23, 3) := by decide +kernel
theorem dX0_giveBackLatest_24 : decode cX0_giveBackLatest 24 = .ok (.aload_n 1, 1) := by decide +kernel
theorem dX0_giveBackLatest_25 : decode cX0_giveBackLatest 25 = .ok (.aconst_null, 1) := by decide +kernel
theorem dX0_giveBackLatest_26 : decode cX0_giveBackLatest 26 = .ok (.putfield 16, 3) := by decide +kernel
theorem dX0_giveBackLatest_29 : decode cX0_giveBackLatest 29 = .ok (.iconst 1, 1) := by decide +kernel
theorem dX0_giveBackLatest_30 : decode cX0_giveBackLatest 30 = .ok (.ireturn, 1) := by decide +kernel
theorem dX1_init_0 : decode cX1_init 0 = .ok (.aload_n 0, 1) := by decide +kernel
theorem dX1_init_1 : decode cX1_init 1 = .ok (.invokespecial 3, 3) := by decide +kernel
theorem dX1_init_4 : decode cX1_init 4 = .ok (.aload_n 0, 1) := by decide +kernel
theorem dX1_init_5 : decode cX1_init 5 = .ok (.bipush 13, 2) := by decide +kernel
theorem dX1_init_7 : decode cX1_init 7 = .ok (.newarray .int, 2) := by decide +kernel
theorem dX1_init_9 : decode cX1_init 9 = .ok (.putfield 11, 3) := by decide +kernel
theorem dX1_init_12 : decode cX1_init 12 = .ok (.return_, 1) := by decide +kernel
theorem dX1_formOf_0 : decode cX1_formOf 0 = .ok (.aload_n 0, 1) := by decide +kernel
theorem dX1_formOf_1 : decode cX1_formOf 1 = .ok (.aload_n 1, 1) := by decide +kernel
theorem dX1_formOf_2 : decode cX1_formOf 2 = .ok (.invokevirtual 15, 3) := by decide +kernel
theorem dX1_formOf_5 : decode cX1_formOf 5 = .ok (.aload_n 0, 1) := by decide +kernel
theorem dX1_formOf_6 : decode cX1_formOf 6 = .ok (.getfield 19, 3) := by decide +kernel
theorem dX1_formOf_9 : decode cX1_formOf 9 = .ok (.bipush 10, 2) := by decide +kernel
theorem dX1_formOf_11 : decode cX1_formOf 11 = .ok (.if_icmp .ne 15, 3) := by decide +kernel
theorem dX1_formOf_14 : decode cX1_formOf 14 = .ok (.aload_n 0, 1) := by decide +kernel
theorem dX1_formOf_15 : decode cX1_formOf 15 = .ok (.invokevirtual 23, 3) := by decide +kernel
theorem dX1_formOf_18 : decode cX1_formOf 18 = .ok (.ifCond .eq 8, 3) := by decide +kernel
theorem dX1_formOf_21 : decode cX1_formOf 21 = .ok (.aload_n 0, 1) := by decide +kernel
theorem dX1_formOf_22 : decode cX1_formOf 22 = .ok (.invokevirtual 27, 3) := by decide +kernel
theorem dX1_formOf_25 : decode cX1_formOf 25 = .ok (.lreturn, 1) := by decide +kernel
theorem dX1_formOf_26 : decode cX1_formOf 26 = .ok (.aload_n 0, 1) := by decide +kernel
theorem dX1_formOf_27 : decode cX1_formOf 27 = .ok (.getfield 19, 3) := by decide +kernel
theorem dX1_formOf_30 : decode cX1_formOf 30 = .ok (.bipush 13, 2) := by decide +kernel
theorem dX1_formOf_32 : decode cX1_formOf 32 = .ok (.if_icmp .ne 24, 3) := by decide +kernel
theorem dX1_formOf_35 : decode cX1_formOf 35 = .ok (.aload_n 0, 1) := by decide +kernel
theorem dX1_formOf_36 : decode cX1_formOf 36 = .ok (.getfield 31, 3) := by decide +kernel
theorem dX1_formOf_39 : decode cX1_formOf 39 = .ok (.ifCond .ne 17, 3) := by decide +kernel
theorem dX1_formOf_42 : decode cX1_formOf 42 = .ok (.aload_n 0, 1) := by decide +kernel
theorem dX1_formOf_43 : decode cX1_formOf 43 = .ok (.invokevirtual 35, 3) := by decide +kernel
theorem dX1_formOf_46 : decode cX1_formOf 46 = .ok (.ifCond .eq 10, 3) := by decide +kernel
theorem dX1_formOf_49 : decode cX1_formOf 49 = .ok (.aload_n 0, 1) := by decide +kernel
theorem dX1_formOf_50 : decode cX1_formOf 50 = .ok (.invokevirtual 38, 3) := by decide +kernel
theorem dX1_formOf_53 : decode cX1_formOf 53 = .ok (.goto 6, 3) := by decide +kernel
theorem dX1_formOf_56 : decode cX1_formOf 56 = .ok (.ldc2_w 41, 3) := by decide +kernel
theorem dX1_formOf_59 : decode cX1_formOf 59 = .ok (.lreturn, 1) := by decide +kernel
theorem dX1_read_0 : decode cX1_read 0 = .ok (.aload_n 0, 1) := by decide +kernel
theorem dX1_read_1 : decode cX1_read 1 = .ok (.iconst 0, 1) := by decide +kernel
theorem dX1_read_2 : decode cX1_read 2 = .ok (.putfield 19, 3) := by decide +kernel
theorem dX1_read_5 : decode cX1_read 5 = .ok (.aload_n 0, 1) := by decide +kernel
theorem dX1_read_6 : decode cX1_read 6 = .ok (.iconst 0, 1) := by decide +kernel
theorem dX1_read_7 : decode cX1_read 7 = .ok (.putfield 31, 3) := by decide +kernel
theorem dX1_read_10 : decode cX1_read 10 = .ok (.iconst 0, 1) := by decide +kernel
theorem dX1_read_11 : decode cX1_read 11 = .ok (.istore_n 2, 1) := by decide +kernel
theorem dX1_read_12 : decode cX1_read 12 = .ok (.iload_n 2, 1) := by decide +kernel
theorem dX1_read_13 : decode cX1_read 13 = .ok (.aload_n 1, 1) := by decide +kernel
theorem dX1_read_14 : decode cX1_read 14 = .ok (.getfield 43, 3) := by decide +kernel
theorem dX1_read_17 : decode cX1_read 17 = .ok (.if_icmp .ge 60, 3) := by decide +kernel
theorem dX1_read_20 : decode cX1_read 20 = .ok (.iload_n 2, 1) := by decide +kernel
theorem dX1_read_21 : decode cX1_read 21 = .ok (.bipush 60, 2) := by decide +kernel
theorem dX1_read_23 : decode cX1_read 23 = .ok (.if_icmp .ge 54, 3) := by decide +kernel
theorem dX1_read_26 : decode cX1_read 26 = .ok (.aload_n 0, 1) := by decide +kernel
theorem dX1_read_27 : decode cX1_read 27 = .ok (.aload_n 1, 1) := by decide +kernel
theorem dX1_read_28 : decode cX1_read 28 = .ok (.getfield 48, 3) := by decide +kernel
theorem dX1_read_31 : decode cX1_read 31 = .ok (.iload_n 2, 1) := by decide +kernel
theorem dX1_read_32 : decode cX1_read 32 = .ok (.caload, 1) := by decide +kernel
theorem dX1_read_33 : decode cX1_read 33 = .ok (.invokevirtual 52, 3) := by decide +kernel
theorem dX1_read_36 : decode cX1_read 36 = .ok (.istore_n 3, 1) := by decide +kernel
theorem dX1_read_37 : decode cX1_read 37 = .ok (.iload_n 3, 1) := by decide +kernel
theorem dX1_read_38 : decode cX1_read 38 = .ok (.iconst (-1), 1) := by decide +kernel
theorem dX1_read_39 : decode cX1_read 39 = .ok (.if_icmp .eq 32, 3) := by decide +kernel
theorem dX1_read_42 : decode cX1_read 42 = .ok (.aload_n 0, 1) := by decide +kernel
theorem dX1_read_43 : decode cX1_read 43 = .ok (.getfield 19, 3) := by decide +kernel
theorem dX1_read_46 : decode cX1_read 46 = .ok (.bipush 13, 2) := by decide +kernel
theorem dX1_read_48 : decode cX1_read 48 = .ok (.if_icmp .ge 13, 3) := by decide +kernel
theorem dX1_read_51 : decode cX1_read 51 = .ok (.aload_n 0, 1) := by decide +kernel
theorem dX1_read_52 : decode cX1_read 52 = .ok (.getfield 11, 3) := by decide +kernel
theorem dX1_read_55 : decode cX1_read 55 = .ok (.aload_n 0, 1) := by decide +kernel
theorem dX1_read_56 : decode cX1_read 56 = .ok (.getfield 19, 3) := by decide +kernel
theorem dX1_read_59 : decode cX1_read 59 = .ok (.iload_n 3, 1) := by decide +kernel
theorem dX1_read_60 : decode cX1_read 60 = .ok (.iastore, 1) := by decide +kernel
theorem dX1_read_61 : decode cX1_read 61 = .ok (.aload_n 0, 1) := by decide +kernel
theorem dX1_read_62 : decode cX1_read 62 = .ok (.dup, 1) := by decide +kernel
theorem dX1_read_63 : decode cX1_read 63 = .ok (.getfield 19, 3) := by decide +kernel
theorem dX1_read_66 : decode cX1_read 66 = .ok (.iconst 1, 1) := by decide +kernel
theorem dX1_read_67 : decode cX1_read 67 = .ok (.iadd, 1) := by decide +kernel
theorem dX1_read_68 : decode cX1_read 68 = .ok (.putfield 19, 3) := by decide +kernel
theorem dX1_read_71 : decode cX1_read 71 = .ok (.iinc 2 1, 3) := by decide +kernel
theorem dX1_read_74 : decode cX1_read 74 = .ok (.goto (-62), 3) := by decide +kernel
theorem dX1_read_77 : decode cX1_read 77 = .ok (.return_, 1) := by decide +kernel
theorem dX1_valueOf_0 : decode cX1_valueOf 0 = .ok (.iload_n 1, 1) := by decide +kernel
theorem dX1_valueOf_1 : decode cX1_valueOf 1 = .ok (.invokestatic 56, 3) := by decide +kernel
theorem dX1_valueOf_4 : decode cX1_valueOf 4 = .ok (.ifCond .eq 8, 3) := by decide +kernel
theorem dX1_valueOf_7 : decode cX1_valueOf 7 = .ok (.iload_n 1, 1) := by decide +kernel
theorem dX1_valueOf_8 : decode cX1_valueOf 8 = .ok (.bipush 48, 2) := by decide +kernel
theorem dX1_valueOf_10 : decode cX1_valueOf 10 = .ok (.isub, 1) := by decide +kernel
theorem dX1_valueOf_11 : decode cX1_valueOf 11 = .ok (.ireturn, 1) := by decide +kernel
theorem dX1_valueOf_12 : decode cX1_valueOf 12 = .ok (.iload_n 1, 1) := by decide +kernel
theorem dX1_valueOf_13 : decode cX1_valueOf 13 = .ok (.invokestatic 62, 3) := by decide +kernel
theorem dX1_valueOf_16 : decode cX1_valueOf 16 = .ok (.ifCond .eq 20, 3) := by decide +kernel
theorem dX1_valueOf_19 : decode cX1_valueOf 19 = .ok (.aload_n 0, 1) := by decide +kernel
theorem dX1_valueOf_20 : decode cX1_valueOf 20 = .ok (.getfield 19, 3) := by decide +kernel
theorem dX1_valueOf_23 : decode cX1_valueOf 23 = .ok (.bipush 9, 2) := by decide +kernel
theorem dX1_valueOf_25 : decode cX1_valueOf 25 = .ok (.if_icmp .ne 11, 3) := by decide +kernel
theorem dX1_valueOf_28 : decode cX1_valueOf 28 = .ok (.aload_n 0, 1) := by decide +kernel
theorem dX1_valueOf_29 : decode cX1_valueOf 29 = .ok (.iconst 1, 1) := by decide +kernel
theorem dX1_valueOf_30 : decode cX1_valueOf 30 = .ok (.putfield 31, 3) := by decide +kernel
theorem dX1_valueOf_33 : decode cX1_valueOf 33 = .ok (.bipush 10, 2) := by decide +kernel
theorem dX1_valueOf_35 : decode cX1_valueOf 35 = .ok (.ireturn, 1) := by decide +kernel
theorem dX1_valueOf_36 : decode cX1_valueOf 36 = .ok (.iconst (-1), 1) := by decide +kernel
theorem dX1_valueOf_37 : decode cX1_valueOf 37 = .ok (.ireturn, 1) := by decide +kernel
theorem dX1_isShortRight_0 : decode cX1_isShortRight 0 = .ok (.iconst 0, 1) := by decide +kernel
theorem dX1_isShortRight_1 : decode cX1_isShortRight 1 = .ok (.istore_n 1, 1) := by decide +kernel
theorem dX1_isShortRight_2 : decode cX1_isShortRight 2 = .ok (.iconst 0, 1) := by decide +kernel
theorem dX1_isShortRight_3 : decode cX1_isShortRight 3 = .ok (.istore_n 2, 1) := by decide +kernel
theorem dX1_isShortRight_4 : decode cX1_isShortRight 4 = .ok (.iload_n 2, 1) := by decide +kernel
theorem dX1_isShortRight_5 : decode cX1_isShortRight 5 = .ok (.bipush 10, 2) := by decide +kernel
theorem dX1_isShortRight_7 : decode cX1_isShortRight 7 = .ok (.if_icmp .ge 23, 3) := by decide +kernel
theorem dX1_isShortRight_10 : decode cX1_isShortRight 10 = .ok (.iload_n 1, 1) := by decide +kernel
theorem dX1_isShortRight_11 : decode cX1_isShortRight 11 = .ok (.aload_n 0, 1) := by decide +kernel
theorem dX1_isShortRight_12 : decode cX1_isShortRight 12 = .ok (.getfield 11, 3) := by decide +kernel
theorem dX1_isShortRight_15 : decode cX1_isShortRight 15 = .ok (.iload_n 2, 1) := by decide +kernel
theorem dX1_isShortRight_16 : decode cX1_isShortRight 16 = .ok (.iaload, 1) := by decide +kernel
theorem dX1_isShortRight_17 : decode cX1_isShortRight 17 = .ok (.bipush 10, 2) := by decide +kernel
theorem dX1_isShortRight_19 : decode cX1_isShortRight 19 = .ok (.iload_n 2, 1) := by decide +kernel
theorem dX1_isShortRight_20 : decode cX1_isShortRight 20 = .ok (.isub, 1) := by decide +kernel
theorem dX1_isShortRight_21 : decode cX1_isShortRight 21 = .ok (.imul, 1) := by decide +kernel
theorem dX1_isShortRight_22 : decode cX1_isShortRight 22 = .ok (.iadd, 1) := by decide +kernel
theorem dX1_isShortRight_23 : decode cX1_isShortRight 23 = .ok (.istore_n 1, 1) := by decide +kernel
theorem dX1_isShortRight_24 : decode cX1_isShortRight 24 = .ok (.iinc 2 1, 3) := by decide +kernel
theorem dX1_isShortRight_27 : decode cX1_isShortRight 27 = .ok (.goto (-23), 3) := by decide +kernel
theorem dX1_isShortRight_30 : decode cX1_isShortRight 30 = .ok (.iload_n 1, 1) := by decide +kernel
theorem dX1_isShortRight_31 : decode cX1_isShortRight 31 = .ok (.bipush 11, 2) := by decide +kernel
theorem dX1_isShortRight_33 : decode cX1_isShortRight 33 = .ok (.irem, 1) := by decide +kernel
theorem dX1_isShortRight_34 : decode cX1_isShortRight 34 = .ok (.ifCond .ne 7, 3) := by decide +kernel
theorem dX1_isShortRight_37 : decode cX1_isShortRight 37 = .ok (.iconst 1, 1) := by decide +kernel
theorem dX1_isShortRight_38 : decode cX1_isShortRight 38 = .ok (.goto 4, 3) := by decide +kernel
theorem dX1_isShortRight_41 : decode cX1_isShortRight 41 = .ok (.iconst 0, 1) := by decide +kernel
theorem dX1_isShortRight_42 : decode cX1_isShortRight 42 = .ok (.ireturn, 1) := by decide +kernel
theorem dX1_isLongRight_0 : decode cX1_isLongRight 0 = .ok (.iconst 0, 1) := by decide +kernel
theorem dX1_isLongRight_1 : decode cX1_isLongRight 1 = .ok (.istore_n 1, 1) := by decide +kernel
theorem dX1_isLongRight_2 : decode cX1_isLongRight 2 = .ok (.iconst 0, 1) := by decide +kernel
theorem dX1_isLongRight_3 : decode cX1_isLongRight 3 = .ok (.istore_n 2, 1) := by decide +kernel
theorem dX1_isLongRight_4 : decode cX1_isLongRight 4 = .ok (.iload_n 2, 1) := by decide +kernel
theorem dX1_isLongRight_5 : decode cX1_isLongRight 5 = .ok (.bipush 13, 2) := by decide +kernel
theorem dX1_isLongRight_7 : decode cX1_isLongRight 7 = .ok (.if_icmp .ge 35, 3) := by decide +kernel
theorem dX1_isLongRight_10 : decode cX1_isLongRight 10 = .ok (.iload_n 1, 1) := by decide +kernel
theorem dX1_isLongRight_11 : decode cX1_isLongRight 11 = .ok (.iload_n 2, 1) := by decide +kernel
theorem dX1_isLongRight_12 : decode cX1_isLongRight 12 = .ok (.iconst 2, 1) := by decide +kernel
theorem dX1_isLongRight_13 : decode cX1_isLongRight 13 = .ok (.irem, 1) := by decide +kernel
theorem dX1_isLongRight_14 : decode cX1_isLongRight 14 = .ok (.ifCond .ne 12, 3) := by decide +kernel
theorem dX1_isLongRight_17 : decode cX1_isLongRight 17 = .ok (.aload_n 0, 1) := by decide +kernel
theorem dX1_isLongRight_18 : decode cX1_isLongRight 18 = .ok (.getfield 11, 3) := by decide +kernel
theorem dX1_isLongRight_21 : decode cX1_isLongRight 21 = .ok (.iload_n 2, 1) := by decide +kernel
theorem dX1_isLongRight_22 : decode cX1_isLongRight 22 = .ok (.iaload, 1) := by decide +kernel
theorem dX1_isLongRight_23 : decode cX1_isLongRight 23 = .ok (.goto 11, 3) := by decide +kernel
theorem dX1_isLongRight_26 : decode cX1_isLongRight 26 = .ok (.iconst 3, 1) := by decide +kernel
theorem dX1_isLongRight_27 : decode cX1_isLongRight 27 = .ok (.aload_n 0, 1) := by decide +kernel
theorem dX1_isLongRight_28 : decode cX1_isLongRight 28 = .ok (.getfield 11, 3) := by decide +kernel
theorem dX1_isLongRight_31 : decode cX1_isLongRight 31 = .ok (.iload_n 2, 1) := by decide +kernel
theorem dX1_isLongRight_32 : decode cX1_isLongRight 32 = .ok (.iaload, 1) := by decide +kernel
theorem dX1_isLongRight_33 : decode cX1_isLongRight 33 = .ok (.imul, 1) := by decide +kernel
theorem dX1_isLongRight_34 : decode cX1_isLongRight 34 = .ok (.iadd, 1) := by decide +kernel
theorem dX1_isLongRight_35 : decode cX1_isLongRight 35 = .ok (.istore_n 1, 1) := by decide +kernel
theorem dX1_isLongRight_36 : decode cX1_isLongRight 36 = .ok (.iinc 2 1, 3) := by decide +kernel
theorem dX1_isLongRight_39 : decode cX1_isLongRight 39 = .ok (.goto (-35), 3) := by decide +kernel
theorem dX1_isLongRight_42 : decode cX1_isLongRight 42 = .ok (.iload_n 1, 1) := by decide +kernel
theorem dX1_isLongRight_43 : decode cX1_isLongRight 43 = .ok (.bipush 10, 2) := by decide +kernel
theorem dX1_isLongRight_45 : decode cX1_isLongRight 45 = .ok (.irem, 1) := by decide +kernel
theorem dX1_isLongRight_46 : decode cX1_isLongRight 46 = .ok (.ifCond .ne 7, 3) := by decide +kernel
theorem dX1_isLongRight_49 : decode cX1_isLongRight 49 = .ok (.iconst 1, 1) := by decide +kernel
theorem dX1_isLongRight_50 : decode cX1_isLongRight 50 = .ok (.goto 4, 3) := by decide +kernel
theorem dX1_isLongRight_53 : decode cX1_isLongRight 53 = .ok (.iconst 0, 1) := by decide +kernel
theorem dX1_isLongRight_54 : decode cX1_isLongRight 54 = .ok (.ireturn, 1) := by decide +kernel
theorem dX1_formOfShort_0 : decode cX1_formOfShort 0 = .ok (.ldc2_w 65, 3) := by decide +kernel
theorem dX1_formOfShort_3 : decode cX1_formOfShort 3 = .ok (.lstore_n 1, 1) := by decide +kernel
theorem dX1_formOfShort_4 : decode cX1_formOfShort 4 = .ok (.bipush 38, 2) := by decide +kernel
theorem dX1_formOfShort_6 : decode cX1_formOfShort 6 = .ok (.istore_n 3, 1) := by decide +kernel
theorem dX1_formOfShort_7 : decode cX1_formOfShort 7 = .ok (.iconst 0, 1) := by decide +kernel
theorem dX1_formOfShort_8 : decode cX1_formOfShort 8 = .ok (.istore 4, 2) := by decide +kernel
theorem dX1_formOfShort_10 : decode cX1_formOfShort 10 = .ok (.iload 4, 2) := by decide +kernel
theorem dX1_formOfShort_12 : decode cX1_formOfShort 12 = .ok (.bipush 9, 2) := by decide +kernel
theorem dX1_formOfShort_14 : decode cX1_formOfShort 14 = .ok (.if_icmp .ge 53, 3) := by decide +kernel
theorem dX1_formOfShort_17 : decode cX1_formOfShort 17 = .ok (.lload_n 1, 1) := by decide +kernel
theorem dX1_formOfShort_18 : decode cX1_formOfShort 18 = .ok (.ldc2_w 67, 3) := by decide +kernel
theorem dX1_formOfShort_21 : decode cX1_formOfShort 21 = .ok (.lmul, 1) := by decide +kernel
theorem dX1_formOfShort_22 : decode cX1_formOfShort 22 = .ok (.aload_n 0, 1) := by decide +kernel
theorem dX1_formOfShort_23 : decode cX1_formOfShort 23 = .ok (.getfield 11, 3) := by decide +kernel
theorem dX1_formOfShort_26 : decode cX1_formOfShort 26 = .ok (.iload 4, 2) := by decide +kernel
theorem dX1_formOfShort_28 : decode cX1_formOfShort 28 = .ok (.iaload, 1) := by decide +kernel
theorem dX1_formOfShort_29 : decode cX1_formOfShort 29 = .ok (.i2l, 1) := by decide +kernel
theorem dX1_formOfShort_30 : decode cX1_formOfShort 30 = .ok (.ladd, 1) := by decide +kernel
theorem dX1_formOfShort_31 : decode cX1_formOfShort 31 = .ok (.lstore_n 1, 1) := by decide +kernel
theorem dX1_formOfShort_32 : decode cX1_formOfShort 32 = .ok (.iload_n 3, 1) := by decide +kernel
theorem dX1_formOfShort_33 : decode cX1_formOfShort 33 = .ok (.iload 4, 2) := by decide +kernel
theorem dX1_formOfShort_35 : decode cX1_formOfShort 35 = .ok (.iconst 2, 1) := by decide +kernel
theorem dX1_formOfShort_36 : decode cX1_formOfShort 36 = .ok (.irem, 1) := by decide +kernel
theorem dX1_formOfShort_37 : decode cX1_formOfShort 37 = .ok (.ifCond .ne 15, 3) := by decide +kernel
theorem dX1_formOfShort_40 : decode cX1_formOfShort 40 = .ok (.iconst 3, 1) := by decide +kernel
theorem dX1_formOfShort_41 : decode cX1_formOfShort 41 = .ok (.aload_n 0, 1) := by decide +kernel
theorem dX1_formOfShort_42 : decode cX1_formOfShort 42 = .ok (.getfield 11, 3) := by decide +kernel
theorem dX1_formOfShort_45 : decode cX1_formOfShort 45 = .ok (.iload 4, 2) := by decide +kernel
theorem dX1_formOfShort_47 : decode cX1_formOfShort 47 = .ok (.iaload, 1) := by decide +kernel
theorem dX1_formOfShort_48 : decode cX1_formOfShort 48 = .ok (.imul, 1) := by decide +kernel
theorem dX1_formOfShort_49 : decode cX1_formOfShort 49 = .ok (.goto 10, 3) := by decide +kernel
theorem dX1_formOfShort_52 : decode cX1_formOfShort 52 = .ok (.aload_n 0, 1) := by decide +kernel
theorem dX1_formOfShort_53 : decode cX1_formOfShort 53 = .ok (.getfield 11, 3) := by decide +kernel
theorem dX1_formOfShort_56 : decode cX1_formOfShort 56 = .ok (.iload 4, 2) := by decide +kernel
theorem dX1_formOfShort_58 : decode cX1_formOfShort 58 = .ok (.iaload, 1) := by decide +kernel
theorem dX1_formOfShort_59 : decode cX1_formOfShort 59 = .ok (.iadd, 1) := by decide +kernel
theorem dX1_formOfShort_60 : decode cX1_formOfShort 60 = .ok (.istore_n 3, 1) := by decide +kernel
theorem dX1_formOfShort_61 : decode cX1_formOfShort 61 = .ok (.iinc 4 1, 3) := by decide +kernel
theorem dX1_formOfShort_64 : decode cX1_formOfShort 64 = .ok (.goto (-54), 3) := by decide +kernel
theorem dX1_formOfShort_67 : decode cX1_formOfShort 67 = .ok (.lload_n 1, 1) := by decide +kernel
theorem dX1_formOfShort_68 : decode cX1_formOfShort 68 = .ok (.ldc2_w 67, 3) := by decide +kernel
theorem dX1_formOfShort_71 : decode cX1_formOfShort 71 = .ok (.lmul, 1) := by decide +kernel
theorem dX1_formOfShort_72 : decode cX1_formOfShort 72 = .ok (.bipush 10, 2) := by decide +kernel
theorem dX1_formOfShort_74 : decode cX1_formOfShort 74 = .ok (.iload_n 3, 1) := by decide +kernel
theorem dX1_formOfShort_75 : decode cX1_formOfShort 75 = .ok (.bipush 10, 2) := by decide +kernel
theorem dX1_formOfShort_77 : decode cX1_formOfShort 77 = .ok (.irem, 1) := by decide +kernel
theorem dX1_formOfShort_78 : decode cX1_formOfShort 78 = .ok (.isub, 1) := by decide +kernel
theorem dX1_formOfShort_79 : decode cX1_formOfShort 79 = .ok (.bipush 10, 2) := by decide +kernel
theorem dX1_formOfShort_81 : decode cX1_formOfShort 81 = .ok (.irem, 1) := by decide +kernel
theorem dX1_formOfShort_82 : decode cX1_formOfShort 82 = .ok (.i2l, 1) := by decide +kernel
theorem dX1_formOfShort_83 : decode cX1_formOfShort 83 = .ok (.ladd, 1) := by decide +kernel
theorem dX1_formOfShort_84 : decode cX1_formOfShort 84 = .ok (.lreturn, 1) := by decide +kernel
theorem dX1_formOfLong_0 : decode cX1_formOfLong 0 = .ok (.lconst 0, 1) := by decide +kernel
theorem dX1_formOfLong_1 : decode cX1_formOfLong 1 = .ok (.lstore_n 1, 1) := by decide +kernel
theorem dX1_formOfLong_2 : decode cX1_formOfLong 2 = .ok (.iconst 0, 1) := by decide +kernel
theorem dX1_formOfLong_3 : decode cX1_formOfLong 3 = .ok (.istore_n 3, 1) := by decide +kernel
theorem dX1_formOfLong_4 : decode cX1_formOfLong 4 = .ok (.iload_n 3, 1) := by decide +kernel
theorem dX1_formOfLong_5 : decode cX1_formOfLong 5 = .ok (.bipush 13, 2) := by decide +kernel
theorem dX1_formOfLong_7 : decode cX1_formOfLong 7 = .ok (.if_icmp .ge 23, 3) := by decide +kernel
theorem dX1_formOfLong_10 : decode cX1_formOfLong 10 = .ok (.lload_n 1, 1) := by decide +kernel
theorem dX1_formOfLong_11 : decode cX1_formOfLong 11 = .ok (.ldc2_w 67, 3) := by decide +kernel
theorem dX1_formOfLong_14 : decode cX1_formOfLong 14 = .ok (.lmul, 1) := by decide +kernel
theorem dX1_formOfLong_15 : decode cX1_formOfLong 15 = .ok (.aload_n 0, 1) := by decide +kernel
theorem dX1_formOfLong_16 : decode cX1_formOfLong 16 = .ok (.getfield 11, 3) := by decide +kernel
theorem dX1_formOfLong_19 : decode cX1_formOfLong 19 = .ok (.iload_n 3, 1) := by decide +kernel
theorem dX1_formOfLong_20 : decode cX1_formOfLong 20 = .ok (.iaload, 1) := by decide +kernel
theorem dX1_formOfLong_21 : decode cX1_formOfLong 21 = .ok (.i2l, 1) := by decide +kernel
theorem dX1_formOfLong_22 : decode cX1_formOfLong 22 = .ok (.ladd, 1) := by decide +kernel
theorem dX1_formOfLong_23 : decode cX1_formOfLong 23 = .ok (.lstore_n 1, 1) := by decide +kernel
theorem dX1_formOfLong_24 : decode cX1_formOfLong 24 = .ok (.iinc 3 1, 3) := by decide +kernel
theorem dX1_formOfLong_27 : decode cX1_formOfLong 27 = .ok (.goto (-23), 3) := by decide +kernel
theorem dX1_formOfLong_30 : decode cX1_formOfLong 30 = .ok (.lload_n 1, 1) := by decide +kernel
theorem dX1_formOfLong_31 : decode cX1_formOfLong 31 = .ok (.lreturn, 1) := by decide +kernel
theorem dX2_init_0 : decode cX2_init 0 = .ok (.aload_n 0, 1) := by decide +kernel
theorem dX2_init_1 : decode cX2_init 1 = .ok (.invokespecial 3, 3) := by decide +kernel
theorem dX2_init_4 : decode cX2_init 4 = .ok (.aload_n 0, 1) := by decide +kernel
theorem dX2_init_5 : decode cX2_init 5 = .ok (.new 9, 3) := by decide +kernel
theorem dX2_init_8 : decode cX2_init 8 = .ok (.dup, 1) := by decide +kernel
theorem dX2_init_9 : decode cX2_init 9 = .ok (.invokespecial 11, 3) := by decide +kernel
theorem dX2_init_12 : decode cX2_init 12 = .ok (.putfield 12, 3) := by decide +kernel
theorem dX2_init_15 : decode cX2_init 15 = .ok (.aload_n 0, 1) := by decide +kernel
theorem dX2_init_16 : decode cX2_init 16 = .ok (.new 18, 3) := by decide +kernel
theorem dX2_init_19 : decode cX2_init 19 = .ok (.dup, 1) := by decide +kernel
theorem dX2_init_20 : decode cX2_init 20 = .ok (.invokespecial 20, 3) := by decide +kernel
theorem dX2_init_23 : decode cX2_init 23 = .ok (.putfield 21, 3) := by decide +kernel
theorem dX2_init_26 : decode cX2_init 26 = .ok (.return_, 1) := by decide +kernel
theorem dX2_isRightNumber_0 : decode cX2_isRightNumber 0 = .ok (.aload_n 0, 1) := by decide +kernel
theorem dX2_isRightNumber_1 : decode cX2_isRightNumber 1 = .ok (.getfield 21, 3) := by decide +kernel
theorem dX2_isRightNumber_4 : decode cX2_isRightNumber 4 = .ok (.aload_n 1, 1) := by decide +kernel
theorem dX2_isRightNumber_5 : decode cX2_isRightNumber 5 = .ok (.invokevirtual 25, 3) := by decide +kernel
theorem dX2_isRightNumber_8 : decode cX2_isRightNumber 8 = .ok (.ldc2_w 29, 3) := by decide +kernel
theorem dX2_isRightNumber_11 : decode cX2_isRightNumber 11 = .ok (.lcmp, 1) := by decide +kernel
theorem dX2_isRightNumber_12 : decode cX2_isRightNumber 12 = .ok (.ifCond .eq 7, 3) := by decide +kernel
theorem dX2_isRightNumber_15 : decode cX2_isRightNumber 15 = .ok (.iconst 1, 1) := by decide +kernel
theorem dX2_isRightNumber_16 : decode cX2_isRightNumber 16 = .ok (.goto 4, 3) := by decide +kernel
theorem dX2_isRightNumber_19 : decode cX2_isRightNumber 19 = .ok (.iconst 0, 1) := by decide +kernel
theorem dX2_isRightNumber_20 : decode cX2_isRightNumber 20 = .ok (.ireturn, 1) := by decide +kernel
theorem dX2_keyOf_0 : decode cX2_keyOf 0 = .ok (.aload_n 1, 1) := by decide +kernel
theorem dX2_keyOf_1 : decode cX2_keyOf 1 = .ok (.getfield 31, 3) := by decide +kernel
theorem dX2_keyOf_4 : decode cX2_keyOf 4 = .ok (.ifCond .ne 21, 3) := by decide +kernel
theorem dX2_keyOf_7 : decode cX2_keyOf 7 = .ok (.aload_n 0, 1) := by decide +kernel
theorem dX2_keyOf_8 : decode cX2_keyOf 8 = .ok (.getfield 12, 3) := by decide +kernel
theorem dX2_keyOf_11 : decode cX2_keyOf 11 = .ok (.aload_n 1, 1) := by decide +kernel
theorem dX2_keyOf_12 : decode cX2_keyOf 12 = .ok (.invokevirtual 37, 3) := by decide +kernel
theorem dX2_keyOf_15 : decode cX2_keyOf 15 = .ok (.aload_n 0, 1) := by decide +kernel
theorem dX2_keyOf_16 : decode cX2_keyOf 16 = .ok (.getfield 12, 3) := by decide +kernel
theorem dX2_keyOf_19 : decode cX2_keyOf 19 = .ok (.invokevirtual 41, 3) := by decide +kernel
theorem dX2_keyOf_22 : decode cX2_keyOf 22 = .ok (.ineg, 1) := by decide +kernel
theorem dX2_keyOf_23 : decode cX2_keyOf 23 = .ok (.i2l, 1) := by decide +kernel
theorem dX2_keyOf_24 : decode cX2_keyOf 24 = .ok (.lreturn, 1) := by decide +kernel
theorem dX2_keyOf_25 : decode cX2_keyOf 25 = .ok (.aload_n 1, 1) := by decide +kernel
theorem dX2_keyOf_26 : decode cX2_keyOf 26 = .ok (.getfield 31, 3) := by decide +kernel
theorem dX2_keyOf_29 : decode cX2_keyOf 29 = .ok (.iconst 2, 1) := by decide +kernel
theorem dX2_keyOf_30 : decode cX2_keyOf 30 = .ok (.if_icmp .ne 28, 3) := by decide +kernel
theorem dX2_keyOf_33 : decode cX2_keyOf 33 = .ok (.aload_n 0, 1) := by decide +kernel
theorem dX2_keyOf_34 : decode cX2_keyOf 34 = .ok (.getfield 21, 3) := by decide +kernel
theorem dX2_keyOf_37 : decode cX2_keyOf 37 = .ok (.aload_n 1, 1) := by decide +kernel
theorem dX2_keyOf_38 : decode cX2_keyOf 38 = .ok (.invokevirtual 25, 3) := by decide +kernel
theorem dX2_keyOf_41 : decode cX2_keyOf 41 = .ok (.lstore_n 2, 1) := by decide +kernel
theorem dX2_keyOf_42 : decode cX2_keyOf 42 = .ok (.lload_n 2, 1) := by decide +kernel
theorem dX2_keyOf_43 : decode cX2_keyOf 43 = .ok (.ldc2_w 29, 3) := by decide +kernel
theorem dX2_keyOf_46 : decode cX2_keyOf 46 = .ok (.lcmp, 1) := by decide +kernel
theorem dX2_keyOf_47 : decode cX2_keyOf 47 = .ok (.ifCond .ne 7, 3) := by decide +kernel
theorem dX2_keyOf_50 : decode cX2_keyOf 50 = .ok (.lconst 0, 1) := by decide +kernel
theorem dX2_keyOf_51 : decode cX2_keyOf 51 = .ok (.goto 6, 3) := by decide +kernel
theorem dX2_keyOf_54 : decode cX2_keyOf 54 = .ok (.lload_n 2, 1) := by decide +kernel
theorem dX2_keyOf_55 : decode cX2_keyOf 55 = .ok (.lconst 1, 1) := by decide +kernel
theorem dX2_keyOf_56 : decode cX2_keyOf 56 = .ok (.ladd, 1) := by decide +kernel
theorem dX2_keyOf_57 : decode cX2_keyOf 57 = .ok (.lreturn, 1) := by decide +kernel
theorem dX2_keyOf_58 : decode cX2_keyOf 58 = .ok (.lconst 0, 1) := by decide +kernel
theorem dX2_keyOf_59 : decode cX2_keyOf 59 = .ok (.lreturn, 1) := by decide +kernel
theorem dX3_init_0 : decode cX3_init 0 = .ok (.aload_n 0, 1) := by decide +kernel
theorem dX3_init_1 : decode cX3_init 1 = .ok (.invokespecial 3, 3) := by decide +kernel
theorem dX3_init_4 : decode cX3_init 4 = .ok (.aload_n 0, 1) := by decide +kernel
theorem dX3_init_5 : decode cX3_init 5 = .ok (.sipush 200, 3) := by decide +kernel
theorem dX3_init_8 : decode cX3_init 8 = .ok (.newarray .long, 2) := by decide +kernel
theorem dX3_init_10 : decode cX3_init 10 = .ok (.putfield 9, 3) := by decide +kernel
theorem dX3_init_13 : decode cX3_init 13 = .ok (.return_, 1) := by decide +kernel
theorem dX3_clear_0 : decode cX3_clear 0 = .ok (.aload_n 0, 1) := by decide +kernel
theorem dX3_clear_1 : decode cX3_clear 1 = .ok (.iconst 0, 1) := by decide +kernel
theorem dX3_clear_2 : decode cX3_clear 2 = .ok (.putfield 15, 3) := by decide +kernel
theorem dX3_clear_5 : decode cX3_clear 5 = .ok (.return_, 1) := by decide +kernel
theorem dX3_add_0 : decode cX3_add 0 = .ok (.lload_n 1, 1) := by decide +kernel
theorem dX3_add_1 : decode cX3_add 1 = .ok (.lconst 0, 1) := by decide +kernel
theorem dX3_add_2 : decode cX3_add 2 = .ok (.lcmp, 1) := by decide +kernel
theorem dX3_add_3 : decode cX3_add 3 = .ok (.ifCond .eq 43, 3) := by decide +kernel
theorem dX3_add_6 : decode cX3_add 6 = .ok (.aload_n 0, 1) := by decide +kernel
theorem dX3_add_7 : decode cX3_add 7 = .ok (.lload_n 1, 1) := by decide +kernel
theorem dX3_add_8 : decode cX3_add 8 = .ok (.invokevirtual 21, 3) := by decide +kernel
theorem dX3_add_11 : decode cX3_add 11 = .ok (.ifCond .ne 35, 3) := by decide +kernel
theorem dX3_add_14 : decode cX3_add 14 = .ok (.aload_n 0, 1) := by decide +kernel
theorem dX3_add_15 : decode cX3_add 15 = .ok (.getfield 15, 3) := by decide +kernel
theorem dX3_add_18 : decode cX3_add 18 = .ok (.aload_n 0, 1) := by decide +kernel
theorem dX3_add_19 : decode cX3_add 19 = .ok (.getfield 9, 3) := by decide +kernel
theorem dX3_add_22 : decode cX3_add 22 = .ok (.arraylength, 1) := by decide +kernel
theorem dX3_add_23 : decode cX3_add 23 = .ok (.if_icmp .ge 23, 3) := by decide +kernel
theorem dX3_add_26 : decode cX3_add 26 = .ok (.aload_n 0, 1) := by decide +kernel
theorem dX3_add_27 : decode cX3_add 27 = .ok (.getfield 9, 3) := by decide +kernel
theorem dX3_add_30 : decode cX3_add 30 = .ok (.aload_n 0, 1) := by decide +kernel
theorem dX3_add_31 : decode cX3_add 31 = .ok (.getfield 15, 3) := by decide +kernel
theorem dX3_add_34 : decode cX3_add 34 = .ok (.lload_n 1, 1) := by decide +kernel
theorem dX3_add_35 : decode cX3_add 35 = .ok (.lastore, 1) := by decide +kernel
theorem dX3_add_36 : decode cX3_add 36 = .ok (.aload_n 0, 1) := by decide +kernel
theorem dX3_add_37 : decode cX3_add 37 = .ok (.dup, 1) := by decide +kernel
theorem dX3_add_38 : decode cX3_add 38 = .ok (.getfield 15, 3) := by decide +kernel
theorem dX3_add_41 : decode cX3_add 41 = .ok (.iconst 1, 1) := by decide +kernel
theorem dX3_add_42 : decode cX3_add 42 = .ok (.iadd, 1) := by decide +kernel
theorem dX3_add_43 : decode cX3_add 43 = .ok (.putfield 15, 3) := by decide +kernel
theorem dX3_add_46 : decode cX3_add 46 = .ok (.return_, 1) := by decide +kernel
theorem dX3_holds_0 : decode cX3_holds 0 = .ok (.iconst 0, 1) := by decide +kernel
theorem dX3_holds_1 : decode cX3_holds 1 = .ok (.istore_n 3, 1) := by decide +kernel
theorem dX3_holds_2 : decode cX3_holds 2 = .ok (.iload_n 3, 1) := by decide +kernel
theorem dX3_holds_3 : decode cX3_holds 3 = .ok (.aload_n 0, 1) := by decide +kernel
theorem dX3_holds_4 : decode cX3_holds 4 = .ok (.getfield 15, 3) := by decide +kernel
theorem dX3_holds_7 : decode cX3_holds 7 = .ok (.if_icmp .ge 22, 3) := by decide +kernel
theorem dX3_holds_10 : decode cX3_holds 10 = .ok (.aload_n 0, 1) := by decide +kernel
theorem dX3_holds_11 : decode cX3_holds 11 = .ok (.getfield 9, 3) := by decide +kernel
theorem dX3_holds_14 : decode cX3_holds 14 = .ok (.iload_n 3, 1) := by decide +kernel
theorem dX3_holds_15 : decode cX3_holds 15 = .ok (.laload, 1) := by decide +kernel
theorem dX3_holds_16 : decode cX3_holds 16 = .ok (.lload_n 1, 1) := by decide +kernel
theorem dX3_holds_17 : decode cX3_holds 17 = .ok (.lcmp, 1) := by decide +kernel
theorem dX3_holds_18 : decode cX3_holds 18 = .ok (.ifCond .ne 5, 3) := by decide +kernel
theorem dX3_holds_21 : decode cX3_holds 21 = .ok (.iconst 1, 1) := by decide +kernel
theorem dX3_holds_22 : decode cX3_holds 22 = .ok (.ireturn, 1) := by decide +kernel
theorem dX3_holds_23 : decode cX3_holds 23 = .ok (.iinc 3 1, 3) := by decide +kernel
theorem dX3_holds_26 : decode cX3_holds 26 = .ok (.goto (-24), 3) := by decide +kernel
theorem dX3_holds_29 : decode cX3_holds 29 = .ok (.iconst 0, 1) := by decide +kernel
theorem dX3_holds_30 : decode cX3_holds 30 = .ok (.ireturn, 1) := by decide +kernel
theorem dX3_has_0 : decode cX3_has 0 = .ok (.iload_n 1, 1) := by decide +kernel
theorem dX3_has_1 : decode cX3_has 1 = .ok (.ifCond .lt 15, 3) := by decide +kernel
theorem dX3_has_4 : decode cX3_has 4 = .ok (.iload_n 1, 1) := by decide +kernel
theorem dX3_has_5 : decode cX3_has 5 = .ok (.aload_n 0, 1) := by decide +kernel
theorem dX3_has_6 : decode cX3_has 6 = .ok (.getfield 15, 3) := by decide +kernel
theorem dX3_has_9 : decode cX3_has 9 = .ok (.if_icmp .ge 7, 3) := by decide +kernel
theorem dX3_has_12 : decode cX3_has 12 = .ok (.iconst 1, 1) := by decide +kernel
theorem dX3_has_13 : decode cX3_has 13 = .ok (.goto 4, 3) := by decide +kernel
theorem dX3_has_16 : decode cX3_has 16 = .ok (.iconst 0, 1) := by decide +kernel
theorem dX3_has_17 : decode cX3_has 17 = .ok (.ireturn, 1) := by decide +kernel
theorem dX3_get_0 : decode cX3_get 0 = .ok (.aload_n 0, 1) := by decide +kernel
theorem dX3_get_1 : decode cX3_get 1 = .ok (.iload_n 1, 1) := by decide +kernel
theorem dX3_get_2 : decode cX3_get 2 = .ok (.invokevirtual 25, 3) := by decide +kernel
theorem dX3_get_5 : decode cX3_get 5 = .ok (.ifCond .eq 21, 3) := by decide +kernel
theorem dX3_get_8 : decode cX3_get 8 = .ok (.iload_n 1, 1) := by decide +kernel
theorem dX3_get_9 : decode cX3_get 9 = .ok (.aload_n 0, 1) := by decide +kernel
theorem dX3_get_10 : decode cX3_get 10 = .ok (.getfield 9, 3) := by decide +kernel
theorem dX3_get_13 : decode cX3_get 13 = .ok (.arraylength, 1) := by decide +kernel
theorem dX3_get_14 : decode cX3_get 14 = .ok (.if_icmp .ge 12, 3) := by decide +kernel
theorem dX3_get_17 : decode cX3_get 17 = .ok (.aload_n 0, 1) := by decide +kernel
theorem dX3_get_18 : decode cX3_get 18 = .ok (.getfield 9, 3) := by decide +kernel
theorem dX3_get_21 : decode cX3_get 21 = .ok (.iload_n 1, 1) := by decide +kernel
theorem dX3_get_22 : decode cX3_get 22 = .ok (.laload, 1) := by decide +kernel
theorem dX3_get_23 : decode cX3_get 23 = .ok (.goto 4, 3) := by decide +kernel
theorem dX3_get_26 : decode cX3_get 26 = .ok (.lconst 0, 1) := by decide +kernel
theorem dX3_get_27 : decode cX3_get 27 = .ok (.lreturn, 1) := by decide +kernel
theorem dX5_isDigit_0 : decode cX5_isDigit 0 = .ok (.iload_n 0, 1) := by decide +kernel
theorem dX5_isDigit_1 : decode cX5_isDigit 1 = .ok (.bipush 48, 2) := by decide +kernel
theorem dX5_isDigit_3 : decode cX5_isDigit 3 = .ok (.if_icmp .lt 13, 3) := by decide +kernel
theorem dX5_isDigit_6 : decode cX5_isDigit 6 = .ok (.iload_n 0, 1) := by decide +kernel
theorem dX5_isDigit_7 : decode cX5_isDigit 7 = .ok (.bipush 57, 2) := by decide +kernel
theorem dX5_isDigit_9 : decode cX5_isDigit 9 = .ok (.if_icmp .gt 7, 3) := by decide +kernel
theorem dX5_isDigit_12 : decode cX5_isDigit 12 = .ok (.iconst 1, 1) := by decide +kernel
theorem dX5_isDigit_13 : decode cX5_isDigit 13 = .ok (.goto 4, 3) := by decide +kernel
theorem dX5_isDigit_16 : decode cX5_isDigit 16 = .ok (.iconst 0, 1) := by decide +kernel
theorem dX5_isDigit_17 : decode cX5_isDigit 17 = .ok (.ireturn, 1) := by decide +kernel
theorem dX5_isCross_0 : decode cX5_isCross 0 = .ok (.iload_n 0, 1) := by decide +kernel
theorem dX5_isCross_1 : decode cX5_isCross 1 = .ok (.bipush 88, 2) := by decide +kernel
theorem dX5_isCross_3 : decode cX5_isCross 3 = .ok (.if_icmp .eq 9, 3) := by decide +kernel
theorem dX5_isCross_6 : decode cX5_isCross 6 = .ok (.iload_n 0, 1) := by decide +kernel
theorem dX5_isCross_7 : decode cX5_isCross 7 = .ok (.bipush 120, 2) := by decide +kernel
theorem dX5_isCross_9 : decode cX5_isCross 9 = .ok (.if_icmp .ne 7, 3) := by decide +kernel
theorem dX5_isCross_12 : decode cX5_isCross 12 = .ok (.iconst 1, 1) := by decide +kernel
theorem dX5_isCross_13 : decode cX5_isCross 13 = .ok (.goto 4, 3) := by decide +kernel
theorem dX5_isCross_16 : decode cX5_isCross 16 = .ok (.iconst 0, 1) := by decide +kernel
theorem dX5_isCross_17 : decode cX5_isCross 17 = .ok (.ireturn, 1) := by decide +kernel
theorem dX5_inWord_0 : decode cX5_inWord 0 = .ok (.iload_n 0, 1) := by decide +kernel
theorem dX5_inWord_1 : decode cX5_inWord 1 = .ok (.bipush 65, 2) := by decide +kernel
theorem dX5_inWord_3 : decode cX5_inWord 3 = .ok (.if_icmp .lt 18, 3) := by decide +kernel
theorem dX5_inWord_6 : decode cX5_inWord 6 = .ok (.iload_n 0, 1) := by decide +kernel
theorem dX5_inWord_7 : decode cX5_inWord 7 = .ok (.bipush 90, 2) := by decide +kernel
theorem dX5_inWord_9 : decode cX5_inWord 9 = .ok (.if_icmp .gt 12, 3) := by decide +kernel
theorem dX5_inWord_12 : decode cX5_inWord 12 = .ok (.iload_n 0, 1) := by decide +kernel
theorem dX5_inWord_13 : decode cX5_inWord 13 = .ok (.bipush 65, 2) := by decide +kernel
theorem dX5_inWord_15 : decode cX5_inWord 15 = .ok (.isub, 1) := by decide +kernel
theorem dX5_inWord_16 : decode cX5_inWord 16 = .ok (.bipush 97, 2) := by decide +kernel
theorem dX5_inWord_18 : decode cX5_inWord 18 = .ok (.iadd, 1) := by decide +kernel
theorem dX5_inWord_19 : decode cX5_inWord 19 = .ok (.i2c, 1) := by decide +kernel
theorem dX5_inWord_20 : decode cX5_inWord 20 = .ok (.ireturn, 1) := by decide +kernel
theorem dX5_inWord_21 : decode cX5_inWord 21 = .ok (.iload_n 0, 1) := by decide +kernel
theorem dX5_inWord_22 : decode cX5_inWord 22 = .ok (.bipush 97, 2) := by decide +kernel
theorem dX5_inWord_24 : decode cX5_inWord 24 = .ok (.if_icmp .lt 9, 3) := by decide +kernel
theorem dX5_inWord_27 : decode cX5_inWord 27 = .ok (.iload_n 0, 1) := by decide +kernel
theorem dX5_inWord_28 : decode cX5_inWord 28 = .ok (.bipush 122, 2) := by decide +kernel
theorem dX5_inWord_30 : decode cX5_inWord 30 = .ok (.if_icmp .le 10, 3) := by decide +kernel
theorem dX5_inWord_33 : decode cX5_inWord 33 = .ok (.iload_n 0, 1) := by decide +kernel
theorem dX5_inWord_34 : decode cX5_inWord 34 = .ok (.invokestatic 7, 3) := by decide +kernel
theorem dX5_inWord_37 : decode cX5_inWord 37 = .ok (.ifCond .eq 7, 3) := by decide +kernel
theorem dX5_inWord_40 : decode cX5_inWord 40 = .ok (.iload_n 0, 1) := by decide +kernel
theorem dX5_inWord_41 : decode cX5_inWord 41 = .ok (.goto 4, 3) := by decide +kernel
theorem dX5_inWord_44 : decode cX5_inWord 44 = .ok (.iconst 0, 1) := by decide +kernel
theorem dX5_inWord_45 : decode cX5_inWord 45 = .ok (.ireturn, 1) := by decide +kernel
theorem dX6_init_0 : decode cX6_init 0 = .ok (.aload_n 0, 1) := by decide +kernel
theorem dX6_init_1 : decode cX6_init 1 = .ok (.invokespecial 3, 3) := by decide +kernel
theorem dX6_init_4 : decode cX6_init 4 = .ok (.aload_n 0, 1) := by decide +kernel
theorem dX6_init_5 : decode cX6_init 5 = .ok (.iload_n 1, 1) := by decide +kernel
theorem dX6_init_6 : decode cX6_init 6 = .ok (.putfield 9, 3) := by decide +kernel
theorem dX6_init_9 : decode cX6_init 9 = .ok (.aload_n 0, 1) := by decide +kernel
theorem dX6_init_10 : decode cX6_init 10 = .ok (.iload_n 2, 1) := by decide +kernel
theorem dX6_init_11 : decode cX6_init 11 = .ok (.putfield 15, 3) := by decide +kernel
theorem dX6_init_14 : decode cX6_init 14 = .ok (.aload_n 0, 1) := by decide +kernel
theorem dX6_init_15 : decode cX6_init 15 = .ok (.aload_n 3, 1) := by decide +kernel
theorem dX6_init_16 : decode cX6_init 16 = .ok (.putfield 18, 3) := by decide +kernel
theorem dX6_init_19 : decode cX6_init 19 = .ok (.aload_n 0, 1) := by decide +kernel
theorem dX6_init_20 : decode cX6_init 20 = .ok (.bipush 60, 2) := by decide +kernel
theorem dX6_init_22 : decode cX6_init 22 = .ok (.newarray .char, 2) := by decide +kernel
theorem dX6_init_24 : decode cX6_init 24 = .ok (.putfield 22, 3) := by decide +kernel
theorem dX6_init_27 : decode cX6_init 27 = .ok (.return_, 1) := by decide +kernel
theorem dX6_append_0 : decode cX6_append 0 = .ok (.aload_n 0, 1) := by decide +kernel
theorem dX6_append_1 : decode cX6_append 1 = .ok (.getfield 26, 3) := by decide +kernel
theorem dX6_append_4 : decode cX6_append 4 = .ok (.aload_n 0, 1) := by decide +kernel
theorem dX6_append_5 : decode cX6_append 5 = .ok (.getfield 22, 3) := by decide +kernel
theorem dX6_append_8 : decode cX6_append 8 = .ok (.arraylength, 1) := by decide +kernel
theorem dX6_append_9 : decode cX6_append 9 = .ok (.if_icmp .ge 23, 3) := by decide +kernel
theorem dX6_append_12 : decode cX6_append 12 = .ok (.aload_n 0, 1) := by decide +kernel
theorem dX6_append_13 : decode cX6_append 13 = .ok (.getfield 22, 3) := by decide +kernel
theorem dX6_append_16 : decode cX6_append 16 = .ok (.aload_n 0, 1) := by decide +kernel
theorem dX6_append_17 : decode cX6_append 17 = .ok (.getfield 26, 3) := by decide +kernel
theorem dX6_append_20 : decode cX6_append 20 = .ok (.iload_n 1, 1) := by decide +kernel
theorem dX6_append_21 : decode cX6_append 21 = .ok (.castore, 1) := by decide +kernel
theorem dX6_append_22 : decode cX6_append 22 = .ok (.aload_n 0, 1) := by decide +kernel
theorem dX6_append_23 : decode cX6_append 23 = .ok (.dup, 1) := by decide +kernel
theorem dX6_append_24 : decode cX6_append 24 = .ok (.getfield 26, 3) := by decide +kernel
theorem dX6_append_27 : decode cX6_append 27 = .ok (.iconst 1, 1) := by decide +kernel
theorem dX6_append_28 : decode cX6_append 28 = .ok (.iadd, 1) := by decide +kernel
theorem dX6_append_29 : decode cX6_append 29 = .ok (.putfield 26, 3) := by decide +kernel
theorem dX6_append_32 : decode cX6_append 32 = .ok (.return_, 1) := by decide +kernel
theorem dX6_isOf_0 : decode cX6_isOf 0 = .ok (.aload_n 0, 1) := by decide +kernel
theorem dX6_isOf_1 : decode cX6_isOf 1 = .ok (.getfield 18, 3) := by decide +kernel
theorem dX6_isOf_4 : decode cX6_isOf 4 = .ok (.invokevirtual 29, 3) := by decide +kernel
theorem dX6_isOf_7 : decode cX6_isOf 7 = .ok (.aload_n 1, 1) := by decide +kernel
theorem dX6_isOf_8 : decode cX6_isOf 8 = .ok (.if_acmp .ne 7, 3) := by decide +kernel
theorem dX6_isOf_11 : decode cX6_isOf 11 = .ok (.iconst 1, 1) := by decide +kernel
theorem dX6_isOf_12 : decode cX6_isOf 12 = .ok (.goto 4, 3) := by decide +kernel
theorem dX6_isOf_15 : decode cX6_isOf 15 = .ok (.iconst 0, 1) := by decide +kernel
theorem dX6_isOf_16 : decode cX6_isOf 16 = .ok (.ireturn, 1) := by decide +kernel
theorem dX6_beats_0 : decode cX6_beats 0 = .ok (.aload_n 0, 1) := by decide +kernel
theorem dX6_beats_1 : decode cX6_beats 1 = .ok (.getfield 26, 3) := by decide +kernel
theorem dX6_beats_4 : decode cX6_beats 4 = .ok (.aload_n 1, 1) := by decide +kernel
theorem dX6_beats_5 : decode cX6_beats 5 = .ok (.getfield 26, 3) := by decide +kernel
theorem dX6_beats_8 : decode cX6_beats 8 = .ok (.if_icmp .eq 20, 3) := by decide +kernel
theorem dX6_beats_11 : decode cX6_beats 11 = .ok (.aload_n 0, 1) := by decide +kernel
theorem dX6_beats_12 : decode cX6_beats 12 = .ok (.getfield 26, 3) := by decide +kernel
theorem dX6_beats_15 : decode cX6_beats 15 = .ok (.aload_n 1, 1) := by decide +kernel
theorem dX6_beats_16 : decode cX6_beats 16 = .ok (.getfield 26, 3) := by decide +kernel
theorem dX6_beats_19 : decode cX6_beats 19 = .ok (.if_icmp .le 7, 3) := by decide +kernel
theorem dX6_beats_22 : decode cX6_beats 22 = .ok (.iconst 1, 1) := by decide +kernel
theorem dX6_beats_23 : decode cX6_beats 23 = .ok (.goto 4, 3) := by decide +kernel
theorem dX6_beats_26 : decode cX6_beats 26 = .ok (.iconst 0, 1) := by decide +kernel
theorem dX6_beats_27 : decode cX6_beats 27 = .ok (.ireturn, 1) := by decide +kernel
theorem dX6_beats_28 : decode cX6_beats 28 = .ok (.aload_n 0, 1) := by decide +kernel
theorem dX6_beats_29 : decode cX6_beats 29 = .ok (.getfield 18, 3) := by decide +kernel
theorem dX6_beats_32 : decode cX6_beats 32 = .ok (.getfield 35, 3) := by decide +kernel
theorem dX6_beats_35 : decode cX6_beats 35 = .ok (.aload_n 1, 1) := by decide +kernel
theorem dX6_beats_36 : decode cX6_beats 36 = .ok (.getfield 18, 3) := by decide +kernel
theorem dX6_beats_39 : decode cX6_beats 39 = .ok (.getfield 35, 3) := by decide +kernel
theorem dX6_beats_42 : decode cX6_beats 42 = .ok (.if_icmp .eq 26, 3) := by decide +kernel
theorem dX6_beats_45 : decode cX6_beats 45 = .ok (.aload_n 0, 1) := by decide +kernel
theorem dX6_beats_46 : decode cX6_beats 46 = .ok (.getfield 18, 3) := by decide +kernel
theorem dX6_beats_49 : decode cX6_beats 49 = .ok (.getfield 35, 3) := by decide +kernel
theorem dX6_beats_52 : decode cX6_beats 52 = .ok (.aload_n 1, 1) := by decide +kernel
theorem dX6_beats_53 : decode cX6_beats 53 = .ok (.getfield 18, 3) := by decide +kernel
theorem dX6_beats_56 : decode cX6_beats 56 = .ok (.getfield 35, 3) := by decide +kernel
theorem dX6_beats_59 : decode cX6_beats 59 = .ok (.if_icmp .le 7, 3) := by decide +kernel
theorem dX6_beats_62 : decode cX6_beats 62 = .ok (.iconst 1, 1) := by decide +kernel
theorem dX6_beats_63 : decode cX6_beats 63 = .ok (.goto 4, 3) := by decide +kernel
theorem dX6_beats_66 : decode cX6_beats 66 = .ok (.iconst 0, 1) := by decide +kernel
theorem dX6_beats_67 : decode cX6_beats 67 = .ok (.ireturn, 1) := by decide +kernel
theorem dX6_beats_68 : decode cX6_beats 68 = .ok (.aload_n 0, 1) := by decide +kernel
theorem dX6_beats_69 : decode cX6_beats 69 = .ok (.getfield 9, 3) := by decide +kernel
theorem dX6_beats_72 : decode cX6_beats 72 = .ok (.aload_n 1, 1) := by decide +kernel
theorem dX6_beats_73 : decode cX6_beats 73 = .ok (.getfield 9, 3) := by decide +kernel
theorem dX6_beats_76 : decode cX6_beats 76 = .ok (.if_icmp .ge 7, 3) := by decide +kernel
theorem dX6_beats_79 : decode cX6_beats 79 = .ok (.iconst 1, 1) := by decide +kernel
theorem dX6_beats_80 : decode cX6_beats 80 = .ok (.goto 4, 3) := by decide +kernel
theorem dX6_beats_83 : decode cX6_beats 83 = .ok (.iconst 0, 1) := by decide +kernel
theorem dX6_beats_84 : decode cX6_beats 84 = .ok (.ireturn, 1) := by decide +kernel
theorem dX6_lastFourDigits_0 : decode cX6_lastFourDigits 0 = .ok (.iconst 0, 1) := by decide +kernel
theorem dX6_lastFourDigits_1 : decode cX6_lastFourDigits 1 = .ok (.istore_n 1, 1) := by decide +kernel
theorem dX6_lastFourDigits_2 : decode cX6_lastFourDigits 2 = .ok (.iconst 0, 1) := by decide +kernel
theorem dX6_lastFourDigits_3 : decode cX6_lastFourDigits 3 = .ok (.istore_n 2, 1) := by decide +kernel
theorem dX6_lastFourDigits_4 : decode cX6_lastFourDigits 4 = .ok (.iload_n 2, 1) := by decide +kernel
theorem dX6_lastFourDigits_5 : decode cX6_lastFourDigits 5 = .ok (.aload_n 0, 1) := by decide +kernel
theorem dX6_lastFourDigits_6 : decode cX6_lastFourDigits 6 = .ok (.getfield 26, 3) := by decide +kernel
theorem dX6_lastFourDigits_9 : decode cX6_lastFourDigits 9 = .ok (.if_icmp .ge 49, 3) := by decide +kernel
theorem dX6_lastFourDigits_12 : decode cX6_lastFourDigits 12 = .ok (.iload_n 2, 1) := by decide +kernel
theorem dX6_lastFourDigits_13 : decode cX6_lastFourDigits 13 = .ok (.aload_n 0, 1) := by decide +kernel
theorem dX6_lastFourDigits_14 : decode cX6_lastFourDigits 14 = .ok (.getfield 22, 3) := by decide +kernel
theorem dX6_lastFourDigits_17 : decode cX6_lastFourDigits 17 = .ok (.arraylength, 1) := by decide +kernel
theorem dX6_lastFourDigits_18 : decode cX6_lastFourDigits 18 = .ok (.if_icmp .ge 40, 3) := by decide +kernel
theorem dX6_lastFourDigits_21 : decode cX6_lastFourDigits 21 = .ok (.aload_n 0, 1) := by decide +kernel
theorem dX6_lastFourDigits_22 : decode cX6_lastFourDigits 22 = .ok (.getfield 22, 3) := by decide +kernel
theorem dX6_lastFourDigits_25 : decode cX6_lastFourDigits 25 = .ok (.iload_n 2, 1) := by decide +kernel
theorem dX6_lastFourDigits_26 : decode cX6_lastFourDigits 26 = .ok (.caload, 1) := by decide +kernel
theorem dX6_lastFourDigits_27 : decode cX6_lastFourDigits 27 = .ok (.invokestatic 38, 3) := by decide +kernel
theorem dX6_lastFourDigits_30 : decode cX6_lastFourDigits 30 = .ok (.ifCond .eq 22, 3) := by decide +kernel
theorem dX6_lastFourDigits_33 : decode cX6_lastFourDigits 33 = .ok (.iload_n 1, 1) := by decide +kernel
theorem dX6_lastFourDigits_34 : decode cX6_lastFourDigits 34 = .ok (.bipush 10, 2) := by decide +kernel
theorem dX6_lastFourDigits_36 : decode cX6_lastFourDigits 36 = .ok (.imul, 1) := by decide +kernel
theorem dX6_lastFourDigits_37 : decode cX6_lastFourDigits 37 = .ok (.aload_n 0, 1) := by decide +kernel
theorem dX6_lastFourDigits_38 : decode cX6_lastFourDigits 38 = .ok (.getfield 22, 3) := by decide +kernel
theorem dX6_lastFourDigits_41 : decode cX6_lastFourDigits 41 = .ok (.iload_n 2, 1) := by decide +kernel
theorem dX6_lastFourDigits_42 : decode cX6_lastFourDigits 42 = .ok (.caload, 1) := by decide +kernel
theorem dX6_lastFourDigits_43 : decode cX6_lastFourDigits 43 = .ok (.iadd, 1) := by decide +kernel
theorem dX6_lastFourDigits_44 : decode cX6_lastFourDigits 44 = .ok (.bipush 48, 2) := by decide +kernel
theorem dX6_lastFourDigits_46 : decode cX6_lastFourDigits 46 = .ok (.isub, 1) := by decide +kernel
theorem dX6_lastFourDigits_47 : decode cX6_lastFourDigits 47 = .ok (.sipush 10000, 3) := by decide +kernel
theorem dX6_lastFourDigits_50 : decode cX6_lastFourDigits 50 = .ok (.irem, 1) := by decide +kernel
theorem dX6_lastFourDigits_51 : decode cX6_lastFourDigits 51 = .ok (.istore_n 1, 1) := by decide +kernel
theorem dX6_lastFourDigits_52 : decode cX6_lastFourDigits 52 = .ok (.iinc 2 1, 3) := by decide +kernel
theorem dX6_lastFourDigits_55 : decode cX6_lastFourDigits 55 = .ok (.goto (-51), 3) := by decide +kernel
theorem dX6_lastFourDigits_58 : decode cX6_lastFourDigits 58 = .ok (.iload_n 1, 1) := by decide +kernel
theorem dX6_lastFourDigits_59 : decode cX6_lastFourDigits 59 = .ok (.ireturn, 1) := by decide +kernel
theorem dX7_init_0 : decode cX7_init 0 = .ok (.aload_n 0, 1) := by decide +kernel
theorem dX7_init_1 : decode cX7_init 1 = .ok (.invokespecial 3, 3) := by decide +kernel
theorem dX7_init_4 : decode cX7_init 4 = .ok (.aload_n 0, 1) := by decide +kernel
theorem dX7_init_5 : decode cX7_init 5 = .ok (.bipush 60, 2) := by decide +kernel
theorem dX7_init_7 : decode cX7_init 7 = .ok (.newarray .char, 2) := by decide +kernel
theorem dX7_init_9 : decode cX7_init 9 = .ok (.putfield 9, 3) := by decide +kernel
theorem dX7_init_12 : decode cX7_init 12 = .ok (.aload_n 0, 1) := by decide +kernel
theorem dX7_init_13 : decode cX7_init 13 = .ok (.bipush 30, 2) := by decide +kernel
theorem dX7_init_15 : decode cX7_init 15 = .ok (.newarray .int, 2) := by decide +kernel
theorem dX7_init_17 : decode cX7_init 17 = .ok (.putfield 15, 3) := by decide +kernel
theorem dX7_init_20 : decode cX7_init 20 = .ok (.aload_n 0, 1) := by decide +kernel
theorem dX7_init_21 : decode cX7_init 21 = .ok (.bipush 30, 2) := by decide +kernel
theorem dX7_init_23 : decode cX7_init 23 = .ok (.newarray .int, 2) := by decide +kernel
theorem dX7_init_25 : decode cX7_init 25 = .ok (.putfield 19, 3) := by decide +kernel
theorem dX7_init_28 : decode cX7_init 28 = .ok (.return_, 1) := by decide +kernel
theorem dX7_read_0 : decode cX7_read 0 = .ok (.aload_n 0, 1) := by decide +kernel
theorem dX7_read_1 : decode cX7_read 1 = .ok (.iconst 0, 1) := by decide +kernel
theorem dX7_read_2 : decode cX7_read 2 = .ok (.putfield 22, 3) := by decide +kernel
theorem dX7_read_5 : decode cX7_read 5 = .ok (.iconst 0, 1) := by decide +kernel
theorem dX7_read_6 : decode cX7_read 6 = .ok (.istore_n 2, 1) := by decide +kernel
theorem dX7_read_7 : decode cX7_read 7 = .ok (.iconst 0, 1) := by decide +kernel
theorem dX7_read_8 : decode cX7_read 8 = .ok (.istore_n 3, 1) := by decide +kernel
theorem dX7_read_9 : decode cX7_read 9 = .ok (.iload_n 3, 1) := by decide +kernel
theorem dX7_read_10 : decode cX7_read 10 = .ok (.aload_n 1, 1) := by decide +kernel
theorem dX7_read_11 : decode cX7_read 11 = .ok (.getfield 26, 3) := by decide +kernel
theorem dX7_read_14 : decode cX7_read 14 = .ok (.if_icmp .ge 107, 3) := by decide +kernel
theorem dX7_read_17 : decode cX7_read 17 = .ok (.iload_n 3, 1) := by decide +kernel
theorem dX7_read_18 : decode cX7_read 18 = .ok (.bipush 60, 2) := by decide +kernel
theorem dX7_read_20 : decode cX7_read 20 = .ok (.if_icmp .ge 101, 3) := by decide +kernel
theorem dX7_read_23 : decode cX7_read 23 = .ok (.aload_n 0, 1) := by decide +kernel
theorem dX7_read_24 : decode cX7_read 24 = .ok (.getfield 9, 3) := by decide +kernel
theorem dX7_read_27 : decode cX7_read 27 = .ok (.iload_n 3, 1) := by decide +kernel
theorem dX7_read_28 : decode cX7_read 28 = .ok (.aload_n 1, 1) := by decide +kernel
theorem dX7_read_29 : decode cX7_read 29 = .ok (.getfield 31, 3) := by decide +kernel
theorem dX7_read_32 : decode cX7_read 32 = .ok (.iload_n 3, 1) := by decide +kernel
theorem dX7_read_33 : decode cX7_read 33 = .ok (.caload, 1) := by decide +kernel
theorem dX7_read_34 : decode cX7_read 34 = .ok (.invokestatic 32, 3) := by decide +kernel
theorem dX7_read_37 : decode cX7_read 37 = .ok (.castore, 1) := by decide +kernel
theorem dX7_read_38 : decode cX7_read 38 = .ok (.aload_n 0, 1) := by decide +kernel
theorem dX7_read_39 : decode cX7_read 39 = .ok (.getfield 9, 3) := by decide +kernel
theorem dX7_read_42 : decode cX7_read 42 = .ok (.iload_n 3, 1) := by decide +kernel
theorem dX7_read_43 : decode cX7_read 43 = .ok (.caload, 1) := by decide +kernel
theorem dX7_read_44 : decode cX7_read 44 = .ok (.ifCond .ne 8, 3) := by decide +kernel
theorem dX7_read_47 : decode cX7_read 47 = .ok (.iconst 0, 1) := by decide +kernel
theorem dX7_read_48 : decode cX7_read 48 = .ok (.istore_n 2, 1) := by decide +kernel
theorem dX7_read_49 : decode cX7_read 49 = .ok (.goto 66, 3) := by decide +kernel
theorem dX7_read_52 : decode cX7_read 52 = .ok (.iload_n 2, 1) := by decide +kernel
theorem dX7_read_53 : decode cX7_read 53 = .ok (.ifCond .eq 21, 3) := by decide +kernel
theorem dX7_read_56 : decode cX7_read 56 = .ok (.aload_n 0, 1) := by decide +kernel
theorem dX7_read_57 : decode cX7_read 57 = .ok (.getfield 19, 3) := by decide +kernel
theorem dX7_read_60 : decode cX7_read 60 = .ok (.aload_n 0, 1) := by decide +kernel
theorem dX7_read_61 : decode cX7_read 61 = .ok (.getfield 22, 3) := by decide +kernel
theorem dX7_read_64 : decode cX7_read 64 = .ok (.iconst 1, 1) := by decide +kernel
theorem dX7_read_65 : decode cX7_read 65 = .ok (.isub, 1) := by decide +kernel
theorem dX7_read_66 : decode cX7_read 66 = .ok (.dup2, 1) := by decide +kernel
theorem dX7_read_67 : decode cX7_read 67 = .ok (.iaload, 1) := by decide +kernel
theorem dX7_read_68 : decode cX7_read 68 = .ok (.iconst 1, 1) := by decide +kernel
theorem dX7_read_69 : decode cX7_read 69 = .ok (.iadd, 1) := by decide +kernel
theorem dX7_read_70 : decode cX7_read 70 = .ok (.iastore, 1) := by decide +kernel
theorem dX7_read_71 : decode cX7_read 71 = .ok (.goto 44, 3) := by decide +kernel
theorem dX7_read_74 : decode cX7_read 74 = .ok (.aload_n 0, 1) := by decide +kernel
theorem dX7_read_75 : decode cX7_read 75 = .ok (.getfield 22, 3) := by decide +kernel
theorem dX7_read_78 : decode cX7_read 78 = .ok (.bipush 30, 2) := by decide +kernel
theorem dX7_read_80 : decode cX7_read 80 = .ok (.if_icmp .ge 35, 3) := by decide +kernel
theorem dX7_read_83 : decode cX7_read 83 = .ok (.aload_n 0, 1) := by decide +kernel
theorem dX7_read_84 : decode cX7_read 84 = .ok (.getfield 15, 3) := by decide +kernel
theorem dX7_read_87 : decode cX7_read 87 = .ok (.aload_n 0, 1) := by decide +kernel
theorem dX7_read_88 : decode cX7_read 88 = .ok (.getfield 22, 3) := by decide +kernel
theorem dX7_read_91 : decode cX7_read 91 = .ok (.iload_n 3, 1) := by decide +kernel
theorem dX7_read_92 : decode cX7_read 92 = .ok (.iastore, 1) := by decide +kernel
theorem dX7_read_93 : decode cX7_read 93 = .ok (.aload_n 0, 1) := by decide +kernel
theorem dX7_read_94 : decode cX7_read 94 = .ok (.getfield 19, 3) := by decide +kernel
theorem dX7_read_97 : decode cX7_read 97 = .ok (.aload_n 0, 1) := by decide +kernel
theorem dX7_read_98 : decode cX7_read 98 = .ok (.getfield 22, 3) := by decide +kernel
theorem dX7_read_101 : decode cX7_read 101 = .ok (.iconst 1, 1) := by decide +kernel
theorem dX7_read_102 : decode cX7_read 102 = .ok (.iastore, 1) := by decide +kernel
theorem dX7_read_103 : decode cX7_read 103 = .ok (.aload_n 0, 1) := by decide +kernel
theorem dX7_read_104 : decode cX7_read 104 = .ok (.dup, 1) := by decide +kernel
theorem dX7_read_105 : decode cX7_read 105 = .ok (.getfield 22, 3) := by decide +kernel
theorem dX7_read_108 : decode cX7_read 108 = .ok (.iconst 1, 1) := by decide +kernel
theorem dX7_read_109 : decode cX7_read 109 = .ok (.iadd, 1) := by decide +kernel
theorem dX7_read_110 : decode cX7_read 110 = .ok (.putfield 22, 3) := by decide +kernel
theorem dX7_read_113 : decode cX7_read 113 = .ok (.iconst 1, 1) := by decide +kernel
theorem dX7_read_114 : decode cX7_read 114 = .ok (.istore_n 2, 1) := by decide +kernel
theorem dX7_read_115 : decode cX7_read 115 = .ok (.iinc 3 1, 3) := by decide +kernel
theorem dX7_read_118 : decode cX7_read 118 = .ok (.goto (-109), 3) := by decide +kernel
theorem dX7_read_121 : decode cX7_read 121 = .ok (.return_, 1) := by decide +kernel
theorem dX7_countDifferent_0 : decode cX7_countDifferent 0 = .ok (.iconst 0, 1) := by decide +kernel
theorem dX7_countDifferent_1 : decode cX7_countDifferent 1 = .ok (.istore_n 1, 1) := by decide +kernel
theorem dX7_countDifferent_2 : decode cX7_countDifferent 2 = .ok (.iconst 0, 1) := by decide +kernel
theorem dX7_countDifferent_3 : decode cX7_countDifferent 3 = .ok (.istore_n 2, 1) := by decide +kernel
theorem dX7_countDifferent_4 : decode cX7_countDifferent 4 = .ok (.iload_n 2, 1) := by decide +kernel
theorem dX7_countDifferent_5 : decode cX7_countDifferent 5 = .ok (.aload_n 0, 1) := by decide +kernel
theorem dX7_countDifferent_6 : decode cX7_countDifferent 6 = .ok (.getfield 22, 3) := by decide +kernel
theorem dX7_countDifferent_9 : decode cX7_countDifferent 9 = .ok (.if_icmp .ge 22, 3) := by decide +kernel
theorem dX7_countDifferent_12 : decode cX7_countDifferent 12 = .ok (.aload_n 0, 1) := by decide +kernel
theorem dX7_countDifferent_13 : decode cX7_countDifferent 13 = .ok (.iload_n 2, 1) := by decide +kernel
theorem dX7_countDifferent_14 : decode cX7_countDifferent 14 = .ok (.aload_n 0, 1) := by decide +kernel
theorem dX7_countDifferent_15 : decode cX7_countDifferent 15 = .ok (.iload_n 2, 1) := by decide +kernel
theorem dX7_countDifferent_16 : decode cX7_countDifferent 16 = .ok (.invokevirtual 38, 3) := by decide +kernel
theorem dX7_countDifferent_19 : decode cX7_countDifferent 19 = .ok (.ifCond .ne 6, 3) := by decide +kernel
theorem dX7_countDifferent_22 : decode cX7_countDifferent 22 = .ok (.iinc 1 1, 3) := by decide +kernel
theorem dX7_countDifferent_25 : decode cX7_countDifferent 25 = .ok (.iinc 2 1, 3) := by decide +kernel
theorem dX7_countDifferent_28 : decode cX7_countDifferent 28 = .ok (.goto (-24), 3) := by decide +kernel
theorem dX7_countDifferent_31 : decode cX7_countDifferent 31 = .ok (.iload_n 1, 1) := by decide +kernel
theorem dX7_countDifferent_32 : decode cX7_countDifferent 32 = .ok (.ireturn, 1) := by decide +kernel
theorem dX7_countDifferentIn_0 : decode cX7_countDifferentIn 0 = .ok (.iconst 0, 1) := by decide +kernel
theorem dX7_countDifferentIn_1 : decode cX7_countDifferentIn 1 = .ok (.istore_n 2, 1) := by decide +kernel
theorem dX7_countDifferentIn_2 : decode cX7_countDifferentIn 2 = .ok (.iconst 0, 1) := by decide +kernel
theorem dX7_countDifferentIn_3 : decode cX7_countDifferentIn 3 = .ok (.istore_n 3, 1) := by decide +kernel
theorem dX7_countDifferentIn_4 : decode cX7_countDifferentIn 4 = .ok (.iload_n 3, 1) := by decide +kernel
theorem dX7_countDifferentIn_5 : decode cX7_countDifferentIn 5 = .ok (.aload_n 0, 1) := by decide +kernel
theorem dX7_countDifferentIn_6 : decode cX7_countDifferentIn 6 = .ok (.getfield 22, 3) := by decide +kernel
theorem dX7_countDifferentIn_9 : decode cX7_countDifferentIn 9 = .ok (.if_icmp .ge 35, 3) := by decide +kernel
theorem dX7_countDifferentIn_12 : decode cX7_countDifferentIn 12 = .ok (.aload_n 0, 1) := by decide +kernel
theorem dX7_countDifferentIn_13 : decode cX7_countDifferentIn 13 = .ok (.iload_n 3, 1) := by decide +kernel
theorem dX7_countDifferentIn_14 : decode cX7_countDifferentIn 14 = .ok (.aload_n 0, 1) := by decide +kernel
theorem dX7_countDifferentIn_15 : decode cX7_countDifferentIn 15 = .ok (.iload_n 3, 1) := by decide +kernel
theorem dX7_countDifferentIn_16 : decode cX7_countDifferentIn 16 = .ok (.invokevirtual 38, 3) := by decide +kernel
theorem dX7_countDifferentIn_19 : decode cX7_countDifferentIn 19 = .ok (.ifCond .ne 19, 3) := by decide +kernel
theorem dX7_countDifferentIn_22 : decode cX7_countDifferentIn 22 = .ok (.aload_n 1, 1) := by decide +kernel
theorem dX7_countDifferentIn_23 : decode cX7_countDifferentIn 23 = .ok (.aload_n 1, 1) := by decide +kernel
theorem dX7_countDifferentIn_24 : decode cX7_countDifferentIn 24 = .ok (.getfield 22, 3) := by decide +kernel
theorem dX7_countDifferentIn_27 : decode cX7_countDifferentIn 27 = .ok (.aload_n 0, 1) := by decide +kernel
theorem dX7_countDifferentIn_28 : decode cX7_countDifferentIn 28 = .ok (.iload_n 3, 1) := by decide +kernel
theorem dX7_countDifferentIn_29 : decode cX7_countDifferentIn 29 = .ok (.invokevirtual 38, 3) := by decide +kernel
theorem dX7_countDifferentIn_32 : decode cX7_countDifferentIn 32 = .ok (.ifCond .eq 6, 3) := by decide +kernel
theorem dX7_countDifferentIn_35 : decode cX7_countDifferentIn 35 = .ok (.iinc 2 1, 3) := by decide +kernel
theorem dX7_countDifferentIn_38 : decode cX7_countDifferentIn 38 = .ok (.iinc 3 1, 3) := by decide +kernel
theorem dX7_countDifferentIn_41 : decode cX7_countDifferentIn 41 = .ok (.goto (-37), 3) := by decide +kernel
theorem dX7_countDifferentIn_44 : decode cX7_countDifferentIn 44 = .ok (.iload_n 2, 1) := by decide +kernel
theorem dX7_countDifferentIn_45 : decode cX7_countDifferentIn 45 = .ok (.ireturn, 1) := by decide +kernel
theorem dX7_sameRow_0 : decode cX7_sameRow 0 = .ok (.aload_n 0, 1) := by decide +kernel
theorem dX7_sameRow_1 : decode cX7_sameRow 1 = .ok (.getfield 22, 3) := by decide +kernel
theorem dX7_sameRow_4 : decode cX7_sameRow 4 = .ok (.aload_n 1, 1) := by decide +kernel
theorem dX7_sameRow_5 : decode cX7_sameRow 5 = .ok (.getfield 22, 3) := by decide +kernel
theorem dX7_sameRow_8 : decode cX7_sameRow 8 = .ok (.if_icmp .eq 5, 3) := by decide +kernel
theorem dX7_sameRow_11 : decode cX7_sameRow 11 = .ok (.iconst 0, 1) := by decide +kernel
theorem dX7_sameRow_12 : decode cX7_sameRow 12 = .ok (.ireturn, 1) := by decide +kernel
theorem dX7_sameRow_13 : decode cX7_sameRow 13 = .ok (.iconst 0, 1) := by decide +kernel
theorem dX7_sameRow_14 : decode cX7_sameRow 14 = .ok (.istore_n 2, 1) := by decide +kernel
theorem dX7_sameRow_15 : decode cX7_sameRow 15 = .ok (.iload_n 2, 1) := by decide +kernel
theorem dX7_sameRow_16 : decode cX7_sameRow 16 = .ok (.aload_n 0, 1) := by decide +kernel
theorem dX7_sameRow_17 : decode cX7_sameRow 17 = .ok (.getfield 22, 3) := by decide +kernel
theorem dX7_sameRow_20 : decode cX7_sameRow 20 = .ok (.if_icmp .ge 21, 3) := by decide +kernel
theorem dX7_sameRow_23 : decode cX7_sameRow 23 = .ok (.aload_n 0, 1) := by decide +kernel
theorem dX7_sameRow_24 : decode cX7_sameRow 24 = .ok (.iload_n 2, 1) := by decide +kernel
theorem dX7_sameRow_25 : decode cX7_sameRow 25 = .ok (.aload_n 1, 1) := by decide +kernel
theorem dX7_sameRow_26 : decode cX7_sameRow 26 = .ok (.iload_n 2, 1) := by decide +kernel
theorem dX7_sameRow_27 : decode cX7_sameRow 27 = .ok (.invokevirtual 42, 3) := by decide +kernel
theorem dX7_sameRow_30 : decode cX7_sameRow 30 = .ok (.ifCond .ne 5, 3) := by decide +kernel
theorem dX7_sameRow_33 : decode cX7_sameRow 33 = .ok (.iconst 0, 1) := by decide +kernel
theorem dX7_sameRow_34 : decode cX7_sameRow 34 = .ok (.ireturn, 1) := by decide +kernel
theorem dX7_sameRow_35 : decode cX7_sameRow 35 = .ok (.iinc 2 1, 3) := by decide +kernel
theorem dX7_sameRow_38 : decode cX7_sameRow 38 = .ok (.goto (-23), 3) := by decide +kernel
theorem dX7_sameRow_41 : decode cX7_sameRow 41 = .ok (.iconst 1, 1) := by decide +kernel
theorem dX7_sameRow_42 : decode cX7_sameRow 42 = .ok (.ireturn, 1) := by decide +kernel
theorem dX7_startOfFirstLong_0 : decode cX7_startOfFirstLong 0 = .ok (.iconst 0, 1) := by decide +kernel
theorem dX7_startOfFirstLong_1 : decode cX7_startOfFirstLong 1 = .ok (.istore_n 1, 1) := by decide +kernel
theorem dX7_startOfFirstLong_2 : decode cX7_startOfFirstLong 2 = .ok (.iload_n 1, 1) := by decide +kernel
theorem dX7_startOfFirstLong_3 : decode cX7_startOfFirstLong 3 = .ok (.aload_n 0, 1) := by decide +kernel
theorem dX7_startOfFirstLong_4 : decode cX7_startOfFirstLong 4 = .ok (.getfield 22, 3) := by decide +kernel
theorem dX7_startOfFirstLong_7 : decode cX7_startOfFirstLong 7 = .ok (.if_icmp .ge 30, 3) := by decide +kernel
theorem dX7_startOfFirstLong_10 : decode cX7_startOfFirstLong 10 = .ok (.aload_n 0, 1) := by decide +kernel
theorem dX7_startOfFirstLong_11 : decode cX7_startOfFirstLong 11 = .ok (.getfield 19, 3) := by decide +kernel
theorem dX7_startOfFirstLong_14 : decode cX7_startOfFirstLong 14 = .ok (.iload_n 1, 1) := by decide +kernel
theorem dX7_startOfFirstLong_15 : decode cX7_startOfFirstLong 15 = .ok (.iaload, 1) := by decide +kernel
theorem dX7_startOfFirstLong_16 : decode cX7_startOfFirstLong 16 = .ok (.iconst 4, 1) := by decide +kernel
theorem dX7_startOfFirstLong_17 : decode cX7_startOfFirstLong 17 = .ok (.if_icmp .lt 14, 3) := by decide +kernel
theorem dX7_startOfFirstLong_20 : decode cX7_startOfFirstLong 20 = .ok (.aload_n 0, 1) := by decide +kernel
theorem dX7_startOfFirstLong_21 : decode cX7_startOfFirstLong 21 = .ok (.aload_n 0, 1) := by decide +kernel
theorem dX7_startOfFirstLong_22 : decode cX7_startOfFirstLong 22 = .ok (.getfield 15, 3) := by decide +kernel
theorem dX7_startOfFirstLong_25 : decode cX7_startOfFirstLong 25 = .ok (.iload_n 1, 1) := by decide +kernel
theorem dX7_startOfFirstLong_26 : decode cX7_startOfFirstLong 26 = .ok (.iaload, 1) := by decide +kernel
theorem dX7_startOfFirstLong_27 : decode cX7_startOfFirstLong 27 = .ok (.invokevirtual 45, 3) := by decide +kernel
theorem dX7_startOfFirstLong_30 : decode cX7_startOfFirstLong 30 = .ok (.ireturn, 1) := by decide +kernel
theorem dX7_startOfFirstLong_31 : decode cX7_startOfFirstLong 31 = .ok (.iinc 1 1, 3) := by decide +kernel
theorem dX7_startOfFirstLong_34 : decode cX7_startOfFirstLong 34 = .ok (.goto (-32), 3) := by decide +kernel
theorem dX7_startOfFirstLong_37 : decode cX7_startOfFirstLong 37 = .ok (.iconst 0, 1) := by decide +kernel
theorem dX7_startOfFirstLong_38 : decode cX7_startOfFirstLong 38 = .ok (.ireturn, 1) := by decide +kernel
theorem dX7_packed_0 : decode cX7_packed 0 = .ok (.iconst 0, 1) := by decide +kernel
theorem dX7_packed_1 : decode cX7_packed 1 = .ok (.istore_n 2, 1) := by decide +kernel
theorem dX7_packed_2 : decode cX7_packed 2 = .ok (.iload_n 1, 1) := by decide +kernel
theorem dX7_packed_3 : decode cX7_packed 3 = .ok (.istore_n 3, 1) := by decide +kernel
theorem dX7_packed_4 : decode cX7_packed 4 = .ok (.iload_n 3, 1) := by decide +kernel
theorem dX7_packed_5 : decode cX7_packed 5 = .ok (.iload_n 1, 1) := by decide +kernel
theorem dX7_packed_6 : decode cX7_packed 6 = .ok (.iconst 4, 1) := by decide +kernel
theorem dX7_packed_7 : decode cX7_packed 7 = .ok (.iadd, 1) := by decide +kernel
theorem dX7_packed_8 : decode cX7_packed 8 = .ok (.if_icmp .ge 27, 3) := by decide +kernel
theorem dX7_packed_11 : decode cX7_packed 11 = .ok (.iload_n 3, 1) := by decide +kernel
theorem dX7_packed_12 : decode cX7_packed 12 = .ok (.bipush 60, 2) := by decide +kernel
theorem dX7_packed_14 : decode cX7_packed 14 = .ok (.if_icmp .ge 21, 3) := by decide +kernel
theorem dX7_packed_17 : decode cX7_packed 17 = .ok (.iload_n 2, 1) := by decide +kernel
theorem dX7_packed_18 : decode cX7_packed 18 = .ok (.bipush 7, 2) := by decide +kernel
theorem dX7_packed_20 : decode cX7_packed 20 = .ok (.ishl, 1) := by decide +kernel
theorem dX7_packed_21 : decode cX7_packed 21 = .ok (.aload_n 0, 1) := by decide +kernel
theorem dX7_packed_22 : decode cX7_packed 22 = .ok (.getfield 9, 3) := by decide +kernel
theorem dX7_packed_25 : decode cX7_packed 25 = .ok (.iload_n 3, 1) := by decide +kernel
theorem dX7_packed_26 : decode cX7_packed 26 = .ok (.caload, 1) := by decide +kernel
theorem dX7_packed_27 : decode cX7_packed 27 = .ok (.ior, 1) := by decide +kernel
theorem dX7_packed_28 : decode cX7_packed 28 = .ok (.istore_n 2, 1) := by decide +kernel
theorem dX7_packed_29 : decode cX7_packed 29 = .ok (.iinc 3 1, 3) := by decide +kernel
theorem dX7_packed_32 : decode cX7_packed 32 = .ok (.goto (-28), 3) := by decide +kernel
theorem dX7_packed_35 : decode cX7_packed 35 = .ok (.iload_n 2, 1) := by decide +kernel
theorem dX7_packed_36 : decode cX7_packed 36 = .ok (.ireturn, 1) := by decide +kernel
theorem dX7_hasAmongFirst_0 : decode cX7_hasAmongFirst 0 = .ok (.iconst 0, 1) := by decide +kernel
theorem dX7_hasAmongFirst_1 : decode cX7_hasAmongFirst 1 = .ok (.istore 4, 2) := by decide +kernel
theorem dX7_hasAmongFirst_3 : decode cX7_hasAmongFirst 3 = .ok (.iload 4, 2) := by decide +kernel
theorem dX7_hasAmongFirst_5 : decode cX7_hasAmongFirst 5 = .ok (.iload_n 1, 1) := by decide +kernel
theorem dX7_hasAmongFirst_6 : decode cX7_hasAmongFirst 6 = .ok (.if_icmp .ge 22, 3) := by decide +kernel
theorem dX7_hasAmongFirst_9 : decode cX7_hasAmongFirst 9 = .ok (.aload_n 0, 1) := by decide +kernel
theorem dX7_hasAmongFirst_10 : decode cX7_hasAmongFirst 10 = .ok (.iload 4, 2) := by decide +kernel
theorem dX7_hasAmongFirst_12 : decode cX7_hasAmongFirst 12 = .ok (.aload_n 2, 1) := by decide +kernel
theorem dX7_hasAmongFirst_13 : decode cX7_hasAmongFirst 13 = .ok (.iload_n 3, 1) := by decide +kernel
theorem dX7_hasAmongFirst_14 : decode cX7_hasAmongFirst 14 = .ok (.invokevirtual 42, 3) := by decide +kernel
theorem dX7_hasAmongFirst_17 : decode cX7_hasAmongFirst 17 = .ok (.ifCond .eq 5, 3) := by decide +kernel
theorem dX7_hasAmongFirst_20 : decode cX7_hasAmongFirst 20 = .ok (.iconst 1, 1) := by decide +kernel
theorem dX7_hasAmongFirst_21 : decode cX7_hasAmongFirst 21 = .ok (.ireturn, 1) := by decide +kernel
theorem dX7_hasAmongFirst_22 : decode cX7_hasAmongFirst 22 = .ok (.iinc 4 1, 3) := by decide +kernel
theorem dX7_hasAmongFirst_25 : decode cX7_hasAmongFirst 25 = .ok (.goto (-22), 3) := by decide +kernel
theorem dX7_hasAmongFirst_28 : decode cX7_hasAmongFirst 28 = .ok (.iconst 0, 1) := by decide +kernel
theorem dX7_hasAmongFirst_29 : decode cX7_hasAmongFirst 29 = .ok (.ireturn, 1) := by decide +kernel
theorem dX7_sameWord_0 : decode cX7_sameWord 0 = .ok (.aload_n 0, 1) := by decide +kernel
theorem dX7_sameWord_1 : decode cX7_sameWord 1 = .ok (.getfield 19, 3) := by decide +kernel
theorem dX7_sameWord_4 : decode cX7_sameWord 4 = .ok (.iload_n 1, 1) := by decide +kernel
theorem dX7_sameWord_5 : decode cX7_sameWord 5 = .ok (.iaload, 1) := by decide +kernel
theorem dX7_sameWord_6 : decode cX7_sameWord 6 = .ok (.aload_n 2, 1) := by decide +kernel
theorem dX7_sameWord_7 : decode cX7_sameWord 7 = .ok (.getfield 19, 3) := by decide +kernel
theorem dX7_sameWord_10 : decode cX7_sameWord 10 = .ok (.iload_n 3, 1) := by decide +kernel
theorem dX7_sameWord_11 : decode cX7_sameWord 11 = .ok (.iaload, 1) := by decide +kernel
theorem dX7_sameWord_12 : decode cX7_sameWord 12 = .ok (.if_icmp .eq 5, 3) := by decide +kernel
theorem dX7_sameWord_15 : decode cX7_sameWord 15 = .ok (.iconst 0, 1) := by decide +kernel
theorem dX7_sameWord_16 : decode cX7_sameWord 16 = .ok (.ireturn, 1) := by decide +kernel
theorem dX7_sameWord_17 : decode cX7_sameWord 17 = .ok (.iconst 0, 1) := by decide +kernel
theorem dX7_sameWord_18 : decode cX7_sameWord 18 = .ok (.istore 4, 2) := by decide +kernel
theorem dX7_sameWord_20 : decode cX7_sameWord 20 = .ok (.iload 4, 2) := by decide +kernel
theorem dX7_sameWord_22 : decode cX7_sameWord 22 = .ok (.aload_n 0, 1) := by decide +kernel
theorem dX7_sameWord_23 : decode cX7_sameWord 23 = .ok (.getfield 19, 3) := by decide +kernel
theorem dX7_sameWord_26 : decode cX7_sameWord 26 = .ok (.iload_n 1, 1) := by decide +kernel
theorem dX7_sameWord_27 : decode cX7_sameWord 27 = .ok (.iaload, 1) := by decide +kernel
theorem dX7_sameWord_28 : decode cX7_sameWord 28 = .ok (.if_icmp .ge 42, 3) := by decide +kernel
theorem dX7_sameWord_31 : decode cX7_sameWord 31 = .ok (.aload_n 0, 1) := by decide +kernel
theorem dX7_sameWord_32 : decode cX7_sameWord 32 = .ok (.getfield 9, 3) := by decide +kernel
theorem dX7_sameWord_35 : decode cX7_sameWord 35 = .ok (.aload_n 0, 1) := by decide +kernel
theorem dX7_sameWord_36 : decode cX7_sameWord 36 = .ok (.getfield 15, 3) := by decide +kernel
theorem dX7_sameWord_39 : decode cX7_sameWord 39 = .ok (.iload_n 1, 1) := by decide +kernel
theorem dX7_sameWord_40 : decode cX7_sameWord 40 = .ok (.iaload, 1) := by decide +kernel
theorem dX7_sameWord_41 : decode cX7_sameWord 41 = .ok (.iload 4, 2) := by decide +kernel
theorem dX7_sameWord_43 : decode cX7_sameWord 43 = .ok (.iadd, 1) := by decide +kernel
theorem dX7_sameWord_44 : decode cX7_sameWord 44 = .ok (.caload, 1) := by decide +kernel
theorem dX7_sameWord_45 : decode cX7_sameWord 45 = .ok (.aload_n 2, 1) := by decide +kernel
theorem dX7_sameWord_46 : decode cX7_sameWord 46 = .ok (.getfield 9, 3) := by decide +kernel
theorem dX7_sameWord_49 : decode cX7_sameWord 49 = .ok (.aload_n 2, 1) := by decide +kernel
theorem dX7_sameWord_50 : decode cX7_sameWord 50 = .ok (.getfield 15, 3) := by decide +kernel
theorem dX7_sameWord_53 : decode cX7_sameWord 53 = .ok (.iload_n 3, 1) := by decide +kernel
theorem dX7_sameWord_54 : decode cX7_sameWord 54 = .ok (.iaload, 1) := by decide +kernel
theorem dX7_sameWord_55 : decode cX7_sameWord 55 = .ok (.iload 4, 2) := by decide +kernel
theorem dX7_sameWord_57 : decode cX7_sameWord 57 = .ok (.iadd, 1) := by decide +kernel
theorem dX7_sameWord_58 : decode cX7_sameWord 58 = .ok (.caload, 1) := by decide +kernel
theorem dX7_sameWord_59 : decode cX7_sameWord 59 = .ok (.if_icmp .eq 5, 3) := by decide +kernel
theorem dX7_sameWord_62 : decode cX7_sameWord 62 = .ok (.iconst 0, 1) := by decide +kernel
theorem dX7_sameWord_63 : decode cX7_sameWord 63 = .ok (.ireturn, 1) := by decide +kernel
theorem dX7_sameWord_64 : decode cX7_sameWord 64 = .ok (.iinc 4 1, 3) := by decide +kernel
theorem dX7_sameWord_67 : decode cX7_sameWord 67 = .ok (.goto (-47), 3) := by decide +kernel
theorem dX7_sameWord_70 : decode cX7_sameWord 70 = .ok (.iconst 1, 1) := by decide +kernel
theorem dX7_sameWord_71 : decode cX7_sameWord 71 = .ok (.ireturn, 1) := by decide +kernel
