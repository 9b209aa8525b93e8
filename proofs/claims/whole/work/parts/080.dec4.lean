theorem dX9_isOf_11 : decode cX9_isOf 11 = .ok (.if_icmp .ne 7, 3) := by decide +kernel
theorem dX9_isOf_14 : decode cX9_isOf 14 = .ok (.iconst 1, 1) := by decide +kernel
theorem dX9_isOf_15 : decode cX9_isOf 15 = .ok (.goto 4, 3) := by decide +kernel
theorem dX9_isOf_18 : decode cX9_isOf 18 = .ok (.iconst 0, 1) := by decide +kernel
theorem dX9_isOf_19 : decode cX9_isOf 19 = .ok (.ireturn, 1) := by decide +kernel
theorem dX9_first_0 : decode cX9_first 0 = .ok (.iconst 1, 1) := by decide +kernel
theorem dX9_first_1 : decode cX9_first 1 = .ok (.istore_n 3, 1) := by decide +kernel
theorem dX9_first_2 : decode cX9_first 2 = .ok (.iload_n 3, 1) := by decide +kernel
theorem dX9_first_3 : decode cX9_first 3 = .ok (.aload_n 0, 1) := by decide +kernel
theorem dX9_first_4 : decode cX9_first 4 = .ok (.getfield 78, 3) := by decide +kernel
theorem dX9_first_7 : decode cX9_first 7 = .ok (.if_icmp .gt 30, 3) := by decide +kernel
theorem dX9_first_10 : decode cX9_first 10 = .ok (.aload_n 0, 1) := by decide +kernel
theorem dX9_first_11 : decode cX9_first 11 = .ok (.iload_n 3, 1) := by decide +kernel
theorem dX9_first_12 : decode cX9_first 12 = .ok (.iload_n 1, 1) := by decide +kernel
theorem dX9_first_13 : decode cX9_first 13 = .ok (.invokevirtual 104, 3) := by decide +kernel
theorem dX9_first_16 : decode cX9_first 16 = .ok (.ifCond .eq 15, 3) := by decide +kernel
theorem dX9_first_19 : decode cX9_first 19 = .ok (.aload_n 0, 1) := by decide +kernel
theorem dX9_first_20 : decode cX9_first 20 = .ok (.getfield 26, 3) := by decide +kernel
theorem dX9_first_23 : decode cX9_first 23 = .ok (.iload_n 3, 1) := by decide +kernel
theorem dX9_first_24 : decode cX9_first 24 = .ok (.iaload, 1) := by decide +kernel
theorem dX9_first_25 : decode cX9_first 25 = .ok (.iload_n 2, 1) := by decide +kernel
theorem dX9_first_26 : decode cX9_first 26 = .ok (.if_icmp .ne 5, 3) := by decide +kernel
theorem dX9_first_29 : decode cX9_first 29 = .ok (.iload_n 3, 1) := by decide +kernel
theorem dX9_first_30 : decode cX9_first 30 = .ok (.ireturn, 1) := by decide +kernel
theorem dX9_first_31 : decode cX9_first 31 = .ok (.iinc 3 1, 3) := by decide +kernel
theorem dX9_first_34 : decode cX9_first 34 = .ok (.goto (-32), 3) := by decide +kernel
theorem dX9_first_37 : decode cX9_first 37 = .ok (.iconst 0, 1) := by decide +kernel
theorem dX9_first_38 : decode cX9_first 38 = .ok (.ireturn, 1) := by decide +kernel
theorem dX9_isbn_0 : decode cX9_isbn 0 = .ok (.aload_n 0, 1) := by decide +kernel
theorem dX9_isbn_1 : decode cX9_isbn 1 = .ok (.iconst 0, 1) := by decide +kernel
theorem dX9_isbn_2 : decode cX9_isbn 2 = .ok (.putfield 64, 3) := by decide +kernel
theorem dX9_isbn_5 : decode cX9_isbn 5 = .ok (.iconst 0, 1) := by decide +kernel
theorem dX9_isbn_6 : decode cX9_isbn 6 = .ok (.istore_n 3, 1) := by decide +kernel
theorem dX9_isbn_7 : decode cX9_isbn 7 = .ok (.iconst 1, 1) := by decide +kernel
theorem dX9_isbn_8 : decode cX9_isbn 8 = .ok (.istore 4, 2) := by decide +kernel
theorem dX9_isbn_10 : decode cX9_isbn 10 = .ok (.iload 4, 2) := by decide +kernel
theorem dX9_isbn_12 : decode cX9_isbn 12 = .ok (.aload_n 0, 1) := by decide +kernel
theorem dX9_isbn_13 : decode cX9_isbn 13 = .ok (.getfield 78, 3) := by decide +kernel
theorem dX9_isbn_16 : decode cX9_isbn 16 = .ok (.if_icmp .gt 69, 3) := by decide +kernel
theorem dX9_isbn_19 : decode cX9_isbn 19 = .ok (.iload_n 2, 1) := by decide +kernel
theorem dX9_isbn_20 : decode cX9_isbn 20 = .ok (.ifCond .lt 65, 3) := by decide +kernel
theorem dX9_isbn_23 : decode cX9_isbn 23 = .ok (.aload_n 0, 1) := by decide +kernel
theorem dX9_isbn_24 : decode cX9_isbn 24 = .ok (.iload_n 1, 1) := by decide +kernel
theorem dX9_isbn_25 : decode cX9_isbn 25 = .ok (.invokevirtual 75, 3) := by decide +kernel
theorem dX9_isbn_28 : decode cX9_isbn 28 = .ok (.ifCond .eq 57, 3) := by decide +kernel
theorem dX9_isbn_31 : decode cX9_isbn 31 = .ok (.aload_n 0, 1) := by decide +kernel
theorem dX9_isbn_32 : decode cX9_isbn 32 = .ok (.iload 4, 2) := by decide +kernel
theorem dX9_isbn_34 : decode cX9_isbn 34 = .ok (.iload_n 1, 1) := by decide +kernel
theorem dX9_isbn_35 : decode cX9_isbn 35 = .ok (.invokevirtual 104, 3) := by decide +kernel
theorem dX9_isbn_38 : decode cX9_isbn 38 = .ok (.ifCond .eq 41, 3) := by decide +kernel
theorem dX9_isbn_41 : decode cX9_isbn 41 = .ok (.aload_n 0, 1) := by decide +kernel
theorem dX9_isbn_42 : decode cX9_isbn 42 = .ok (.getfield 26, 3) := by decide +kernel
theorem dX9_isbn_45 : decode cX9_isbn 45 = .ok (.iload 4, 2) := by decide +kernel
theorem dX9_isbn_47 : decode cX9_isbn 47 = .ok (.iaload, 1) := by decide +kernel
theorem dX9_isbn_48 : decode cX9_isbn 48 = .ok (.iconst 2, 1) := by decide +kernel
theorem dX9_isbn_49 : decode cX9_isbn 49 = .ok (.if_icmp .ne 30, 3) := by decide +kernel
theorem dX9_isbn_52 : decode cX9_isbn 52 = .ok (.iload_n 3, 1) := by decide +kernel
theorem dX9_isbn_53 : decode cX9_isbn 53 = .ok (.iload_n 2, 1) := by decide +kernel
theorem dX9_isbn_54 : decode cX9_isbn 54 = .ok (.if_icmp .ne 22, 3) := by decide +kernel
theorem dX9_isbn_57 : decode cX9_isbn 57 = .ok (.aload_n 0, 1) := by decide +kernel
theorem dX9_isbn_58 : decode cX9_isbn 58 = .ok (.iload 4, 2) := by decide +kernel
theorem dX9_isbn_60 : decode cX9_isbn 60 = .ok (.invokevirtual 108, 3) := by decide +kernel
theorem dX9_isbn_63 : decode cX9_isbn 63 = .ok (.ldc2_w 99, 3) := by decide +kernel
theorem dX9_isbn_66 : decode cX9_isbn 66 = .ok (.lcmp, 1) := by decide +kernel
theorem dX9_isbn_67 : decode cX9_isbn 67 = .ok (.ifCond .eq 7, 3) := by decide +kernel
theorem dX9_isbn_70 : decode cX9_isbn 70 = .ok (.iconst 1, 1) := by decide +kernel
theorem dX9_isbn_71 : decode cX9_isbn 71 = .ok (.goto 4, 3) := by decide +kernel
theorem dX9_isbn_74 : decode cX9_isbn 74 = .ok (.iconst 0, 1) := by decide +kernel
theorem dX9_isbn_75 : decode cX9_isbn 75 = .ok (.ireturn, 1) := by decide +kernel
theorem dX9_isbn_76 : decode cX9_isbn 76 = .ok (.iinc 3 1, 3) := by decide +kernel
theorem dX9_isbn_79 : decode cX9_isbn 79 = .ok (.iinc 4 1, 3) := by decide +kernel
theorem dX9_isbn_82 : decode cX9_isbn 82 = .ok (.goto (-72), 3) := by decide +kernel
theorem dX9_isbn_85 : decode cX9_isbn 85 = .ok (.iconst (-1), 1) := by decide +kernel
theorem dX9_isbn_86 : decode cX9_isbn 86 = .ok (.ireturn, 1) := by decide +kernel
theorem dX9_weight_0 : decode cX9_weight 0 = .ok (.aload_n 0, 1) := by decide +kernel
theorem dX9_weight_1 : decode cX9_weight 1 = .ok (.iconst 0, 1) := by decide +kernel
theorem dX9_weight_2 : decode cX9_weight 2 = .ok (.putfield 64, 3) := by decide +kernel
theorem dX9_weight_5 : decode cX9_weight 5 = .ok (.iload_n 1, 1) := by decide +kernel
theorem dX9_weight_6 : decode cX9_weight 6 = .ok (.ifCond .lt 38, 3) := by decide +kernel
theorem dX9_weight_9 : decode cX9_weight 9 = .ok (.iload_n 1, 1) := by decide +kernel
theorem dX9_weight_10 : decode cX9_weight 10 = .ok (.iconst 4, 1) := by decide +kernel
theorem dX9_weight_11 : decode cX9_weight 11 = .ok (.if_icmp .gt 33, 3) := by decide +kernel
theorem dX9_weight_14 : decode cX9_weight 14 = .ok (.lload_n 2, 1) := by decide +kernel
theorem dX9_weight_15 : decode cX9_weight 15 = .ok (.lconst 0, 1) := by decide +kernel
theorem dX9_weight_16 : decode cX9_weight 16 = .ok (.lcmp, 1) := by decide +kernel
theorem dX9_weight_17 : decode cX9_weight 17 = .ok (.ifCond .lt 27, 3) := by decide +kernel
theorem dX9_weight_20 : decode cX9_weight 20 = .ok (.lload_n 2, 1) := by decide +kernel
theorem dX9_weight_21 : decode cX9_weight 21 = .ok (.ldc2_w 112, 3) := by decide +kernel
theorem dX9_weight_24 : decode cX9_weight 24 = .ok (.lcmp, 1) := by decide +kernel
theorem dX9_weight_25 : decode cX9_weight 25 = .ok (.ifCond .gt 19, 3) := by decide +kernel
theorem dX9_weight_28 : decode cX9_weight 28 = .ok (.lload 4, 2) := by decide +kernel
theorem dX9_weight_30 : decode cX9_weight 30 = .ok (.lconst 1, 1) := by decide +kernel
theorem dX9_weight_31 : decode cX9_weight 31 = .ok (.lcmp, 1) := by decide +kernel
theorem dX9_weight_32 : decode cX9_weight 32 = .ok (.ifCond .lt 12, 3) := by decide +kernel
theorem dX9_weight_35 : decode cX9_weight 35 = .ok (.lload 4, 2) := by decide +kernel
theorem dX9_weight_37 : decode cX9_weight 37 = .ok (.ldc2_w 95, 3) := by decide +kernel
theorem dX9_weight_40 : decode cX9_weight 40 = .ok (.lcmp, 1) := by decide +kernel
theorem dX9_weight_41 : decode cX9_weight 41 = .ok (.ifCond .le 5, 3) := by decide +kernel
theorem dX9_weight_44 : decode cX9_weight 44 = .ok (.iconst 0, 1) := by decide +kernel
theorem dX9_weight_45 : decode cX9_weight 45 = .ok (.ireturn, 1) := by decide +kernel
theorem dX9_weight_46 : decode cX9_weight 46 = .ok (.aload_n 0, 1) := by decide +kernel
theorem dX9_weight_47 : decode cX9_weight 47 = .ok (.getfield 36, 3) := by decide +kernel
theorem dX9_weight_50 : decode cX9_weight 50 = .ok (.iload_n 1, 1) := by decide +kernel
theorem dX9_weight_51 : decode cX9_weight 51 = .ok (.lload_n 2, 1) := by decide +kernel
theorem dX9_weight_52 : decode cX9_weight 52 = .ok (.l2i, 1) := by decide +kernel
theorem dX9_weight_53 : decode cX9_weight 53 = .ok (.iastore, 1) := by decide +kernel
theorem dX9_weight_54 : decode cX9_weight 54 = .ok (.aload_n 0, 1) := by decide +kernel
theorem dX9_weight_55 : decode cX9_weight 55 = .ok (.getfield 39, 3) := by decide +kernel
theorem dX9_weight_58 : decode cX9_weight 58 = .ok (.iload_n 1, 1) := by decide +kernel
theorem dX9_weight_59 : decode cX9_weight 59 = .ok (.lload 4, 2) := by decide +kernel
theorem dX9_weight_61 : decode cX9_weight 61 = .ok (.l2i, 1) := by decide +kernel
theorem dX9_weight_62 : decode cX9_weight 62 = .ok (.iastore, 1) := by decide +kernel
theorem dX9_weight_63 : decode cX9_weight 63 = .ok (.iconst 1, 1) := by decide +kernel
theorem dX9_weight_64 : decode cX9_weight 64 = .ok (.ireturn, 1) := by decide +kernel
theorem dX9_key_0 : decode cX9_key 0 = .ok (.aload_n 0, 1) := by decide +kernel
theorem dX9_key_1 : decode cX9_key 1 = .ok (.getfield 26, 3) := by decide +kernel
theorem dX9_key_4 : decode cX9_key 4 = .ok (.iload_n 1, 1) := by decide +kernel
theorem dX9_key_5 : decode cX9_key 5 = .ok (.iaload, 1) := by decide +kernel
theorem dX9_key_6 : decode cX9_key 6 = .ok (.iconst 2, 1) := by decide +kernel
theorem dX9_key_7 : decode cX9_key 7 = .ok (.if_icmp .ne 9, 3) := by decide +kernel
theorem dX9_key_10 : decode cX9_key 10 = .ok (.aload_n 0, 1) := by decide +kernel
theorem dX9_key_11 : decode cX9_key 11 = .ok (.iload_n 1, 1) := by decide +kernel
theorem dX9_key_12 : decode cX9_key 12 = .ok (.invokevirtual 108, 3) := by decide +kernel
theorem dX9_key_15 : decode cX9_key 15 = .ok (.lreturn, 1) := by decide +kernel
theorem dX9_key_16 : decode cX9_key 16 = .ok (.aload_n 0, 1) := by decide +kernel
theorem dX9_key_17 : decode cX9_key 17 = .ok (.getfield 26, 3) := by decide +kernel
theorem dX9_key_20 : decode cX9_key 20 = .ok (.iload_n 1, 1) := by decide +kernel
theorem dX9_key_21 : decode cX9_key 21 = .ok (.iaload, 1) := by decide +kernel
theorem dX9_key_22 : decode cX9_key 22 = .ok (.ifCond .eq 7, 3) := by decide +kernel
theorem dX9_key_25 : decode cX9_key 25 = .ok (.ldc2_w 99, 3) := by decide +kernel
theorem dX9_key_28 : decode cX9_key 28 = .ok (.lreturn, 1) := by decide +kernel
theorem dX9_key_29 : decode cX9_key 29 = .ok (.aload_n 0, 1) := by decide +kernel
theorem dX9_key_30 : decode cX9_key 30 = .ok (.iload_n 1, 1) := by decide +kernel
theorem dX9_key_31 : decode cX9_key 31 = .ok (.aload_n 0, 1) := by decide +kernel
theorem dX9_key_32 : decode cX9_key 32 = .ok (.getfield 52, 3) := by decide +kernel
theorem dX9_key_35 : decode cX9_key 35 = .ok (.aload_n 0, 1) := by decide +kernel
theorem dX9_key_36 : decode cX9_key 36 = .ok (.getfield 55, 3) := by decide +kernel
theorem dX9_key_39 : decode cX9_key 39 = .ok (.invokevirtual 114, 3) := by decide +kernel
theorem dX9_key_42 : decode cX9_key 42 = .ok (.istore_n 2, 1) := by decide +kernel
theorem dX9_key_43 : decode cX9_key 43 = .ok (.iconst 0, 1) := by decide +kernel
theorem dX9_key_44 : decode cX9_key 44 = .ok (.istore_n 3, 1) := by decide +kernel
theorem dX9_key_45 : decode cX9_key 45 = .ok (.iload_n 3, 1) := by decide +kernel
theorem dX9_key_46 : decode cX9_key 46 = .ok (.iload_n 2, 1) := by decide +kernel
theorem dX9_key_47 : decode cX9_key 47 = .ok (.if_icmp .ge 71, 3) := by decide +kernel
theorem dX9_key_50 : decode cX9_key 50 = .ok (.aload_n 0, 1) := by decide +kernel
theorem dX9_key_51 : decode cX9_key 51 = .ok (.getfield 55, 3) := by decide +kernel
theorem dX9_key_54 : decode cX9_key 54 = .ok (.iload_n 3, 1) := by decide +kernel
theorem dX9_key_55 : decode cX9_key 55 = .ok (.iaload, 1) := by decide +kernel
theorem dX9_key_56 : decode cX9_key 56 = .ok (.iconst 4, 1) := by decide +kernel
theorem dX9_key_57 : decode cX9_key 57 = .ok (.if_icmp .lt 55, 3) := by decide +kernel
theorem dX9_key_60 : decode cX9_key 60 = .ok (.lconst 1, 1) := by decide +kernel
theorem dX9_key_61 : decode cX9_key 61 = .ok (.lstore 4, 2) := by decide +kernel
theorem dX9_key_63 : decode cX9_key 63 = .ok (.iconst 0, 1) := by decide +kernel
theorem dX9_key_64 : decode cX9_key 64 = .ok (.istore 6, 2) := by decide +kernel
theorem dX9_key_66 : decode cX9_key 66 = .ok (.iload 6, 2) := by decide +kernel
theorem dX9_key_68 : decode cX9_key 68 = .ok (.iconst 4, 1) := by decide +kernel
theorem dX9_key_69 : decode cX9_key 69 = .ok (.if_icmp .ge 36, 3) := by decide +kernel
theorem dX9_key_72 : decode cX9_key 72 = .ok (.ldc2_w 118, 3) := by decide +kernel
theorem dX9_key_75 : decode cX9_key 75 = .ok (.lload 4, 2) := by decide +kernel
theorem dX9_key_77 : decode cX9_key 77 = .ok (.lmul, 1) := by decide +kernel
theorem dX9_key_78 : decode cX9_key 78 = .ok (.aload_n 0, 1) := by decide +kernel
theorem dX9_key_79 : decode cX9_key 79 = .ok (.iload_n 1, 1) := by decide +kernel
theorem dX9_key_80 : decode cX9_key 80 = .ok (.aload_n 0, 1) := by decide +kernel
theorem dX9_key_81 : decode cX9_key 81 = .ok (.getfield 52, 3) := by decide +kernel
theorem dX9_key_84 : decode cX9_key 84 = .ok (.iload_n 3, 1) := by decide +kernel
theorem dX9_key_85 : decode cX9_key 85 = .ok (.iaload, 1) := by decide +kernel
theorem dX9_key_86 : decode cX9_key 86 = .ok (.iload 6, 2) := by decide +kernel
theorem dX9_key_88 : decode cX9_key 88 = .ok (.iadd, 1) := by decide +kernel
theorem dX9_key_89 : decode cX9_key 89 = .ok (.invokevirtual 88, 3) := by decide +kernel
theorem dX9_key_92 : decode cX9_key 92 = .ok (.invokestatic 84, 3) := by decide +kernel
theorem dX9_key_95 : decode cX9_key 95 = .ok (.i2l, 1) := by decide +kernel
theorem dX9_key_96 : decode cX9_key 96 = .ok (.ladd, 1) := by decide +kernel
theorem dX9_key_97 : decode cX9_key 97 = .ok (.lstore 4, 2) := by decide +kernel
theorem dX9_key_99 : decode cX9_key 99 = .ok (.iinc 6 1, 3) := by decide +kernel
theorem dX9_key_102 : decode cX9_key 102 = .ok (.goto (-36), 3) := by decide +kernel
theorem dX9_key_105 : decode cX9_key 105 = .ok (.lload 4, 2) := by decide +kernel
theorem dX9_key_107 : decode cX9_key 107 = .ok (.ldc2_w 120, 3) := by decide +kernel
theorem dX9_key_110 : decode cX9_key 110 = .ok (.ladd, 1) := by decide +kernel
theorem dX9_key_111 : decode cX9_key 111 = .ok (.lreturn, 1) := by decide +kernel
theorem dX9_key_112 : decode cX9_key 112 = .ok (.iinc 3 1, 3) := by decide +kernel
theorem dX9_key_115 : decode cX9_key 115 = .ok (.goto (-70), 3) := by decide +kernel
theorem dX9_key_118 : decode cX9_key 118 = .ok (.ldc2_w 99, 3) := by decide +kernel
theorem dX9_key_121 : decode cX9_key 121 = .ok (.lreturn, 1) := by decide +kernel
theorem dX9_keysOf_0 : decode cX9_keysOf 0 = .ok (.iconst 0, 1) := by decide +kernel
theorem dX9_keysOf_1 : decode cX9_keysOf 1 = .ok (.istore_n 3, 1) := by decide +kernel
theorem dX9_keysOf_2 : decode cX9_keysOf 2 = .ok (.iconst 1, 1) := by decide +kernel
theorem dX9_keysOf_3 : decode cX9_keysOf 3 = .ok (.istore 4, 2) := by decide +kernel
theorem dX9_keysOf_5 : decode cX9_keysOf 5 = .ok (.iload 4, 2) := by decide +kernel
theorem dX9_keysOf_7 : decode cX9_keysOf 7 = .ok (.aload_n 0, 1) := by decide +kernel
theorem dX9_keysOf_8 : decode cX9_keysOf 8 = .ok (.getfield 78, 3) := by decide +kernel
theorem dX9_keysOf_11 : decode cX9_keysOf 11 = .ok (.if_icmp .gt 99, 3) := by decide +kernel
theorem dX9_keysOf_14 : decode cX9_keysOf 14 = .ok (.aload_n 0, 1) := by decide +kernel
theorem dX9_keysOf_15 : decode cX9_keysOf 15 = .ok (.iload 4, 2) := by decide +kernel
theorem dX9_keysOf_17 : decode cX9_keysOf 17 = .ok (.iload_n 1, 1) := by decide +kernel
theorem dX9_keysOf_18 : decode cX9_keysOf 18 = .ok (.invokevirtual 104, 3) := by decide +kernel
theorem dX9_keysOf_21 : decode cX9_keysOf 21 = .ok (.ifCond .eq 12, 3) := by decide +kernel
theorem dX9_keysOf_24 : decode cX9_keysOf 24 = .ok (.aload_n 0, 1) := by decide +kernel
theorem dX9_keysOf_25 : decode cX9_keysOf 25 = .ok (.iload 4, 2) := by decide +kernel
theorem dX9_keysOf_27 : decode cX9_keysOf 27 = .ok (.invokevirtual 122, 3) := by decide +kernel
theorem dX9_keysOf_30 : decode cX9_keysOf 30 = .ok (.goto 6, 3) := by decide +kernel
theorem dX9_keysOf_33 : decode cX9_keysOf 33 = .ok (.ldc2_w 99, 3) := by decide +kernel
theorem dX9_keysOf_36 : decode cX9_keysOf 36 = .ok (.lstore 5, 2) := by decide +kernel
theorem dX9_keysOf_38 : decode cX9_keysOf 38 = .ok (.lload 5, 2) := by decide +kernel
theorem dX9_keysOf_40 : decode cX9_keysOf 40 = .ok (.ldc2_w 99, 3) := by decide +kernel
theorem dX9_keysOf_43 : decode cX9_keysOf 43 = .ok (.lcmp, 1) := by decide +kernel
theorem dX9_keysOf_44 : decode cX9_keysOf 44 = .ok (.ifCond .ne 7, 3) := by decide +kernel
theorem dX9_keysOf_47 : decode cX9_keysOf 47 = .ok (.iconst 1, 1) := by decide +kernel
theorem dX9_keysOf_48 : decode cX9_keysOf 48 = .ok (.goto 4, 3) := by decide +kernel
theorem dX9_keysOf_51 : decode cX9_keysOf 51 = .ok (.iconst 0, 1) := by decide +kernel
theorem dX9_keysOf_52 : decode cX9_keysOf 52 = .ok (.istore 7, 2) := by decide +kernel
theorem dX9_keysOf_54 : decode cX9_keysOf 54 = .ok (.iconst 0, 1) := by decide +kernel
theorem dX9_keysOf_55 : decode cX9_keysOf 55 = .ok (.istore 8, 2) := by decide +kernel
theorem dX9_keysOf_57 : decode cX9_keysOf 57 = .ok (.iload 8, 2) := by decide +kernel
theorem dX9_keysOf_59 : decode cX9_keysOf 59 = .ok (.iload_n 3, 1) := by decide +kernel
theorem dX9_keysOf_60 : decode cX9_keysOf 60 = .ok (.if_icmp .ge 31, 3) := by decide +kernel
theorem dX9_keysOf_63 : decode cX9_keysOf 63 = .ok (.iload 7, 2) := by decide +kernel
theorem dX9_keysOf_65 : decode cX9_keysOf 65 = .ok (.ifCond .ne 13, 3) := by decide +kernel
theorem dX9_keysOf_68 : decode cX9_keysOf 68 = .ok (.aload_n 2, 1) := by decide +kernel
theorem dX9_keysOf_69 : decode cX9_keysOf 69 = .ok (.iload 8, 2) := by decide +kernel
theorem dX9_keysOf_71 : decode cX9_keysOf 71 = .ok (.laload, 1) := by decide +kernel
theorem dX9_keysOf_72 : decode cX9_keysOf 72 = .ok (.lload 5, 2) := by decide +kernel
theorem dX9_keysOf_74 : decode cX9_keysOf 74 = .ok (.lcmp, 1) := by decide +kernel
theorem dX9_keysOf_75 : decode cX9_keysOf 75 = .ok (.ifCond .ne 7, 3) := by decide +kernel
theorem dX9_keysOf_78 : decode cX9_keysOf 78 = .ok (.iconst 1, 1) := by decide +kernel
theorem dX9_keysOf_79 : decode cX9_keysOf 79 = .ok (.goto 4, 3) := by decide +kernel
theorem dX9_keysOf_82 : decode cX9_keysOf 82 = .ok (.iconst 0, 1) := by decide +kernel
theorem dX9_keysOf_83 : decode cX9_keysOf 83 = .ok (.istore 7, 2) := by decide +kernel
theorem dX9_keysOf_85 : decode cX9_keysOf 85 = .ok (.iinc 8 1, 3) := by decide +kernel
theorem dX9_keysOf_88 : decode cX9_keysOf 88 = .ok (.goto (-31), 3) := by decide +kernel
theorem dX9_keysOf_91 : decode cX9_keysOf 91 = .ok (.iload 7, 2) := by decide +kernel
theorem dX9_keysOf_93 : decode cX9_keysOf 93 = .ok (.ifCond .ne 11, 3) := by decide +kernel
theorem dX9_keysOf_96 : decode cX9_keysOf 96 = .ok (.aload_n 2, 1) := by decide +kernel
theorem dX9_keysOf_97 : decode cX9_keysOf 97 = .ok (.iload_n 3, 1) := by decide +kernel
theorem dX9_keysOf_98 : decode cX9_keysOf 98 = .ok (.lload 5, 2) := by decide +kernel
theorem dX9_keysOf_100 : decode cX9_keysOf 100 = .ok (.lastore, 1) := by decide +kernel
theorem dX9_keysOf_101 : decode cX9_keysOf 101 = .ok (.iinc 3 1, 3) := by decide +kernel
theorem dX9_keysOf_104 : decode cX9_keysOf 104 = .ok (.iinc 4 1, 3) := by decide +kernel
theorem dX9_keysOf_107 : decode cX9_keysOf 107 = .ok (.goto (-102), 3) := by decide +kernel
theorem dX9_keysOf_110 : decode cX9_keysOf 110 = .ok (.iload_n 3, 1) := by decide +kernel
theorem dX9_keysOf_111 : decode cX9_keysOf 111 = .ok (.ireturn, 1) := by decide +kernel
theorem dX9_has_0 : decode cX9_has 0 = .ok (.aload_n 0, 1) := by decide +kernel
theorem dX9_has_1 : decode cX9_has 1 = .ok (.iload_n 1, 1) := by decide +kernel
theorem dX9_has_2 : decode cX9_has 2 = .ok (.aload_n 0, 1) := by decide +kernel
theorem dX9_has_3 : decode cX9_has 3 = .ok (.getfield 49, 3) := by decide +kernel
theorem dX9_has_6 : decode cX9_has 6 = .ok (.invokevirtual 125, 3) := by decide +kernel
theorem dX9_has_9 : decode cX9_has 9 = .ok (.istore 4, 2) := by decide +kernel
theorem dX9_has_11 : decode cX9_has 11 = .ok (.iconst 0, 1) := by decide +kernel
theorem dX9_has_12 : decode cX9_has 12 = .ok (.istore 5, 2) := by decide +kernel
theorem dX9_has_14 : decode cX9_has 14 = .ok (.iconst 0, 1) := by decide +kernel
theorem dX9_has_15 : decode cX9_has 15 = .ok (.istore 6, 2) := by decide +kernel
theorem dX9_has_17 : decode cX9_has 17 = .ok (.iload 6, 2) := by decide +kernel
theorem dX9_has_19 : decode cX9_has 19 = .ok (.iload 4, 2) := by decide +kernel
theorem dX9_has_21 : decode cX9_has 21 = .ok (.if_icmp .ge 33, 3) := by decide +kernel
theorem dX9_has_24 : decode cX9_has 24 = .ok (.iload 5, 2) := by decide +kernel
theorem dX9_has_26 : decode cX9_has 26 = .ok (.ifCond .ne 15, 3) := by decide +kernel
theorem dX9_has_29 : decode cX9_has 29 = .ok (.aload_n 0, 1) := by decide +kernel
theorem dX9_has_30 : decode cX9_has 30 = .ok (.getfield 49, 3) := by decide +kernel
theorem dX9_has_33 : decode cX9_has 33 = .ok (.iload 6, 2) := by decide +kernel
theorem dX9_has_35 : decode cX9_has 35 = .ok (.laload, 1) := by decide +kernel
theorem dX9_has_36 : decode cX9_has 36 = .ok (.lload_n 2, 1) := by decide +kernel
theorem dX9_has_37 : decode cX9_has 37 = .ok (.lcmp, 1) := by decide +kernel
theorem dX9_has_38 : decode cX9_has 38 = .ok (.ifCond .ne 7, 3) := by decide +kernel
theorem dX9_has_41 : decode cX9_has 41 = .ok (.iconst 1, 1) := by decide +kernel
theorem dX9_has_42 : decode cX9_has 42 = .ok (.goto 4, 3) := by decide +kernel
theorem dX9_has_45 : decode cX9_has 45 = .ok (.iconst 0, 1) := by decide +kernel
theorem dX9_has_46 : decode cX9_has 46 = .ok (.istore 5, 2) := by decide +kernel
theorem dX9_has_48 : decode cX9_has 48 = .ok (.iinc 6 1, 3) := by decide +kernel
theorem dX9_has_51 : decode cX9_has 51 = .ok (.goto (-34), 3) := by decide +kernel
theorem dX9_has_54 : decode cX9_has 54 = .ok (.iload 5, 2) := by decide +kernel
theorem dX9_has_56 : decode cX9_has 56 = .ok (.ireturn, 1) := by decide +kernel
theorem dX9_candidates_0 : decode cX9_candidates 0 = .ok (.aload_n 0, 1) := by decide +kernel
theorem dX9_candidates_1 : decode cX9_candidates 1 = .ok (.iconst 0, 1) := by decide +kernel
theorem dX9_candidates_2 : decode cX9_candidates 2 = .ok (.putfield 64, 3) := by decide +kernel
theorem dX9_candidates_5 : decode cX9_candidates 5 = .ok (.aload_n 0, 1) := by decide +kernel
theorem dX9_candidates_6 : decode cX9_candidates 6 = .ok (.iload_n 1, 1) := by decide +kernel
theorem dX9_candidates_7 : decode cX9_candidates 7 = .ok (.invokevirtual 75, 3) := by decide +kernel
theorem dX9_candidates_10 : decode cX9_candidates 10 = .ok (.ifCond .ne 5, 3) := by decide +kernel
theorem dX9_candidates_13 : decode cX9_candidates 13 = .ok (.iconst (-1), 1) := by decide +kernel
theorem dX9_candidates_14 : decode cX9_candidates 14 = .ok (.ireturn, 1) := by decide +kernel
theorem dX9_candidates_15 : decode cX9_candidates 15 = .ok (.aload_n 0, 1) := by decide +kernel
theorem dX9_candidates_16 : decode cX9_candidates 16 = .ok (.iconst 0, 1) := by decide +kernel
theorem dX9_candidates_17 : decode cX9_candidates 17 = .ok (.putfield 129, 3) := by decide +kernel
theorem dX9_candidates_20 : decode cX9_candidates 20 = .ok (.aload_n 0, 1) := by decide +kernel
theorem dX9_candidates_21 : decode cX9_candidates 21 = .ok (.aload_n 0, 1) := by decide +kernel
theorem dX9_candidates_22 : decode cX9_candidates 22 = .ok (.iload_n 1, 1) := by decide +kernel
theorem dX9_candidates_23 : decode cX9_candidates 23 = .ok (.aload_n 0, 1) := by decide +kernel
theorem dX9_candidates_24 : decode cX9_candidates 24 = .ok (.getfield 45, 3) := by decide +kernel
theorem dX9_candidates_27 : decode cX9_candidates 27 = .ok (.invokevirtual 125, 3) := by decide +kernel
theorem dX9_candidates_30 : decode cX9_candidates 30 = .ok (.putfield 132, 3) := by decide +kernel
theorem dX9_candidates_33 : decode cX9_candidates 33 = .ok (.iconst 1, 1) := by decide +kernel
theorem dX9_candidates_34 : decode cX9_candidates 34 = .ok (.istore_n 2, 1) := by decide +kernel
theorem dX9_candidates_35 : decode cX9_candidates 35 = .ok (.iload_n 2, 1) := by decide +kernel
theorem dX9_candidates_36 : decode cX9_candidates 36 = .ok (.aload_n 0, 1) := by decide +kernel
theorem dX9_candidates_37 : decode cX9_candidates 37 = .ok (.getfield 68, 3) := by decide +kernel
theorem dX9_candidates_40 : decode cX9_candidates 40 = .ok (.if_icmp .gt 83, 3) := by decide +kernel
theorem dX9_candidates_43 : decode cX9_candidates 43 = .ok (.iconst 0, 1) := by decide +kernel
theorem dX9_candidates_44 : decode cX9_candidates 44 = .ok (.istore_n 3, 1) := by decide +kernel
theorem dX9_candidates_45 : decode cX9_candidates 45 = .ok (.iconst 0, 1) := by decide +kernel
theorem dX9_candidates_46 : decode cX9_candidates 46 = .ok (.istore 4, 2) := by decide +kernel
theorem dX9_candidates_48 : decode cX9_candidates 48 = .ok (.iload 4, 2) := by decide +kernel
theorem dX9_candidates_50 : decode cX9_candidates 50 = .ok (.aload_n 0, 1) := by decide +kernel
theorem dX9_candidates_51 : decode cX9_candidates 51 = .ok (.getfield 132, 3) := by decide +kernel
theorem dX9_candidates_54 : decode cX9_candidates 54 = .ok (.if_icmp .ge 39, 3) := by decide +kernel
theorem dX9_candidates_57 : decode cX9_candidates 57 = .ok (.iload_n 3, 1) := by decide +kernel
theorem dX9_candidates_58 : decode cX9_candidates 58 = .ok (.ifCond .ne 35, 3) := by decide +kernel
theorem dX9_candidates_61 : decode cX9_candidates 61 = .ok (.aload_n 0, 1) := by decide +kernel
theorem dX9_candidates_62 : decode cX9_candidates 62 = .ok (.iload_n 2, 1) := by decide +kernel
theorem dX9_candidates_63 : decode cX9_candidates 63 = .ok (.invokevirtual 75, 3) := by decide +kernel
theorem dX9_candidates_66 : decode cX9_candidates 66 = .ok (.ifCond .eq 27, 3) := by decide +kernel
theorem dX9_candidates_69 : decode cX9_candidates 69 = .ok (.iload_n 2, 1) := by decide +kernel
theorem dX9_candidates_70 : decode cX9_candidates 70 = .ok (.iload_n 1, 1) := by decide +kernel
theorem dX9_candidates_71 : decode cX9_candidates 71 = .ok (.if_icmp .eq 22, 3) := by decide +kernel
theorem dX9_candidates_74 : decode cX9_candidates 74 = .ok (.aload_n 0, 1) := by decide +kernel
theorem dX9_candidates_75 : decode cX9_candidates 75 = .ok (.iload_n 2, 1) := by decide +kernel
theorem dX9_candidates_76 : decode cX9_candidates 76 = .ok (.aload_n 0, 1) := by decide +kernel
theorem dX9_candidates_77 : decode cX9_candidates 77 = .ok (.getfield 45, 3) := by decide +kernel
theorem dX9_candidates_80 : decode cX9_candidates 80 = .ok (.iload 4, 2) := by decide +kernel
theorem dX9_candidates_82 : decode cX9_candidates 82 = .ok (.laload, 1) := by decide +kernel
theorem dX9_candidates_83 : decode cX9_candidates 83 = .ok (.invokevirtual 135, 3) := by decide +kernel
theorem dX9_candidates_86 : decode cX9_candidates 86 = .ok (.istore_n 3, 1) := by decide +kernel
theorem dX9_candidates_87 : decode cX9_candidates 87 = .ok (.iinc 4 1, 3) := by decide +kernel
theorem dX9_candidates_90 : decode cX9_candidates 90 = .ok (.goto (-42), 3) := by decide +kernel
theorem dX9_candidates_93 : decode cX9_candidates 93 = .ok (.iload_n 3, 1) := by decide +kernel
theorem dX9_candidates_94 : decode cX9_candidates 94 = .ok (.ifCond .eq 23, 3) := by decide +kernel
theorem dX9_candidates_97 : decode cX9_candidates 97 = .ok (.aload_n 0, 1) := by decide +kernel
theorem dX9_candidates_98 : decode cX9_candidates 98 = .ok (.getfield 42, 3) := by decide +kernel
theorem dX9_candidates_101 : decode cX9_candidates 101 = .ok (.aload_n 0, 1) := by decide +kernel
theorem dX9_candidates_102 : decode cX9_candidates 102 = .ok (.getfield 129, 3) := by decide +kernel
theorem dX9_candidates_105 : decode cX9_candidates 105 = .ok (.iload_n 2, 1) := by decide +kernel
theorem dX9_candidates_106 : decode cX9_candidates 106 = .ok (.iastore, 1) := by decide +kernel
theorem dX9_candidates_107 : decode cX9_candidates 107 = .ok (.aload_n 0, 1) := by decide +kernel
theorem dX9_candidates_108 : decode cX9_candidates 108 = .ok (.dup, 1) := by decide +kernel
theorem dX9_candidates_109 : decode cX9_candidates 109 = .ok (.getfield 129, 3) := by decide +kernel
theorem dX9_candidates_112 : decode cX9_candidates 112 = .ok (.iconst 1, 1) := by decide +kernel
theorem dX9_candidates_113 : decode cX9_candidates 113 = .ok (.iadd, 1) := by decide +kernel
theorem dX9_candidates_114 : decode cX9_candidates 114 = .ok (.putfield 129, 3) := by decide +kernel
theorem dX9_candidates_117 : decode cX9_candidates 117 = .ok (.iinc 2 1, 3) := by decide +kernel
theorem dX9_candidates_120 : decode cX9_candidates 120 = .ok (.goto (-85), 3) := by decide +kernel
theorem dX9_candidates_123 : decode cX9_candidates 123 = .ok (.aload_n 0, 1) := by decide +kernel
theorem dX9_candidates_124 : decode cX9_candidates 124 = .ok (.getfield 129, 3) := by decide +kernel
theorem dX9_candidates_127 : decode cX9_candidates 127 = .ok (.ireturn, 1) := by decide +kernel
theorem dX9_at__0 : decode cX9_at_ 0 = .ok (.aload_n 0, 1) := by decide +kernel
theorem dX9_at__1 : decode cX9_at_ 1 = .ok (.iconst 0, 1) := by decide +kernel
theorem dX9_at__2 : decode cX9_at_ 2 = .ok (.putfield 64, 3) := by decide +kernel
theorem dX9_at__5 : decode cX9_at_ 5 = .ok (.iload_n 1, 1) := by decide +kernel
theorem dX9_at__6 : decode cX9_at_ 6 = .ok (.ifCond .lt 11, 3) := by decide +kernel
theorem dX9_at__9 : decode cX9_at_ 9 = .ok (.iload_n 1, 1) := by decide +kernel
theorem dX9_at__10 : decode cX9_at_ 10 = .ok (.aload_n 0, 1) := by decide +kernel
theorem dX9_at__11 : decode cX9_at_ 11 = .ok (.getfield 129, 3) := by decide +kernel
theorem dX9_at__14 : decode cX9_at_ 14 = .ok (.if_icmp .lt 7, 3) := by decide +kernel
theorem dX9_at__17 : decode cX9_at_ 17 = .ok (.iconst (-1), 1) := by decide +kernel
theorem dX9_at__18 : decode cX9_at_ 18 = .ok (.goto 9, 3) := by decide +kernel
theorem dX9_at__21 : decode cX9_at_ 21 = .ok (.aload_n 0, 1) := by decide +kernel
theorem dX9_at__22 : decode cX9_at_ 22 = .ok (.getfield 42, 3) := by decide +kernel
theorem dX9_at__25 : decode cX9_at_ 25 = .ok (.iload_n 1, 1) := by decide +kernel
theorem dX9_at__26 : decode cX9_at_ 26 = .ok (.iaload, 1) := by decide +kernel
theorem dX9_at__27 : decode cX9_at_ 27 = .ok (.ireturn, 1) := by decide +kernel
theorem dX9_index_0 : decode cX9_index 0 = .ok (.aload_n 0, 1) := by decide +kernel
theorem dX9_index_1 : decode cX9_index 1 = .ok (.iconst 0, 1) := by decide +kernel
theorem dX9_index_2 : decode cX9_index 2 = .ok (.putfield 64, 3) := by decide +kernel
theorem dX9_index_5 : decode cX9_index 5 = .ok (.aload_n 0, 1) := by decide +kernel
theorem dX9_index_6 : decode cX9_index 6 = .ok (.iload_n 1, 1) := by decide +kernel
theorem dX9_index_7 : decode cX9_index 7 = .ok (.invokevirtual 71, 3) := by decide +kernel
theorem dX9_index_10 : decode cX9_index 10 = .ok (.ifCond .ne 5, 3) := by decide +kernel
theorem dX9_index_13 : decode cX9_index 13 = .ok (.iconst (-1), 1) := by decide +kernel
theorem dX9_index_14 : decode cX9_index 14 = .ok (.ireturn, 1) := by decide +kernel
theorem dX9_index_15 : decode cX9_index 15 = .ok (.aload_n 0, 1) := by decide +kernel
theorem dX9_index_16 : decode cX9_index 16 = .ok (.iload_n 1, 1) := by decide +kernel
theorem dX9_index_17 : decode cX9_index 17 = .ok (.invokevirtual 75, 3) := by decide +kernel
theorem dX9_index_20 : decode cX9_index 20 = .ok (.ifCond .eq 15, 3) := by decide +kernel
theorem dX9_index_23 : decode cX9_index 23 = .ok (.aload_n 0, 1) := by decide +kernel
theorem dX9_index_24 : decode cX9_index 24 = .ok (.iload_n 1, 1) := by decide +kernel
theorem dX9_index_25 : decode cX9_index 25 = .ok (.aload_n 0, 1) := by decide +kernel
theorem dX9_index_26 : decode cX9_index 26 = .ok (.getfield 45, 3) := by decide +kernel
theorem dX9_index_29 : decode cX9_index 29 = .ok (.invokevirtual 125, 3) := by decide +kernel
theorem dX9_index_32 : decode cX9_index 32 = .ok (.goto 4, 3) := by decide +kernel
theorem dX9_index_35 : decode cX9_index 35 = .ok (.iconst 0, 1) := by decide +kernel
theorem dX9_index_36 : decode cX9_index 36 = .ok (.istore_n 3, 1) := by decide +kernel
theorem dX9_index_37 : decode cX9_index 37 = .ok (.iload_n 2, 1) := by decide +kernel
theorem dX9_index_38 : decode cX9_index 38 = .ok (.ifCond .lt 8, 3) := by decide +kernel
theorem dX9_index_41 : decode cX9_index 41 = .ok (.iload_n 2, 1) := by decide +kernel
theorem dX9_index_42 : decode cX9_index 42 = .ok (.iload_n 3, 1) := by decide +kernel
theorem dX9_index_43 : decode cX9_index 43 = .ok (.if_icmp .lt 10, 3) := by decide +kernel
theorem dX9_index_46 : decode cX9_index 46 = .ok (.aload_n 0, 1) := by decide +kernel
theorem dX9_index_47 : decode cX9_index 47 = .ok (.iconst 1, 1) := by decide +kernel
theorem dX9_index_48 : decode cX9_index 48 = .ok (.putfield 64, 3) := by decide +kernel
theorem dX9_index_51 : decode cX9_index 51 = .ok (.iconst 0, 1) := by decide +kernel
theorem dX9_index_52 : decode cX9_index 52 = .ok (.ireturn, 1) := by decide +kernel
theorem dX9_index_53 : decode cX9_index 53 = .ok (.iconst 0, 1) := by decide +kernel
theorem dX9_index_54 : decode cX9_index 54 = .ok (.istore 4, 2) := by decide +kernel
theorem dX9_index_56 : decode cX9_index 56 = .ok (.iconst 1, 1) := by decide +kernel
theorem dX9_index_57 : decode cX9_index 57 = .ok (.istore 5, 2) := by decide +kernel
theorem dX9_index_59 : decode cX9_index 59 = .ok (.iload 5, 2) := by decide +kernel
theorem dX9_index_61 : decode cX9_index 61 = .ok (.aload_n 0, 1) := by decide +kernel
theorem dX9_index_62 : decode cX9_index 62 = .ok (.getfield 68, 3) := by decide +kernel
theorem dX9_index_65 : decode cX9_index 65 = .ok (.if_icmp .gt 43, 3) := by decide +kernel
theorem dX9_index_68 : decode cX9_index 68 = .ok (.iload 4, 2) := by decide +kernel
theorem dX9_index_70 : decode cX9_index 70 = .ok (.aload_n 0, 1) := by decide +kernel
theorem dX9_index_71 : decode cX9_index 71 = .ok (.iload 5, 2) := by decide +kernel
theorem dX9_index_73 : decode cX9_index 73 = .ok (.invokevirtual 75, 3) := by decide +kernel
theorem dX9_index_76 : decode cX9_index 76 = .ok (.ifCond .eq 22, 3) := by decide +kernel
theorem dX9_index_79 : decode cX9_index 79 = .ok (.aload_n 0, 1) := by decide +kernel
theorem dX9_index_80 : decode cX9_index 80 = .ok (.iload 5, 2) := by decide +kernel
theorem dX9_index_82 : decode cX9_index 82 = .ok (.aload_n 0, 1) := by decide +kernel
theorem dX9_index_83 : decode cX9_index 83 = .ok (.getfield 45, 3) := by decide +kernel
theorem dX9_index_86 : decode cX9_index 86 = .ok (.iload_n 2, 1) := by decide +kernel
theorem dX9_index_87 : decode cX9_index 87 = .ok (.laload, 1) := by decide +kernel
theorem dX9_index_88 : decode cX9_index 88 = .ok (.invokevirtual 135, 3) := by decide +kernel
theorem dX9_index_91 : decode cX9_index 91 = .ok (.ifCond .eq 7, 3) := by decide +kernel
theorem dX9_index_94 : decode cX9_index 94 = .ok (.iconst 1, 1) := by decide +kernel
theorem dX9_index_95 : decode cX9_index 95 = .ok (.goto 4, 3) := by decide +kernel
theorem dX9_index_98 : decode cX9_index 98 = .ok (.iconst 0, 1) := by decide +kernel
theorem dX9_index_99 : decode cX9_index 99 = .ok (.iadd, 1) := by decide +kernel
theorem dX9_index_100 : decode cX9_index 100 = .ok (.istore 4, 2) := by decide +kernel
theorem dX9_index_102 : decode cX9_index 102 = .ok (.iinc 5 1, 3) := by decide +kernel
theorem dX9_index_105 : decode cX9_index 105 = .ok (.goto (-46), 3) := by decide +kernel
theorem dX9_index_108 : decode cX9_index 108 = .ok (.iload 4, 2) := by decide +kernel
theorem dX9_index_110 : decode cX9_index 110 = .ok (.ireturn, 1) := by decide +kernel
theorem dX9_title_0 : decode cX9_title 0 = .ok (.aload_n 0, 1) := by decide +kernel
theorem dX9_title_1 : decode cX9_title 1 = .ok (.iload_n 1, 1) := by decide +kernel
theorem dX9_title_2 : decode cX9_title 2 = .ok (.aload_n 0, 1) := by decide +kernel
theorem dX9_title_3 : decode cX9_title 3 = .ok (.getfield 52, 3) := by decide +kernel
theorem dX9_title_6 : decode cX9_title 6 = .ok (.aload_n 0, 1) := by decide +kernel
theorem dX9_title_7 : decode cX9_title 7 = .ok (.getfield 55, 3) := by decide +kernel
theorem dX9_title_10 : decode cX9_title 10 = .ok (.invokevirtual 114, 3) := by decide +kernel
theorem dX9_title_13 : decode cX9_title 13 = .ok (.istore_n 3, 1) := by decide +kernel
theorem dX9_title_14 : decode cX9_title 14 = .ok (.aload_n 0, 1) := by decide +kernel
theorem dX9_title_15 : decode cX9_title 15 = .ok (.iload_n 2, 1) := by decide +kernel
theorem dX9_title_16 : decode cX9_title 16 = .ok (.aload_n 0, 1) := by decide +kernel
theorem dX9_title_17 : decode cX9_title 17 = .ok (.getfield 58, 3) := by decide +kernel
theorem dX9_title_20 : decode cX9_title 20 = .ok (.aload_n 0, 1) := by decide +kernel
theorem dX9_title_21 : decode cX9_title 21 = .ok (.getfield 61, 3) := by decide +kernel
theorem dX9_title_24 : decode cX9_title 24 = .ok (.invokevirtual 114, 3) := by decide +kernel
theorem dX9_title_27 : decode cX9_title 27 = .ok (.istore 4, 2) := by decide +kernel
theorem dX9_title_29 : decode cX9_title 29 = .ok (.iconst 0, 1) := by decide +kernel
theorem dX9_title_30 : decode cX9_title 30 = .ok (.istore 5, 2) := by decide +kernel
theorem dX9_title_32 : decode cX9_title 32 = .ok (.iconst 0, 1) := by decide +kernel
theorem dX9_title_33 : decode cX9_title 33 = .ok (.istore 6, 2) := by decide +kernel
theorem dX9_title_35 : decode cX9_title 35 = .ok (.iconst 0, 1) := by decide +kernel
theorem dX9_title_36 : decode cX9_title 36 = .ok (.istore 7, 2) := by decide +kernel
theorem dX9_title_38 : decode cX9_title 38 = .ok (.iload 7, 2) := by decide +kernel
theorem dX9_title_40 : decode cX9_title 40 = .ok (.iload_n 3, 1) := by decide +kernel
theorem dX9_title_41 : decode cX9_title 41 = .ok (.if_icmp .ge 180, 3) := by decide +kernel
theorem dX9_title_44 : decode cX9_title 44 = .ok (.iconst 0, 1) := by decide +kernel
theorem dX9_title_45 : decode cX9_title 45 = .ok (.istore 8, 2) := by decide +kernel
theorem dX9_title_47 : decode cX9_title 47 = .ok (.iconst 0, 1) := by decide +kernel
theorem dX9_title_48 : decode cX9_title 48 = .ok (.istore 9, 2) := by decide +kernel
theorem dX9_title_50 : decode cX9_title 50 = .ok (.iload 9, 2) := by decide +kernel
theorem dX9_title_52 : decode cX9_title 52 = .ok (.iload 7, 2) := by decide +kernel
theorem dX9_title_54 : decode cX9_title 54 = .ok (.if_icmp .ge 58, 3) := by decide +kernel
theorem dX9_title_57 : decode cX9_title 57 = .ok (.iload 8, 2) := by decide +kernel
theorem dX9_title_59 : decode cX9_title 59 = .ok (.ifCond .ne 40, 3) := by decide +kernel
theorem dX9_title_62 : decode cX9_title 62 = .ok (.aload_n 0, 1) := by decide +kernel
theorem dX9_title_63 : decode cX9_title 63 = .ok (.iload_n 1, 1) := by decide +kernel
theorem dX9_title_64 : decode cX9_title 64 = .ok (.aload_n 0, 1) := by decide +kernel
theorem dX9_title_65 : decode cX9_title 65 = .ok (.getfield 52, 3) := by decide +kernel
theorem dX9_title_68 : decode cX9_title 68 = .ok (.iload 7, 2) := by decide +kernel
theorem dX9_title_70 : decode cX9_title 70 = .ok (.iaload, 1) := by decide +kernel
theorem dX9_title_71 : decode cX9_title 71 = .ok (.aload_n 0, 1) := by decide +kernel
theorem dX9_title_72 : decode cX9_title 72 = .ok (.getfield 55, 3) := by decide +kernel
theorem dX9_title_75 : decode cX9_title 75 = .ok (.iload 7, 2) := by decide +kernel
theorem dX9_title_77 : decode cX9_title 77 = .ok (.iaload, 1) := by decide +kernel
theorem dX9_title_78 : decode cX9_title 78 = .ok (.iload_n 1, 1) := by decide +kernel
theorem dX9_title_79 : decode cX9_title 79 = .ok (.aload_n 0, 1) := by decide +kernel
theorem dX9_title_80 : decode cX9_title 80 = .ok (.getfield 52, 3) := by decide +kernel
theorem dX9_title_83 : decode cX9_title 83 = .ok (.iload 9, 2) := by decide +kernel
theorem dX9_title_85 : decode cX9_title 85 = .ok (.iaload, 1) := by decide +kernel
theorem dX9_title_86 : decode cX9_title 86 = .ok (.aload_n 0, 1) := by decide +kernel
theorem dX9_title_87 : decode cX9_title 87 = .ok (.getfield 55, 3) := by decide +kernel
theorem dX9_title_90 : decode cX9_title 90 = .ok (.iload 9, 2) := by decide +kernel
theorem dX9_title_92 : decode cX9_title 92 = .ok (.iaload, 1) := by decide +kernel
theorem dX9_title_93 : decode cX9_title 93 = .ok (.invokevirtual 139, 3) := by decide +kernel
theorem dX9_title_96 : decode cX9_title 96 = .ok (.ifCond .eq 7, 3) := by decide +kernel
theorem dX9_title_99 : decode cX9_title 99 = .ok (.iconst 1, 1) := by decide +kernel
theorem dX9_title_100 : decode cX9_title 100 = .ok (.goto 4, 3) := by decide +kernel
theorem dX9_title_103 : decode cX9_title 103 = .ok (.iconst 0, 1) := by decide +kernel
theorem dX9_title_104 : decode cX9_title 104 = .ok (.istore 8, 2) := by decide +kernel
theorem dX9_title_106 : decode cX9_title 106 = .ok (.iinc 9 1, 3) := by decide +kernel
theorem dX9_title_109 : decode cX9_title 109 = .ok (.goto (-59), 3) := by decide +kernel
theorem dX9_title_112 : decode cX9_title 112 = .ok (.iconst 0, 1) := by decide +kernel
theorem dX9_title_113 : decode cX9_title 113 = .ok (.istore 9, 2) := by decide +kernel
theorem dX9_title_115 : decode cX9_title 115 = .ok (.iconst 0, 1) := by decide +kernel
theorem dX9_title_116 : decode cX9_title 116 = .ok (.istore 10, 2) := by decide +kernel
theorem dX9_title_118 : decode cX9_title 118 = .ok (.iload 10, 2) := by decide +kernel
theorem dX9_title_120 : decode cX9_title 120 = .ok (.iload 4, 2) := by decide +kernel
theorem dX9_title_122 : decode cX9_title 122 = .ok (.if_icmp .ge 58, 3) := by decide +kernel
theorem dX9_title_125 : decode cX9_title 125 = .ok (.iload 9, 2) := by decide +kernel
theorem dX9_title_127 : decode cX9_title 127 = .ok (.ifCond .ne 40, 3) := by decide +kernel
theorem dX9_title_130 : decode cX9_title 130 = .ok (.aload_n 0, 1) := by decide +kernel
theorem dX9_title_131 : decode cX9_title 131 = .ok (.iload_n 1, 1) := by decide +kernel
theorem dX9_title_132 : decode cX9_title 132 = .ok (.aload_n 0, 1) := by decide +kernel
theorem dX9_title_133 : decode cX9_title 133 = .ok (.getfield 52, 3) := by decide +kernel
theorem dX9_title_136 : decode cX9_title 136 = .ok (.iload 7, 2) := by decide +kernel
theorem dX9_title_138 : decode cX9_title 138 = .ok (.iaload, 1) := by decide +kernel
theorem dX9_title_139 : decode cX9_title 139 = .ok (.aload_n 0, 1) := by decide +kernel
theorem dX9_title_140 : decode cX9_title 140 = .ok (.getfield 55, 3) := by decide +kernel
theorem dX9_title_143 : decode cX9_title 143 = .ok (.iload 7, 2) := by decide +kernel
theorem dX9_title_145 : decode cX9_title 145 = .ok (.iaload, 1) := by decide +kernel
theorem dX9_title_146 : decode cX9_title 146 = .ok (.iload_n 2, 1) := by decide +kernel
theorem dX9_title_147 : decode cX9_title 147 = .ok (.aload_n 0, 1) := by decide +kernel
theorem dX9_title_148 : decode cX9_title 148 = .ok (.getfield 58, 3) := by decide +kernel
theorem dX9_title_151 : decode cX9_title 151 = .ok (.iload 10, 2) := by decide +kernel
theorem dX9_title_153 : decode cX9_title 153 = .ok (.iaload, 1) := by decide +kernel
theorem dX9_title_154 : decode cX9_title 154 = .ok (.aload_n 0, 1) := by decide +kernel
theorem dX9_title_155 : decode cX9_title 155 = .ok (.getfield 61, 3) := by decide +kernel
theorem dX9_title_158 : decode cX9_title 158 = .ok (.iload 10, 2) := by decide +kernel
theorem dX9_title_160 : decode cX9_title 160 = .ok (.iaload, 1) := by decide +kernel
theorem dX9_title_161 : decode cX9_title 161 = .ok (.invokevirtual 139, 3) := by decide +kernel
theorem dX9_title_164 : decode cX9_title 164 = .ok (.ifCond .eq 7, 3) := by decide +kernel
theorem dX9_title_167 : decode cX9_title 167 = .ok (.iconst 1, 1) := by decide +kernel
theorem dX9_title_168 : decode cX9_title 168 = .ok (.goto 4, 3) := by decide +kernel
theorem dX9_title_171 : decode cX9_title 171 = .ok (.iconst 0, 1) := by decide +kernel
theorem dX9_title_172 : decode cX9_title 172 = .ok (.istore 9, 2) := by decide +kernel
theorem dX9_title_174 : decode cX9_title 174 = .ok (.iinc 10 1, 3) := by decide +kernel
theorem dX9_title_177 : decode cX9_title 177 = .ok (.goto (-59), 3) := by decide +kernel
theorem dX9_title_180 : decode cX9_title 180 = .ok (.iload 5, 2) := by decide +kernel
theorem dX9_title_182 : decode cX9_title 182 = .ok (.iload 8, 2) := by decide +kernel
theorem dX9_title_184 : decode cX9_title 184 = .ok (.ifCond .eq 7, 3) := by decide +kernel
theorem dX9_title_187 : decode cX9_title 187 = .ok (.iconst 0, 1) := by decide +kernel
theorem dX9_title_188 : decode cX9_title 188 = .ok (.goto 4, 3) := by decide +kernel
theorem dX9_title_191 : decode cX9_title 191 = .ok (.iconst 1, 1) := by decide +kernel
theorem dX9_title_192 : decode cX9_title 192 = .ok (.iadd, 1) := by decide +kernel
theorem dX9_title_193 : decode cX9_title 193 = .ok (.istore 5, 2) := by decide +kernel
theorem dX9_title_195 : decode cX9_title 195 = .ok (.iload 6, 2) := by decide +kernel
theorem dX9_title_197 : decode cX9_title 197 = .ok (.iload 8, 2) := by decide +kernel
theorem dX9_title_199 : decode cX9_title 199 = .ok (.ifCond .ne 12, 3) := by decide +kernel
theorem dX9_title_202 : decode cX9_title 202 = .ok (.iload 9, 2) := by decide +kernel
theorem dX9_title_204 : decode cX9_title 204 = .ok (.ifCond .eq 7, 3) := by decide +kernel
theorem dX9_title_207 : decode cX9_title 207 = .ok (.iconst 1, 1) := by decide +kernel
theorem dX9_title_208 : decode cX9_title 208 = .ok (.goto 4, 3) := by decide +kernel
theorem dX9_title_211 : decode cX9_title 211 = .ok (.iconst 0, 1) := by decide +kernel
theorem dX9_title_212 : decode cX9_title 212 = .ok (.iadd, 1) := by decide +kernel
theorem dX9_title_213 : decode cX9_title 213 = .ok (.istore 6, 2) := by decide +kernel
theorem dX9_title_215 : decode cX9_title 215 = .ok (.iinc 7 1, 3) := by decide +kernel
theorem dX9_title_218 : decode cX9_title 218 = .ok (.goto (-180), 3) := by decide +kernel
theorem dX9_title_221 : decode cX9_title 221 = .ok (.iconst 0, 1) := by decide +kernel
theorem dX9_title_222 : decode cX9_title 222 = .ok (.istore 7, 2) := by decide +kernel
theorem dX9_title_224 : decode cX9_title 224 = .ok (.iload 7, 2) := by decide +kernel
theorem dX9_title_226 : decode cX9_title 226 = .ok (.iload 4, 2) := by decide +kernel
theorem dX9_title_228 : decode cX9_title 228 = .ok (.if_icmp .ge 156, 3) := by decide +kernel
theorem dX9_title_231 : decode cX9_title 231 = .ok (.iconst 0, 1) := by decide +kernel
theorem dX9_title_232 : decode cX9_title 232 = .ok (.istore 8, 2) := by decide +kernel
theorem dX9_title_234 : decode cX9_title 234 = .ok (.iconst 0, 1) := by decide +kernel
theorem dX9_title_235 : decode cX9_title 235 = .ok (.istore 9, 2) := by decide +kernel
theorem dX9_title_237 : decode cX9_title 237 = .ok (.iload 9, 2) := by decide +kernel
theorem dX9_title_239 : decode cX9_title 239 = .ok (.iload 7, 2) := by decide +kernel
theorem dX9_title_241 : decode cX9_title 241 = .ok (.if_icmp .ge 58, 3) := by decide +kernel
theorem dX9_title_244 : decode cX9_title 244 = .ok (.iload 8, 2) := by decide +kernel
theorem dX9_title_246 : decode cX9_title 246 = .ok (.ifCond .ne 40, 3) := by decide +kernel
theorem dX9_title_249 : decode cX9_title 249 = .ok (.aload_n 0, 1) := by decide +kernel
theorem dX9_title_250 : decode cX9_title 250 = .ok (.iload_n 2, 1) := by decide +kernel
theorem dX9_title_251 : decode cX9_title 251 = .ok (.aload_n 0, 1) := by decide +kernel
theorem dX9_title_252 : decode cX9_title 252 = .ok (.getfield 58, 3) := by decide +kernel
theorem dX9_title_255 : decode cX9_title 255 = .ok (.iload 7, 2) := by decide +kernel
theorem dX9_title_257 : decode cX9_title 257 = .ok (.iaload, 1) := by decide +kernel
theorem dX9_title_258 : decode cX9_title 258 = .ok (.aload_n 0, 1) := by decide +kernel
theorem dX9_title_259 : decode cX9_title 259 = .ok (.getfield 61, 3) := by decide +kernel
theorem dX9_title_262 : decode cX9_title 262 = .ok (.iload 7, 2) := by decide +kernel
theorem dX9_title_264 : decode cX9_title 264 = .ok (.iaload, 1) := by decide +kernel
theorem dX9_title_265 : decode cX9_title 265 = .ok (.iload_n 2, 1) := by decide +kernel
theorem dX9_title_266 : decode cX9_title 266 = .ok (.aload_n 0, 1) := by decide +kernel
theorem dX9_title_267 : decode cX9_title 267 = .ok (.getfield 58, 3) := by decide +kernel
theorem dX9_title_270 : decode cX9_title 270 = .ok (.iload 9, 2) := by decide +kernel
theorem dX9_title_272 : decode cX9_title 272 = .ok (.iaload, 1) := by decide +kernel
theorem dX9_title_273 : decode cX9_title 273 = .ok (.aload_n 0, 1) := by decide +kernel
theorem dX9_title_274 : decode cX9_title 274 = .ok (.getfield 61, 3) := by decide +kernel
theorem dX9_title_277 : decode cX9_title 277 = .ok (.iload 9, 2) := by decide +kernel
theorem dX9_title_279 : decode cX9_title 279 = .ok (.iaload, 1) := by decide +kernel
theorem dX9_title_280 : decode cX9_title 280 = .ok (.invokevirtual 139, 3) := by decide +kernel
theorem dX9_title_283 : decode cX9_title 283 = .ok (.ifCond .eq 7, 3) := by decide +kernel
theorem dX9_title_286 : decode cX9_title 286 = .ok (.iconst 1, 1) := by decide +kernel
theorem dX9_title_287 : decode cX9_title 287 = .ok (.goto 4, 3) := by decide +kernel
theorem dX9_title_290 : decode cX9_title 290 = .ok (.iconst 0, 1) := by decide +kernel
theorem dX9_title_291 : decode cX9_title 291 = .ok (.istore 8, 2) := by decide +kernel
theorem dX9_title_293 : decode cX9_title 293 = .ok (.iinc 9 1, 3) := by decide +kernel
theorem dX9_title_296 : decode cX9_title 296 = .ok (.goto (-59), 3) := by decide +kernel
theorem dX9_title_299 : decode cX9_title 299 = .ok (.iconst 0, 1) := by decide +kernel
theorem dX9_title_300 : decode cX9_title 300 = .ok (.istore 9, 2) := by decide +kernel
theorem dX9_title_302 : decode cX9_title 302 = .ok (.iload 9, 2) := by decide +kernel
theorem dX9_title_304 : decode cX9_title 304 = .ok (.iload_n 3, 1) := by decide +kernel
theorem dX9_title_305 : decode cX9_title 305 = .ok (.if_icmp .ge 58, 3) := by decide +kernel
theorem dX9_title_308 : decode cX9_title 308 = .ok (.iload 8, 2) := by decide +kernel
theorem dX9_title_310 : decode cX9_title 310 = .ok (.ifCond .ne 40, 3) := by decide +kernel
theorem dX9_title_313 : decode cX9_title 313 = .ok (.aload_n 0, 1) := by decide +kernel
theorem dX9_title_314 : decode cX9_title 314 = .ok (.iload_n 2, 1) := by decide +kernel
theorem dX9_title_315 : decode cX9_title 315 = .ok (.aload_n 0, 1) := by decide +kernel
theorem dX9_title_316 : decode cX9_title 316 = .ok (.getfield 58, 3) := by decide +kernel
theorem dX9_title_319 : decode cX9_title 319 = .ok (.iload 7, 2) := by decide +kernel
theorem dX9_title_321 : decode cX9_title 321 = .ok (.iaload, 1) := by decide +kernel
theorem dX9_title_322 : decode cX9_title 322 = .ok (.aload_n 0, 1) := by decide +kernel
theorem dX9_title_323 : decode cX9_title 323 = .ok (.getfield 61, 3) := by decide +kernel
theorem dX9_title_326 : decode cX9_title 326 = .ok (.iload 7, 2) := by decide +kernel
theorem dX9_title_328 : decode cX9_title 328 = .ok (.iaload, 1) := by decide +kernel
theorem dX9_title_329 : decode cX9_title 329 = .ok (.iload_n 1, 1) := by decide +kernel
theorem dX9_title_330 : decode cX9_title 330 = .ok (.aload_n 0, 1) := by decide +kernel
theorem dX9_title_331 : decode cX9_title 331 = .ok (.getfield 52, 3) := by decide +kernel
theorem dX9_title_334 : decode cX9_title 334 = .ok (.iload 9, 2) := by decide +kernel
theorem dX9_title_336 : decode cX9_title 336 = .ok (.iaload, 1) := by decide +kernel
theorem dX9_title_337 : decode cX9_title 337 = .ok (.aload_n 0, 1) := by decide +kernel
