theorem dX9_init_0 : decode cX9_init 0 = .ok (.aload_n 0, 1) := by decide +kernel
theorem dX9_init_1 : decode cX9_init 1 = .ok (.invokespecial 1, 3) := by decide +kernel
theorem dX9_init_4 : decode cX9_init 4 = .ok (.aload_n 0, 1) := by decide +kernel
theorem dX9_init_5 : decode cX9_init 5 = .ok (.bipush 41, 2) := by decide +kernel
theorem dX9_init_7 : decode cX9_init 7 = .ok (.newarray .int, 2) := by decide +kernel
theorem dX9_init_9 : decode cX9_init 9 = .ok (.putfield 7, 3) := by decide +kernel
theorem dX9_init_12 : decode cX9_init 12 = .ok (.aload_n 0, 1) := by decide +kernel
theorem dX9_init_13 : decode cX9_init 13 = .ok (.bipush 41, 2) := by decide +kernel
theorem dX9_init_15 : decode cX9_init 15 = .ok (.newarray .boolean, 2) := by decide +kernel
theorem dX9_init_17 : decode cX9_init 17 = .ok (.putfield 13, 3) := by decide +kernel
theorem dX9_init_20 : decode cX9_init 20 = .ok (.aload_n 0, 1) := by decide +kernel
theorem dX9_init_21 : decode cX9_init 21 = .ok (.bipush 41, 2) := by decide +kernel
theorem dX9_init_23 : decode cX9_init 23 = .ok (.newarray .int, 2) := by decide +kernel
theorem dX9_init_25 : decode cX9_init 25 = .ok (.putfield 17, 3) := by decide +kernel
theorem dX9_init_28 : decode cX9_init 28 = .ok (.aload_n 0, 1) := by decide +kernel
theorem dX9_init_29 : decode cX9_init 29 = .ok (.bipush 41, 2) := by decide +kernel
theorem dX9_init_31 : decode cX9_init 31 = .ok (.newarray .int, 2) := by decide +kernel
theorem dX9_init_33 : decode cX9_init 33 = .ok (.putfield 20, 3) := by decide +kernel
theorem dX9_init_36 : decode cX9_init 36 = .ok (.aload_n 0, 1) := by decide +kernel
theorem dX9_init_37 : decode cX9_init 37 = .ok (.sipush 201, 3) := by decide +kernel
theorem dX9_init_40 : decode cX9_init 40 = .ok (.newarray .int, 2) := by decide +kernel
theorem dX9_init_42 : decode cX9_init 42 = .ok (.putfield 23, 3) := by decide +kernel
theorem dX9_init_45 : decode cX9_init 45 = .ok (.aload_n 0, 1) := by decide +kernel
theorem dX9_init_46 : decode cX9_init 46 = .ok (.sipush 201, 3) := by decide +kernel
theorem dX9_init_49 : decode cX9_init 49 = .ok (.newarray .int, 2) := by decide +kernel
theorem dX9_init_51 : decode cX9_init 51 = .ok (.putfield 26, 3) := by decide +kernel
theorem dX9_init_54 : decode cX9_init 54 = .ok (.aload_n 0, 1) := by decide +kernel
theorem dX9_init_55 : decode cX9_init 55 = .ok (.sipush 12060, 3) := by decide +kernel
theorem dX9_init_58 : decode cX9_init 58 = .ok (.newarray .byte, 2) := by decide +kernel
theorem dX9_init_60 : decode cX9_init 60 = .ok (.putfield 29, 3) := by decide +kernel
theorem dX9_init_63 : decode cX9_init 63 = .ok (.aload_n 0, 1) := by decide +kernel
theorem dX9_init_64 : decode cX9_init 64 = .ok (.sipush 201, 3) := by decide +kernel
theorem dX9_init_67 : decode cX9_init 67 = .ok (.newarray .int, 2) := by decide +kernel
theorem dX9_init_69 : decode cX9_init 69 = .ok (.putfield 33, 3) := by decide +kernel
theorem dX9_init_72 : decode cX9_init 72 = .ok (.aload_n 0, 1) := by decide +kernel
theorem dX9_init_73 : decode cX9_init 73 = .ok (.iconst 5, 1) := by decide +kernel
theorem dX9_init_74 : decode cX9_init 74 = .ok (.newarray .int, 2) := by decide +kernel
theorem dX9_init_76 : decode cX9_init 76 = .ok (.dup, 1) := by decide +kernel
theorem dX9_init_77 : decode cX9_init 77 = .ok (.iconst 0, 1) := by decide +kernel
theorem dX9_init_78 : decode cX9_init 78 = .ok (.iconst 1, 1) := by decide +kernel
theorem dX9_init_79 : decode cX9_init 79 = .ok (.iastore, 1) := by decide +kernel
theorem dX9_init_80 : decode cX9_init 80 = .ok (.dup, 1) := by decide +kernel
theorem dX9_init_81 : decode cX9_init 81 = .ok (.iconst 1, 1) := by decide +kernel
theorem dX9_init_82 : decode cX9_init 82 = .ok (.iconst 1, 1) := by decide +kernel
theorem dX9_init_83 : decode cX9_init 83 = .ok (.iastore, 1) := by decide +kernel
theorem dX9_init_84 : decode cX9_init 84 = .ok (.dup, 1) := by decide +kernel
theorem dX9_init_85 : decode cX9_init 85 = .ok (.iconst 2, 1) := by decide +kernel
theorem dX9_init_86 : decode cX9_init 86 = .ok (.iconst 1, 1) := by decide +kernel
theorem dX9_init_87 : decode cX9_init 87 = .ok (.iastore, 1) := by decide +kernel
theorem dX9_init_88 : decode cX9_init 88 = .ok (.dup, 1) := by decide +kernel
theorem dX9_init_89 : decode cX9_init 89 = .ok (.iconst 3, 1) := by decide +kernel
theorem dX9_init_90 : decode cX9_init 90 = .ok (.iconst 1, 1) := by decide +kernel
theorem dX9_init_91 : decode cX9_init 91 = .ok (.iastore, 1) := by decide +kernel
theorem dX9_init_92 : decode cX9_init 92 = .ok (.dup, 1) := by decide +kernel
theorem dX9_init_93 : decode cX9_init 93 = .ok (.iconst 4, 1) := by decide +kernel
theorem dX9_init_94 : decode cX9_init 94 = .ok (.iconst 1, 1) := by decide +kernel
theorem dX9_init_95 : decode cX9_init 95 = .ok (.iastore, 1) := by decide +kernel
theorem dX9_init_96 : decode cX9_init 96 = .ok (.putfield 36, 3) := by decide +kernel
theorem dX9_init_99 : decode cX9_init 99 = .ok (.aload_n 0, 1) := by decide +kernel
theorem dX9_init_100 : decode cX9_init 100 = .ok (.iconst 5, 1) := by decide +kernel
theorem dX9_init_101 : decode cX9_init 101 = .ok (.newarray .int, 2) := by decide +kernel
theorem dX9_init_103 : decode cX9_init 103 = .ok (.dup, 1) := by decide +kernel
theorem dX9_init_104 : decode cX9_init 104 = .ok (.iconst 0, 1) := by decide +kernel
theorem dX9_init_105 : decode cX9_init 105 = .ok (.iconst 1, 1) := by decide +kernel
theorem dX9_init_106 : decode cX9_init 106 = .ok (.iastore, 1) := by decide +kernel
theorem dX9_init_107 : decode cX9_init 107 = .ok (.dup, 1) := by decide +kernel
theorem dX9_init_108 : decode cX9_init 108 = .ok (.iconst 1, 1) := by decide +kernel
theorem dX9_init_109 : decode cX9_init 109 = .ok (.iconst 1, 1) := by decide +kernel
theorem dX9_init_110 : decode cX9_init 110 = .ok (.iastore, 1) := by decide +kernel
theorem dX9_init_111 : decode cX9_init 111 = .ok (.dup, 1) := by decide +kernel
theorem dX9_init_112 : decode cX9_init 112 = .ok (.iconst 2, 1) := by decide +kernel
theorem dX9_init_113 : decode cX9_init 113 = .ok (.iconst 1, 1) := by decide +kernel
theorem dX9_init_114 : decode cX9_init 114 = .ok (.iastore, 1) := by decide +kernel
theorem dX9_init_115 : decode cX9_init 115 = .ok (.dup, 1) := by decide +kernel
theorem dX9_init_116 : decode cX9_init 116 = .ok (.iconst 3, 1) := by decide +kernel
theorem dX9_init_117 : decode cX9_init 117 = .ok (.iconst 1, 1) := by decide +kernel
theorem dX9_init_118 : decode cX9_init 118 = .ok (.iastore, 1) := by decide +kernel
theorem dX9_init_119 : decode cX9_init 119 = .ok (.dup, 1) := by decide +kernel
theorem dX9_init_120 : decode cX9_init 120 = .ok (.iconst 4, 1) := by decide +kernel
theorem dX9_init_121 : decode cX9_init 121 = .ok (.iconst 1, 1) := by decide +kernel
theorem dX9_init_122 : decode cX9_init 122 = .ok (.iastore, 1) := by decide +kernel
theorem dX9_init_123 : decode cX9_init 123 = .ok (.putfield 39, 3) := by decide +kernel
theorem dX9_init_126 : decode cX9_init 126 = .ok (.aload_n 0, 1) := by decide +kernel
theorem dX9_init_127 : decode cX9_init 127 = .ok (.bipush 40, 2) := by decide +kernel
theorem dX9_init_129 : decode cX9_init 129 = .ok (.newarray .int, 2) := by decide +kernel
theorem dX9_init_131 : decode cX9_init 131 = .ok (.putfield 42, 3) := by decide +kernel
theorem dX9_init_134 : decode cX9_init 134 = .ok (.aload_n 0, 1) := by decide +kernel
theorem dX9_init_135 : decode cX9_init 135 = .ok (.sipush 200, 3) := by decide +kernel
theorem dX9_init_138 : decode cX9_init 138 = .ok (.newarray .long, 2) := by decide +kernel
theorem dX9_init_140 : decode cX9_init 140 = .ok (.putfield 45, 3) := by decide +kernel
theorem dX9_init_143 : decode cX9_init 143 = .ok (.aload_n 0, 1) := by decide +kernel
theorem dX9_init_144 : decode cX9_init 144 = .ok (.sipush 200, 3) := by decide +kernel
theorem dX9_init_147 : decode cX9_init 147 = .ok (.newarray .long, 2) := by decide +kernel
theorem dX9_init_149 : decode cX9_init 149 = .ok (.putfield 49, 3) := by decide +kernel
theorem dX9_init_152 : decode cX9_init 152 = .ok (.aload_n 0, 1) := by decide +kernel
theorem dX9_init_153 : decode cX9_init 153 = .ok (.bipush 60, 2) := by decide +kernel
theorem dX9_init_155 : decode cX9_init 155 = .ok (.newarray .int, 2) := by decide +kernel
theorem dX9_init_157 : decode cX9_init 157 = .ok (.putfield 52, 3) := by decide +kernel
theorem dX9_init_160 : decode cX9_init 160 = .ok (.aload_n 0, 1) := by decide +kernel
theorem dX9_init_161 : decode cX9_init 161 = .ok (.bipush 60, 2) := by decide +kernel
theorem dX9_init_163 : decode cX9_init 163 = .ok (.newarray .int, 2) := by decide +kernel
theorem dX9_init_165 : decode cX9_init 165 = .ok (.putfield 55, 3) := by decide +kernel
theorem dX9_init_168 : decode cX9_init 168 = .ok (.aload_n 0, 1) := by decide +kernel
theorem dX9_init_169 : decode cX9_init 169 = .ok (.bipush 60, 2) := by decide +kernel
theorem dX9_init_171 : decode cX9_init 171 = .ok (.newarray .int, 2) := by decide +kernel
theorem dX9_init_173 : decode cX9_init 173 = .ok (.putfield 58, 3) := by decide +kernel
theorem dX9_init_176 : decode cX9_init 176 = .ok (.aload_n 0, 1) := by decide +kernel
theorem dX9_init_177 : decode cX9_init 177 = .ok (.bipush 60, 2) := by decide +kernel
theorem dX9_init_179 : decode cX9_init 179 = .ok (.newarray .int, 2) := by decide +kernel
theorem dX9_init_181 : decode cX9_init 181 = .ok (.putfield 61, 3) := by decide +kernel
theorem dX9_init_184 : decode cX9_init 184 = .ok (.return_, 1) := by decide +kernel
theorem dX9_thrown_0 : decode cX9_thrown 0 = .ok (.aload_n 0, 1) := by decide +kernel
theorem dX9_thrown_1 : decode cX9_thrown 1 = .ok (.getfield 64, 3) := by decide +kernel
theorem dX9_thrown_4 : decode cX9_thrown 4 = .ok (.ireturn, 1) := by decide +kernel
theorem dX9_isRecord_0 : decode cX9_isRecord 0 = .ok (.iload_n 1, 1) := by decide +kernel
theorem dX9_isRecord_1 : decode cX9_isRecord 1 = .ok (.ifCond .le 15, 3) := by decide +kernel
theorem dX9_isRecord_4 : decode cX9_isRecord 4 = .ok (.iload_n 1, 1) := by decide +kernel
theorem dX9_isRecord_5 : decode cX9_isRecord 5 = .ok (.aload_n 0, 1) := by decide +kernel
theorem dX9_isRecord_6 : decode cX9_isRecord 6 = .ok (.getfield 68, 3) := by decide +kernel
theorem dX9_isRecord_9 : decode cX9_isRecord 9 = .ok (.if_icmp .gt 7, 3) := by decide +kernel
theorem dX9_isRecord_12 : decode cX9_isRecord 12 = .ok (.iconst 1, 1) := by decide +kernel
theorem dX9_isRecord_13 : decode cX9_isRecord 13 = .ok (.goto 4, 3) := by decide +kernel
theorem dX9_isRecord_16 : decode cX9_isRecord 16 = .ok (.iconst 0, 1) := by decide +kernel
theorem dX9_isRecord_17 : decode cX9_isRecord 17 = .ok (.ireturn, 1) := by decide +kernel
theorem dX9_isTop_0 : decode cX9_isTop 0 = .ok (.aload_n 0, 1) := by decide +kernel
theorem dX9_isTop_1 : decode cX9_isTop 1 = .ok (.iload_n 1, 1) := by decide +kernel
theorem dX9_isTop_2 : decode cX9_isTop 2 = .ok (.invokevirtual 71, 3) := by decide +kernel
theorem dX9_isTop_5 : decode cX9_isTop 5 = .ok (.ifCond .eq 16, 3) := by decide +kernel
theorem dX9_isTop_8 : decode cX9_isTop 8 = .ok (.aload_n 0, 1) := by decide +kernel
theorem dX9_isTop_9 : decode cX9_isTop 9 = .ok (.getfield 17, 3) := by decide +kernel
theorem dX9_isTop_12 : decode cX9_isTop 12 = .ok (.iload_n 1, 1) := by decide +kernel
theorem dX9_isTop_13 : decode cX9_isTop 13 = .ok (.iaload, 1) := by decide +kernel
theorem dX9_isTop_14 : decode cX9_isTop 14 = .ok (.ifCond .ne 7, 3) := by decide +kernel
theorem dX9_isTop_17 : decode cX9_isTop 17 = .ok (.iconst 1, 1) := by decide +kernel
theorem dX9_isTop_18 : decode cX9_isTop 18 = .ok (.goto 4, 3) := by decide +kernel
theorem dX9_isTop_21 : decode cX9_isTop 21 = .ok (.iconst 0, 1) := by decide +kernel
theorem dX9_isTop_22 : decode cX9_isTop 22 = .ok (.ireturn, 1) := by decide +kernel
theorem dX9_top_0 : decode cX9_top 0 = .ok (.iload_n 1, 1) := by decide +kernel
theorem dX9_top_1 : decode cX9_top 1 = .ok (.istore_n 2, 1) := by decide +kernel
theorem dX9_top_2 : decode cX9_top 2 = .ok (.aload_n 0, 1) := by decide +kernel
theorem dX9_top_3 : decode cX9_top 3 = .ok (.getfield 17, 3) := by decide +kernel
theorem dX9_top_6 : decode cX9_top 6 = .ok (.iload_n 2, 1) := by decide +kernel
theorem dX9_top_7 : decode cX9_top 7 = .ok (.iaload, 1) := by decide +kernel
theorem dX9_top_8 : decode cX9_top 8 = .ok (.ifCond .eq 13, 3) := by decide +kernel
theorem dX9_top_11 : decode cX9_top 11 = .ok (.aload_n 0, 1) := by decide +kernel
theorem dX9_top_12 : decode cX9_top 12 = .ok (.getfield 17, 3) := by decide +kernel
theorem dX9_top_15 : decode cX9_top 15 = .ok (.iload_n 2, 1) := by decide +kernel
theorem dX9_top_16 : decode cX9_top 16 = .ok (.iaload, 1) := by decide +kernel
theorem dX9_top_17 : decode cX9_top 17 = .ok (.istore_n 2, 1) := by decide +kernel
theorem dX9_top_18 : decode cX9_top 18 = .ok (.goto (-16), 3) := by decide +kernel
theorem dX9_top_21 : decode cX9_top 21 = .ok (.iload_n 2, 1) := by decide +kernel
theorem dX9_top_22 : decode cX9_top 22 = .ok (.ireturn, 1) := by decide +kernel
theorem dX9_record_0 : decode cX9_record 0 = .ok (.aload_n 0, 1) := by decide +kernel
theorem dX9_record_1 : decode cX9_record 1 = .ok (.iconst 0, 1) := by decide +kernel
theorem dX9_record_2 : decode cX9_record 2 = .ok (.putfield 64, 3) := by decide +kernel
theorem dX9_record_5 : decode cX9_record 5 = .ok (.aload_n 0, 1) := by decide +kernel
theorem dX9_record_6 : decode cX9_record 6 = .ok (.getfield 68, 3) := by decide +kernel
theorem dX9_record_9 : decode cX9_record 9 = .ok (.bipush 40, 2) := by decide +kernel
theorem dX9_record_11 : decode cX9_record 11 = .ok (.if_icmp .ne 5, 3) := by decide +kernel
theorem dX9_record_14 : decode cX9_record 14 = .ok (.iconst 0, 1) := by decide +kernel
theorem dX9_record_15 : decode cX9_record 15 = .ok (.ireturn, 1) := by decide +kernel
theorem dX9_record_16 : decode cX9_record 16 = .ok (.aload_n 0, 1) := by decide +kernel
theorem dX9_record_17 : decode cX9_record 17 = .ok (.dup, 1) := by decide +kernel
theorem dX9_record_18 : decode cX9_record 18 = .ok (.getfield 68, 3) := by decide +kernel
theorem dX9_record_21 : decode cX9_record 21 = .ok (.iconst 1, 1) := by decide +kernel
theorem dX9_record_22 : decode cX9_record 22 = .ok (.iadd, 1) := by decide +kernel
theorem dX9_record_23 : decode cX9_record 23 = .ok (.putfield 68, 3) := by decide +kernel
theorem dX9_record_26 : decode cX9_record 26 = .ok (.aload_n 0, 1) := by decide +kernel
theorem dX9_record_27 : decode cX9_record 27 = .ok (.getfield 7, 3) := by decide +kernel
theorem dX9_record_30 : decode cX9_record 30 = .ok (.aload_n 0, 1) := by decide +kernel
theorem dX9_record_31 : decode cX9_record 31 = .ok (.getfield 68, 3) := by decide +kernel
theorem dX9_record_34 : decode cX9_record 34 = .ok (.iload_n 1, 1) := by decide +kernel
theorem dX9_record_35 : decode cX9_record 35 = .ok (.iastore, 1) := by decide +kernel
theorem dX9_record_36 : decode cX9_record 36 = .ok (.aload_n 0, 1) := by decide +kernel
theorem dX9_record_37 : decode cX9_record 37 = .ok (.getfield 68, 3) := by decide +kernel
theorem dX9_record_40 : decode cX9_record 40 = .ok (.ireturn, 1) := by decide +kernel
theorem dX9_field_0 : decode cX9_field 0 = .ok (.aload_n 0, 1) := by decide +kernel
theorem dX9_field_1 : decode cX9_field 1 = .ok (.iconst 0, 1) := by decide +kernel
theorem dX9_field_2 : decode cX9_field 2 = .ok (.putfield 64, 3) := by decide +kernel
theorem dX9_field_5 : decode cX9_field 5 = .ok (.aload_n 0, 1) := by decide +kernel
theorem dX9_field_6 : decode cX9_field 6 = .ok (.iload_n 1, 1) := by decide +kernel
theorem dX9_field_7 : decode cX9_field 7 = .ok (.invokevirtual 75, 3) := by decide +kernel
theorem dX9_field_10 : decode cX9_field 10 = .ok (.ifCond .eq 23, 3) := by decide +kernel
theorem dX9_field_13 : decode cX9_field 13 = .ok (.iload_n 2, 1) := by decide +kernel
theorem dX9_field_14 : decode cX9_field 14 = .ok (.ifCond .lt 19, 3) := by decide +kernel
theorem dX9_field_17 : decode cX9_field 17 = .ok (.iload_n 2, 1) := by decide +kernel
theorem dX9_field_18 : decode cX9_field 18 = .ok (.bipush 9, 2) := by decide +kernel
theorem dX9_field_20 : decode cX9_field 20 = .ok (.if_icmp .gt 13, 3) := by decide +kernel
theorem dX9_field_23 : decode cX9_field 23 = .ok (.aload_n 0, 1) := by decide +kernel
theorem dX9_field_24 : decode cX9_field 24 = .ok (.getfield 78, 3) := by decide +kernel
theorem dX9_field_27 : decode cX9_field 27 = .ok (.sipush 200, 3) := by decide +kernel
theorem dX9_field_30 : decode cX9_field 30 = .ok (.if_icmp .ne 5, 3) := by decide +kernel
theorem dX9_field_33 : decode cX9_field 33 = .ok (.iconst 0, 1) := by decide +kernel
theorem dX9_field_34 : decode cX9_field 34 = .ok (.ireturn, 1) := by decide +kernel
theorem dX9_field_35 : decode cX9_field 35 = .ok (.aload_n 0, 1) := by decide +kernel
theorem dX9_field_36 : decode cX9_field 36 = .ok (.dup, 1) := by decide +kernel
theorem dX9_field_37 : decode cX9_field 37 = .ok (.getfield 78, 3) := by decide +kernel
theorem dX9_field_40 : decode cX9_field 40 = .ok (.iconst 1, 1) := by decide +kernel
theorem dX9_field_41 : decode cX9_field 41 = .ok (.iadd, 1) := by decide +kernel
theorem dX9_field_42 : decode cX9_field 42 = .ok (.putfield 78, 3) := by decide +kernel
theorem dX9_field_45 : decode cX9_field 45 = .ok (.aload_n 0, 1) := by decide +kernel
theorem dX9_field_46 : decode cX9_field 46 = .ok (.getfield 23, 3) := by decide +kernel
theorem dX9_field_49 : decode cX9_field 49 = .ok (.aload_n 0, 1) := by decide +kernel
theorem dX9_field_50 : decode cX9_field 50 = .ok (.getfield 78, 3) := by decide +kernel
theorem dX9_field_53 : decode cX9_field 53 = .ok (.iload_n 1, 1) := by decide +kernel
theorem dX9_field_54 : decode cX9_field 54 = .ok (.iastore, 1) := by decide +kernel
theorem dX9_field_55 : decode cX9_field 55 = .ok (.aload_n 0, 1) := by decide +kernel
theorem dX9_field_56 : decode cX9_field 56 = .ok (.getfield 26, 3) := by decide +kernel
theorem dX9_field_59 : decode cX9_field 59 = .ok (.aload_n 0, 1) := by decide +kernel
theorem dX9_field_60 : decode cX9_field 60 = .ok (.getfield 78, 3) := by decide +kernel
theorem dX9_field_63 : decode cX9_field 63 = .ok (.iload_n 2, 1) := by decide +kernel
theorem dX9_field_64 : decode cX9_field 64 = .ok (.iastore, 1) := by decide +kernel
theorem dX9_field_65 : decode cX9_field 65 = .ok (.aload_n 0, 1) := by decide +kernel
theorem dX9_field_66 : decode cX9_field 66 = .ok (.getfield 78, 3) := by decide +kernel
theorem dX9_field_69 : decode cX9_field 69 = .ok (.ireturn, 1) := by decide +kernel
theorem dX9_sign_0 : decode cX9_sign 0 = .ok (.aload_n 0, 1) := by decide +kernel
theorem dX9_sign_1 : decode cX9_sign 1 = .ok (.iconst 0, 1) := by decide +kernel
theorem dX9_sign_2 : decode cX9_sign 2 = .ok (.putfield 64, 3) := by decide +kernel
theorem dX9_sign_5 : decode cX9_sign 5 = .ok (.iload_n 1, 1) := by decide +kernel
theorem dX9_sign_6 : decode cX9_sign 6 = .ok (.ifCond .le 50, 3) := by decide +kernel
theorem dX9_sign_9 : decode cX9_sign 9 = .ok (.iload_n 1, 1) := by decide +kernel
theorem dX9_sign_10 : decode cX9_sign 10 = .ok (.aload_n 0, 1) := by decide +kernel
theorem dX9_sign_11 : decode cX9_sign 11 = .ok (.getfield 78, 3) := by decide +kernel
theorem dX9_sign_14 : decode cX9_sign 14 = .ok (.if_icmp .gt 42, 3) := by decide +kernel
theorem dX9_sign_17 : decode cX9_sign 17 = .ok (.aload_n 0, 1) := by decide +kernel
theorem dX9_sign_18 : decode cX9_sign 18 = .ok (.getfield 33, 3) := by decide +kernel
theorem dX9_sign_21 : decode cX9_sign 21 = .ok (.iload_n 1, 1) := by decide +kernel
theorem dX9_sign_22 : decode cX9_sign 22 = .ok (.iaload, 1) := by decide +kernel
theorem dX9_sign_23 : decode cX9_sign 23 = .ok (.bipush 60, 2) := by decide +kernel
theorem dX9_sign_25 : decode cX9_sign 25 = .ok (.if_icmp .ge 31, 3) := by decide +kernel
theorem dX9_sign_28 : decode cX9_sign 28 = .ok (.aload_n 0, 1) := by decide +kernel
theorem dX9_sign_29 : decode cX9_sign 29 = .ok (.getfield 29, 3) := by decide +kernel
theorem dX9_sign_32 : decode cX9_sign 32 = .ok (.bipush 60, 2) := by decide +kernel
theorem dX9_sign_34 : decode cX9_sign 34 = .ok (.iload_n 1, 1) := by decide +kernel
theorem dX9_sign_35 : decode cX9_sign 35 = .ok (.imul, 1) := by decide +kernel
theorem dX9_sign_36 : decode cX9_sign 36 = .ok (.aload_n 0, 1) := by decide +kernel
theorem dX9_sign_37 : decode cX9_sign 37 = .ok (.getfield 33, 3) := by decide +kernel
theorem dX9_sign_40 : decode cX9_sign 40 = .ok (.iload_n 1, 1) := by decide +kernel
theorem dX9_sign_41 : decode cX9_sign 41 = .ok (.iaload, 1) := by decide +kernel
theorem dX9_sign_42 : decode cX9_sign 42 = .ok (.iadd, 1) := by decide +kernel
theorem dX9_sign_43 : decode cX9_sign 43 = .ok (.iload_n 2, 1) := by decide +kernel
theorem dX9_sign_44 : decode cX9_sign 44 = .ok (.i2b, 1) := by decide +kernel
theorem dX9_sign_45 : decode cX9_sign 45 = .ok (.bastore, 1) := by decide +kernel
theorem dX9_sign_46 : decode cX9_sign 46 = .ok (.aload_n 0, 1) := by decide +kernel
theorem dX9_sign_47 : decode cX9_sign 47 = .ok (.getfield 33, 3) := by decide +kernel
theorem dX9_sign_50 : decode cX9_sign 50 = .ok (.iload_n 1, 1) := by decide +kernel
theorem dX9_sign_51 : decode cX9_sign 51 = .ok (.dup2, 1) := by decide +kernel
theorem dX9_sign_52 : decode cX9_sign 52 = .ok (.iaload, 1) := by decide +kernel
theorem dX9_sign_53 : decode cX9_sign 53 = .ok (.iconst 1, 1) := by decide +kernel
theorem dX9_sign_54 : decode cX9_sign 54 = .ok (.iadd, 1) := by decide +kernel
theorem dX9_sign_55 : decode cX9_sign 55 = .ok (.iastore, 1) := by decide +kernel
theorem dX9_sign_56 : decode cX9_sign 56 = .ok (.return_, 1) := by decide +kernel
theorem dX9_isDigit_0 : decode cX9_isDigit 0 = .ok (.iload_n 0, 1) := by decide +kernel
theorem dX9_isDigit_1 : decode cX9_isDigit 1 = .ok (.bipush 48, 2) := by decide +kernel
theorem dX9_isDigit_3 : decode cX9_isDigit 3 = .ok (.if_icmp .lt 13, 3) := by decide +kernel
theorem dX9_isDigit_6 : decode cX9_isDigit 6 = .ok (.iload_n 0, 1) := by decide +kernel
theorem dX9_isDigit_7 : decode cX9_isDigit 7 = .ok (.bipush 57, 2) := by decide +kernel
theorem dX9_isDigit_9 : decode cX9_isDigit 9 = .ok (.if_icmp .gt 7, 3) := by decide +kernel
theorem dX9_isDigit_12 : decode cX9_isDigit 12 = .ok (.iconst 1, 1) := by decide +kernel
theorem dX9_isDigit_13 : decode cX9_isDigit 13 = .ok (.goto 4, 3) := by decide +kernel
theorem dX9_isDigit_16 : decode cX9_isDigit 16 = .ok (.iconst 0, 1) := by decide +kernel
theorem dX9_isDigit_17 : decode cX9_isDigit 17 = .ok (.ireturn, 1) := by decide +kernel
theorem dX9_small_0 : decode cX9_small 0 = .ok (.iload_n 0, 1) := by decide +kernel
theorem dX9_small_1 : decode cX9_small 1 = .ok (.bipush 65, 2) := by decide +kernel
theorem dX9_small_3 : decode cX9_small 3 = .ok (.if_icmp .lt 16, 3) := by decide +kernel
theorem dX9_small_6 : decode cX9_small 6 = .ok (.iload_n 0, 1) := by decide +kernel
theorem dX9_small_7 : decode cX9_small 7 = .ok (.bipush 90, 2) := by decide +kernel
theorem dX9_small_9 : decode cX9_small 9 = .ok (.if_icmp .gt 10, 3) := by decide +kernel
theorem dX9_small_12 : decode cX9_small 12 = .ok (.iload_n 0, 1) := by decide +kernel
theorem dX9_small_13 : decode cX9_small 13 = .ok (.bipush 32, 2) := by decide +kernel
theorem dX9_small_15 : decode cX9_small 15 = .ok (.iadd, 1) := by decide +kernel
theorem dX9_small_16 : decode cX9_small 16 = .ok (.goto 4, 3) := by decide +kernel
theorem dX9_small_19 : decode cX9_small 19 = .ok (.iload_n 0, 1) := by decide +kernel
theorem dX9_small_20 : decode cX9_small 20 = .ok (.ireturn, 1) := by decide +kernel
theorem dX9_isWord_0 : decode cX9_isWord 0 = .ok (.iload_n 0, 1) := by decide +kernel
theorem dX9_isWord_1 : decode cX9_isWord 1 = .ok (.invokestatic 81, 3) := by decide +kernel
theorem dX9_isWord_4 : decode cX9_isWord 4 = .ok (.ifCond .ne 21, 3) := by decide +kernel
theorem dX9_isWord_7 : decode cX9_isWord 7 = .ok (.iload_n 0, 1) := by decide +kernel
theorem dX9_isWord_8 : decode cX9_isWord 8 = .ok (.invokestatic 84, 3) := by decide +kernel
theorem dX9_isWord_11 : decode cX9_isWord 11 = .ok (.bipush 97, 2) := by decide +kernel
theorem dX9_isWord_13 : decode cX9_isWord 13 = .ok (.if_icmp .lt 16, 3) := by decide +kernel
theorem dX9_isWord_16 : decode cX9_isWord 16 = .ok (.iload_n 0, 1) := by decide +kernel
theorem dX9_isWord_17 : decode cX9_isWord 17 = .ok (.invokestatic 84, 3) := by decide +kernel
theorem dX9_isWord_20 : decode cX9_isWord 20 = .ok (.bipush 122, 2) := by decide +kernel
theorem dX9_isWord_22 : decode cX9_isWord 22 = .ok (.if_icmp .gt 7, 3) := by decide +kernel
theorem dX9_isWord_25 : decode cX9_isWord 25 = .ok (.iconst 1, 1) := by decide +kernel
theorem dX9_isWord_26 : decode cX9_isWord 26 = .ok (.goto 4, 3) := by decide +kernel
theorem dX9_isWord_29 : decode cX9_isWord 29 = .ok (.iconst 0, 1) := by decide +kernel
theorem dX9_isWord_30 : decode cX9_isWord 30 = .ok (.ireturn, 1) := by decide +kernel
theorem dX9_at_0 : decode cX9_at 0 = .ok (.aload_n 0, 1) := by decide +kernel
theorem dX9_at_1 : decode cX9_at 1 = .ok (.getfield 29, 3) := by decide +kernel
theorem dX9_at_4 : decode cX9_at 4 = .ok (.bipush 60, 2) := by decide +kernel
theorem dX9_at_6 : decode cX9_at 6 = .ok (.iload_n 1, 1) := by decide +kernel
theorem dX9_at_7 : decode cX9_at 7 = .ok (.imul, 1) := by decide +kernel
theorem dX9_at_8 : decode cX9_at 8 = .ok (.iload_n 2, 1) := by decide +kernel
theorem dX9_at_9 : decode cX9_at 9 = .ok (.iadd, 1) := by decide +kernel
theorem dX9_at_10 : decode cX9_at 10 = .ok (.baload, 1) := by decide +kernel
theorem dX9_at_11 : decode cX9_at 11 = .ok (.ireturn, 1) := by decide +kernel
theorem dX9_words_0 : decode cX9_words 0 = .ok (.iconst 0, 1) := by decide +kernel
theorem dX9_words_1 : decode cX9_words 1 = .ok (.istore 4, 2) := by decide +kernel
theorem dX9_words_3 : decode cX9_words 3 = .ok (.iconst 0, 1) := by decide +kernel
theorem dX9_words_4 : decode cX9_words 4 = .ok (.istore 5, 2) := by decide +kernel
theorem dX9_words_6 : decode cX9_words 6 = .ok (.iload 5, 2) := by decide +kernel
theorem dX9_words_8 : decode cX9_words 8 = .ok (.aload_n 0, 1) := by decide +kernel
theorem dX9_words_9 : decode cX9_words 9 = .ok (.getfield 33, 3) := by decide +kernel
theorem dX9_words_12 : decode cX9_words 12 = .ok (.iload_n 1, 1) := by decide +kernel
theorem dX9_words_13 : decode cX9_words 13 = .ok (.iaload, 1) := by decide +kernel
theorem dX9_words_14 : decode cX9_words 14 = .ok (.if_icmp .ge 71, 3) := by decide +kernel
theorem dX9_words_17 : decode cX9_words 17 = .ok (.iload 5, 2) := by decide +kernel
theorem dX9_words_19 : decode cX9_words 19 = .ok (.istore 6, 2) := by decide +kernel
theorem dX9_words_21 : decode cX9_words 21 = .ok (.iload 5, 2) := by decide +kernel
theorem dX9_words_23 : decode cX9_words 23 = .ok (.aload_n 0, 1) := by decide +kernel
theorem dX9_words_24 : decode cX9_words 24 = .ok (.getfield 33, 3) := by decide +kernel
theorem dX9_words_27 : decode cX9_words 27 = .ok (.iload_n 1, 1) := by decide +kernel
theorem dX9_words_28 : decode cX9_words 28 = .ok (.iaload, 1) := by decide +kernel
theorem dX9_words_29 : decode cX9_words 29 = .ok (.if_icmp .ge 22, 3) := by decide +kernel
theorem dX9_words_32 : decode cX9_words 32 = .ok (.aload_n 0, 1) := by decide +kernel
theorem dX9_words_33 : decode cX9_words 33 = .ok (.iload_n 1, 1) := by decide +kernel
theorem dX9_words_34 : decode cX9_words 34 = .ok (.iload 5, 2) := by decide +kernel
theorem dX9_words_36 : decode cX9_words 36 = .ok (.invokevirtual 88, 3) := by decide +kernel
theorem dX9_words_39 : decode cX9_words 39 = .ok (.invokestatic 92, 3) := by decide +kernel
theorem dX9_words_42 : decode cX9_words 42 = .ok (.ifCond .eq 9, 3) := by decide +kernel
theorem dX9_words_45 : decode cX9_words 45 = .ok (.iinc 5 1, 3) := by decide +kernel
theorem dX9_words_48 : decode cX9_words 48 = .ok (.goto (-27), 3) := by decide +kernel
theorem dX9_words_51 : decode cX9_words 51 = .ok (.iload 5, 2) := by decide +kernel
theorem dX9_words_53 : decode cX9_words 53 = .ok (.iload 6, 2) := by decide +kernel
theorem dX9_words_55 : decode cX9_words 55 = .ok (.if_icmp .le 24, 3) := by decide +kernel
theorem dX9_words_58 : decode cX9_words 58 = .ok (.aload_n 2, 1) := by decide +kernel
theorem dX9_words_59 : decode cX9_words 59 = .ok (.iload 4, 2) := by decide +kernel
theorem dX9_words_61 : decode cX9_words 61 = .ok (.iload 6, 2) := by decide +kernel
theorem dX9_words_63 : decode cX9_words 63 = .ok (.iastore, 1) := by decide +kernel
theorem dX9_words_64 : decode cX9_words 64 = .ok (.aload_n 3, 1) := by decide +kernel
theorem dX9_words_65 : decode cX9_words 65 = .ok (.iload 4, 2) := by decide +kernel
theorem dX9_words_67 : decode cX9_words 67 = .ok (.iload 5, 2) := by decide +kernel
theorem dX9_words_69 : decode cX9_words 69 = .ok (.iload 6, 2) := by decide +kernel
theorem dX9_words_71 : decode cX9_words 71 = .ok (.isub, 1) := by decide +kernel
theorem dX9_words_72 : decode cX9_words 72 = .ok (.iastore, 1) := by decide +kernel
theorem dX9_words_73 : decode cX9_words 73 = .ok (.iinc 4 1, 3) := by decide +kernel
theorem dX9_words_76 : decode cX9_words 76 = .ok (.goto 6, 3) := by decide +kernel
theorem dX9_words_79 : decode cX9_words 79 = .ok (.iinc 5 1, 3) := by decide +kernel
theorem dX9_words_82 : decode cX9_words 82 = .ok (.goto (-76), 3) := by decide +kernel
theorem dX9_words_85 : decode cX9_words 85 = .ok (.iload 4, 2) := by decide +kernel
theorem dX9_words_87 : decode cX9_words 87 = .ok (.ireturn, 1) := by decide +kernel
theorem dX9_sameWord_0 : decode cX9_sameWord 0 = .ok (.iload_n 3, 1) := by decide +kernel
theorem dX9_sameWord_1 : decode cX9_sameWord 1 = .ok (.iload 6, 2) := by decide +kernel
theorem dX9_sameWord_3 : decode cX9_sameWord 3 = .ok (.if_icmp .ne 7, 3) := by decide +kernel
theorem dX9_sameWord_6 : decode cX9_sameWord 6 = .ok (.iconst 1, 1) := by decide +kernel
theorem dX9_sameWord_7 : decode cX9_sameWord 7 = .ok (.goto 4, 3) := by decide +kernel
theorem dX9_sameWord_10 : decode cX9_sameWord 10 = .ok (.iconst 0, 1) := by decide +kernel
theorem dX9_sameWord_11 : decode cX9_sameWord 11 = .ok (.istore 7, 2) := by decide +kernel
theorem dX9_sameWord_13 : decode cX9_sameWord 13 = .ok (.iconst 0, 1) := by decide +kernel
theorem dX9_sameWord_14 : decode cX9_sameWord 14 = .ok (.istore 8, 2) := by decide +kernel
theorem dX9_sameWord_16 : decode cX9_sameWord 16 = .ok (.iload 8, 2) := by decide +kernel
theorem dX9_sameWord_18 : decode cX9_sameWord 18 = .ok (.iload_n 3, 1) := by decide +kernel
theorem dX9_sameWord_19 : decode cX9_sameWord 19 = .ok (.if_icmp .ge 50, 3) := by decide +kernel
theorem dX9_sameWord_22 : decode cX9_sameWord 22 = .ok (.iload 7, 2) := by decide +kernel
theorem dX9_sameWord_24 : decode cX9_sameWord 24 = .ok (.ifCond .eq 45, 3) := by decide +kernel
theorem dX9_sameWord_27 : decode cX9_sameWord 27 = .ok (.aload_n 0, 1) := by decide +kernel
theorem dX9_sameWord_28 : decode cX9_sameWord 28 = .ok (.iload_n 1, 1) := by decide +kernel
theorem dX9_sameWord_29 : decode cX9_sameWord 29 = .ok (.iload_n 2, 1) := by decide +kernel
theorem dX9_sameWord_30 : decode cX9_sameWord 30 = .ok (.iload 8, 2) := by decide +kernel
theorem dX9_sameWord_32 : decode cX9_sameWord 32 = .ok (.iadd, 1) := by decide +kernel
theorem dX9_sameWord_33 : decode cX9_sameWord 33 = .ok (.invokevirtual 88, 3) := by decide +kernel
theorem dX9_sameWord_36 : decode cX9_sameWord 36 = .ok (.invokestatic 84, 3) := by decide +kernel
theorem dX9_sameWord_39 : decode cX9_sameWord 39 = .ok (.aload_n 0, 1) := by decide +kernel
theorem dX9_sameWord_40 : decode cX9_sameWord 40 = .ok (.iload 4, 2) := by decide +kernel
theorem dX9_sameWord_42 : decode cX9_sameWord 42 = .ok (.iload 5, 2) := by decide +kernel
theorem dX9_sameWord_44 : decode cX9_sameWord 44 = .ok (.iload 8, 2) := by decide +kernel
theorem dX9_sameWord_46 : decode cX9_sameWord 46 = .ok (.iadd, 1) := by decide +kernel
theorem dX9_sameWord_47 : decode cX9_sameWord 47 = .ok (.invokevirtual 88, 3) := by decide +kernel
theorem dX9_sameWord_50 : decode cX9_sameWord 50 = .ok (.invokestatic 84, 3) := by decide +kernel
theorem dX9_sameWord_53 : decode cX9_sameWord 53 = .ok (.if_icmp .ne 7, 3) := by decide +kernel
theorem dX9_sameWord_56 : decode cX9_sameWord 56 = .ok (.iconst 1, 1) := by decide +kernel
theorem dX9_sameWord_57 : decode cX9_sameWord 57 = .ok (.goto 4, 3) := by decide +kernel
theorem dX9_sameWord_60 : decode cX9_sameWord 60 = .ok (.iconst 0, 1) := by decide +kernel
theorem dX9_sameWord_61 : decode cX9_sameWord 61 = .ok (.istore 7, 2) := by decide +kernel
theorem dX9_sameWord_63 : decode cX9_sameWord 63 = .ok (.iinc 8 1, 3) := by decide +kernel
theorem dX9_sameWord_66 : decode cX9_sameWord 66 = .ok (.goto (-50), 3) := by decide +kernel
theorem dX9_sameWord_69 : decode cX9_sameWord 69 = .ok (.iload 7, 2) := by decide +kernel
theorem dX9_sameWord_71 : decode cX9_sameWord 71 = .ok (.ireturn, 1) := by decide +kernel
theorem dX9_number_0 : decode cX9_number 0 = .ok (.iconst 0, 1) := by decide +kernel
theorem dX9_number_1 : decode cX9_number 1 = .ok (.istore_n 2, 1) := by decide +kernel
theorem dX9_number_2 : decode cX9_number 2 = .ok (.iconst 0, 1) := by decide +kernel
theorem dX9_number_3 : decode cX9_number 3 = .ok (.istore_n 3, 1) := by decide +kernel
theorem dX9_number_4 : decode cX9_number 4 = .ok (.iload_n 3, 1) := by decide +kernel
theorem dX9_number_5 : decode cX9_number 5 = .ok (.aload_n 0, 1) := by decide +kernel
theorem dX9_number_6 : decode cX9_number 6 = .ok (.getfield 33, 3) := by decide +kernel
theorem dX9_number_9 : decode cX9_number 9 = .ok (.iload_n 1, 1) := by decide +kernel
theorem dX9_number_10 : decode cX9_number 10 = .ok (.iaload, 1) := by decide +kernel
theorem dX9_number_11 : decode cX9_number 11 = .ok (.if_icmp .ge 44, 3) := by decide +kernel
theorem dX9_number_14 : decode cX9_number 14 = .ok (.aload_n 0, 1) := by decide +kernel
theorem dX9_number_15 : decode cX9_number 15 = .ok (.iload_n 1, 1) := by decide +kernel
theorem dX9_number_16 : decode cX9_number 16 = .ok (.iload_n 3, 1) := by decide +kernel
theorem dX9_number_17 : decode cX9_number 17 = .ok (.invokevirtual 88, 3) := by decide +kernel
theorem dX9_number_20 : decode cX9_number 20 = .ok (.invokestatic 81, 3) := by decide +kernel
theorem dX9_number_23 : decode cX9_number 23 = .ok (.ifCond .eq 24, 3) := by decide +kernel
theorem dX9_number_26 : decode cX9_number 26 = .ok (.bipush 10, 2) := by decide +kernel
theorem dX9_number_28 : decode cX9_number 28 = .ok (.iload_n 2, 1) := by decide +kernel
theorem dX9_number_29 : decode cX9_number 29 = .ok (.imul, 1) := by decide +kernel
theorem dX9_number_30 : decode cX9_number 30 = .ok (.aload_n 0, 1) := by decide +kernel
theorem dX9_number_31 : decode cX9_number 31 = .ok (.iload_n 1, 1) := by decide +kernel
theorem dX9_number_32 : decode cX9_number 32 = .ok (.iload_n 3, 1) := by decide +kernel
theorem dX9_number_33 : decode cX9_number 33 = .ok (.invokevirtual 88, 3) := by decide +kernel
theorem dX9_number_36 : decode cX9_number 36 = .ok (.iadd, 1) := by decide +kernel
theorem dX9_number_37 : decode cX9_number 37 = .ok (.bipush 48, 2) := by decide +kernel
theorem dX9_number_39 : decode cX9_number 39 = .ok (.isub, 1) := by decide +kernel
theorem dX9_number_40 : decode cX9_number 40 = .ok (.sipush 10000, 3) := by decide +kernel
theorem dX9_number_43 : decode cX9_number 43 = .ok (.irem, 1) := by decide +kernel
theorem dX9_number_44 : decode cX9_number 44 = .ok (.goto 4, 3) := by decide +kernel
theorem dX9_number_47 : decode cX9_number 47 = .ok (.iload_n 2, 1) := by decide +kernel
theorem dX9_number_48 : decode cX9_number 48 = .ok (.istore_n 2, 1) := by decide +kernel
theorem dX9_number_49 : decode cX9_number 49 = .ok (.iinc 3 1, 3) := by decide +kernel
theorem dX9_number_52 : decode cX9_number 52 = .ok (.goto (-48), 3) := by decide +kernel
theorem dX9_number_55 : decode cX9_number 55 = .ok (.iload_n 2, 1) := by decide +kernel
theorem dX9_number_56 : decode cX9_number 56 = .ok (.ireturn, 1) := by decide +kernel
theorem dX9_form_0 : decode cX9_form 0 = .ok (.iconst 0, 1) := by decide +kernel
theorem dX9_form_1 : decode cX9_form 1 = .ok (.istore_n 2, 1) := by decide +kernel
theorem dX9_form_2 : decode cX9_form 2 = .ok (.iconst 0, 1) := by decide +kernel
theorem dX9_form_3 : decode cX9_form 3 = .ok (.istore_n 3, 1) := by decide +kernel
theorem dX9_form_4 : decode cX9_form 4 = .ok (.iconst 0, 1) := by decide +kernel
theorem dX9_form_5 : decode cX9_form 5 = .ok (.istore 4, 2) := by decide +kernel
theorem dX9_form_7 : decode cX9_form 7 = .ok (.lconst 0, 1) := by decide +kernel
theorem dX9_form_8 : decode cX9_form 8 = .ok (.lstore 5, 2) := by decide +kernel
theorem dX9_form_10 : decode cX9_form 10 = .ok (.lconst 0, 1) := by decide +kernel
theorem dX9_form_11 : decode cX9_form 11 = .ok (.lstore 7, 2) := by decide +kernel
theorem dX9_form_13 : decode cX9_form 13 = .ok (.iconst 0, 1) := by decide +kernel
theorem dX9_form_14 : decode cX9_form 14 = .ok (.istore 9, 2) := by decide +kernel
theorem dX9_form_16 : decode cX9_form 16 = .ok (.iconst 0, 1) := by decide +kernel
theorem dX9_form_17 : decode cX9_form 17 = .ok (.istore 10, 2) := by decide +kernel
theorem dX9_form_19 : decode cX9_form 19 = .ok (.iload 10, 2) := by decide +kernel
theorem dX9_form_21 : decode cX9_form 21 = .ok (.aload_n 0, 1) := by decide +kernel
theorem dX9_form_22 : decode cX9_form 22 = .ok (.getfield 33, 3) := by decide +kernel
theorem dX9_form_25 : decode cX9_form 25 = .ok (.iload_n 1, 1) := by decide +kernel
theorem dX9_form_26 : decode cX9_form 26 = .ok (.iaload, 1) := by decide +kernel
theorem dX9_form_27 : decode cX9_form 27 = .ok (.if_icmp .ge 184, 3) := by decide +kernel
theorem dX9_form_30 : decode cX9_form 30 = .ok (.aload_n 0, 1) := by decide +kernel
theorem dX9_form_31 : decode cX9_form 31 = .ok (.iload_n 1, 1) := by decide +kernel
theorem dX9_form_32 : decode cX9_form 32 = .ok (.iload 10, 2) := by decide +kernel
theorem dX9_form_34 : decode cX9_form 34 = .ok (.invokevirtual 88, 3) := by decide +kernel
theorem dX9_form_37 : decode cX9_form 37 = .ok (.istore 11, 2) := by decide +kernel
theorem dX9_form_39 : decode cX9_form 39 = .ok (.iload 11, 2) := by decide +kernel
theorem dX9_form_41 : decode cX9_form 41 = .ok (.invokestatic 84, 3) := by decide +kernel
theorem dX9_form_44 : decode cX9_form 44 = .ok (.bipush 120, 2) := by decide +kernel
theorem dX9_form_46 : decode cX9_form 46 = .ok (.if_icmp .ne 18, 3) := by decide +kernel
theorem dX9_form_49 : decode cX9_form 49 = .ok (.iload_n 2, 1) := by decide +kernel
theorem dX9_form_50 : decode cX9_form 50 = .ok (.bipush 9, 2) := by decide +kernel
theorem dX9_form_52 : decode cX9_form 52 = .ok (.if_icmp .ne 12, 3) := by decide +kernel
theorem dX9_form_55 : decode cX9_form 55 = .ok (.iload 9, 2) := by decide +kernel
theorem dX9_form_57 : decode cX9_form 57 = .ok (.ifCond .ne 7, 3) := by decide +kernel
theorem dX9_form_60 : decode cX9_form 60 = .ok (.iconst 1, 1) := by decide +kernel
theorem dX9_form_61 : decode cX9_form 61 = .ok (.goto 4, 3) := by decide +kernel
theorem dX9_form_64 : decode cX9_form 64 = .ok (.iconst 0, 1) := by decide +kernel
theorem dX9_form_65 : decode cX9_form 65 = .ok (.istore 12, 2) := by decide +kernel
theorem dX9_form_67 : decode cX9_form 67 = .ok (.iload 11, 2) := by decide +kernel
theorem dX9_form_69 : decode cX9_form 69 = .ok (.invokestatic 81, 3) := by decide +kernel
theorem dX9_form_72 : decode cX9_form 72 = .ok (.ifCond .ne 8, 3) := by decide +kernel
theorem dX9_form_75 : decode cX9_form 75 = .ok (.iload 12, 2) := by decide +kernel
theorem dX9_form_77 : decode cX9_form 77 = .ok (.ifCond .eq 128, 3) := by decide +kernel
theorem dX9_form_80 : decode cX9_form 80 = .ok (.iload 12, 2) := by decide +kernel
theorem dX9_form_82 : decode cX9_form 82 = .ok (.ifCond .eq 8, 3) := by decide +kernel
theorem dX9_form_85 : decode cX9_form 85 = .ok (.bipush 10, 2) := by decide +kernel
theorem dX9_form_87 : decode cX9_form 87 = .ok (.goto 8, 3) := by decide +kernel
theorem dX9_form_90 : decode cX9_form 90 = .ok (.iload 11, 2) := by decide +kernel
theorem dX9_form_92 : decode cX9_form 92 = .ok (.bipush 48, 2) := by decide +kernel
theorem dX9_form_94 : decode cX9_form 94 = .ok (.isub, 1) := by decide +kernel
theorem dX9_form_95 : decode cX9_form 95 = .ok (.istore 13, 2) := by decide +kernel
theorem dX9_form_97 : decode cX9_form 97 = .ok (.iload 9, 2) := by decide +kernel
theorem dX9_form_99 : decode cX9_form 99 = .ok (.ifCond .ne 8, 3) := by decide +kernel
theorem dX9_form_102 : decode cX9_form 102 = .ok (.iload 12, 2) := by decide +kernel
theorem dX9_form_104 : decode cX9_form 104 = .ok (.ifCond .eq 7, 3) := by decide +kernel
theorem dX9_form_107 : decode cX9_form 107 = .ok (.iconst 1, 1) := by decide +kernel
theorem dX9_form_108 : decode cX9_form 108 = .ok (.goto 4, 3) := by decide +kernel
theorem dX9_form_111 : decode cX9_form 111 = .ok (.iconst 0, 1) := by decide +kernel
theorem dX9_form_112 : decode cX9_form 112 = .ok (.istore 9, 2) := by decide +kernel
theorem dX9_form_114 : decode cX9_form 114 = .ok (.iinc 2 1, 3) := by decide +kernel
theorem dX9_form_117 : decode cX9_form 117 = .ok (.iload_n 3, 1) := by decide +kernel
theorem dX9_form_118 : decode cX9_form 118 = .ok (.iload_n 2, 1) := by decide +kernel
theorem dX9_form_119 : decode cX9_form 119 = .ok (.bipush 10, 2) := by decide +kernel
theorem dX9_form_121 : decode cX9_form 121 = .ok (.if_icmp .gt 13, 3) := by decide +kernel
theorem dX9_form_124 : decode cX9_form 124 = .ok (.bipush 11, 2) := by decide +kernel
theorem dX9_form_126 : decode cX9_form 126 = .ok (.iload_n 2, 1) := by decide +kernel
theorem dX9_form_127 : decode cX9_form 127 = .ok (.isub, 1) := by decide +kernel
theorem dX9_form_128 : decode cX9_form 128 = .ok (.iload 13, 2) := by decide +kernel
theorem dX9_form_130 : decode cX9_form 130 = .ok (.imul, 1) := by decide +kernel
theorem dX9_form_131 : decode cX9_form 131 = .ok (.goto 4, 3) := by decide +kernel
theorem dX9_form_134 : decode cX9_form 134 = .ok (.iconst 0, 1) := by decide +kernel
theorem dX9_form_135 : decode cX9_form 135 = .ok (.iadd, 1) := by decide +kernel
theorem dX9_form_136 : decode cX9_form 136 = .ok (.istore_n 3, 1) := by decide +kernel
theorem dX9_form_137 : decode cX9_form 137 = .ok (.iload 4, 2) := by decide +kernel
theorem dX9_form_139 : decode cX9_form 139 = .ok (.iload_n 2, 1) := by decide +kernel
theorem dX9_form_140 : decode cX9_form 140 = .ok (.iconst 2, 1) := by decide +kernel
theorem dX9_form_141 : decode cX9_form 141 = .ok (.irem, 1) := by decide +kernel
theorem dX9_form_142 : decode cX9_form 142 = .ok (.iconst 1, 1) := by decide +kernel
theorem dX9_form_143 : decode cX9_form 143 = .ok (.if_icmp .ne 8, 3) := by decide +kernel
theorem dX9_form_146 : decode cX9_form 146 = .ok (.iload 13, 2) := by decide +kernel
theorem dX9_form_148 : decode cX9_form 148 = .ok (.goto 7, 3) := by decide +kernel
theorem dX9_form_151 : decode cX9_form 151 = .ok (.iconst 3, 1) := by decide +kernel
theorem dX9_form_152 : decode cX9_form 152 = .ok (.iload 13, 2) := by decide +kernel
theorem dX9_form_154 : decode cX9_form 154 = .ok (.imul, 1) := by decide +kernel
theorem dX9_form_155 : decode cX9_form 155 = .ok (.iadd, 1) := by decide +kernel
theorem dX9_form_156 : decode cX9_form 156 = .ok (.istore 4, 2) := by decide +kernel
theorem dX9_form_158 : decode cX9_form 158 = .ok (.iload_n 2, 1) := by decide +kernel
theorem dX9_form_159 : decode cX9_form 159 = .ok (.bipush 13, 2) := by decide +kernel
theorem dX9_form_161 : decode cX9_form 161 = .ok (.if_icmp .gt 25, 3) := by decide +kernel
theorem dX9_form_164 : decode cX9_form 164 = .ok (.ldc2_w 95, 3) := by decide +kernel
theorem dX9_form_167 : decode cX9_form 167 = .ok (.lload 5, 2) := by decide +kernel
theorem dX9_form_169 : decode cX9_form 169 = .ok (.lmul, 1) := by decide +kernel
theorem dX9_form_170 : decode cX9_form 170 = .ok (.iload 12, 2) := by decide +kernel
theorem dX9_form_172 : decode cX9_form 172 = .ok (.ifCond .eq 7, 3) := by decide +kernel
theorem dX9_form_175 : decode cX9_form 175 = .ok (.iconst 0, 1) := by decide +kernel
theorem dX9_form_176 : decode cX9_form 176 = .ok (.goto 5, 3) := by decide +kernel
theorem dX9_form_179 : decode cX9_form 179 = .ok (.iload 13, 2) := by decide +kernel
theorem dX9_form_181 : decode cX9_form 181 = .ok (.i2l, 1) := by decide +kernel
theorem dX9_form_182 : decode cX9_form 182 = .ok (.ladd, 1) := by decide +kernel
theorem dX9_form_183 : decode cX9_form 183 = .ok (.goto 5, 3) := by decide +kernel
theorem dX9_form_186 : decode cX9_form 186 = .ok (.lload 5, 2) := by decide +kernel
theorem dX9_form_188 : decode cX9_form 188 = .ok (.lstore 5, 2) := by decide +kernel
theorem dX9_form_190 : decode cX9_form 190 = .ok (.iload_n 2, 1) := by decide +kernel
theorem dX9_form_191 : decode cX9_form 191 = .ok (.bipush 9, 2) := by decide +kernel
theorem dX9_form_193 : decode cX9_form 193 = .ok (.if_icmp .gt 8, 3) := by decide +kernel
theorem dX9_form_196 : decode cX9_form 196 = .ok (.lload 5, 2) := by decide +kernel
theorem dX9_form_198 : decode cX9_form 198 = .ok (.goto 5, 3) := by decide +kernel
theorem dX9_form_201 : decode cX9_form 201 = .ok (.lload 7, 2) := by decide +kernel
theorem dX9_form_203 : decode cX9_form 203 = .ok (.lstore 7, 2) := by decide +kernel
theorem dX9_form_205 : decode cX9_form 205 = .ok (.iinc 10 1, 3) := by decide +kernel
theorem dX9_form_208 : decode cX9_form 208 = .ok (.goto (-189), 3) := by decide +kernel
theorem dX9_form_211 : decode cX9_form 211 = .ok (.iload_n 2, 1) := by decide +kernel
theorem dX9_form_212 : decode cX9_form 212 = .ok (.bipush 10, 2) := by decide +kernel
theorem dX9_form_214 : decode cX9_form 214 = .ok (.if_icmp .ne 93, 3) := by decide +kernel
theorem dX9_form_217 : decode cX9_form 217 = .ok (.iload_n 3, 1) := by decide +kernel
theorem dX9_form_218 : decode cX9_form 218 = .ok (.bipush 11, 2) := by decide +kernel
theorem dX9_form_220 : decode cX9_form 220 = .ok (.irem, 1) := by decide +kernel
theorem dX9_form_221 : decode cX9_form 221 = .ok (.ifCond .ne 86, 3) := by decide +kernel
theorem dX9_form_224 : decode cX9_form 224 = .ok (.ldc2_w 97, 3) := by decide +kernel
theorem dX9_form_227 : decode cX9_form 227 = .ok (.lload 7, 2) := by decide +kernel
theorem dX9_form_229 : decode cX9_form 229 = .ok (.ladd, 1) := by decide +kernel
theorem dX9_form_230 : decode cX9_form 230 = .ok (.lstore 10, 2) := by decide +kernel
theorem dX9_form_232 : decode cX9_form 232 = .ok (.iconst 0, 1) := by decide +kernel
theorem dX9_form_233 : decode cX9_form 233 = .ok (.istore 12, 2) := by decide +kernel
theorem dX9_form_235 : decode cX9_form 235 = .ok (.lload 10, 2) := by decide +kernel
theorem dX9_form_237 : decode cX9_form 237 = .ok (.lstore 13, 2) := by decide +kernel
theorem dX9_form_239 : decode cX9_form 239 = .ok (.bipush 12, 2) := by decide +kernel
theorem dX9_form_241 : decode cX9_form 241 = .ok (.istore 15, 2) := by decide +kernel
theorem dX9_form_243 : decode cX9_form 243 = .ok (.iload 15, 2) := by decide +kernel
theorem dX9_form_245 : decode cX9_form 245 = .ok (.ifCond .le 42, 3) := by decide +kernel
theorem dX9_form_248 : decode cX9_form 248 = .ok (.iload 12, 2) := by decide +kernel
theorem dX9_form_250 : decode cX9_form 250 = .ok (.lload 13, 2) := by decide +kernel
theorem dX9_form_252 : decode cX9_form 252 = .ok (.ldc2_w 95, 3) := by decide +kernel
theorem dX9_form_255 : decode cX9_form 255 = .ok (.lrem, 1) := by decide +kernel
theorem dX9_form_256 : decode cX9_form 256 = .ok (.l2i, 1) := by decide +kernel
theorem dX9_form_257 : decode cX9_form 257 = .ok (.iload 15, 2) := by decide +kernel
theorem dX9_form_259 : decode cX9_form 259 = .ok (.iconst 2, 1) := by decide +kernel
theorem dX9_form_260 : decode cX9_form 260 = .ok (.irem, 1) := by decide +kernel
theorem dX9_form_261 : decode cX9_form 261 = .ok (.ifCond .ne 7, 3) := by decide +kernel
theorem dX9_form_264 : decode cX9_form 264 = .ok (.iconst 3, 1) := by decide +kernel
theorem dX9_form_265 : decode cX9_form 265 = .ok (.goto 4, 3) := by decide +kernel
theorem dX9_form_268 : decode cX9_form 268 = .ok (.iconst 1, 1) := by decide +kernel
theorem dX9_form_269 : decode cX9_form 269 = .ok (.imul, 1) := by decide +kernel
theorem dX9_form_270 : decode cX9_form 270 = .ok (.iadd, 1) := by decide +kernel
theorem dX9_form_271 : decode cX9_form 271 = .ok (.istore 12, 2) := by decide +kernel
theorem dX9_form_273 : decode cX9_form 273 = .ok (.lload 13, 2) := by decide +kernel
theorem dX9_form_275 : decode cX9_form 275 = .ok (.ldc2_w 95, 3) := by decide +kernel
theorem dX9_form_278 : decode cX9_form 278 = .ok (.ldiv, 1) := by decide +kernel
theorem dX9_form_279 : decode cX9_form 279 = .ok (.lstore 13, 2) := by decide +kernel
theorem dX9_form_281 : decode cX9_form 281 = .ok (.iinc 15 (-1), 3) := by decide +kernel
theorem dX9_form_284 : decode cX9_form 284 = .ok (.goto (-41), 3) := by decide +kernel
theorem dX9_form_287 : decode cX9_form 287 = .ok (.ldc2_w 95, 3) := by decide +kernel
theorem dX9_form_290 : decode cX9_form 290 = .ok (.lload 10, 2) := by decide +kernel
theorem dX9_form_292 : decode cX9_form 292 = .ok (.lmul, 1) := by decide +kernel
theorem dX9_form_293 : decode cX9_form 293 = .ok (.bipush 10, 2) := by decide +kernel
theorem dX9_form_295 : decode cX9_form 295 = .ok (.iload 12, 2) := by decide +kernel
theorem dX9_form_297 : decode cX9_form 297 = .ok (.bipush 10, 2) := by decide +kernel
theorem dX9_form_299 : decode cX9_form 299 = .ok (.irem, 1) := by decide +kernel
theorem dX9_form_300 : decode cX9_form 300 = .ok (.isub, 1) := by decide +kernel
theorem dX9_form_301 : decode cX9_form 301 = .ok (.bipush 10, 2) := by decide +kernel
theorem dX9_form_303 : decode cX9_form 303 = .ok (.irem, 1) := by decide +kernel
theorem dX9_form_304 : decode cX9_form 304 = .ok (.i2l, 1) := by decide +kernel
theorem dX9_form_305 : decode cX9_form 305 = .ok (.ladd, 1) := by decide +kernel
theorem dX9_form_306 : decode cX9_form 306 = .ok (.lreturn, 1) := by decide +kernel
theorem dX9_form_307 : decode cX9_form 307 = .ok (.iload_n 2, 1) := by decide +kernel
theorem dX9_form_308 : decode cX9_form 308 = .ok (.bipush 13, 2) := by decide +kernel
theorem dX9_form_310 : decode cX9_form 310 = .ok (.if_icmp .ne 21, 3) := by decide +kernel
theorem dX9_form_313 : decode cX9_form 313 = .ok (.iload 9, 2) := by decide +kernel
theorem dX9_form_315 : decode cX9_form 315 = .ok (.ifCond .ne 16, 3) := by decide +kernel
theorem dX9_form_318 : decode cX9_form 318 = .ok (.iload 4, 2) := by decide +kernel
theorem dX9_form_320 : decode cX9_form 320 = .ok (.bipush 10, 2) := by decide +kernel
theorem dX9_form_322 : decode cX9_form 322 = .ok (.irem, 1) := by decide +kernel
theorem dX9_form_323 : decode cX9_form 323 = .ok (.ifCond .ne 8, 3) := by decide +kernel
theorem dX9_form_326 : decode cX9_form 326 = .ok (.lload 5, 2) := by decide +kernel
theorem dX9_form_328 : decode cX9_form 328 = .ok (.goto 6, 3) := by decide +kernel
theorem dX9_form_331 : decode cX9_form 331 = .ok (.ldc2_w 99, 3) := by decide +kernel
theorem dX9_form_334 : decode cX9_form 334 = .ok (.lreturn, 1) := by decide +kernel
theorem dX9_isOf_0 : decode cX9_isOf 0 = .ok (.aload_n 0, 1) := by decide +kernel
theorem dX9_isOf_1 : decode cX9_isOf 1 = .ok (.aload_n 0, 1) := by decide +kernel
theorem dX9_isOf_2 : decode cX9_isOf 2 = .ok (.getfield 23, 3) := by decide +kernel
theorem dX9_isOf_5 : decode cX9_isOf 5 = .ok (.iload_n 1, 1) := by decide +kernel
theorem dX9_isOf_6 : decode cX9_isOf 6 = .ok (.iaload, 1) := by decide +kernel
theorem dX9_isOf_7 : decode cX9_isOf 7 = .ok (.invokevirtual 101, 3) := by decide +kernel
theorem dX9_isOf_10 : decode cX9_isOf 10 = .ok (.iload_n 2, 1) := by decide +kernel
