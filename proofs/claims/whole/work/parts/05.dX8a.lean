theorem dX8_divisor_0 : decode cX8_divisor 0 = .ok (.lload_n 0, 1) := by decide +kernel
theorem dX8_divisor_1 : decode cX8_divisor 1 = .ok (.lstore 4, 2) := by decide +kernel
theorem dX8_divisor_3 : decode cX8_divisor 3 = .ok (.lload_n 2, 1) := by decide +kernel
theorem dX8_divisor_4 : decode cX8_divisor 4 = .ok (.lstore 6, 2) := by decide +kernel
theorem dX8_divisor_6 : decode cX8_divisor 6 = .ok (.lload 6, 2) := by decide +kernel
theorem dX8_divisor_8 : decode cX8_divisor 8 = .ok (.lconst 0, 1) := by decide +kernel
theorem dX8_divisor_9 : decode cX8_divisor 9 = .ok (.lcmp, 1) := by decide +kernel
theorem dX8_divisor_10 : decode cX8_divisor 10 = .ok (.ifCond .eq 21, 3) := by decide +kernel
theorem dX8_divisor_13 : decode cX8_divisor 13 = .ok (.lload 4, 2) := by decide +kernel
theorem dX8_divisor_15 : decode cX8_divisor 15 = .ok (.lload 6, 2) := by decide +kernel
theorem dX8_divisor_17 : decode cX8_divisor 17 = .ok (.lrem, 1) := by decide +kernel
theorem dX8_divisor_18 : decode cX8_divisor 18 = .ok (.lstore 8, 2) := by decide +kernel
theorem dX8_divisor_20 : decode cX8_divisor 20 = .ok (.lload 6, 2) := by decide +kernel
theorem dX8_divisor_22 : decode cX8_divisor 22 = .ok (.lstore 4, 2) := by decide +kernel
theorem dX8_divisor_24 : decode cX8_divisor 24 = .ok (.lload 8, 2) := by decide +kernel
theorem dX8_divisor_26 : decode cX8_divisor 26 = .ok (.lstore 6, 2) := by decide +kernel
theorem dX8_divisor_28 : decode cX8_divisor 28 = .ok (.goto (-22), 3) := by decide +kernel
theorem dX8_divisor_31 : decode cX8_divisor 31 = .ok (.lload 4, 2) := by decide +kernel
theorem dX8_divisor_33 : decode cX8_divisor 33 = .ok (.lreturn, 1) := by decide +kernel
theorem dX8_blank_0 : decode cX8_blank 0 = .ok (.aload_n 0, 1) := by decide +kernel
theorem dX8_blank_1 : decode cX8_blank 1 = .ok (.getfield 83, 3) := by decide +kernel
theorem dX8_blank_4 : decode cX8_blank 4 = .ok (.istore_n 1, 1) := by decide +kernel
theorem dX8_blank_5 : decode cX8_blank 5 = .ok (.aload_n 0, 1) := by decide +kernel
theorem dX8_blank_6 : decode cX8_blank 6 = .ok (.iconst 0, 1) := by decide +kernel
theorem dX8_blank_7 : decode cX8_blank 7 = .ok (.putfield 83, 3) := by decide +kernel
theorem dX8_blank_10 : decode cX8_blank 10 = .ok (.iload_n 1, 1) := by decide +kernel
theorem dX8_blank_11 : decode cX8_blank 11 = .ok (.ireturn, 1) := by decide +kernel
theorem dX8_fault_0 : decode cX8_fault 0 = .ok (.aload_n 0, 1) := by decide +kernel
theorem dX8_fault_1 : decode cX8_fault 1 = .ok (.invokevirtual 105, 3) := by decide +kernel
theorem dX8_fault_4 : decode cX8_fault 4 = .ok (.ireturn, 1) := by decide +kernel
theorem dX8_court_0 : decode cX8_court 0 = .ok (.aload_n 0, 1) := by decide +kernel
theorem dX8_court_1 : decode cX8_court 1 = .ok (.invokevirtual 105, 3) := by decide +kernel
theorem dX8_court_4 : decode cX8_court 4 = .ok (.istore_n 1, 1) := by decide +kernel
theorem dX8_court_5 : decode cX8_court 5 = .ok (.aload_n 0, 1) := by decide +kernel
theorem dX8_court_6 : decode cX8_court 6 = .ok (.getfield 95, 3) := by decide +kernel
theorem dX8_court_9 : decode cX8_court 9 = .ok (.ifCond .ne 6, 3) := by decide +kernel
theorem dX8_court_12 : decode cX8_court 12 = .ok (.bipush (-103), 2) := by decide +kernel
theorem dX8_court_14 : decode cX8_court 14 = .ok (.ireturn, 1) := by decide +kernel
theorem dX8_court_15 : decode cX8_court 15 = .ok (.aload_n 0, 1) := by decide +kernel
theorem dX8_court_16 : decode cX8_court 16 = .ok (.aload_n 0, 1) := by decide +kernel
theorem dX8_court_17 : decode cX8_court 17 = .ok (.getfield 99, 3) := by decide +kernel
theorem dX8_court_20 : decode cX8_court 20 = .ok (.putfield 109, 3) := by decide +kernel
theorem dX8_court_23 : decode cX8_court 23 = .ok (.aload_n 0, 1) := by decide +kernel
theorem dX8_court_24 : decode cX8_court 24 = .ok (.aload_n 0, 1) := by decide +kernel
theorem dX8_court_25 : decode cX8_court 25 = .ok (.getfield 44, 3) := by decide +kernel
theorem dX8_court_28 : decode cX8_court 28 = .ok (.iload_n 1, 1) := by decide +kernel
theorem dX8_court_29 : decode cX8_court 29 = .ok (.iconst 1, 1) := by decide +kernel
theorem dX8_court_30 : decode cX8_court 30 = .ok (.isub, 1) := by decide +kernel
theorem dX8_court_31 : decode cX8_court 31 = .ok (.baload, 1) := by decide +kernel
theorem dX8_court_32 : decode cX8_court 32 = .ok (.bipush 48, 2) := by decide +kernel
theorem dX8_court_34 : decode cX8_court 34 = .ok (.isub, 1) := by decide +kernel
theorem dX8_court_35 : decode cX8_court 35 = .ok (.putfield 112, 3) := by decide +kernel
theorem dX8_court_38 : decode cX8_court 38 = .ok (.iconst 0, 1) := by decide +kernel
theorem dX8_court_39 : decode cX8_court 39 = .ok (.istore_n 2, 1) := by decide +kernel
theorem dX8_court_40 : decode cX8_court 40 = .ok (.iload_n 2, 1) := by decide +kernel
theorem dX8_court_41 : decode cX8_court 41 = .ok (.aload_n 0, 1) := by decide +kernel
theorem dX8_court_42 : decode cX8_court 42 = .ok (.getfield 109, 3) := by decide +kernel
theorem dX8_court_45 : decode cX8_court 45 = .ok (.if_icmp .ge 98, 3) := by decide +kernel
theorem dX8_court_48 : decode cX8_court 48 = .ok (.aload_n 0, 1) := by decide +kernel
theorem dX8_court_49 : decode cX8_court 49 = .ok (.getfield 7, 3) := by decide +kernel
theorem dX8_court_52 : decode cX8_court 52 = .ok (.iload_n 2, 1) := by decide +kernel
theorem dX8_court_53 : decode cX8_court 53 = .ok (.aload_n 0, 1) := by decide +kernel
theorem dX8_court_54 : decode cX8_court 54 = .ok (.getfield 44, 3) := by decide +kernel
theorem dX8_court_57 : decode cX8_court 57 = .ok (.iconst 4, 1) := by decide +kernel
theorem dX8_court_58 : decode cX8_court 58 = .ok (.iload_n 2, 1) := by decide +kernel
theorem dX8_court_59 : decode cX8_court 59 = .ok (.imul, 1) := by decide +kernel
theorem dX8_court_60 : decode cX8_court 60 = .ok (.baload, 1) := by decide +kernel
theorem dX8_court_61 : decode cX8_court 61 = .ok (.invokestatic 87, 3) := by decide +kernel
theorem dX8_court_64 : decode cX8_court 64 = .ok (.iastore, 1) := by decide +kernel
theorem dX8_court_65 : decode cX8_court 65 = .ok (.aload_n 0, 1) := by decide +kernel
theorem dX8_court_66 : decode cX8_court 66 = .ok (.getfield 13, 3) := by decide +kernel
theorem dX8_court_69 : decode cX8_court 69 = .ok (.iload_n 2, 1) := by decide +kernel
theorem dX8_court_70 : decode cX8_court 70 = .ok (.aload_n 0, 1) := by decide +kernel
theorem dX8_court_71 : decode cX8_court 71 = .ok (.getfield 44, 3) := by decide +kernel
theorem dX8_court_74 : decode cX8_court 74 = .ok (.iconst 4, 1) := by decide +kernel
theorem dX8_court_75 : decode cX8_court 75 = .ok (.iload_n 2, 1) := by decide +kernel
theorem dX8_court_76 : decode cX8_court 76 = .ok (.imul, 1) := by decide +kernel
theorem dX8_court_77 : decode cX8_court 77 = .ok (.iconst 1, 1) := by decide +kernel
theorem dX8_court_78 : decode cX8_court 78 = .ok (.iadd, 1) := by decide +kernel
theorem dX8_court_79 : decode cX8_court 79 = .ok (.baload, 1) := by decide +kernel
theorem dX8_court_80 : decode cX8_court 80 = .ok (.bipush 48, 2) := by decide +kernel
theorem dX8_court_82 : decode cX8_court 82 = .ok (.isub, 1) := by decide +kernel
theorem dX8_court_83 : decode cX8_court 83 = .ok (.iastore, 1) := by decide +kernel
theorem dX8_court_84 : decode cX8_court 84 = .ok (.aload_n 0, 1) := by decide +kernel
theorem dX8_court_85 : decode cX8_court 85 = .ok (.getfield 16, 3) := by decide +kernel
theorem dX8_court_88 : decode cX8_court 88 = .ok (.iload_n 2, 1) := by decide +kernel
theorem dX8_court_89 : decode cX8_court 89 = .ok (.aload_n 0, 1) := by decide +kernel
theorem dX8_court_90 : decode cX8_court 90 = .ok (.getfield 44, 3) := by decide +kernel
theorem dX8_court_93 : decode cX8_court 93 = .ok (.iconst 4, 1) := by decide +kernel
theorem dX8_court_94 : decode cX8_court 94 = .ok (.iload_n 2, 1) := by decide +kernel
theorem dX8_court_95 : decode cX8_court 95 = .ok (.imul, 1) := by decide +kernel
theorem dX8_court_96 : decode cX8_court 96 = .ok (.iconst 2, 1) := by decide +kernel
theorem dX8_court_97 : decode cX8_court 97 = .ok (.iadd, 1) := by decide +kernel
theorem dX8_court_98 : decode cX8_court 98 = .ok (.baload, 1) := by decide +kernel
theorem dX8_court_99 : decode cX8_court 99 = .ok (.bipush 48, 2) := by decide +kernel
theorem dX8_court_101 : decode cX8_court 101 = .ok (.isub, 1) := by decide +kernel
theorem dX8_court_102 : decode cX8_court 102 = .ok (.iastore, 1) := by decide +kernel
theorem dX8_court_103 : decode cX8_court 103 = .ok (.aload_n 0, 1) := by decide +kernel
theorem dX8_court_104 : decode cX8_court 104 = .ok (.getfield 19, 3) := by decide +kernel
theorem dX8_court_107 : decode cX8_court 107 = .ok (.iload_n 2, 1) := by decide +kernel
theorem dX8_court_108 : decode cX8_court 108 = .ok (.iconst 0, 1) := by decide +kernel
theorem dX8_court_109 : decode cX8_court 109 = .ok (.iastore, 1) := by decide +kernel
theorem dX8_court_110 : decode cX8_court 110 = .ok (.aload_n 0, 1) := by decide +kernel
theorem dX8_court_111 : decode cX8_court 111 = .ok (.getfield 22, 3) := by decide +kernel
theorem dX8_court_114 : decode cX8_court 114 = .ok (.iload_n 2, 1) := by decide +kernel
theorem dX8_court_115 : decode cX8_court 115 = .ok (.iconst 0, 1) := by decide +kernel
theorem dX8_court_116 : decode cX8_court 116 = .ok (.iastore, 1) := by decide +kernel
theorem dX8_court_117 : decode cX8_court 117 = .ok (.aload_n 0, 1) := by decide +kernel
theorem dX8_court_118 : decode cX8_court 118 = .ok (.getfield 25, 3) := by decide +kernel
theorem dX8_court_121 : decode cX8_court 121 = .ok (.iload_n 2, 1) := by decide +kernel
theorem dX8_court_122 : decode cX8_court 122 = .ok (.iconst 0, 1) := by decide +kernel
theorem dX8_court_123 : decode cX8_court 123 = .ok (.iastore, 1) := by decide +kernel
theorem dX8_court_124 : decode cX8_court 124 = .ok (.aload_n 0, 1) := by decide +kernel
theorem dX8_court_125 : decode cX8_court 125 = .ok (.getfield 28, 3) := by decide +kernel
theorem dX8_court_128 : decode cX8_court 128 = .ok (.iload_n 2, 1) := by decide +kernel
theorem dX8_court_129 : decode cX8_court 129 = .ok (.aload_n 0, 1) := by decide +kernel
theorem dX8_court_130 : decode cX8_court 130 = .ok (.getfield 16, 3) := by decide +kernel
theorem dX8_court_133 : decode cX8_court 133 = .ok (.iload_n 2, 1) := by decide +kernel
theorem dX8_court_134 : decode cX8_court 134 = .ok (.iaload, 1) := by decide +kernel
theorem dX8_court_135 : decode cX8_court 135 = .ok (.i2l, 1) := by decide +kernel
theorem dX8_court_136 : decode cX8_court 136 = .ok (.lastore, 1) := by decide +kernel
theorem dX8_court_137 : decode cX8_court 137 = .ok (.iinc 2 1, 3) := by decide +kernel
theorem dX8_court_140 : decode cX8_court 140 = .ok (.goto (-100), 3) := by decide +kernel
theorem dX8_court_143 : decode cX8_court 143 = .ok (.aload_n 0, 1) := by decide +kernel
theorem dX8_court_144 : decode cX8_court 144 = .ok (.dup, 1) := by decide +kernel
theorem dX8_court_145 : decode cX8_court 145 = .ok (.getfield 115, 3) := by decide +kernel
theorem dX8_court_148 : decode cX8_court 148 = .ok (.iconst 1, 1) := by decide +kernel
theorem dX8_court_149 : decode cX8_court 149 = .ok (.iadd, 1) := by decide +kernel
theorem dX8_court_150 : decode cX8_court 150 = .ok (.putfield 115, 3) := by decide +kernel
theorem dX8_court_153 : decode cX8_court 153 = .ok (.aload_n 0, 1) := by decide +kernel
theorem dX8_court_154 : decode cX8_court 154 = .ok (.iconst 0, 1) := by decide +kernel
theorem dX8_court_155 : decode cX8_court 155 = .ok (.putfield 118, 3) := by decide +kernel
theorem dX8_court_158 : decode cX8_court 158 = .ok (.aload_n 0, 1) := by decide +kernel
theorem dX8_court_159 : decode cX8_court 159 = .ok (.iconst 0, 1) := by decide +kernel
theorem dX8_court_160 : decode cX8_court 160 = .ok (.putfield 121, 3) := by decide +kernel
theorem dX8_court_163 : decode cX8_court 163 = .ok (.aload_n 0, 1) := by decide +kernel
theorem dX8_court_164 : decode cX8_court 164 = .ok (.iconst 0, 1) := by decide +kernel
theorem dX8_court_165 : decode cX8_court 165 = .ok (.putfield 83, 3) := by decide +kernel
theorem dX8_court_168 : decode cX8_court 168 = .ok (.aload_n 0, 1) := by decide +kernel
theorem dX8_court_169 : decode cX8_court 169 = .ok (.getfield 109, 3) := by decide +kernel
theorem dX8_court_172 : decode cX8_court 172 = .ok (.ireturn, 1) := by decide +kernel
theorem dX8_dreads_0 : decode cX8_dreads 0 = .ok (.aload_n 0, 1) := by decide +kernel
theorem dX8_dreads_1 : decode cX8_dreads 1 = .ok (.getfield 13, 3) := by decide +kernel
theorem dX8_dreads_4 : decode cX8_dreads 4 = .ok (.iload_n 1, 1) := by decide +kernel
theorem dX8_dreads_5 : decode cX8_dreads 5 = .ok (.iaload, 1) := by decide +kernel
theorem dX8_dreads_6 : decode cX8_dreads 6 = .ok (.istore_n 3, 1) := by decide +kernel
theorem dX8_dreads_7 : decode cX8_dreads 7 = .ok (.aload_n 0, 1) := by decide +kernel
theorem dX8_dreads_8 : decode cX8_dreads 8 = .ok (.getfield 7, 3) := by decide +kernel
theorem dX8_dreads_11 : decode cX8_dreads 11 = .ok (.iload_n 1, 1) := by decide +kernel
theorem dX8_dreads_12 : decode cX8_dreads 12 = .ok (.iaload, 1) := by decide +kernel
theorem dX8_dreads_13 : decode cX8_dreads 13 = .ok (.tableswitch 61 1 4 #[31, 33, 37, 51], 31) := by decide +kernel
theorem dX8_dreads_44 : decode cX8_dreads 44 = .ok (.iload_n 3, 1) := by decide +kernel
theorem dX8_dreads_45 : decode cX8_dreads 45 = .ok (.ireturn, 1) := by decide +kernel
theorem dX8_dreads_46 : decode cX8_dreads 46 = .ok (.iload_n 3, 1) := by decide +kernel
theorem dX8_dreads_47 : decode cX8_dreads 47 = .ok (.iconst 3, 1) := by decide +kernel
theorem dX8_dreads_48 : decode cX8_dreads 48 = .ok (.iadd, 1) := by decide +kernel
theorem dX8_dreads_49 : decode cX8_dreads 49 = .ok (.ireturn, 1) := by decide +kernel
theorem dX8_dreads_50 : decode cX8_dreads 50 = .ok (.iload_n 3, 1) := by decide +kernel
theorem dX8_dreads_51 : decode cX8_dreads 51 = .ok (.iconst 2, 1) := by decide +kernel
theorem dX8_dreads_52 : decode cX8_dreads 52 = .ok (.idiv, 1) := by decide +kernel
theorem dX8_dreads_53 : decode cX8_dreads 53 = .ok (.iload_n 2, 1) := by decide +kernel
theorem dX8_dreads_54 : decode cX8_dreads 54 = .ok (.ifCond .eq 7, 3) := by decide +kernel
theorem dX8_dreads_57 : decode cX8_dreads 57 = .ok (.iconst 3, 1) := by decide +kernel
theorem dX8_dreads_58 : decode cX8_dreads 58 = .ok (.goto 4, 3) := by decide +kernel
theorem dX8_dreads_61 : decode cX8_dreads 61 = .ok (.iconst 0, 1) := by decide +kernel
theorem dX8_dreads_62 : decode cX8_dreads 62 = .ok (.iadd, 1) := by decide +kernel
theorem dX8_dreads_63 : decode cX8_dreads 63 = .ok (.ireturn, 1) := by decide +kernel
theorem dX8_dreads_64 : decode cX8_dreads 64 = .ok (.iload_n 2, 1) := by decide +kernel
theorem dX8_dreads_65 : decode cX8_dreads 65 = .ok (.ifCond .eq 7, 3) := by decide +kernel
theorem dX8_dreads_68 : decode cX8_dreads 68 = .ok (.iconst 0, 1) := by decide +kernel
theorem dX8_dreads_69 : decode cX8_dreads 69 = .ok (.goto 4, 3) := by decide +kernel
theorem dX8_dreads_72 : decode cX8_dreads 72 = .ok (.iload_n 3, 1) := by decide +kernel
theorem dX8_dreads_73 : decode cX8_dreads 73 = .ok (.ireturn, 1) := by decide +kernel
theorem dX8_dreads_74 : decode cX8_dreads 74 = .ok (.iload_n 3, 1) := by decide +kernel
theorem dX8_dreads_75 : decode cX8_dreads 75 = .ok (.iload_n 2, 1) := by decide +kernel
theorem dX8_dreads_76 : decode cX8_dreads 76 = .ok (.ifCond .eq 7, 3) := by decide +kernel
theorem dX8_dreads_79 : decode cX8_dreads 79 = .ok (.iconst 3, 1) := by decide +kernel
theorem dX8_dreads_80 : decode cX8_dreads 80 = .ok (.goto 4, 3) := by decide +kernel
theorem dX8_dreads_83 : decode cX8_dreads 83 = .ok (.iconst 0, 1) := by decide +kernel
theorem dX8_dreads_84 : decode cX8_dreads 84 = .ok (.iadd, 1) := by decide +kernel
theorem dX8_dreads_85 : decode cX8_dreads 85 = .ok (.ireturn, 1) := by decide +kernel
theorem dX8_about_0 : decode cX8_about 0 = .ok (.aload_n 0, 1) := by decide +kernel
theorem dX8_about_1 : decode cX8_about 1 = .ok (.iload_n 1, 1) := by decide +kernel
theorem dX8_about_2 : decode cX8_about 2 = .ok (.invokevirtual 138, 3) := by decide +kernel
theorem dX8_about_5 : decode cX8_about 5 = .ok (.ifCond .ne 8, 3) := by decide +kernel
theorem dX8_about_8 : decode cX8_about 8 = .ok (.bipush (-101), 2) := by decide +kernel
theorem dX8_about_10 : decode cX8_about 10 = .ok (.goto 24, 3) := by decide +kernel
theorem dX8_about_13 : decode cX8_about 13 = .ok (.iload_n 2, 1) := by decide +kernel
theorem dX8_about_14 : decode cX8_about 14 = .ok (.iconst 0, 1) := by decide +kernel
theorem dX8_about_15 : decode cX8_about 15 = .ok (.bipush 8, 2) := by decide +kernel
theorem dX8_about_17 : decode cX8_about 17 = .ok (.invokestatic 79, 3) := by decide +kernel
theorem dX8_about_20 : decode cX8_about 20 = .ok (.ifCond .eq 12, 3) := by decide +kernel
theorem dX8_about_23 : decode cX8_about 23 = .ok (.aload_n 0, 1) := by decide +kernel
theorem dX8_about_24 : decode cX8_about 24 = .ok (.iload_n 1, 1) := by decide +kernel
theorem dX8_about_25 : decode cX8_about 25 = .ok (.iload_n 2, 1) := by decide +kernel
theorem dX8_about_26 : decode cX8_about 26 = .ok (.invokevirtual 142, 3) := by decide +kernel
theorem dX8_about_29 : decode cX8_about 29 = .ok (.goto 5, 3) := by decide +kernel
theorem dX8_about_32 : decode cX8_about 32 = .ok (.bipush (-102), 2) := by decide +kernel
theorem dX8_about_34 : decode cX8_about 34 = .ok (.ireturn, 1) := by decide +kernel
theorem dX8_as_0 : decode cX8_as 0 = .ok (.aload_n 0, 1) := by decide +kernel
theorem dX8_as_1 : decode cX8_as 1 = .ok (.iload_n 1, 1) := by decide +kernel
theorem dX8_as_2 : decode cX8_as 2 = .ok (.invokevirtual 138, 3) := by decide +kernel
theorem dX8_as_5 : decode cX8_as 5 = .ok (.ifCond .ne 6, 3) := by decide +kernel
theorem dX8_as_8 : decode cX8_as 8 = .ok (.bipush (-101), 2) := by decide +kernel
theorem dX8_as_10 : decode cX8_as 10 = .ok (.ireturn, 1) := by decide +kernel
theorem dX8_as_11 : decode cX8_as 11 = .ok (.iload_n 2, 1) := by decide +kernel
theorem dX8_as_12 : decode cX8_as 12 = .ok (.iconst 0, 1) := by decide +kernel
theorem dX8_as_13 : decode cX8_as 13 = .ok (.iconst 4, 1) := by decide +kernel
theorem dX8_as_14 : decode cX8_as 14 = .ok (.invokestatic 79, 3) := by decide +kernel
theorem dX8_as_17 : decode cX8_as 17 = .ok (.ifCond .ne 6, 3) := by decide +kernel
theorem dX8_as_20 : decode cX8_as 20 = .ok (.bipush (-102), 2) := by decide +kernel
theorem dX8_as_22 : decode cX8_as 22 = .ok (.ireturn, 1) := by decide +kernel
theorem dX8_as_23 : decode cX8_as 23 = .ok (.aload_n 0, 1) := by decide +kernel
theorem dX8_as_24 : decode cX8_as 24 = .ok (.getfield 7, 3) := by decide +kernel
theorem dX8_as_27 : decode cX8_as 27 = .ok (.iload_n 1, 1) := by decide +kernel
theorem dX8_as_28 : decode cX8_as 28 = .ok (.iaload, 1) := by decide +kernel
theorem dX8_as_29 : decode cX8_as 29 = .ok (.istore_n 3, 1) := by decide +kernel
theorem dX8_as_30 : decode cX8_as 30 = .ok (.iload_n 2, 1) := by decide +kernel
theorem dX8_as_31 : decode cX8_as 31 = .ok (.ifCond .eq 18, 3) := by decide +kernel
theorem dX8_as_34 : decode cX8_as 34 = .ok (.iload_n 3, 1) := by decide +kernel
theorem dX8_as_35 : decode cX8_as 35 = .ok (.iload_n 2, 1) := by decide +kernel
theorem dX8_as_36 : decode cX8_as 36 = .ok (.if_icmp .eq 13, 3) := by decide +kernel
theorem dX8_as_39 : decode cX8_as 39 = .ok (.iload_n 2, 1) := by decide +kernel
theorem dX8_as_40 : decode cX8_as 40 = .ok (.iconst 1, 1) := by decide +kernel
theorem dX8_as_41 : decode cX8_as 41 = .ok (.if_icmp .ne 12, 3) := by decide +kernel
theorem dX8_as_44 : decode cX8_as 44 = .ok (.iload_n 3, 1) := by decide +kernel
theorem dX8_as_45 : decode cX8_as 45 = .ok (.iconst 4, 1) := by decide +kernel
theorem dX8_as_46 : decode cX8_as 46 = .ok (.if_icmp .ne 7, 3) := by decide +kernel
theorem dX8_as_49 : decode cX8_as 49 = .ok (.iload_n 1, 1) := by decide +kernel
theorem dX8_as_50 : decode cX8_as 50 = .ok (.goto 4, 3) := by decide +kernel
theorem dX8_as_53 : decode cX8_as 53 = .ok (.iconst (-1), 1) := by decide +kernel
theorem dX8_as_54 : decode cX8_as 54 = .ok (.ireturn, 1) := by decide +kernel
theorem dX8_butter_0 : decode cX8_butter 0 = .ok (.aload_n 0, 1) := by decide +kernel
theorem dX8_butter_1 : decode cX8_butter 1 = .ok (.iload_n 1, 1) := by decide +kernel
theorem dX8_butter_2 : decode cX8_butter 2 = .ok (.invokevirtual 138, 3) := by decide +kernel
theorem dX8_butter_5 : decode cX8_butter 5 = .ok (.ifCond .ne 6, 3) := by decide +kernel
theorem dX8_butter_8 : decode cX8_butter 8 = .ok (.bipush (-101), 2) := by decide +kernel
theorem dX8_butter_10 : decode cX8_butter 10 = .ok (.ireturn, 1) := by decide +kernel
theorem dX8_butter_11 : decode cX8_butter 11 = .ok (.iload_n 2, 1) := by decide +kernel
theorem dX8_butter_12 : decode cX8_butter 12 = .ok (.iconst 0, 1) := by decide +kernel
theorem dX8_butter_13 : decode cX8_butter 13 = .ok (.bipush 9, 2) := by decide +kernel
theorem dX8_butter_15 : decode cX8_butter 15 = .ok (.invokestatic 79, 3) := by decide +kernel
theorem dX8_butter_18 : decode cX8_butter 18 = .ok (.ifCond .ne 6, 3) := by decide +kernel
theorem dX8_butter_21 : decode cX8_butter 21 = .ok (.bipush (-102), 2) := by decide +kernel
theorem dX8_butter_23 : decode cX8_butter 23 = .ok (.ireturn, 1) := by decide +kernel
theorem dX8_butter_24 : decode cX8_butter 24 = .ok (.aload_n 0, 1) := by decide +kernel
theorem dX8_butter_25 : decode cX8_butter 25 = .ok (.getfield 19, 3) := by decide +kernel
theorem dX8_butter_28 : decode cX8_butter 28 = .ok (.iload_n 1, 1) := by decide +kernel
theorem dX8_butter_29 : decode cX8_butter 29 = .ok (.iaload, 1) := by decide +kernel
theorem dX8_butter_30 : decode cX8_butter 30 = .ok (.istore_n 3, 1) := by decide +kernel
theorem dX8_butter_31 : decode cX8_butter 31 = .ok (.aload_n 0, 1) := by decide +kernel
theorem dX8_butter_32 : decode cX8_butter 32 = .ok (.getfield 19, 3) := by decide +kernel
theorem dX8_butter_35 : decode cX8_butter 35 = .ok (.iload_n 1, 1) := by decide +kernel
theorem dX8_butter_36 : decode cX8_butter 36 = .ok (.iload_n 2, 1) := by decide +kernel
theorem dX8_butter_37 : decode cX8_butter 37 = .ok (.iastore, 1) := by decide +kernel
theorem dX8_butter_38 : decode cX8_butter 38 = .ok (.iload_n 3, 1) := by decide +kernel
theorem dX8_butter_39 : decode cX8_butter 39 = .ok (.ireturn, 1) := by decide +kernel
theorem dX8_eatOn_0 : decode cX8_eatOn 0 = .ok (.iconst 0, 1) := by decide +kernel
theorem dX8_eatOn_1 : decode cX8_eatOn 1 = .ok (.istore 5, 2) := by decide +kernel
theorem dX8_eatOn_3 : decode cX8_eatOn 3 = .ok (.iload 5, 2) := by decide +kernel
theorem dX8_eatOn_5 : decode cX8_eatOn 5 = .ok (.aload_n 0, 1) := by decide +kernel
theorem dX8_eatOn_6 : decode cX8_eatOn 6 = .ok (.getfield 109, 3) := by decide +kernel
theorem dX8_eatOn_9 : decode cX8_eatOn 9 = .ok (.if_icmp .ge 75, 3) := by decide +kernel
theorem dX8_eatOn_12 : decode cX8_eatOn 12 = .ok (.aload_n 0, 1) := by decide +kernel
theorem dX8_eatOn_13 : decode cX8_eatOn 13 = .ok (.iload_n 2, 1) := by decide +kernel
theorem dX8_eatOn_14 : decode cX8_eatOn 14 = .ok (.iload 5, 2) := by decide +kernel
theorem dX8_eatOn_16 : decode cX8_eatOn 16 = .ok (.iload_n 2, 1) := by decide +kernel
theorem dX8_eatOn_17 : decode cX8_eatOn 17 = .ok (.if_icmp .ne 7, 3) := by decide +kernel
theorem dX8_eatOn_20 : decode cX8_eatOn 20 = .ok (.iconst 1, 1) := by decide +kernel
theorem dX8_eatOn_21 : decode cX8_eatOn 21 = .ok (.goto 4, 3) := by decide +kernel
theorem dX8_eatOn_24 : decode cX8_eatOn 24 = .ok (.iconst 0, 1) := by decide +kernel
theorem dX8_eatOn_25 : decode cX8_eatOn 25 = .ok (.iload 4, 2) := by decide +kernel
theorem dX8_eatOn_27 : decode cX8_eatOn 27 = .ok (.aload_n 0, 1) := by decide +kernel
theorem dX8_eatOn_28 : decode cX8_eatOn 28 = .ok (.getfield 19, 3) := by decide +kernel
theorem dX8_eatOn_31 : decode cX8_eatOn 31 = .ok (.iload_n 2, 1) := by decide +kernel
theorem dX8_eatOn_32 : decode cX8_eatOn 32 = .ok (.iaload, 1) := by decide +kernel
theorem dX8_eatOn_33 : decode cX8_eatOn 33 = .ok (.invokevirtual 128, 3) := by decide +kernel
theorem dX8_eatOn_36 : decode cX8_eatOn 36 = .ok (.istore 6, 2) := by decide +kernel
theorem dX8_eatOn_38 : decode cX8_eatOn 38 = .ok (.aload_n 0, 1) := by decide +kernel
theorem dX8_eatOn_39 : decode cX8_eatOn 39 = .ok (.getfield 48, 3) := by decide +kernel
theorem dX8_eatOn_42 : decode cX8_eatOn 42 = .ok (.iconst 4, 1) := by decide +kernel
theorem dX8_eatOn_43 : decode cX8_eatOn 43 = .ok (.iload_n 1, 1) := by decide +kernel
theorem dX8_eatOn_44 : decode cX8_eatOn 44 = .ok (.iconst 1, 1) := by decide +kernel
theorem dX8_eatOn_45 : decode cX8_eatOn 45 = .ok (.iadd, 1) := by decide +kernel
theorem dX8_eatOn_46 : decode cX8_eatOn 46 = .ok (.imul, 1) := by decide +kernel
theorem dX8_eatOn_47 : decode cX8_eatOn 47 = .ok (.iload 5, 2) := by decide +kernel
theorem dX8_eatOn_49 : decode cX8_eatOn 49 = .ok (.iadd, 1) := by decide +kernel
theorem dX8_eatOn_50 : decode cX8_eatOn 50 = .ok (.aload_n 0, 1) := by decide +kernel
theorem dX8_eatOn_51 : decode cX8_eatOn 51 = .ok (.getfield 48, 3) := by decide +kernel
theorem dX8_eatOn_54 : decode cX8_eatOn 54 = .ok (.iconst 4, 1) := by decide +kernel
theorem dX8_eatOn_55 : decode cX8_eatOn 55 = .ok (.iload_n 1, 1) := by decide +kernel
theorem dX8_eatOn_56 : decode cX8_eatOn 56 = .ok (.imul, 1) := by decide +kernel
theorem dX8_eatOn_57 : decode cX8_eatOn 57 = .ok (.iload 5, 2) := by decide +kernel
theorem dX8_eatOn_59 : decode cX8_eatOn 59 = .ok (.iadd, 1) := by decide +kernel
theorem dX8_eatOn_60 : decode cX8_eatOn 60 = .ok (.laload, 1) := by decide +kernel
theorem dX8_eatOn_61 : decode cX8_eatOn 61 = .ok (.iload_n 3, 1) := by decide +kernel
theorem dX8_eatOn_62 : decode cX8_eatOn 62 = .ok (.ifCond .eq 8, 3) := by decide +kernel
theorem dX8_eatOn_65 : decode cX8_eatOn 65 = .ok (.iload 6, 2) := by decide +kernel
theorem dX8_eatOn_67 : decode cX8_eatOn 67 = .ok (.goto 8, 3) := by decide +kernel
theorem dX8_eatOn_70 : decode cX8_eatOn 70 = .ok (.bipush 10, 2) := by decide +kernel
theorem dX8_eatOn_72 : decode cX8_eatOn 72 = .ok (.iload 6, 2) := by decide +kernel
theorem dX8_eatOn_74 : decode cX8_eatOn 74 = .ok (.isub, 1) := by decide +kernel
theorem dX8_eatOn_75 : decode cX8_eatOn 75 = .ok (.i2l, 1) := by decide +kernel
theorem dX8_eatOn_76 : decode cX8_eatOn 76 = .ok (.lmul, 1) := by decide +kernel
theorem dX8_eatOn_77 : decode cX8_eatOn 77 = .ok (.lastore, 1) := by decide +kernel
theorem dX8_eatOn_78 : decode cX8_eatOn 78 = .ok (.iinc 5 1, 3) := by decide +kernel
theorem dX8_eatOn_81 : decode cX8_eatOn 81 = .ok (.goto (-78), 3) := by decide +kernel
theorem dX8_eatOn_84 : decode cX8_eatOn 84 = .ok (.return_, 1) := by decide +kernel
theorem dX8_greatest_0 : decode cX8_greatest 0 = .ok (.lconst 0, 1) := by decide +kernel
theorem dX8_greatest_1 : decode cX8_greatest 1 = .ok (.lstore_n 2, 1) := by decide +kernel
theorem dX8_greatest_2 : decode cX8_greatest 2 = .ok (.iconst 0, 1) := by decide +kernel
theorem dX8_greatest_3 : decode cX8_greatest 3 = .ok (.istore 4, 2) := by decide +kernel
theorem dX8_greatest_5 : decode cX8_greatest 5 = .ok (.iload 4, 2) := by decide +kernel
theorem dX8_greatest_7 : decode cX8_greatest 7 = .ok (.aload_n 0, 1) := by decide +kernel
theorem dX8_greatest_8 : decode cX8_greatest 8 = .ok (.getfield 109, 3) := by decide +kernel
theorem dX8_greatest_11 : decode cX8_greatest 11 = .ok (.if_icmp .ge 41, 3) := by decide +kernel
theorem dX8_greatest_14 : decode cX8_greatest 14 = .ok (.aload_n 0, 1) := by decide +kernel
theorem dX8_greatest_15 : decode cX8_greatest 15 = .ok (.getfield 48, 3) := by decide +kernel
theorem dX8_greatest_18 : decode cX8_greatest 18 = .ok (.iconst 4, 1) := by decide +kernel
theorem dX8_greatest_19 : decode cX8_greatest 19 = .ok (.iload_n 1, 1) := by decide +kernel
theorem dX8_greatest_20 : decode cX8_greatest 20 = .ok (.imul, 1) := by decide +kernel
theorem dX8_greatest_21 : decode cX8_greatest 21 = .ok (.iload 4, 2) := by decide +kernel
theorem dX8_greatest_23 : decode cX8_greatest 23 = .ok (.iadd, 1) := by decide +kernel
theorem dX8_greatest_24 : decode cX8_greatest 24 = .ok (.laload, 1) := by decide +kernel
theorem dX8_greatest_25 : decode cX8_greatest 25 = .ok (.lload_n 2, 1) := by decide +kernel
theorem dX8_greatest_26 : decode cX8_greatest 26 = .ok (.lcmp, 1) := by decide +kernel
theorem dX8_greatest_27 : decode cX8_greatest 27 = .ok (.ifCond .le 17, 3) := by decide +kernel
theorem dX8_greatest_30 : decode cX8_greatest 30 = .ok (.aload_n 0, 1) := by decide +kernel
theorem dX8_greatest_31 : decode cX8_greatest 31 = .ok (.getfield 48, 3) := by decide +kernel
theorem dX8_greatest_34 : decode cX8_greatest 34 = .ok (.iconst 4, 1) := by decide +kernel
theorem dX8_greatest_35 : decode cX8_greatest 35 = .ok (.iload_n 1, 1) := by decide +kernel
theorem dX8_greatest_36 : decode cX8_greatest 36 = .ok (.imul, 1) := by decide +kernel
theorem dX8_greatest_37 : decode cX8_greatest 37 = .ok (.iload 4, 2) := by decide +kernel
theorem dX8_greatest_39 : decode cX8_greatest 39 = .ok (.iadd, 1) := by decide +kernel
theorem dX8_greatest_40 : decode cX8_greatest 40 = .ok (.laload, 1) := by decide +kernel
theorem dX8_greatest_41 : decode cX8_greatest 41 = .ok (.goto 4, 3) := by decide +kernel
theorem dX8_greatest_44 : decode cX8_greatest 44 = .ok (.lload_n 2, 1) := by decide +kernel
theorem dX8_greatest_45 : decode cX8_greatest 45 = .ok (.lstore_n 2, 1) := by decide +kernel
theorem dX8_greatest_46 : decode cX8_greatest 46 = .ok (.iinc 4 1, 3) := by decide +kernel
theorem dX8_greatest_49 : decode cX8_greatest 49 = .ok (.goto (-44), 3) := by decide +kernel
theorem dX8_greatest_52 : decode cX8_greatest 52 = .ok (.lload_n 2, 1) := by decide +kernel
theorem dX8_greatest_53 : decode cX8_greatest 53 = .ok (.lreturn, 1) := by decide +kernel
theorem dX8_eat_0 : decode cX8_eat 0 = .ok (.aload_n 0, 1) := by decide +kernel
theorem dX8_eat_1 : decode cX8_eat 1 = .ok (.iload_n 1, 1) := by decide +kernel
theorem dX8_eat_2 : decode cX8_eat 2 = .ok (.invokevirtual 138, 3) := by decide +kernel
theorem dX8_eat_5 : decode cX8_eat 5 = .ok (.ifCond .ne 6, 3) := by decide +kernel
theorem dX8_eat_8 : decode cX8_eat 8 = .ok (.bipush (-101), 2) := by decide +kernel
theorem dX8_eat_10 : decode cX8_eat 10 = .ok (.ireturn, 1) := by decide +kernel
theorem dX8_eat_11 : decode cX8_eat 11 = .ok (.aload_n 0, 1) := by decide +kernel
theorem dX8_eat_12 : decode cX8_eat 12 = .ok (.invokevirtual 146, 3) := by decide +kernel
theorem dX8_eat_15 : decode cX8_eat 15 = .ok (.aload_n 0, 1) := by decide +kernel
theorem dX8_eat_16 : decode cX8_eat 16 = .ok (.iconst 0, 1) := by decide +kernel
theorem dX8_eat_17 : decode cX8_eat 17 = .ok (.iload_n 1, 1) := by decide +kernel
theorem dX8_eat_18 : decode cX8_eat 18 = .ok (.iload_n 2, 1) := by decide +kernel
theorem dX8_eat_19 : decode cX8_eat 19 = .ok (.aload_n 0, 1) := by decide +kernel
theorem dX8_eat_20 : decode cX8_eat 20 = .ok (.getfield 112, 3) := by decide +kernel
theorem dX8_eat_23 : decode cX8_eat 23 = .ok (.invokevirtual 149, 3) := by decide +kernel
theorem dX8_eat_26 : decode cX8_eat 26 = .ok (.aload_n 0, 1) := by decide +kernel
theorem dX8_eat_27 : decode cX8_eat 27 = .ok (.iconst 1, 1) := by decide +kernel
theorem dX8_eat_28 : decode cX8_eat 28 = .ok (.invokevirtual 153, 3) := by decide +kernel
theorem dX8_eat_31 : decode cX8_eat 31 = .ok (.lconst 0, 1) := by decide +kernel
theorem dX8_eat_32 : decode cX8_eat 32 = .ok (.lcmp, 1) := by decide +kernel
theorem dX8_eat_33 : decode cX8_eat 33 = .ok (.ifCond .ne 6, 3) := by decide +kernel
theorem dX8_eat_36 : decode cX8_eat 36 = .ok (.bipush (-103), 2) := by decide +kernel
theorem dX8_eat_38 : decode cX8_eat 38 = .ok (.ireturn, 1) := by decide +kernel
theorem dX8_eat_39 : decode cX8_eat 39 = .ok (.aload_n 0, 1) := by decide +kernel
theorem dX8_eat_40 : decode cX8_eat 40 = .ok (.getfield 118, 3) := by decide +kernel
theorem dX8_eat_43 : decode cX8_eat 43 = .ok (.bipush 6, 2) := by decide +kernel
theorem dX8_eat_45 : decode cX8_eat 45 = .ok (.if_icmp .ne 6, 3) := by decide +kernel
theorem dX8_eat_48 : decode cX8_eat 48 = .ok (.bipush (-104), 2) := by decide +kernel
theorem dX8_eat_50 : decode cX8_eat 50 = .ok (.ireturn, 1) := by decide +kernel
theorem dX8_eat_51 : decode cX8_eat 51 = .ok (.aload_n 0, 1) := by decide +kernel
theorem dX8_eat_52 : decode cX8_eat 52 = .ok (.invokevirtual 157, 3) := by decide +kernel
theorem dX8_eat_55 : decode cX8_eat 55 = .ok (.aload_n 0, 1) := by decide +kernel
theorem dX8_eat_56 : decode cX8_eat 56 = .ok (.dup, 1) := by decide +kernel
theorem dX8_eat_57 : decode cX8_eat 57 = .ok (.getfield 118, 3) := by decide +kernel
theorem dX8_eat_60 : decode cX8_eat 60 = .ok (.iconst 1, 1) := by decide +kernel
theorem dX8_eat_61 : decode cX8_eat 61 = .ok (.iadd, 1) := by decide +kernel
theorem dX8_eat_62 : decode cX8_eat 62 = .ok (.putfield 118, 3) := by decide +kernel
theorem dX8_eat_65 : decode cX8_eat 65 = .ok (.aload_n 0, 1) := by decide +kernel
theorem dX8_eat_66 : decode cX8_eat 66 = .ok (.getfield 22, 3) := by decide +kernel
theorem dX8_eat_69 : decode cX8_eat 69 = .ok (.iload_n 1, 1) := by decide +kernel
theorem dX8_eat_70 : decode cX8_eat 70 = .ok (.dup2, 1) := by decide +kernel
theorem dX8_eat_71 : decode cX8_eat 71 = .ok (.iaload, 1) := by decide +kernel
theorem dX8_eat_72 : decode cX8_eat 72 = .ok (.iconst 1, 1) := by decide +kernel
theorem dX8_eat_73 : decode cX8_eat 73 = .ok (.iadd, 1) := by decide +kernel
theorem dX8_eat_74 : decode cX8_eat 74 = .ok (.iastore, 1) := by decide +kernel
theorem dX8_eat_75 : decode cX8_eat 75 = .ok (.aload_n 0, 1) := by decide +kernel
theorem dX8_eat_76 : decode cX8_eat 76 = .ok (.getfield 25, 3) := by decide +kernel
theorem dX8_eat_79 : decode cX8_eat 79 = .ok (.iload_n 1, 1) := by decide +kernel
theorem dX8_eat_80 : decode cX8_eat 80 = .ok (.dup2, 1) := by decide +kernel
theorem dX8_eat_81 : decode cX8_eat 81 = .ok (.iaload, 1) := by decide +kernel
theorem dX8_eat_82 : decode cX8_eat 82 = .ok (.iload_n 2, 1) := by decide +kernel
theorem dX8_eat_83 : decode cX8_eat 83 = .ok (.ifCond .eq 7, 3) := by decide +kernel
theorem dX8_eat_86 : decode cX8_eat 86 = .ok (.iconst 1, 1) := by decide +kernel
theorem dX8_eat_87 : decode cX8_eat 87 = .ok (.goto 4, 3) := by decide +kernel
theorem dX8_eat_90 : decode cX8_eat 90 = .ok (.iconst 0, 1) := by decide +kernel
theorem dX8_eat_91 : decode cX8_eat 91 = .ok (.iadd, 1) := by decide +kernel
theorem dX8_eat_92 : decode cX8_eat 92 = .ok (.iastore, 1) := by decide +kernel
theorem dX8_eat_93 : decode cX8_eat 93 = .ok (.aload_n 0, 1) := by decide +kernel
theorem dX8_eat_94 : decode cX8_eat 94 = .ok (.invokevirtual 160, 3) := by decide +kernel
theorem dX8_eat_97 : decode cX8_eat 97 = .ok (.ireturn, 1) := by decide +kernel
theorem dX8_belief_0 : decode cX8_belief 0 = .ok (.aload_n 0, 1) := by decide +kernel
theorem dX8_belief_1 : decode cX8_belief 1 = .ok (.iload_n 1, 1) := by decide +kernel
theorem dX8_belief_2 : decode cX8_belief 2 = .ok (.invokevirtual 138, 3) := by decide +kernel
theorem dX8_belief_5 : decode cX8_belief 5 = .ok (.ifCond .ne 7, 3) := by decide +kernel
theorem dX8_belief_8 : decode cX8_belief 8 = .ok (.ldc2_w 163, 3) := by decide +kernel
theorem dX8_belief_11 : decode cX8_belief 11 = .ok (.lreturn, 1) := by decide +kernel
theorem dX8_belief_12 : decode cX8_belief 12 = .ok (.iload_n 2, 1) := by decide +kernel
theorem dX8_belief_13 : decode cX8_belief 13 = .ok (.iconst 0, 1) := by decide +kernel
theorem dX8_belief_14 : decode cX8_belief 14 = .ok (.iconst 1, 1) := by decide +kernel
theorem dX8_belief_15 : decode cX8_belief 15 = .ok (.invokestatic 79, 3) := by decide +kernel
theorem dX8_belief_18 : decode cX8_belief 18 = .ok (.ifCond .eq 20, 3) := by decide +kernel
theorem dX8_belief_21 : decode cX8_belief 21 = .ok (.aload_n 0, 1) := by decide +kernel
theorem dX8_belief_22 : decode cX8_belief 22 = .ok (.getfield 28, 3) := by decide +kernel
theorem dX8_belief_25 : decode cX8_belief 25 = .ok (.iload_n 1, 1) := by decide +kernel
theorem dX8_belief_26 : decode cX8_belief 26 = .ok (.laload, 1) := by decide +kernel
theorem dX8_belief_27 : decode cX8_belief 27 = .ok (.aload_n 0, 1) := by decide +kernel
theorem dX8_belief_28 : decode cX8_belief 28 = .ok (.invokevirtual 165, 3) := by decide +kernel
theorem dX8_belief_31 : decode cX8_belief 31 = .ok (.iload_n 2, 1) := by decide +kernel
theorem dX8_belief_32 : decode cX8_belief 32 = .ok (.invokestatic 169, 3) := by decide +kernel
theorem dX8_belief_35 : decode cX8_belief 35 = .ok (.goto 6, 3) := by decide +kernel
theorem dX8_belief_38 : decode cX8_belief 38 = .ok (.ldc2_w 173, 3) := by decide +kernel
theorem dX8_belief_41 : decode cX8_belief 41 = .ok (.lreturn, 1) := by decide +kernel
theorem dX8_bestOne_0 : decode cX8_bestOne 0 = .ok (.ldc2_w 175, 3) := by decide +kernel
theorem dX8_bestOne_3 : decode cX8_bestOne 3 = .ok (.lstore_n 2, 1) := by decide +kernel
theorem dX8_bestOne_4 : decode cX8_bestOne 4 = .ok (.iconst 0, 1) := by decide +kernel
theorem dX8_bestOne_5 : decode cX8_bestOne 5 = .ok (.istore 4, 2) := by decide +kernel
theorem dX8_bestOne_7 : decode cX8_bestOne 7 = .ok (.iload 4, 2) := by decide +kernel
theorem dX8_bestOne_9 : decode cX8_bestOne 9 = .ok (.aload_n 0, 1) := by decide +kernel
theorem dX8_bestOne_10 : decode cX8_bestOne 10 = .ok (.getfield 109, 3) := by decide +kernel
theorem dX8_bestOne_13 : decode cX8_bestOne 13 = .ok (.if_icmp .ge 68, 3) := by decide +kernel
theorem dX8_bestOne_16 : decode cX8_bestOne 16 = .ok (.aload_n 0, 1) := by decide +kernel
theorem dX8_bestOne_17 : decode cX8_bestOne 17 = .ok (.iload_n 1, 1) := by decide +kernel
theorem dX8_bestOne_18 : decode cX8_bestOne 18 = .ok (.iload 4, 2) := by decide +kernel
theorem dX8_bestOne_20 : decode cX8_bestOne 20 = .ok (.iconst 1, 1) := by decide +kernel
theorem dX8_bestOne_21 : decode cX8_bestOne 21 = .ok (.aload_n 0, 1) := by decide +kernel
theorem dX8_bestOne_22 : decode cX8_bestOne 22 = .ok (.getfield 112, 3) := by decide +kernel
theorem dX8_bestOne_25 : decode cX8_bestOne 25 = .ok (.invokevirtual 149, 3) := by decide +kernel
theorem dX8_bestOne_28 : decode cX8_bestOne 28 = .ok (.aload_n 0, 1) := by decide +kernel
theorem dX8_bestOne_29 : decode cX8_bestOne 29 = .ok (.iload_n 1, 1) := by decide +kernel
theorem dX8_bestOne_30 : decode cX8_bestOne 30 = .ok (.iconst 1, 1) := by decide +kernel
theorem dX8_bestOne_31 : decode cX8_bestOne 31 = .ok (.iadd, 1) := by decide +kernel
theorem dX8_bestOne_32 : decode cX8_bestOne 32 = .ok (.invokevirtual 153, 3) := by decide +kernel
theorem dX8_bestOne_35 : decode cX8_bestOne 35 = .ok (.lstore 5, 2) := by decide +kernel
theorem dX8_bestOne_37 : decode cX8_bestOne 37 = .ok (.aload_n 0, 1) := by decide +kernel
theorem dX8_bestOne_38 : decode cX8_bestOne 38 = .ok (.iload_n 1, 1) := by decide +kernel
theorem dX8_bestOne_39 : decode cX8_bestOne 39 = .ok (.iload 4, 2) := by decide +kernel
theorem dX8_bestOne_41 : decode cX8_bestOne 41 = .ok (.iconst 0, 1) := by decide +kernel
theorem dX8_bestOne_42 : decode cX8_bestOne 42 = .ok (.aload_n 0, 1) := by decide +kernel
theorem dX8_bestOne_43 : decode cX8_bestOne 43 = .ok (.getfield 112, 3) := by decide +kernel
theorem dX8_bestOne_46 : decode cX8_bestOne 46 = .ok (.invokevirtual 149, 3) := by decide +kernel
theorem dX8_bestOne_49 : decode cX8_bestOne 49 = .ok (.lload 5, 2) := by decide +kernel
theorem dX8_bestOne_51 : decode cX8_bestOne 51 = .ok (.aload_n 0, 1) := by decide +kernel
theorem dX8_bestOne_52 : decode cX8_bestOne 52 = .ok (.iload_n 1, 1) := by decide +kernel
theorem dX8_bestOne_53 : decode cX8_bestOne 53 = .ok (.iconst 1, 1) := by decide +kernel
theorem dX8_bestOne_54 : decode cX8_bestOne 54 = .ok (.iadd, 1) := by decide +kernel
theorem dX8_bestOne_55 : decode cX8_bestOne 55 = .ok (.invokevirtual 153, 3) := by decide +kernel
theorem dX8_bestOne_58 : decode cX8_bestOne 58 = .ok (.ladd, 1) := by decide +kernel
theorem dX8_bestOne_59 : decode cX8_bestOne 59 = .ok (.lstore 5, 2) := by decide +kernel
theorem dX8_bestOne_61 : decode cX8_bestOne 61 = .ok (.lload 5, 2) := by decide +kernel
theorem dX8_bestOne_63 : decode cX8_bestOne 63 = .ok (.lload_n 2, 1) := by decide +kernel
theorem dX8_bestOne_64 : decode cX8_bestOne 64 = .ok (.lcmp, 1) := by decide +kernel
theorem dX8_bestOne_65 : decode cX8_bestOne 65 = .ok (.ifCond .le 8, 3) := by decide +kernel
theorem dX8_bestOne_68 : decode cX8_bestOne 68 = .ok (.lload 5, 2) := by decide +kernel
theorem dX8_bestOne_70 : decode cX8_bestOne 70 = .ok (.goto 4, 3) := by decide +kernel
theorem dX8_bestOne_73 : decode cX8_bestOne 73 = .ok (.lload_n 2, 1) := by decide +kernel
theorem dX8_bestOne_74 : decode cX8_bestOne 74 = .ok (.lstore_n 2, 1) := by decide +kernel
theorem dX8_bestOne_75 : decode cX8_bestOne 75 = .ok (.iinc 4 1, 3) := by decide +kernel
theorem dX8_bestOne_78 : decode cX8_bestOne 78 = .ok (.goto (-71), 3) := by decide +kernel
theorem dX8_bestOne_81 : decode cX8_bestOne 81 = .ok (.lload_n 2, 1) := by decide +kernel
theorem dX8_bestOne_82 : decode cX8_bestOne 82 = .ok (.lreturn, 1) := by decide +kernel
theorem dX8_bestTwo_0 : decode cX8_bestTwo 0 = .ok (.ldc2_w 175, 3) := by decide +kernel
theorem dX8_bestTwo_3 : decode cX8_bestTwo 3 = .ok (.lstore_n 2, 1) := by decide +kernel
theorem dX8_bestTwo_4 : decode cX8_bestTwo 4 = .ok (.iconst 0, 1) := by decide +kernel
theorem dX8_bestTwo_5 : decode cX8_bestTwo 5 = .ok (.istore 4, 2) := by decide +kernel
theorem dX8_bestTwo_7 : decode cX8_bestTwo 7 = .ok (.iload 4, 2) := by decide +kernel
theorem dX8_bestTwo_9 : decode cX8_bestTwo 9 = .ok (.aload_n 0, 1) := by decide +kernel
theorem dX8_bestTwo_10 : decode cX8_bestTwo 10 = .ok (.getfield 109, 3) := by decide +kernel
theorem dX8_bestTwo_13 : decode cX8_bestTwo 13 = .ok (.if_icmp .ge 68, 3) := by decide +kernel
theorem dX8_bestTwo_16 : decode cX8_bestTwo 16 = .ok (.aload_n 0, 1) := by decide +kernel
theorem dX8_bestTwo_17 : decode cX8_bestTwo 17 = .ok (.iload_n 1, 1) := by decide +kernel
theorem dX8_bestTwo_18 : decode cX8_bestTwo 18 = .ok (.iload 4, 2) := by decide +kernel
theorem dX8_bestTwo_20 : decode cX8_bestTwo 20 = .ok (.iconst 1, 1) := by decide +kernel
theorem dX8_bestTwo_21 : decode cX8_bestTwo 21 = .ok (.aload_n 0, 1) := by decide +kernel
theorem dX8_bestTwo_22 : decode cX8_bestTwo 22 = .ok (.getfield 112, 3) := by decide +kernel
theorem dX8_bestTwo_25 : decode cX8_bestTwo 25 = .ok (.invokevirtual 149, 3) := by decide +kernel
theorem dX8_bestTwo_28 : decode cX8_bestTwo 28 = .ok (.aload_n 0, 1) := by decide +kernel
theorem dX8_bestTwo_29 : decode cX8_bestTwo 29 = .ok (.iload_n 1, 1) := by decide +kernel
theorem dX8_bestTwo_30 : decode cX8_bestTwo 30 = .ok (.iconst 1, 1) := by decide +kernel
theorem dX8_bestTwo_31 : decode cX8_bestTwo 31 = .ok (.iadd, 1) := by decide +kernel
theorem dX8_bestTwo_32 : decode cX8_bestTwo 32 = .ok (.invokevirtual 177, 3) := by decide +kernel
theorem dX8_bestTwo_35 : decode cX8_bestTwo 35 = .ok (.lstore 5, 2) := by decide +kernel
theorem dX8_bestTwo_37 : decode cX8_bestTwo 37 = .ok (.aload_n 0, 1) := by decide +kernel
theorem dX8_bestTwo_38 : decode cX8_bestTwo 38 = .ok (.iload_n 1, 1) := by decide +kernel
theorem dX8_bestTwo_39 : decode cX8_bestTwo 39 = .ok (.iload 4, 2) := by decide +kernel
theorem dX8_bestTwo_41 : decode cX8_bestTwo 41 = .ok (.iconst 0, 1) := by decide +kernel
theorem dX8_bestTwo_42 : decode cX8_bestTwo 42 = .ok (.aload_n 0, 1) := by decide +kernel
theorem dX8_bestTwo_43 : decode cX8_bestTwo 43 = .ok (.getfield 112, 3) := by decide +kernel
theorem dX8_bestTwo_46 : decode cX8_bestTwo 46 = .ok (.invokevirtual 149, 3) := by decide +kernel
theorem dX8_bestTwo_49 : decode cX8_bestTwo 49 = .ok (.lload 5, 2) := by decide +kernel
theorem dX8_bestTwo_51 : decode cX8_bestTwo 51 = .ok (.aload_n 0, 1) := by decide +kernel
theorem dX8_bestTwo_52 : decode cX8_bestTwo 52 = .ok (.iload_n 1, 1) := by decide +kernel
theorem dX8_bestTwo_53 : decode cX8_bestTwo 53 = .ok (.iconst 1, 1) := by decide +kernel
theorem dX8_bestTwo_54 : decode cX8_bestTwo 54 = .ok (.iadd, 1) := by decide +kernel
theorem dX8_bestTwo_55 : decode cX8_bestTwo 55 = .ok (.invokevirtual 177, 3) := by decide +kernel
theorem dX8_bestTwo_58 : decode cX8_bestTwo 58 = .ok (.ladd, 1) := by decide +kernel
theorem dX8_bestTwo_59 : decode cX8_bestTwo 59 = .ok (.lstore 5, 2) := by decide +kernel
theorem dX8_bestTwo_61 : decode cX8_bestTwo 61 = .ok (.lload 5, 2) := by decide +kernel
theorem dX8_bestTwo_63 : decode cX8_bestTwo 63 = .ok (.lload_n 2, 1) := by decide +kernel
theorem dX8_bestTwo_64 : decode cX8_bestTwo 64 = .ok (.lcmp, 1) := by decide +kernel
theorem dX8_bestTwo_65 : decode cX8_bestTwo 65 = .ok (.ifCond .le 8, 3) := by decide +kernel
theorem dX8_bestTwo_68 : decode cX8_bestTwo 68 = .ok (.lload 5, 2) := by decide +kernel
theorem dX8_bestTwo_70 : decode cX8_bestTwo 70 = .ok (.goto 4, 3) := by decide +kernel
theorem dX8_bestTwo_73 : decode cX8_bestTwo 73 = .ok (.lload_n 2, 1) := by decide +kernel
theorem dX8_bestTwo_74 : decode cX8_bestTwo 74 = .ok (.lstore_n 2, 1) := by decide +kernel
theorem dX8_bestTwo_75 : decode cX8_bestTwo 75 = .ok (.iinc 4 1, 3) := by decide +kernel
theorem dX8_bestTwo_78 : decode cX8_bestTwo 78 = .ok (.goto (-71), 3) := by decide +kernel
theorem dX8_bestTwo_81 : decode cX8_bestTwo 81 = .ok (.lload_n 2, 1) := by decide +kernel
theorem dX8_bestTwo_82 : decode cX8_bestTwo 82 = .ok (.lreturn, 1) := by decide +kernel
theorem dX8_driestNow_0 : decode cX8_driestNow 0 = .ok (.iconst 1, 1) := by decide +kernel
theorem dX8_driestNow_1 : decode cX8_driestNow 1 = .ok (.istore_n 3, 1) := by decide +kernel
theorem dX8_driestNow_2 : decode cX8_driestNow 2 = .ok (.aload_n 0, 1) := by decide +kernel
theorem dX8_driestNow_3 : decode cX8_driestNow 3 = .ok (.iload_n 1, 1) := by decide +kernel
theorem dX8_driestNow_4 : decode cX8_driestNow 4 = .ok (.iconst 1, 1) := by decide +kernel
theorem dX8_driestNow_5 : decode cX8_driestNow 5 = .ok (.invokevirtual 200, 3) := by decide +kernel
theorem dX8_driestNow_8 : decode cX8_driestNow 8 = .ok (.lstore 4, 2) := by decide +kernel
theorem dX8_driestNow_10 : decode cX8_driestNow 10 = .ok (.iconst 2, 1) := by decide +kernel
theorem dX8_driestNow_11 : decode cX8_driestNow 11 = .ok (.istore 6, 2) := by decide +kernel
theorem dX8_driestNow_13 : decode cX8_driestNow 13 = .ok (.iload 6, 2) := by decide +kernel
theorem dX8_driestNow_15 : decode cX8_driestNow 15 = .ok (.bipush 9, 2) := by decide +kernel
theorem dX8_driestNow_17 : decode cX8_driestNow 17 = .ok (.if_icmp .gt 50, 3) := by decide +kernel
theorem dX8_driestNow_20 : decode cX8_driestNow 20 = .ok (.aload_n 0, 1) := by decide +kernel
theorem dX8_driestNow_21 : decode cX8_driestNow 21 = .ok (.iload_n 1, 1) := by decide +kernel
theorem dX8_driestNow_22 : decode cX8_driestNow 22 = .ok (.iload 6, 2) := by decide +kernel
theorem dX8_driestNow_24 : decode cX8_driestNow 24 = .ok (.invokevirtual 200, 3) := by decide +kernel
theorem dX8_driestNow_27 : decode cX8_driestNow 27 = .ok (.lstore 7, 2) := by decide +kernel
theorem dX8_driestNow_29 : decode cX8_driestNow 29 = .ok (.lload 7, 2) := by decide +kernel
theorem dX8_driestNow_31 : decode cX8_driestNow 31 = .ok (.lload 4, 2) := by decide +kernel
theorem dX8_driestNow_33 : decode cX8_driestNow 33 = .ok (.lcmp, 1) := by decide +kernel
theorem dX8_driestNow_34 : decode cX8_driestNow 34 = .ok (.ifCond .le 8, 3) := by decide +kernel
theorem dX8_driestNow_37 : decode cX8_driestNow 37 = .ok (.iload 6, 2) := by decide +kernel
theorem dX8_driestNow_39 : decode cX8_driestNow 39 = .ok (.goto 4, 3) := by decide +kernel
theorem dX8_driestNow_42 : decode cX8_driestNow 42 = .ok (.iload_n 3, 1) := by decide +kernel
theorem dX8_driestNow_43 : decode cX8_driestNow 43 = .ok (.istore_n 3, 1) := by decide +kernel
theorem dX8_driestNow_44 : decode cX8_driestNow 44 = .ok (.lload 7, 2) := by decide +kernel
theorem dX8_driestNow_46 : decode cX8_driestNow 46 = .ok (.lload 4, 2) := by decide +kernel
theorem dX8_driestNow_48 : decode cX8_driestNow 48 = .ok (.lcmp, 1) := by decide +kernel
theorem dX8_driestNow_49 : decode cX8_driestNow 49 = .ok (.ifCond .le 8, 3) := by decide +kernel
theorem dX8_driestNow_52 : decode cX8_driestNow 52 = .ok (.lload 7, 2) := by decide +kernel
theorem dX8_driestNow_54 : decode cX8_driestNow 54 = .ok (.goto 5, 3) := by decide +kernel
theorem dX8_driestNow_57 : decode cX8_driestNow 57 = .ok (.lload 4, 2) := by decide +kernel
theorem dX8_driestNow_59 : decode cX8_driestNow 59 = .ok (.lstore 4, 2) := by decide +kernel
theorem dX8_driestNow_61 : decode cX8_driestNow 61 = .ok (.iinc 6 1, 3) := by decide +kernel
theorem dX8_driestNow_64 : decode cX8_driestNow 64 = .ok (.goto (-51), 3) := by decide +kernel
theorem dX8_driestNow_67 : decode cX8_driestNow 67 = .ok (.iload_n 2, 1) := by decide +kernel
theorem dX8_driestNow_68 : decode cX8_driestNow 68 = .ok (.ifCond .ne 8, 3) := by decide +kernel
theorem dX8_driestNow_71 : decode cX8_driestNow 71 = .ok (.iload_n 3, 1) := by decide +kernel
theorem dX8_driestNow_72 : decode cX8_driestNow 72 = .ok (.i2l, 1) := by decide +kernel
theorem dX8_driestNow_73 : decode cX8_driestNow 73 = .ok (.goto 19, 3) := by decide +kernel
theorem dX8_driestNow_76 : decode cX8_driestNow 76 = .ok (.lload 4, 2) := by decide +kernel
theorem dX8_driestNow_78 : decode cX8_driestNow 78 = .ok (.ldc2_w 198, 3) := by decide +kernel
theorem dX8_driestNow_81 : decode cX8_driestNow 81 = .ok (.aload_n 0, 1) := by decide +kernel
theorem dX8_driestNow_82 : decode cX8_driestNow 82 = .ok (.invokevirtual 165, 3) := by decide +kernel
theorem dX8_driestNow_85 : decode cX8_driestNow 85 = .ok (.lmul, 1) := by decide +kernel
theorem dX8_driestNow_86 : decode cX8_driestNow 86 = .ok (.iload_n 2, 1) := by decide +kernel
theorem dX8_driestNow_87 : decode cX8_driestNow 87 = .ok (.iconst 1, 1) := by decide +kernel
theorem dX8_driestNow_88 : decode cX8_driestNow 88 = .ok (.isub, 1) := by decide +kernel
theorem dX8_driestNow_89 : decode cX8_driestNow 89 = .ok (.invokestatic 169, 3) := by decide +kernel
theorem dX8_driestNow_92 : decode cX8_driestNow 92 = .ok (.lreturn, 1) := by decide +kernel
theorem dX8_driest_0 : decode cX8_driest 0 = .ok (.aload_n 0, 1) := by decide +kernel
theorem dX8_driest_1 : decode cX8_driest 1 = .ok (.iload_n 1, 1) := by decide +kernel
theorem dX8_driest_2 : decode cX8_driest 2 = .ok (.invokevirtual 138, 3) := by decide +kernel
theorem dX8_driest_5 : decode cX8_driest 5 = .ok (.ifCond .ne 7, 3) := by decide +kernel
theorem dX8_driest_8 : decode cX8_driest 8 = .ok (.ldc2_w 163, 3) := by decide +kernel
theorem dX8_driest_11 : decode cX8_driest 11 = .ok (.lreturn, 1) := by decide +kernel
theorem dX8_driest_12 : decode cX8_driest 12 = .ok (.iload_n 2, 1) := by decide +kernel
theorem dX8_driest_13 : decode cX8_driest 13 = .ok (.iconst 0, 1) := by decide +kernel
theorem dX8_driest_14 : decode cX8_driest 14 = .ok (.iconst 2, 1) := by decide +kernel
theorem dX8_driest_15 : decode cX8_driest 15 = .ok (.invokestatic 79, 3) := by decide +kernel
theorem dX8_driest_18 : decode cX8_driest 18 = .ok (.ifCond .eq 12, 3) := by decide +kernel
theorem dX8_driest_21 : decode cX8_driest 21 = .ok (.aload_n 0, 1) := by decide +kernel
theorem dX8_driest_22 : decode cX8_driest 22 = .ok (.iload_n 1, 1) := by decide +kernel
theorem dX8_driest_23 : decode cX8_driest 23 = .ok (.iload_n 2, 1) := by decide +kernel
theorem dX8_driest_24 : decode cX8_driest 24 = .ok (.invokevirtual 203, 3) := by decide +kernel
theorem dX8_driest_27 : decode cX8_driest 27 = .ok (.goto 6, 3) := by decide +kernel
theorem dX8_driest_30 : decode cX8_driest 30 = .ok (.ldc2_w 173, 3) := by decide +kernel
theorem dX8_driest_33 : decode cX8_driest 33 = .ok (.lreturn, 1) := by decide +kernel
theorem dX8_forget_0 : decode cX8_forget 0 = .ok (.aload_n 0, 1) := by decide +kernel
theorem dX8_forget_1 : decode cX8_forget 1 = .ok (.getfield 121, 3) := by decide +kernel
theorem dX8_forget_4 : decode cX8_forget 4 = .ok (.istore_n 1, 1) := by decide +kernel
theorem dX8_forget_5 : decode cX8_forget 5 = .ok (.aload_n 0, 1) := by decide +kernel
theorem dX8_forget_6 : decode cX8_forget 6 = .ok (.iconst 0, 1) := by decide +kernel
theorem dX8_forget_7 : decode cX8_forget 7 = .ok (.putfield 121, 3) := by decide +kernel
theorem dX8_forget_10 : decode cX8_forget 10 = .ok (.iload_n 1, 1) := by decide +kernel
theorem dX8_forget_11 : decode cX8_forget 11 = .ok (.ireturn, 1) := by decide +kernel
theorem dX8_couldHave_0 : decode cX8_couldHave 0 = .ok (.iconst 1, 1) := by decide +kernel
theorem dX8_couldHave_1 : decode cX8_couldHave 1 = .ok (.istore_n 3, 1) := by decide +kernel
theorem dX8_couldHave_2 : decode cX8_couldHave 2 = .ok (.iconst 0, 1) := by decide +kernel
theorem dX8_couldHave_3 : decode cX8_couldHave 3 = .ok (.istore 4, 2) := by decide +kernel
theorem dX8_couldHave_5 : decode cX8_couldHave 5 = .ok (.iload 4, 2) := by decide +kernel
theorem dX8_couldHave_7 : decode cX8_couldHave 7 = .ok (.aload_n 0, 1) := by decide +kernel
theorem dX8_couldHave_8 : decode cX8_couldHave 8 = .ok (.getfield 121, 3) := by decide +kernel
theorem dX8_couldHave_11 : decode cX8_couldHave 11 = .ok (.if_icmp .ge 83, 3) := by decide +kernel
theorem dX8_couldHave_14 : decode cX8_couldHave 14 = .ok (.aload_n 0, 1) := by decide +kernel
theorem dX8_couldHave_15 : decode cX8_couldHave 15 = .ok (.iload_n 1, 1) := by decide +kernel
theorem dX8_couldHave_16 : decode cX8_couldHave 16 = .ok (.aload_n 0, 1) := by decide +kernel
theorem dX8_couldHave_17 : decode cX8_couldHave 17 = .ok (.getfield 35, 3) := by decide +kernel
theorem dX8_couldHave_20 : decode cX8_couldHave 20 = .ok (.iload 4, 2) := by decide +kernel
theorem dX8_couldHave_22 : decode cX8_couldHave 22 = .ok (.iaload, 1) := by decide +kernel
theorem dX8_couldHave_23 : decode cX8_couldHave 23 = .ok (.iconst 1, 1) := by decide +kernel
theorem dX8_couldHave_24 : decode cX8_couldHave 24 = .ok (.if_icmp .ne 7, 3) := by decide +kernel
theorem dX8_couldHave_27 : decode cX8_couldHave 27 = .ok (.iconst 1, 1) := by decide +kernel
theorem dX8_couldHave_28 : decode cX8_couldHave 28 = .ok (.goto 4, 3) := by decide +kernel
theorem dX8_couldHave_31 : decode cX8_couldHave 31 = .ok (.iconst 0, 1) := by decide +kernel
theorem dX8_couldHave_32 : decode cX8_couldHave 32 = .ok (.aload_n 0, 1) := by decide +kernel
theorem dX8_couldHave_33 : decode cX8_couldHave 33 = .ok (.getfield 41, 3) := by decide +kernel
theorem dX8_couldHave_36 : decode cX8_couldHave 36 = .ok (.iload 4, 2) := by decide +kernel
theorem dX8_couldHave_38 : decode cX8_couldHave 38 = .ok (.iaload, 1) := by decide +kernel
theorem dX8_couldHave_39 : decode cX8_couldHave 39 = .ok (.iload_n 2, 1) := by decide +kernel
theorem dX8_couldHave_40 : decode cX8_couldHave 40 = .ok (.invokevirtual 128, 3) := by decide +kernel
theorem dX8_couldHave_43 : decode cX8_couldHave 43 = .ok (.istore 5, 2) := by decide +kernel
theorem dX8_couldHave_45 : decode cX8_couldHave 45 = .ok (.iload_n 3, 1) := by decide +kernel
theorem dX8_couldHave_46 : decode cX8_couldHave 46 = .ok (.ifCond .eq 40, 3) := by decide +kernel
theorem dX8_couldHave_49 : decode cX8_couldHave 49 = .ok (.aload_n 0, 1) := by decide +kernel
theorem dX8_couldHave_50 : decode cX8_couldHave 50 = .ok (.getfield 32, 3) := by decide +kernel
theorem dX8_couldHave_53 : decode cX8_couldHave 53 = .ok (.iload 4, 2) := by decide +kernel
theorem dX8_couldHave_55 : decode cX8_couldHave 55 = .ok (.iaload, 1) := by decide +kernel
theorem dX8_couldHave_56 : decode cX8_couldHave 56 = .ok (.iload_n 1, 1) := by decide +kernel
theorem dX8_couldHave_57 : decode cX8_couldHave 57 = .ok (.if_icmp .ne 25, 3) := by decide +kernel
theorem dX8_couldHave_60 : decode cX8_couldHave 60 = .ok (.iload 5, 2) := by decide +kernel
theorem dX8_couldHave_62 : decode cX8_couldHave 62 = .ok (.aload_n 0, 1) := by decide +kernel
theorem dX8_couldHave_63 : decode cX8_couldHave 63 = .ok (.getfield 38, 3) := by decide +kernel
theorem dX8_couldHave_66 : decode cX8_couldHave 66 = .ok (.iload 4, 2) := by decide +kernel
theorem dX8_couldHave_68 : decode cX8_couldHave 68 = .ok (.iaload, 1) := by decide +kernel
theorem dX8_couldHave_69 : decode cX8_couldHave 69 = .ok (.iconst 1, 1) := by decide +kernel
theorem dX8_couldHave_70 : decode cX8_couldHave 70 = .ok (.if_icmp .ne 7, 3) := by decide +kernel
theorem dX8_couldHave_73 : decode cX8_couldHave 73 = .ok (.iconst 0, 1) := by decide +kernel
theorem dX8_couldHave_74 : decode cX8_couldHave 74 = .ok (.goto 5, 3) := by decide +kernel
theorem dX8_couldHave_77 : decode cX8_couldHave 77 = .ok (.bipush 10, 2) := by decide +kernel
theorem dX8_couldHave_79 : decode cX8_couldHave 79 = .ok (.if_icmp .eq 7, 3) := by decide +kernel
theorem dX8_couldHave_82 : decode cX8_couldHave 82 = .ok (.iconst 1, 1) := by decide +kernel
theorem dX8_couldHave_83 : decode cX8_couldHave 83 = .ok (.goto 4, 3) := by decide +kernel
theorem dX8_couldHave_86 : decode cX8_couldHave 86 = .ok (.iconst 0, 1) := by decide +kernel
theorem dX8_couldHave_87 : decode cX8_couldHave 87 = .ok (.istore_n 3, 1) := by decide +kernel
theorem dX8_couldHave_88 : decode cX8_couldHave 88 = .ok (.iinc 4 1, 3) := by decide +kernel
theorem dX8_couldHave_91 : decode cX8_couldHave 91 = .ok (.goto (-86), 3) := by decide +kernel
theorem dX8_couldHave_94 : decode cX8_couldHave 94 = .ok (.iload_n 3, 1) := by decide +kernel
theorem dX8_couldHave_95 : decode cX8_couldHave 95 = .ok (.ireturn, 1) := by decide +kernel
theorem dX8_butteredNow_0 : decode cX8_butteredNow 0 = .ok (.iconst 0, 1) := by decide +kernel
theorem dX8_butteredNow_1 : decode cX8_butteredNow 1 = .ok (.istore_n 2, 1) := by decide +kernel
theorem dX8_butteredNow_2 : decode cX8_butteredNow 2 = .ok (.iconst 0, 1) := by decide +kernel
theorem dX8_butteredNow_3 : decode cX8_butteredNow 3 = .ok (.istore_n 3, 1) := by decide +kernel
theorem dX8_butteredNow_4 : decode cX8_butteredNow 4 = .ok (.iload_n 3, 1) := by decide +kernel
theorem dX8_butteredNow_5 : decode cX8_butteredNow 5 = .ok (.bipush 9, 2) := by decide +kernel
theorem dX8_butteredNow_7 : decode cX8_butteredNow 7 = .ok (.if_icmp .gt 28, 3) := by decide +kernel
theorem dX8_butteredNow_10 : decode cX8_butteredNow 10 = .ok (.iload_n 2, 1) := by decide +kernel
theorem dX8_butteredNow_11 : decode cX8_butteredNow 11 = .ok (.aload_n 0, 1) := by decide +kernel
theorem dX8_butteredNow_12 : decode cX8_butteredNow 12 = .ok (.iload_n 1, 1) := by decide +kernel
theorem dX8_butteredNow_13 : decode cX8_butteredNow 13 = .ok (.iload_n 3, 1) := by decide +kernel
theorem dX8_butteredNow_14 : decode cX8_butteredNow 14 = .ok (.invokevirtual 206, 3) := by decide +kernel
theorem dX8_butteredNow_17 : decode cX8_butteredNow 17 = .ok (.ifCond .eq 9, 3) := by decide +kernel
theorem dX8_butteredNow_20 : decode cX8_butteredNow 20 = .ok (.iconst 1, 1) := by decide +kernel
theorem dX8_butteredNow_21 : decode cX8_butteredNow 21 = .ok (.iload_n 3, 1) := by decide +kernel
theorem dX8_butteredNow_22 : decode cX8_butteredNow 22 = .ok (.ishl, 1) := by decide +kernel
theorem dX8_butteredNow_23 : decode cX8_butteredNow 23 = .ok (.goto 4, 3) := by decide +kernel
theorem dX8_butteredNow_26 : decode cX8_butteredNow 26 = .ok (.iconst 0, 1) := by decide +kernel
theorem dX8_butteredNow_27 : decode cX8_butteredNow 27 = .ok (.ior, 1) := by decide +kernel
theorem dX8_butteredNow_28 : decode cX8_butteredNow 28 = .ok (.istore_n 2, 1) := by decide +kernel
theorem dX8_butteredNow_29 : decode cX8_butteredNow 29 = .ok (.iinc 3 1, 3) := by decide +kernel
theorem dX8_butteredNow_32 : decode cX8_butteredNow 32 = .ok (.goto (-28), 3) := by decide +kernel
theorem dX8_butteredNow_35 : decode cX8_butteredNow 35 = .ok (.iload_n 2, 1) := by decide +kernel
theorem dX8_butteredNow_36 : decode cX8_butteredNow 36 = .ok (.ireturn, 1) := by decide +kernel
theorem dX8_buttered_0 : decode cX8_buttered 0 = .ok (.aload_n 0, 1) := by decide +kernel
theorem dX8_buttered_1 : decode cX8_buttered 1 = .ok (.iload_n 1, 1) := by decide +kernel
theorem dX8_buttered_2 : decode cX8_buttered 2 = .ok (.invokevirtual 138, 3) := by decide +kernel
theorem dX8_buttered_5 : decode cX8_buttered 5 = .ok (.ifCond .eq 11, 3) := by decide +kernel
theorem dX8_buttered_8 : decode cX8_buttered 8 = .ok (.aload_n 0, 1) := by decide +kernel
theorem dX8_buttered_9 : decode cX8_buttered 9 = .ok (.iload_n 1, 1) := by decide +kernel
theorem dX8_buttered_10 : decode cX8_buttered 10 = .ok (.invokevirtual 209, 3) := by decide +kernel
theorem dX8_buttered_13 : decode cX8_buttered 13 = .ok (.goto 5, 3) := by decide +kernel
theorem dX8_buttered_16 : decode cX8_buttered 16 = .ok (.bipush (-101), 2) := by decide +kernel
theorem dX8_buttered_18 : decode cX8_buttered 18 = .ok (.ireturn, 1) := by decide +kernel
theorem dX8_draw_0 : decode cX8_draw 0 = .ok (.aload_n 0, 1) := by decide +kernel
theorem dX8_draw_1 : decode cX8_draw 1 = .ok (.ldc2_w 212, 3) := by decide +kernel
theorem dX8_draw_4 : decode cX8_draw 4 = .ok (.aload_n 0, 1) := by decide +kernel
theorem dX8_draw_5 : decode cX8_draw 5 = .ok (.getfield 214, 3) := by decide +kernel
theorem dX8_draw_8 : decode cX8_draw 8 = .ok (.lmul, 1) := by decide +kernel
theorem dX8_draw_9 : decode cX8_draw 9 = .ok (.ldc2_w 218, 3) := by decide +kernel
theorem dX8_draw_12 : decode cX8_draw 12 = .ok (.ladd, 1) := by decide +kernel
theorem dX8_draw_13 : decode cX8_draw 13 = .ok (.ldc2_w 220, 3) := by decide +kernel
theorem dX8_draw_16 : decode cX8_draw 16 = .ok (.land, 1) := by decide +kernel
theorem dX8_draw_17 : decode cX8_draw 17 = .ok (.putfield 214, 3) := by decide +kernel
theorem dX8_draw_20 : decode cX8_draw 20 = .ok (.aload_n 0, 1) := by decide +kernel
theorem dX8_draw_21 : decode cX8_draw 21 = .ok (.getfield 214, 3) := by decide +kernel
theorem dX8_draw_24 : decode cX8_draw 24 = .ok (.ldc2_w 222, 3) := by decide +kernel
theorem dX8_draw_27 : decode cX8_draw 27 = .ok (.ldiv, 1) := by decide +kernel
theorem dX8_draw_28 : decode cX8_draw 28 = .ok (.iload_n 1, 1) := by decide +kernel
theorem dX8_draw_29 : decode cX8_draw 29 = .ok (.i2l, 1) := by decide +kernel
theorem dX8_draw_30 : decode cX8_draw 30 = .ok (.lrem, 1) := by decide +kernel
theorem dX8_draw_31 : decode cX8_draw 31 = .ok (.l2i, 1) := by decide +kernel
theorem dX8_draw_32 : decode cX8_draw 32 = .ok (.ireturn, 1) := by decide +kernel
theorem dX8_count_0 : decode cX8_count 0 = .ok (.aload_n 0, 1) := by decide +kernel
theorem dX8_count_1 : decode cX8_count 1 = .ok (.iload_n 1, 1) := by decide +kernel
theorem dX8_count_2 : decode cX8_count 2 = .ok (.invokevirtual 249, 3) := by decide +kernel
theorem dX8_count_5 : decode cX8_count 5 = .ok (.ireturn, 1) := by decide +kernel
theorem dX8_digest_0 : decode cX8_digest 0 = .ok (.aload_n 0, 1) := by decide +kernel
theorem dX8_digest_1 : decode cX8_digest 1 = .ok (.ldc2_w 261, 3) := by decide +kernel
theorem dX8_digest_4 : decode cX8_digest 4 = .ok (.putfield 254, 3) := by decide +kernel
theorem dX8_digest_7 : decode cX8_digest 7 = .ok (.iconst 0, 1) := by decide +kernel
theorem dX8_digest_8 : decode cX8_digest 8 = .ok (.istore_n 1, 1) := by decide +kernel
theorem dX8_digest_9 : decode cX8_digest 9 = .ok (.iload_n 1, 1) := by decide +kernel
theorem dX8_digest_10 : decode cX8_digest 10 = .ok (.aload_n 0, 1) := by decide +kernel
theorem dX8_digest_11 : decode cX8_digest 11 = .ok (.getfield 109, 3) := by decide +kernel
theorem dX8_digest_14 : decode cX8_digest 14 = .ok (.if_icmp .ge 14, 3) := by decide +kernel
theorem dX8_digest_17 : decode cX8_digest 17 = .ok (.aload_n 0, 1) := by decide +kernel
theorem dX8_digest_18 : decode cX8_digest 18 = .ok (.iload_n 1, 1) := by decide +kernel
theorem dX8_digest_19 : decode cX8_digest 19 = .ok (.invokevirtual 263, 3) := by decide +kernel
theorem dX8_digest_22 : decode cX8_digest 22 = .ok (.iinc 1 1, 3) := by decide +kernel
theorem dX8_digest_25 : decode cX8_digest 25 = .ok (.goto (-16), 3) := by decide +kernel
theorem dX8_digest_28 : decode cX8_digest 28 = .ok (.aload_n 0, 1) := by decide +kernel
theorem dX8_digest_29 : decode cX8_digest 29 = .ok (.getfield 109, 3) := by decide +kernel
theorem dX8_digest_32 : decode cX8_digest 32 = .ok (.ifCond .le 12, 3) := by decide +kernel
theorem dX8_digest_35 : decode cX8_digest 35 = .ok (.aload_n 0, 1) := by decide +kernel
theorem dX8_digest_36 : decode cX8_digest 36 = .ok (.aload_n 0, 1) := by decide +kernel
theorem dX8_digest_37 : decode cX8_digest 37 = .ok (.invokevirtual 160, 3) := by decide +kernel
theorem dX8_digest_40 : decode cX8_digest 40 = .ok (.i2l, 1) := by decide +kernel
theorem dX8_digest_41 : decode cX8_digest 41 = .ok (.invokevirtual 257, 3) := by decide +kernel
theorem dX8_digest_44 : decode cX8_digest 44 = .ok (.iconst 0, 1) := by decide +kernel
theorem dX8_digest_45 : decode cX8_digest 45 = .ok (.istore_n 1, 1) := by decide +kernel
theorem dX8_digest_46 : decode cX8_digest 46 = .ok (.iload_n 1, 1) := by decide +kernel
theorem dX8_digest_47 : decode cX8_digest 47 = .ok (.aload_n 0, 1) := by decide +kernel
theorem dX8_digest_48 : decode cX8_digest 48 = .ok (.getfield 83, 3) := by decide +kernel
theorem dX8_digest_51 : decode cX8_digest 51 = .ok (.if_icmp .ge 20, 3) := by decide +kernel
theorem dX8_digest_54 : decode cX8_digest 54 = .ok (.aload_n 0, 1) := by decide +kernel
theorem dX8_digest_55 : decode cX8_digest 55 = .ok (.aload_n 0, 1) := by decide +kernel
theorem dX8_digest_56 : decode cX8_digest 56 = .ok (.getfield 44, 3) := by decide +kernel
theorem dX8_digest_59 : decode cX8_digest 59 = .ok (.iload_n 1, 1) := by decide +kernel
theorem dX8_digest_60 : decode cX8_digest 60 = .ok (.baload, 1) := by decide +kernel
theorem dX8_digest_61 : decode cX8_digest 61 = .ok (.i2l, 1) := by decide +kernel
theorem dX8_digest_62 : decode cX8_digest 62 = .ok (.invokevirtual 257, 3) := by decide +kernel
theorem dX8_digest_65 : decode cX8_digest 65 = .ok (.iinc 1 1, 3) := by decide +kernel
theorem dX8_digest_68 : decode cX8_digest 68 = .ok (.goto (-22), 3) := by decide +kernel
theorem dX8_digest_71 : decode cX8_digest 71 = .ok (.iconst 0, 1) := by decide +kernel
theorem dX8_digest_72 : decode cX8_digest 72 = .ok (.istore_n 1, 1) := by decide +kernel
theorem dX8_digest_73 : decode cX8_digest 73 = .ok (.iload_n 1, 1) := by decide +kernel
theorem dX8_digest_74 : decode cX8_digest 74 = .ok (.bipush 9, 2) := by decide +kernel
theorem dX8_digest_76 : decode cX8_digest 76 = .ok (.if_icmp .ge 19, 3) := by decide +kernel
theorem dX8_digest_79 : decode cX8_digest 79 = .ok (.aload_n 0, 1) := by decide +kernel
theorem dX8_digest_80 : decode cX8_digest 80 = .ok (.aload_n 0, 1) := by decide +kernel
theorem dX8_digest_81 : decode cX8_digest 81 = .ok (.iload_n 1, 1) := by decide +kernel
theorem dX8_digest_82 : decode cX8_digest 82 = .ok (.invokevirtual 249, 3) := by decide +kernel
theorem dX8_digest_85 : decode cX8_digest 85 = .ok (.i2l, 1) := by decide +kernel
theorem dX8_digest_86 : decode cX8_digest 86 = .ok (.invokevirtual 257, 3) := by decide +kernel
theorem dX8_digest_89 : decode cX8_digest 89 = .ok (.iinc 1 1, 3) := by decide +kernel
theorem dX8_digest_92 : decode cX8_digest 92 = .ok (.goto (-19), 3) := by decide +kernel
theorem dX8_digest_95 : decode cX8_digest 95 = .ok (.aload_n 0, 1) := by decide +kernel
theorem dX8_digest_96 : decode cX8_digest 96 = .ok (.getfield 254, 3) := by decide +kernel
theorem dX8_digest_99 : decode cX8_digest 99 = .ok (.lreturn, 1) := by decide +kernel
