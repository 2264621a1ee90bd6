theorem dX8_init_0 : decode cX8_init 0 = .ok (.aload_n 0, 1) := by decide +kernel
theorem dX8_init_1 : decode cX8_init 1 = .ok (.invokespecial 1, 3) := by decide +kernel
theorem dX8_init_4 : decode cX8_init 4 = .ok (.aload_n 0, 1) := by decide +kernel
theorem dX8_init_5 : decode cX8_init 5 = .ok (.iconst 4, 1) := by decide +kernel
theorem dX8_init_6 : decode cX8_init 6 = .ok (.newarray .int, 2) := by decide +kernel
theorem dX8_init_8 : decode cX8_init 8 = .ok (.putfield 7, 3) := by decide +kernel
theorem dX8_init_11 : decode cX8_init 11 = .ok (.aload_n 0, 1) := by decide +kernel
theorem dX8_init_12 : decode cX8_init 12 = .ok (.iconst 4, 1) := by decide +kernel
theorem dX8_init_13 : decode cX8_init 13 = .ok (.newarray .int, 2) := by decide +kernel
theorem dX8_init_15 : decode cX8_init 15 = .ok (.putfield 13, 3) := by decide +kernel
theorem dX8_init_18 : decode cX8_init 18 = .ok (.aload_n 0, 1) := by decide +kernel
theorem dX8_init_19 : decode cX8_init 19 = .ok (.iconst 4, 1) := by decide +kernel
theorem dX8_init_20 : decode cX8_init 20 = .ok (.newarray .int, 2) := by decide +kernel
theorem dX8_init_22 : decode cX8_init 22 = .ok (.putfield 16, 3) := by decide +kernel
theorem dX8_init_25 : decode cX8_init 25 = .ok (.aload_n 0, 1) := by decide +kernel
theorem dX8_init_26 : decode cX8_init 26 = .ok (.iconst 4, 1) := by decide +kernel
theorem dX8_init_27 : decode cX8_init 27 = .ok (.newarray .int, 2) := by decide +kernel
theorem dX8_init_29 : decode cX8_init 29 = .ok (.putfield 19, 3) := by decide +kernel
theorem dX8_init_32 : decode cX8_init 32 = .ok (.aload_n 0, 1) := by decide +kernel
theorem dX8_init_33 : decode cX8_init 33 = .ok (.iconst 4, 1) := by decide +kernel
theorem dX8_init_34 : decode cX8_init 34 = .ok (.newarray .int, 2) := by decide +kernel
theorem dX8_init_36 : decode cX8_init 36 = .ok (.putfield 22, 3) := by decide +kernel
theorem dX8_init_39 : decode cX8_init 39 = .ok (.aload_n 0, 1) := by decide +kernel
theorem dX8_init_40 : decode cX8_init 40 = .ok (.iconst 4, 1) := by decide +kernel
theorem dX8_init_41 : decode cX8_init 41 = .ok (.newarray .int, 2) := by decide +kernel
theorem dX8_init_43 : decode cX8_init 43 = .ok (.putfield 25, 3) := by decide +kernel
theorem dX8_init_46 : decode cX8_init 46 = .ok (.aload_n 0, 1) := by decide +kernel
theorem dX8_init_47 : decode cX8_init 47 = .ok (.iconst 4, 1) := by decide +kernel
theorem dX8_init_48 : decode cX8_init 48 = .ok (.newarray .long, 2) := by decide +kernel
theorem dX8_init_50 : decode cX8_init 50 = .ok (.putfield 28, 3) := by decide +kernel
theorem dX8_init_53 : decode cX8_init 53 = .ok (.aload_n 0, 1) := by decide +kernel
theorem dX8_init_54 : decode cX8_init 54 = .ok (.bipush 6, 2) := by decide +kernel
theorem dX8_init_56 : decode cX8_init 56 = .ok (.newarray .int, 2) := by decide +kernel
theorem dX8_init_58 : decode cX8_init 58 = .ok (.putfield 32, 3) := by decide +kernel
theorem dX8_init_61 : decode cX8_init 61 = .ok (.aload_n 0, 1) := by decide +kernel
theorem dX8_init_62 : decode cX8_init 62 = .ok (.bipush 6, 2) := by decide +kernel
theorem dX8_init_64 : decode cX8_init 64 = .ok (.newarray .int, 2) := by decide +kernel
theorem dX8_init_66 : decode cX8_init 66 = .ok (.putfield 35, 3) := by decide +kernel
theorem dX8_init_69 : decode cX8_init 69 = .ok (.aload_n 0, 1) := by decide +kernel
theorem dX8_init_70 : decode cX8_init 70 = .ok (.bipush 6, 2) := by decide +kernel
theorem dX8_init_72 : decode cX8_init 72 = .ok (.newarray .int, 2) := by decide +kernel
theorem dX8_init_74 : decode cX8_init 74 = .ok (.putfield 38, 3) := by decide +kernel
theorem dX8_init_77 : decode cX8_init 77 = .ok (.aload_n 0, 1) := by decide +kernel
theorem dX8_init_78 : decode cX8_init 78 = .ok (.bipush 6, 2) := by decide +kernel
theorem dX8_init_80 : decode cX8_init 80 = .ok (.newarray .int, 2) := by decide +kernel
theorem dX8_init_82 : decode cX8_init 82 = .ok (.putfield 41, 3) := by decide +kernel
theorem dX8_init_85 : decode cX8_init 85 = .ok (.aload_n 0, 1) := by decide +kernel
theorem dX8_init_86 : decode cX8_init 86 = .ok (.bipush 18, 2) := by decide +kernel
theorem dX8_init_88 : decode cX8_init 88 = .ok (.newarray .byte, 2) := by decide +kernel
theorem dX8_init_90 : decode cX8_init 90 = .ok (.putfield 44, 3) := by decide +kernel
theorem dX8_init_93 : decode cX8_init 93 = .ok (.aload_n 0, 1) := by decide +kernel
theorem dX8_init_94 : decode cX8_init 94 = .ok (.bipush 16, 2) := by decide +kernel
theorem dX8_init_96 : decode cX8_init 96 = .ok (.newarray .long, 2) := by decide +kernel
theorem dX8_init_98 : decode cX8_init 98 = .ok (.putfield 48, 3) := by decide +kernel
theorem dX8_init_101 : decode cX8_init 101 = .ok (.aload_n 0, 1) := by decide +kernel
theorem dX8_init_102 : decode cX8_init 102 = .ok (.iconst 4, 1) := by decide +kernel
theorem dX8_init_103 : decode cX8_init 103 = .ok (.newarray .int, 2) := by decide +kernel
theorem dX8_init_105 : decode cX8_init 105 = .ok (.putfield 51, 3) := by decide +kernel
theorem dX8_init_108 : decode cX8_init 108 = .ok (.aload_n 0, 1) := by decide +kernel
theorem dX8_init_109 : decode cX8_init 109 = .ok (.iconst 4, 1) := by decide +kernel
theorem dX8_init_110 : decode cX8_init 110 = .ok (.newarray .int, 2) := by decide +kernel
theorem dX8_init_112 : decode cX8_init 112 = .ok (.putfield 54, 3) := by decide +kernel
theorem dX8_init_115 : decode cX8_init 115 = .ok (.aload_n 0, 1) := by decide +kernel
theorem dX8_init_116 : decode cX8_init 116 = .ok (.iconst 4, 1) := by decide +kernel
theorem dX8_init_117 : decode cX8_init 117 = .ok (.newarray .int, 2) := by decide +kernel
theorem dX8_init_119 : decode cX8_init 119 = .ok (.putfield 57, 3) := by decide +kernel
theorem dX8_init_122 : decode cX8_init 122 = .ok (.aload_n 0, 1) := by decide +kernel
theorem dX8_init_123 : decode cX8_init 123 = .ok (.iconst 4, 1) := by decide +kernel
theorem dX8_init_124 : decode cX8_init 124 = .ok (.newarray .long, 2) := by decide +kernel
theorem dX8_init_126 : decode cX8_init 126 = .ok (.putfield 60, 3) := by decide +kernel
theorem dX8_init_129 : decode cX8_init 129 = .ok (.aload_n 0, 1) := by decide +kernel
theorem dX8_init_130 : decode cX8_init 130 = .ok (.bipush 6, 2) := by decide +kernel
theorem dX8_init_132 : decode cX8_init 132 = .ok (.newarray .int, 2) := by decide +kernel
theorem dX8_init_134 : decode cX8_init 134 = .ok (.putfield 63, 3) := by decide +kernel
theorem dX8_init_137 : decode cX8_init 137 = .ok (.aload_n 0, 1) := by decide +kernel
theorem dX8_init_138 : decode cX8_init 138 = .ok (.bipush 6, 2) := by decide +kernel
theorem dX8_init_140 : decode cX8_init 140 = .ok (.newarray .int, 2) := by decide +kernel
theorem dX8_init_142 : decode cX8_init 142 = .ok (.putfield 66, 3) := by decide +kernel
theorem dX8_init_145 : decode cX8_init 145 = .ok (.aload_n 0, 1) := by decide +kernel
theorem dX8_init_146 : decode cX8_init 146 = .ok (.bipush 6, 2) := by decide +kernel
theorem dX8_init_148 : decode cX8_init 148 = .ok (.newarray .int, 2) := by decide +kernel
theorem dX8_init_150 : decode cX8_init 150 = .ok (.putfield 69, 3) := by decide +kernel
theorem dX8_init_153 : decode cX8_init 153 = .ok (.aload_n 0, 1) := by decide +kernel
theorem dX8_init_154 : decode cX8_init 154 = .ok (.bipush 6, 2) := by decide +kernel
theorem dX8_init_156 : decode cX8_init 156 = .ok (.newarray .int, 2) := by decide +kernel
theorem dX8_init_158 : decode cX8_init 158 = .ok (.putfield 72, 3) := by decide +kernel
theorem dX8_init_161 : decode cX8_init 161 = .ok (.return_, 1) := by decide +kernel
theorem dX8_within_0 : decode cX8_within 0 = .ok (.iload_n 0, 1) := by decide +kernel
theorem dX8_within_1 : decode cX8_within 1 = .ok (.iload_n 1, 1) := by decide +kernel
theorem dX8_within_2 : decode cX8_within 2 = .ok (.if_icmp .lt 12, 3) := by decide +kernel
theorem dX8_within_5 : decode cX8_within 5 = .ok (.iload_n 0, 1) := by decide +kernel
theorem dX8_within_6 : decode cX8_within 6 = .ok (.iload_n 2, 1) := by decide +kernel
theorem dX8_within_7 : decode cX8_within 7 = .ok (.if_icmp .gt 7, 3) := by decide +kernel
theorem dX8_within_10 : decode cX8_within 10 = .ok (.iconst 1, 1) := by decide +kernel
theorem dX8_within_11 : decode cX8_within 11 = .ok (.goto 4, 3) := by decide +kernel
theorem dX8_within_14 : decode cX8_within 14 = .ok (.iconst 0, 1) := by decide +kernel
theorem dX8_within_15 : decode cX8_within 15 = .ok (.ireturn, 1) := by decide +kernel
theorem dX8_lowest_0 : decode cX8_lowest 0 = .ok (.lload_n 0, 1) := by decide +kernel
theorem dX8_lowest_1 : decode cX8_lowest 1 = .ok (.lload_n 2, 1) := by decide +kernel
theorem dX8_lowest_2 : decode cX8_lowest 2 = .ok (.invokestatic 75, 3) := by decide +kernel
theorem dX8_lowest_5 : decode cX8_lowest 5 = .ok (.lstore 5, 2) := by decide +kernel
theorem dX8_lowest_7 : decode cX8_lowest 7 = .ok (.iload 4, 2) := by decide +kernel
theorem dX8_lowest_9 : decode cX8_lowest 9 = .ok (.ifCond .ne 10, 3) := by decide +kernel
theorem dX8_lowest_12 : decode cX8_lowest 12 = .ok (.lload_n 0, 1) := by decide +kernel
theorem dX8_lowest_13 : decode cX8_lowest 13 = .ok (.lload 5, 2) := by decide +kernel
theorem dX8_lowest_15 : decode cX8_lowest 15 = .ok (.ldiv, 1) := by decide +kernel
theorem dX8_lowest_16 : decode cX8_lowest 16 = .ok (.goto 7, 3) := by decide +kernel
theorem dX8_lowest_19 : decode cX8_lowest 19 = .ok (.lload_n 2, 1) := by decide +kernel
theorem dX8_lowest_20 : decode cX8_lowest 20 = .ok (.lload 5, 2) := by decide +kernel
theorem dX8_lowest_22 : decode cX8_lowest 22 = .ok (.ldiv, 1) := by decide +kernel
theorem dX8_lowest_23 : decode cX8_lowest 23 = .ok (.lreturn, 1) := by decide +kernel
theorem dX8_letter_0 : decode cX8_letter 0 = .ok (.iload_n 1, 1) := by decide +kernel
theorem dX8_letter_1 : decode cX8_letter 1 = .ok (.bipush 32, 2) := by decide +kernel
theorem dX8_letter_3 : decode cX8_letter 3 = .ok (.bipush 126, 2) := by decide +kernel
theorem dX8_letter_5 : decode cX8_letter 5 = .ok (.invokestatic 79, 3) := by decide +kernel
theorem dX8_letter_8 : decode cX8_letter 8 = .ok (.ifCond .ne 6, 3) := by decide +kernel
theorem dX8_letter_11 : decode cX8_letter 11 = .ok (.bipush (-102), 2) := by decide +kernel
theorem dX8_letter_13 : decode cX8_letter 13 = .ok (.ireturn, 1) := by decide +kernel
theorem dX8_letter_14 : decode cX8_letter 14 = .ok (.aload_n 0, 1) := by decide +kernel
theorem dX8_letter_15 : decode cX8_letter 15 = .ok (.getfield 83, 3) := by decide +kernel
theorem dX8_letter_18 : decode cX8_letter 18 = .ok (.bipush 18, 2) := by decide +kernel
theorem dX8_letter_20 : decode cX8_letter 20 = .ok (.if_icmp .ne 6, 3) := by decide +kernel
theorem dX8_letter_23 : decode cX8_letter 23 = .ok (.bipush (-104), 2) := by decide +kernel
theorem dX8_letter_25 : decode cX8_letter 25 = .ok (.ireturn, 1) := by decide +kernel
theorem dX8_letter_26 : decode cX8_letter 26 = .ok (.aload_n 0, 1) := by decide +kernel
theorem dX8_letter_27 : decode cX8_letter 27 = .ok (.getfield 44, 3) := by decide +kernel
theorem dX8_letter_30 : decode cX8_letter 30 = .ok (.aload_n 0, 1) := by decide +kernel
theorem dX8_letter_31 : decode cX8_letter 31 = .ok (.getfield 83, 3) := by decide +kernel
theorem dX8_letter_34 : decode cX8_letter 34 = .ok (.iload_n 1, 1) := by decide +kernel
theorem dX8_letter_35 : decode cX8_letter 35 = .ok (.i2b, 1) := by decide +kernel
theorem dX8_letter_36 : decode cX8_letter 36 = .ok (.bastore, 1) := by decide +kernel
theorem dX8_letter_37 : decode cX8_letter 37 = .ok (.aload_n 0, 1) := by decide +kernel
theorem dX8_letter_38 : decode cX8_letter 38 = .ok (.dup, 1) := by decide +kernel
theorem dX8_letter_39 : decode cX8_letter 39 = .ok (.getfield 83, 3) := by decide +kernel
theorem dX8_letter_42 : decode cX8_letter 42 = .ok (.iconst 1, 1) := by decide +kernel
theorem dX8_letter_43 : decode cX8_letter 43 = .ok (.iadd, 1) := by decide +kernel
theorem dX8_letter_44 : decode cX8_letter 44 = .ok (.putfield 83, 3) := by decide +kernel
theorem dX8_letter_47 : decode cX8_letter 47 = .ok (.aload_n 0, 1) := by decide +kernel
theorem dX8_letter_48 : decode cX8_letter 48 = .ok (.getfield 83, 3) := by decide +kernel
theorem dX8_letter_51 : decode cX8_letter 51 = .ok (.ireturn, 1) := by decide +kernel
theorem dX8_kindBy_0 : decode cX8_kindBy 0 = .ok (.iload_n 0, 1) := by decide +kernel
theorem dX8_kindBy_1 : decode cX8_kindBy 1 = .ok (.lookupswitch 61 #[(104, 53), (112, 51), (114, 57), (116, 59), (119, 55)], 51) := by decide +kernel
theorem dX8_kindBy_52 : decode cX8_kindBy 52 = .ok (.iconst 0, 1) := by decide +kernel
theorem dX8_kindBy_53 : decode cX8_kindBy 53 = .ok (.ireturn, 1) := by decide +kernel
theorem dX8_kindBy_54 : decode cX8_kindBy 54 = .ok (.iconst 1, 1) := by decide +kernel
theorem dX8_kindBy_55 : decode cX8_kindBy 55 = .ok (.ireturn, 1) := by decide +kernel
theorem dX8_kindBy_56 : decode cX8_kindBy 56 = .ok (.iconst 2, 1) := by decide +kernel
theorem dX8_kindBy_57 : decode cX8_kindBy 57 = .ok (.ireturn, 1) := by decide +kernel
theorem dX8_kindBy_58 : decode cX8_kindBy 58 = .ok (.iconst 3, 1) := by decide +kernel
theorem dX8_kindBy_59 : decode cX8_kindBy 59 = .ok (.ireturn, 1) := by decide +kernel
theorem dX8_kindBy_60 : decode cX8_kindBy 60 = .ok (.iconst 4, 1) := by decide +kernel
theorem dX8_kindBy_61 : decode cX8_kindBy 61 = .ok (.ireturn, 1) := by decide +kernel
theorem dX8_kindBy_62 : decode cX8_kindBy 62 = .ok (.iconst (-1), 1) := by decide +kernel
theorem dX8_kindBy_63 : decode cX8_kindBy 63 = .ok (.ireturn, 1) := by decide +kernel
theorem dX8_isFigure_0 : decode cX8_isFigure 0 = .ok (.iload_n 1, 1) := by decide +kernel
theorem dX8_isFigure_1 : decode cX8_isFigure 1 = .ok (.aload_n 0, 1) := by decide +kernel
theorem dX8_isFigure_2 : decode cX8_isFigure 2 = .ok (.getfield 83, 3) := by decide +kernel
theorem dX8_isFigure_5 : decode cX8_isFigure 5 = .ok (.if_icmp .ge 25, 3) := by decide +kernel
theorem dX8_isFigure_8 : decode cX8_isFigure 8 = .ok (.aload_n 0, 1) := by decide +kernel
theorem dX8_isFigure_9 : decode cX8_isFigure 9 = .ok (.getfield 44, 3) := by decide +kernel
theorem dX8_isFigure_12 : decode cX8_isFigure 12 = .ok (.iload_n 1, 1) := by decide +kernel
theorem dX8_isFigure_13 : decode cX8_isFigure 13 = .ok (.baload, 1) := by decide +kernel
theorem dX8_isFigure_14 : decode cX8_isFigure 14 = .ok (.bipush 48, 2) := by decide +kernel
theorem dX8_isFigure_16 : decode cX8_isFigure 16 = .ok (.isub, 1) := by decide +kernel
theorem dX8_isFigure_17 : decode cX8_isFigure 17 = .ok (.iload_n 2, 1) := by decide +kernel
theorem dX8_isFigure_18 : decode cX8_isFigure 18 = .ok (.bipush 9, 2) := by decide +kernel
theorem dX8_isFigure_20 : decode cX8_isFigure 20 = .ok (.invokestatic 79, 3) := by decide +kernel
theorem dX8_isFigure_23 : decode cX8_isFigure 23 = .ok (.ifCond .eq 7, 3) := by decide +kernel
theorem dX8_isFigure_26 : decode cX8_isFigure 26 = .ok (.iconst 1, 1) := by decide +kernel
theorem dX8_isFigure_27 : decode cX8_isFigure 27 = .ok (.goto 4, 3) := by decide +kernel
theorem dX8_isFigure_30 : decode cX8_isFigure 30 = .ok (.iconst 0, 1) := by decide +kernel
theorem dX8_isFigure_31 : decode cX8_isFigure 31 = .ok (.ireturn, 1) := by decide +kernel
theorem dX8_readOne_0 : decode cX8_readOne 0 = .ok (.iload_n 1, 1) := by decide +kernel
theorem dX8_readOne_1 : decode cX8_readOne 1 = .ok (.aload_n 0, 1) := by decide +kernel
theorem dX8_readOne_2 : decode cX8_readOne 2 = .ok (.getfield 83, 3) := by decide +kernel
theorem dX8_readOne_5 : decode cX8_readOne 5 = .ok (.if_icmp .eq 16, 3) := by decide +kernel
theorem dX8_readOne_8 : decode cX8_readOne 8 = .ok (.aload_n 0, 1) := by decide +kernel
theorem dX8_readOne_9 : decode cX8_readOne 9 = .ok (.getfield 44, 3) := by decide +kernel
theorem dX8_readOne_12 : decode cX8_readOne 12 = .ok (.iload_n 1, 1) := by decide +kernel
theorem dX8_readOne_13 : decode cX8_readOne 13 = .ok (.baload, 1) := by decide +kernel
theorem dX8_readOne_14 : decode cX8_readOne 14 = .ok (.invokestatic 87, 3) := by decide +kernel
theorem dX8_readOne_17 : decode cX8_readOne 17 = .ok (.iconst (-1), 1) := by decide +kernel
theorem dX8_readOne_18 : decode cX8_readOne 18 = .ok (.if_icmp .ne 5, 3) := by decide +kernel
theorem dX8_readOne_21 : decode cX8_readOne 21 = .ok (.iload_n 1, 1) := by decide +kernel
theorem dX8_readOne_22 : decode cX8_readOne 22 = .ok (.ireturn, 1) := by decide +kernel
theorem dX8_readOne_23 : decode cX8_readOne 23 = .ok (.aload_n 0, 1) := by decide +kernel
theorem dX8_readOne_24 : decode cX8_readOne 24 = .ok (.iload_n 1, 1) := by decide +kernel
theorem dX8_readOne_25 : decode cX8_readOne 25 = .ok (.iconst 1, 1) := by decide +kernel
theorem dX8_readOne_26 : decode cX8_readOne 26 = .ok (.iadd, 1) := by decide +kernel
theorem dX8_readOne_27 : decode cX8_readOne 27 = .ok (.iconst 0, 1) := by decide +kernel
theorem dX8_readOne_28 : decode cX8_readOne 28 = .ok (.invokevirtual 91, 3) := by decide +kernel
theorem dX8_readOne_31 : decode cX8_readOne 31 = .ok (.ifCond .ne 9, 3) := by decide +kernel
theorem dX8_readOne_34 : decode cX8_readOne 34 = .ok (.iload_n 1, 1) := by decide +kernel
theorem dX8_readOne_35 : decode cX8_readOne 35 = .ok (.iconst 1, 1) := by decide +kernel
theorem dX8_readOne_36 : decode cX8_readOne 36 = .ok (.iadd, 1) := by decide +kernel
theorem dX8_readOne_37 : decode cX8_readOne 37 = .ok (.goto 23, 3) := by decide +kernel
theorem dX8_readOne_40 : decode cX8_readOne 40 = .ok (.aload_n 0, 1) := by decide +kernel
theorem dX8_readOne_41 : decode cX8_readOne 41 = .ok (.iload_n 1, 1) := by decide +kernel
theorem dX8_readOne_42 : decode cX8_readOne 42 = .ok (.iconst 2, 1) := by decide +kernel
theorem dX8_readOne_43 : decode cX8_readOne 43 = .ok (.iadd, 1) := by decide +kernel
theorem dX8_readOne_44 : decode cX8_readOne 44 = .ok (.iconst 1, 1) := by decide +kernel
theorem dX8_readOne_45 : decode cX8_readOne 45 = .ok (.invokevirtual 91, 3) := by decide +kernel
theorem dX8_readOne_48 : decode cX8_readOne 48 = .ok (.ifCond .ne 9, 3) := by decide +kernel
theorem dX8_readOne_51 : decode cX8_readOne 51 = .ok (.iload_n 1, 1) := by decide +kernel
theorem dX8_readOne_52 : decode cX8_readOne 52 = .ok (.iconst 2, 1) := by decide +kernel
theorem dX8_readOne_53 : decode cX8_readOne 53 = .ok (.iadd, 1) := by decide +kernel
theorem dX8_readOne_54 : decode cX8_readOne 54 = .ok (.goto 6, 3) := by decide +kernel
theorem dX8_readOne_57 : decode cX8_readOne 57 = .ok (.iload_n 1, 1) := by decide +kernel
theorem dX8_readOne_58 : decode cX8_readOne 58 = .ok (.iconst 3, 1) := by decide +kernel
theorem dX8_readOne_59 : decode cX8_readOne 59 = .ok (.iadd, 1) := by decide +kernel
theorem dX8_readOne_60 : decode cX8_readOne 60 = .ok (.ireturn, 1) := by decide +kernel
theorem dX8_read_0 : decode cX8_read 0 = .ok (.aload_n 0, 1) := by decide +kernel
theorem dX8_read_1 : decode cX8_read 1 = .ok (.iconst 0, 1) := by decide +kernel
theorem dX8_read_2 : decode cX8_read 2 = .ok (.putfield 95, 3) := by decide +kernel
theorem dX8_read_5 : decode cX8_read 5 = .ok (.aload_n 0, 1) := by decide +kernel
theorem dX8_read_6 : decode cX8_read 6 = .ok (.iconst 0, 1) := by decide +kernel
theorem dX8_read_7 : decode cX8_read 7 = .ok (.putfield 99, 3) := by decide +kernel
theorem dX8_read_10 : decode cX8_read 10 = .ok (.iconst 0, 1) := by decide +kernel
theorem dX8_read_11 : decode cX8_read 11 = .ok (.istore_n 1, 1) := by decide +kernel
theorem dX8_read_12 : decode cX8_read 12 = .ok (.aload_n 0, 1) := by decide +kernel
theorem dX8_read_13 : decode cX8_read 13 = .ok (.getfield 99, 3) := by decide +kernel
theorem dX8_read_16 : decode cX8_read 16 = .ok (.iconst 4, 1) := by decide +kernel
theorem dX8_read_17 : decode cX8_read 17 = .ok (.if_icmp .ge 143, 3) := by decide +kernel
theorem dX8_read_20 : decode cX8_read 20 = .ok (.aload_n 0, 1) := by decide +kernel
theorem dX8_read_21 : decode cX8_read 21 = .ok (.iload_n 1, 1) := by decide +kernel
theorem dX8_read_22 : decode cX8_read 22 = .ok (.invokevirtual 102, 3) := by decide +kernel
theorem dX8_read_25 : decode cX8_read 25 = .ok (.istore_n 2, 1) := by decide +kernel
theorem dX8_read_26 : decode cX8_read 26 = .ok (.iload_n 2, 1) := by decide +kernel
theorem dX8_read_27 : decode cX8_read 27 = .ok (.iload_n 1, 1) := by decide +kernel
theorem dX8_read_28 : decode cX8_read 28 = .ok (.iconst 3, 1) := by decide +kernel
theorem dX8_read_29 : decode cX8_read 29 = .ok (.iadd, 1) := by decide +kernel
theorem dX8_read_30 : decode cX8_read 30 = .ok (.if_icmp .eq 5, 3) := by decide +kernel
theorem dX8_read_33 : decode cX8_read 33 = .ok (.iload_n 2, 1) := by decide +kernel
theorem dX8_read_34 : decode cX8_read 34 = .ok (.ireturn, 1) := by decide +kernel
theorem dX8_read_35 : decode cX8_read 35 = .ok (.aload_n 0, 1) := by decide +kernel
theorem dX8_read_36 : decode cX8_read 36 = .ok (.dup, 1) := by decide +kernel
theorem dX8_read_37 : decode cX8_read 37 = .ok (.getfield 99, 3) := by decide +kernel
theorem dX8_read_40 : decode cX8_read 40 = .ok (.iconst 1, 1) := by decide +kernel
theorem dX8_read_41 : decode cX8_read 41 = .ok (.iadd, 1) := by decide +kernel
theorem dX8_read_42 : decode cX8_read 42 = .ok (.putfield 99, 3) := by decide +kernel
theorem dX8_read_45 : decode cX8_read 45 = .ok (.iload_n 2, 1) := by decide +kernel
theorem dX8_read_46 : decode cX8_read 46 = .ok (.istore_n 1, 1) := by decide +kernel
theorem dX8_read_47 : decode cX8_read 47 = .ok (.iload_n 1, 1) := by decide +kernel
theorem dX8_read_48 : decode cX8_read 48 = .ok (.aload_n 0, 1) := by decide +kernel
theorem dX8_read_49 : decode cX8_read 49 = .ok (.getfield 83, 3) := by decide +kernel
theorem dX8_read_52 : decode cX8_read 52 = .ok (.if_icmp .ge 73, 3) := by decide +kernel
theorem dX8_read_55 : decode cX8_read 55 = .ok (.aload_n 0, 1) := by decide +kernel
theorem dX8_read_56 : decode cX8_read 56 = .ok (.getfield 44, 3) := by decide +kernel
theorem dX8_read_59 : decode cX8_read 59 = .ok (.iload_n 1, 1) := by decide +kernel
theorem dX8_read_60 : decode cX8_read 60 = .ok (.baload, 1) := by decide +kernel
theorem dX8_read_61 : decode cX8_read 61 = .ok (.bipush 59, 2) := by decide +kernel
theorem dX8_read_63 : decode cX8_read 63 = .ok (.if_icmp .ne 62, 3) := by decide +kernel
theorem dX8_read_66 : decode cX8_read 66 = .ok (.aload_n 0, 1) := by decide +kernel
theorem dX8_read_67 : decode cX8_read 67 = .ok (.getfield 99, 3) := by decide +kernel
theorem dX8_read_70 : decode cX8_read 70 = .ok (.iconst 1, 1) := by decide +kernel
theorem dX8_read_71 : decode cX8_read 71 = .ok (.if_icmp .le 54, 3) := by decide +kernel
theorem dX8_read_74 : decode cX8_read 74 = .ok (.aload_n 0, 1) := by decide +kernel
theorem dX8_read_75 : decode cX8_read 75 = .ok (.aload_n 0, 1) := by decide +kernel
theorem dX8_read_76 : decode cX8_read 76 = .ok (.iload_n 1, 1) := by decide +kernel
theorem dX8_read_77 : decode cX8_read 77 = .ok (.iconst 1, 1) := by decide +kernel
theorem dX8_read_78 : decode cX8_read 78 = .ok (.iadd, 1) := by decide +kernel
theorem dX8_read_79 : decode cX8_read 79 = .ok (.iconst 1, 1) := by decide +kernel
theorem dX8_read_80 : decode cX8_read 80 = .ok (.invokevirtual 91, 3) := by decide +kernel
theorem dX8_read_83 : decode cX8_read 83 = .ok (.ifCond .eq 17, 3) := by decide +kernel
theorem dX8_read_86 : decode cX8_read 86 = .ok (.iload_n 1, 1) := by decide +kernel
theorem dX8_read_87 : decode cX8_read 87 = .ok (.iconst 2, 1) := by decide +kernel
theorem dX8_read_88 : decode cX8_read 88 = .ok (.iadd, 1) := by decide +kernel
theorem dX8_read_89 : decode cX8_read 89 = .ok (.aload_n 0, 1) := by decide +kernel
theorem dX8_read_90 : decode cX8_read 90 = .ok (.getfield 83, 3) := by decide +kernel
theorem dX8_read_93 : decode cX8_read 93 = .ok (.if_icmp .ne 7, 3) := by decide +kernel
theorem dX8_read_96 : decode cX8_read 96 = .ok (.iconst 1, 1) := by decide +kernel
theorem dX8_read_97 : decode cX8_read 97 = .ok (.goto 4, 3) := by decide +kernel
theorem dX8_read_100 : decode cX8_read 100 = .ok (.iconst 0, 1) := by decide +kernel
theorem dX8_read_101 : decode cX8_read 101 = .ok (.putfield 95, 3) := by decide +kernel
theorem dX8_read_104 : decode cX8_read 104 = .ok (.aload_n 0, 1) := by decide +kernel
theorem dX8_read_105 : decode cX8_read 105 = .ok (.iload_n 1, 1) := by decide +kernel
theorem dX8_read_106 : decode cX8_read 106 = .ok (.iconst 1, 1) := by decide +kernel
theorem dX8_read_107 : decode cX8_read 107 = .ok (.iadd, 1) := by decide +kernel
theorem dX8_read_108 : decode cX8_read 108 = .ok (.iconst 1, 1) := by decide +kernel
theorem dX8_read_109 : decode cX8_read 109 = .ok (.invokevirtual 91, 3) := by decide +kernel
theorem dX8_read_112 : decode cX8_read 112 = .ok (.ifCond .eq 9, 3) := by decide +kernel
theorem dX8_read_115 : decode cX8_read 115 = .ok (.iload_n 1, 1) := by decide +kernel
theorem dX8_read_116 : decode cX8_read 116 = .ok (.iconst 2, 1) := by decide +kernel
theorem dX8_read_117 : decode cX8_read 117 = .ok (.iadd, 1) := by decide +kernel
theorem dX8_read_118 : decode cX8_read 118 = .ok (.goto 6, 3) := by decide +kernel
theorem dX8_read_121 : decode cX8_read 121 = .ok (.iload_n 1, 1) := by decide +kernel
theorem dX8_read_122 : decode cX8_read 122 = .ok (.iconst 1, 1) := by decide +kernel
theorem dX8_read_123 : decode cX8_read 123 = .ok (.iadd, 1) := by decide +kernel
theorem dX8_read_124 : decode cX8_read 124 = .ok (.ireturn, 1) := by decide +kernel
theorem dX8_read_125 : decode cX8_read 125 = .ok (.iload_n 1, 1) := by decide +kernel
theorem dX8_read_126 : decode cX8_read 126 = .ok (.aload_n 0, 1) := by decide +kernel
theorem dX8_read_127 : decode cX8_read 127 = .ok (.getfield 83, 3) := by decide +kernel
theorem dX8_read_130 : decode cX8_read 130 = .ok (.if_icmp .eq 22, 3) := by decide +kernel
theorem dX8_read_133 : decode cX8_read 133 = .ok (.aload_n 0, 1) := by decide +kernel
theorem dX8_read_134 : decode cX8_read 134 = .ok (.getfield 99, 3) := by decide +kernel
theorem dX8_read_137 : decode cX8_read 137 = .ok (.iconst 4, 1) := by decide +kernel
theorem dX8_read_138 : decode cX8_read 138 = .ok (.if_icmp .eq 14, 3) := by decide +kernel
theorem dX8_read_141 : decode cX8_read 141 = .ok (.aload_n 0, 1) := by decide +kernel
theorem dX8_read_142 : decode cX8_read 142 = .ok (.getfield 44, 3) := by decide +kernel
theorem dX8_read_145 : decode cX8_read 145 = .ok (.iload_n 1, 1) := by decide +kernel
theorem dX8_read_146 : decode cX8_read 146 = .ok (.baload, 1) := by decide +kernel
theorem dX8_read_147 : decode cX8_read 147 = .ok (.bipush 44, 2) := by decide +kernel
theorem dX8_read_149 : decode cX8_read 149 = .ok (.if_icmp .eq 5, 3) := by decide +kernel
theorem dX8_read_152 : decode cX8_read 152 = .ok (.iload_n 1, 1) := by decide +kernel
theorem dX8_read_153 : decode cX8_read 153 = .ok (.ireturn, 1) := by decide +kernel
theorem dX8_read_154 : decode cX8_read 154 = .ok (.iinc 1 1, 3) := by decide +kernel
theorem dX8_read_157 : decode cX8_read 157 = .ok (.goto (-145), 3) := by decide +kernel
theorem dX8_read_160 : decode cX8_read 160 = .ok (.iload_n 1, 1) := by decide +kernel
theorem dX8_read_161 : decode cX8_read 161 = .ok (.ireturn, 1) := by decide +kernel
theorem dX8_isOne_0 : decode cX8_isOne 0 = .ok (.iload_n 1, 1) := by decide +kernel
theorem dX8_isOne_1 : decode cX8_isOne 1 = .ok (.iconst 0, 1) := by decide +kernel
theorem dX8_isOne_2 : decode cX8_isOne 2 = .ok (.aload_n 0, 1) := by decide +kernel
theorem dX8_isOne_3 : decode cX8_isOne 3 = .ok (.getfield 109, 3) := by decide +kernel
theorem dX8_isOne_6 : decode cX8_isOne 6 = .ok (.iconst 1, 1) := by decide +kernel
theorem dX8_isOne_7 : decode cX8_isOne 7 = .ok (.isub, 1) := by decide +kernel
theorem dX8_isOne_8 : decode cX8_isOne 8 = .ok (.invokestatic 79, 3) := by decide +kernel
theorem dX8_isOne_11 : decode cX8_isOne 11 = .ok (.ireturn, 1) := by decide +kernel
theorem dX8_tenthsBy_0 : decode cX8_tenthsBy 0 = .ok (.aload_n 0, 1) := by decide +kernel
theorem dX8_tenthsBy_1 : decode cX8_tenthsBy 1 = .ok (.iload_n 1, 1) := by decide +kernel
theorem dX8_tenthsBy_2 : decode cX8_tenthsBy 2 = .ok (.iload_n 2, 1) := by decide +kernel
theorem dX8_tenthsBy_3 : decode cX8_tenthsBy 3 = .ok (.invokevirtual 124, 3) := by decide +kernel
theorem dX8_tenthsBy_6 : decode cX8_tenthsBy 6 = .ok (.iload_n 3, 1) := by decide +kernel
theorem dX8_tenthsBy_7 : decode cX8_tenthsBy 7 = .ok (.iadd, 1) := by decide +kernel
theorem dX8_tenthsBy_8 : decode cX8_tenthsBy 8 = .ok (.iload 4, 2) := by decide +kernel
theorem dX8_tenthsBy_10 : decode cX8_tenthsBy 10 = .ok (.isub, 1) := by decide +kernel
theorem dX8_tenthsBy_11 : decode cX8_tenthsBy 11 = .ok (.iconst 5, 1) := by decide +kernel
theorem dX8_tenthsBy_12 : decode cX8_tenthsBy 12 = .ok (.isub, 1) := by decide +kernel
theorem dX8_tenthsBy_13 : decode cX8_tenthsBy 13 = .ok (.istore 5, 2) := by decide +kernel
theorem dX8_tenthsBy_15 : decode cX8_tenthsBy 15 = .ok (.iload 5, 2) := by decide +kernel
theorem dX8_tenthsBy_17 : decode cX8_tenthsBy 17 = .ok (.ifCond .ge 7, 3) := by decide +kernel
theorem dX8_tenthsBy_20 : decode cX8_tenthsBy 20 = .ok (.iconst 0, 1) := by decide +kernel
theorem dX8_tenthsBy_21 : decode cX8_tenthsBy 21 = .ok (.goto 17, 3) := by decide +kernel
theorem dX8_tenthsBy_24 : decode cX8_tenthsBy 24 = .ok (.iload 5, 2) := by decide +kernel
theorem dX8_tenthsBy_26 : decode cX8_tenthsBy 26 = .ok (.bipush 10, 2) := by decide +kernel
theorem dX8_tenthsBy_28 : decode cX8_tenthsBy 28 = .ok (.if_icmp .le 8, 3) := by decide +kernel
theorem dX8_tenthsBy_31 : decode cX8_tenthsBy 31 = .ok (.bipush 10, 2) := by decide +kernel
theorem dX8_tenthsBy_33 : decode cX8_tenthsBy 33 = .ok (.goto 5, 3) := by decide +kernel
theorem dX8_tenthsBy_36 : decode cX8_tenthsBy 36 = .ok (.iload 5, 2) := by decide +kernel
theorem dX8_tenthsBy_38 : decode cX8_tenthsBy 38 = .ok (.ireturn, 1) := by decide +kernel
theorem dX8_tenths_0 : decode cX8_tenths 0 = .ok (.aload_n 0, 1) := by decide +kernel
theorem dX8_tenths_1 : decode cX8_tenths 1 = .ok (.iload_n 1, 1) := by decide +kernel
theorem dX8_tenths_2 : decode cX8_tenths 2 = .ok (.iload_n 2, 1) := by decide +kernel
theorem dX8_tenths_3 : decode cX8_tenths 3 = .ok (.aload_n 0, 1) := by decide +kernel
theorem dX8_tenths_4 : decode cX8_tenths 4 = .ok (.getfield 112, 3) := by decide +kernel
theorem dX8_tenths_7 : decode cX8_tenths 7 = .ok (.aload_n 0, 1) := by decide +kernel
theorem dX8_tenths_8 : decode cX8_tenths 8 = .ok (.getfield 19, 3) := by decide +kernel
theorem dX8_tenths_11 : decode cX8_tenths 11 = .ok (.iload_n 1, 1) := by decide +kernel
theorem dX8_tenths_12 : decode cX8_tenths 12 = .ok (.iaload, 1) := by decide +kernel
theorem dX8_tenths_13 : decode cX8_tenths 13 = .ok (.invokevirtual 128, 3) := by decide +kernel
theorem dX8_tenths_16 : decode cX8_tenths 16 = .ok (.ireturn, 1) := by decide +kernel
theorem dX8_needOf_0 : decode cX8_needOf 0 = .ok (.iconst 0, 1) := by decide +kernel
theorem dX8_needOf_1 : decode cX8_needOf 1 = .ok (.istore_n 2, 1) := by decide +kernel
theorem dX8_needOf_2 : decode cX8_needOf 2 = .ok (.iload_n 2, 1) := by decide +kernel
theorem dX8_needOf_3 : decode cX8_needOf 3 = .ok (.bipush 9, 2) := by decide +kernel
theorem dX8_needOf_5 : decode cX8_needOf 5 = .ok (.if_icmp .gt 39, 3) := by decide +kernel
theorem dX8_needOf_8 : decode cX8_needOf 8 = .ok (.aload_n 0, 1) := by decide +kernel
theorem dX8_needOf_9 : decode cX8_needOf 9 = .ok (.iload_n 1, 1) := by decide +kernel
theorem dX8_needOf_10 : decode cX8_needOf 10 = .ok (.iconst 1, 1) := by decide +kernel
theorem dX8_needOf_11 : decode cX8_needOf 11 = .ok (.aload_n 0, 1) := by decide +kernel
theorem dX8_needOf_12 : decode cX8_needOf 12 = .ok (.getfield 112, 3) := by decide +kernel
theorem dX8_needOf_15 : decode cX8_needOf 15 = .ok (.iload_n 2, 1) := by decide +kernel
theorem dX8_needOf_16 : decode cX8_needOf 16 = .ok (.invokevirtual 128, 3) := by decide +kernel
theorem dX8_needOf_19 : decode cX8_needOf 19 = .ok (.ifCond .ne 19, 3) := by decide +kernel
theorem dX8_needOf_22 : decode cX8_needOf 22 = .ok (.aload_n 0, 1) := by decide +kernel
theorem dX8_needOf_23 : decode cX8_needOf 23 = .ok (.iload_n 1, 1) := by decide +kernel
theorem dX8_needOf_24 : decode cX8_needOf 24 = .ok (.iconst 0, 1) := by decide +kernel
theorem dX8_needOf_25 : decode cX8_needOf 25 = .ok (.aload_n 0, 1) := by decide +kernel
theorem dX8_needOf_26 : decode cX8_needOf 26 = .ok (.getfield 112, 3) := by decide +kernel
theorem dX8_needOf_29 : decode cX8_needOf 29 = .ok (.iload_n 2, 1) := by decide +kernel
theorem dX8_needOf_30 : decode cX8_needOf 30 = .ok (.invokevirtual 128, 3) := by decide +kernel
theorem dX8_needOf_33 : decode cX8_needOf 33 = .ok (.ifCond .ne 5, 3) := by decide +kernel
theorem dX8_needOf_36 : decode cX8_needOf 36 = .ok (.iload_n 2, 1) := by decide +kernel
theorem dX8_needOf_37 : decode cX8_needOf 37 = .ok (.ireturn, 1) := by decide +kernel
theorem dX8_needOf_38 : decode cX8_needOf 38 = .ok (.iinc 2 1, 3) := by decide +kernel
theorem dX8_needOf_41 : decode cX8_needOf 41 = .ok (.goto (-39), 3) := by decide +kernel
theorem dX8_needOf_44 : decode cX8_needOf 44 = .ok (.iconst (-1), 1) := by decide +kernel
theorem dX8_needOf_45 : decode cX8_needOf 45 = .ok (.ireturn, 1) := by decide +kernel
theorem dX8_oneNow_0 : decode cX8_oneNow 0 = .ok (.iload_n 2, 1) := by decide +kernel
theorem dX8_oneNow_1 : decode cX8_oneNow 1 = .ok (.tableswitch 103 0 7 #[47, 54, 61, 68, 75, 82, 89, 96], 47) := by decide +kernel
theorem dX8_oneNow_48 : decode cX8_oneNow 48 = .ok (.aload_n 0, 1) := by decide +kernel
theorem dX8_oneNow_49 : decode cX8_oneNow 49 = .ok (.getfield 7, 3) := by decide +kernel
theorem dX8_oneNow_52 : decode cX8_oneNow 52 = .ok (.iload_n 1, 1) := by decide +kernel
theorem dX8_oneNow_53 : decode cX8_oneNow 53 = .ok (.iaload, 1) := by decide +kernel
theorem dX8_oneNow_54 : decode cX8_oneNow 54 = .ok (.ireturn, 1) := by decide +kernel
theorem dX8_oneNow_55 : decode cX8_oneNow 55 = .ok (.aload_n 0, 1) := by decide +kernel
theorem dX8_oneNow_56 : decode cX8_oneNow 56 = .ok (.getfield 13, 3) := by decide +kernel
theorem dX8_oneNow_59 : decode cX8_oneNow 59 = .ok (.iload_n 1, 1) := by decide +kernel
theorem dX8_oneNow_60 : decode cX8_oneNow 60 = .ok (.iaload, 1) := by decide +kernel
theorem dX8_oneNow_61 : decode cX8_oneNow 61 = .ok (.ireturn, 1) := by decide +kernel
theorem dX8_oneNow_62 : decode cX8_oneNow 62 = .ok (.aload_n 0, 1) := by decide +kernel
theorem dX8_oneNow_63 : decode cX8_oneNow 63 = .ok (.getfield 16, 3) := by decide +kernel
theorem dX8_oneNow_66 : decode cX8_oneNow 66 = .ok (.iload_n 1, 1) := by decide +kernel
theorem dX8_oneNow_67 : decode cX8_oneNow 67 = .ok (.iaload, 1) := by decide +kernel
theorem dX8_oneNow_68 : decode cX8_oneNow 68 = .ok (.ireturn, 1) := by decide +kernel
theorem dX8_oneNow_69 : decode cX8_oneNow 69 = .ok (.aload_n 0, 1) := by decide +kernel
theorem dX8_oneNow_70 : decode cX8_oneNow 70 = .ok (.getfield 19, 3) := by decide +kernel
theorem dX8_oneNow_73 : decode cX8_oneNow 73 = .ok (.iload_n 1, 1) := by decide +kernel
theorem dX8_oneNow_74 : decode cX8_oneNow 74 = .ok (.iaload, 1) := by decide +kernel
theorem dX8_oneNow_75 : decode cX8_oneNow 75 = .ok (.ireturn, 1) := by decide +kernel
theorem dX8_oneNow_76 : decode cX8_oneNow 76 = .ok (.aload_n 0, 1) := by decide +kernel
theorem dX8_oneNow_77 : decode cX8_oneNow 77 = .ok (.iload_n 1, 1) := by decide +kernel
theorem dX8_oneNow_78 : decode cX8_oneNow 78 = .ok (.iconst 1, 1) := by decide +kernel
theorem dX8_oneNow_79 : decode cX8_oneNow 79 = .ok (.invokevirtual 132, 3) := by decide +kernel
theorem dX8_oneNow_82 : decode cX8_oneNow 82 = .ok (.ireturn, 1) := by decide +kernel
theorem dX8_oneNow_83 : decode cX8_oneNow 83 = .ok (.aload_n 0, 1) := by decide +kernel
theorem dX8_oneNow_84 : decode cX8_oneNow 84 = .ok (.iload_n 1, 1) := by decide +kernel
theorem dX8_oneNow_85 : decode cX8_oneNow 85 = .ok (.iconst 0, 1) := by decide +kernel
theorem dX8_oneNow_86 : decode cX8_oneNow 86 = .ok (.invokevirtual 132, 3) := by decide +kernel
theorem dX8_oneNow_89 : decode cX8_oneNow 89 = .ok (.ireturn, 1) := by decide +kernel
theorem dX8_oneNow_90 : decode cX8_oneNow 90 = .ok (.aload_n 0, 1) := by decide +kernel
theorem dX8_oneNow_91 : decode cX8_oneNow 91 = .ok (.getfield 22, 3) := by decide +kernel
theorem dX8_oneNow_94 : decode cX8_oneNow 94 = .ok (.iload_n 1, 1) := by decide +kernel
theorem dX8_oneNow_95 : decode cX8_oneNow 95 = .ok (.iaload, 1) := by decide +kernel
theorem dX8_oneNow_96 : decode cX8_oneNow 96 = .ok (.ireturn, 1) := by decide +kernel
theorem dX8_oneNow_97 : decode cX8_oneNow 97 = .ok (.aload_n 0, 1) := by decide +kernel
theorem dX8_oneNow_98 : decode cX8_oneNow 98 = .ok (.getfield 25, 3) := by decide +kernel
theorem dX8_oneNow_101 : decode cX8_oneNow 101 = .ok (.iload_n 1, 1) := by decide +kernel
theorem dX8_oneNow_102 : decode cX8_oneNow 102 = .ok (.iaload, 1) := by decide +kernel
theorem dX8_oneNow_103 : decode cX8_oneNow 103 = .ok (.ireturn, 1) := by decide +kernel
theorem dX8_oneNow_104 : decode cX8_oneNow 104 = .ok (.aload_n 0, 1) := by decide +kernel
theorem dX8_oneNow_105 : decode cX8_oneNow 105 = .ok (.iload_n 1, 1) := by decide +kernel
theorem dX8_oneNow_106 : decode cX8_oneNow 106 = .ok (.invokevirtual 135, 3) := by decide +kernel
theorem dX8_oneNow_109 : decode cX8_oneNow 109 = .ok (.ireturn, 1) := by decide +kernel
theorem dX8_loaf_0 : decode cX8_loaf 0 = .ok (.iload_n 1, 1) := by decide +kernel
theorem dX8_loaf_1 : decode cX8_loaf 1 = .ok (.iconst 1, 1) := by decide +kernel
theorem dX8_loaf_2 : decode cX8_loaf 2 = .ok (.bipush 9, 2) := by decide +kernel
theorem dX8_loaf_4 : decode cX8_loaf 4 = .ok (.invokestatic 79, 3) := by decide +kernel
theorem dX8_loaf_7 : decode cX8_loaf 7 = .ok (.ifCond .ne 6, 3) := by decide +kernel
theorem dX8_loaf_10 : decode cX8_loaf 10 = .ok (.bipush (-102), 2) := by decide +kernel
theorem dX8_loaf_12 : decode cX8_loaf 12 = .ok (.ireturn, 1) := by decide +kernel
theorem dX8_loaf_13 : decode cX8_loaf 13 = .ok (.aload_n 0, 1) := by decide +kernel
theorem dX8_loaf_14 : decode cX8_loaf 14 = .ok (.getfield 109, 3) := by decide +kernel
theorem dX8_loaf_17 : decode cX8_loaf 17 = .ok (.ifCond .ne 6, 3) := by decide +kernel
theorem dX8_loaf_20 : decode cX8_loaf 20 = .ok (.bipush (-103), 2) := by decide +kernel
theorem dX8_loaf_22 : decode cX8_loaf 22 = .ok (.ireturn, 1) := by decide +kernel
theorem dX8_loaf_23 : decode cX8_loaf 23 = .ok (.aload_n 0, 1) := by decide +kernel
theorem dX8_loaf_24 : decode cX8_loaf 24 = .ok (.getfield 112, 3) := by decide +kernel
theorem dX8_loaf_27 : decode cX8_loaf 27 = .ok (.istore_n 2, 1) := by decide +kernel
theorem dX8_loaf_28 : decode cX8_loaf 28 = .ok (.aload_n 0, 1) := by decide +kernel
theorem dX8_loaf_29 : decode cX8_loaf 29 = .ok (.iload_n 1, 1) := by decide +kernel
theorem dX8_loaf_30 : decode cX8_loaf 30 = .ok (.putfield 112, 3) := by decide +kernel
theorem dX8_loaf_33 : decode cX8_loaf 33 = .ok (.iload_n 2, 1) := by decide +kernel
theorem dX8_loaf_34 : decode cX8_loaf 34 = .ok (.ireturn, 1) := by decide +kernel
theorem dX8_think_0 : decode cX8_think 0 = .ok (.iconst 0, 1) := by decide +kernel
theorem dX8_think_1 : decode cX8_think 1 = .ok (.istore_n 1, 1) := by decide +kernel
theorem dX8_think_2 : decode cX8_think 2 = .ok (.iload_n 1, 1) := by decide +kernel
theorem dX8_think_3 : decode cX8_think 3 = .ok (.aload_n 0, 1) := by decide +kernel
theorem dX8_think_4 : decode cX8_think 4 = .ok (.getfield 109, 3) := by decide +kernel
theorem dX8_think_7 : decode cX8_think 7 = .ok (.if_icmp .ge 21, 3) := by decide +kernel
theorem dX8_think_10 : decode cX8_think 10 = .ok (.aload_n 0, 1) := by decide +kernel
theorem dX8_think_11 : decode cX8_think 11 = .ok (.getfield 48, 3) := by decide +kernel
theorem dX8_think_14 : decode cX8_think 14 = .ok (.iload_n 1, 1) := by decide +kernel
theorem dX8_think_15 : decode cX8_think 15 = .ok (.aload_n 0, 1) := by decide +kernel
theorem dX8_think_16 : decode cX8_think 16 = .ok (.getfield 28, 3) := by decide +kernel
theorem dX8_think_19 : decode cX8_think 19 = .ok (.iload_n 1, 1) := by decide +kernel
theorem dX8_think_20 : decode cX8_think 20 = .ok (.laload, 1) := by decide +kernel
theorem dX8_think_21 : decode cX8_think 21 = .ok (.lastore, 1) := by decide +kernel
theorem dX8_think_22 : decode cX8_think 22 = .ok (.iinc 1 1, 3) := by decide +kernel
theorem dX8_think_25 : decode cX8_think 25 = .ok (.goto (-23), 3) := by decide +kernel
theorem dX8_think_28 : decode cX8_think 28 = .ok (.return_, 1) := by decide +kernel
theorem dX8_weightAll_0 : decode cX8_weightAll 0 = .ok (.lconst 0, 1) := by decide +kernel
theorem dX8_weightAll_1 : decode cX8_weightAll 1 = .ok (.lstore_n 1, 1) := by decide +kernel
theorem dX8_weightAll_2 : decode cX8_weightAll 2 = .ok (.iconst 0, 1) := by decide +kernel
theorem dX8_weightAll_3 : decode cX8_weightAll 3 = .ok (.istore_n 3, 1) := by decide +kernel
theorem dX8_weightAll_4 : decode cX8_weightAll 4 = .ok (.iload_n 3, 1) := by decide +kernel
theorem dX8_weightAll_5 : decode cX8_weightAll 5 = .ok (.aload_n 0, 1) := by decide +kernel
theorem dX8_weightAll_6 : decode cX8_weightAll 6 = .ok (.getfield 109, 3) := by decide +kernel
theorem dX8_weightAll_9 : decode cX8_weightAll 9 = .ok (.if_icmp .ge 18, 3) := by decide +kernel
theorem dX8_weightAll_12 : decode cX8_weightAll 12 = .ok (.lload_n 1, 1) := by decide +kernel
theorem dX8_weightAll_13 : decode cX8_weightAll 13 = .ok (.aload_n 0, 1) := by decide +kernel
theorem dX8_weightAll_14 : decode cX8_weightAll 14 = .ok (.getfield 28, 3) := by decide +kernel
theorem dX8_weightAll_17 : decode cX8_weightAll 17 = .ok (.iload_n 3, 1) := by decide +kernel
theorem dX8_weightAll_18 : decode cX8_weightAll 18 = .ok (.laload, 1) := by decide +kernel
theorem dX8_weightAll_19 : decode cX8_weightAll 19 = .ok (.ladd, 1) := by decide +kernel
theorem dX8_weightAll_20 : decode cX8_weightAll 20 = .ok (.lstore_n 1, 1) := by decide +kernel
theorem dX8_weightAll_21 : decode cX8_weightAll 21 = .ok (.iinc 3 1, 3) := by decide +kernel
theorem dX8_weightAll_24 : decode cX8_weightAll 24 = .ok (.goto (-20), 3) := by decide +kernel
theorem dX8_weightAll_27 : decode cX8_weightAll 27 = .ok (.lload_n 1, 1) := by decide +kernel
theorem dX8_weightAll_28 : decode cX8_weightAll 28 = .ok (.lreturn, 1) := by decide +kernel
theorem dX8_judgedNow_0 : decode cX8_judgedNow 0 = .ok (.iconst 0, 1) := by decide +kernel
theorem dX8_judgedNow_1 : decode cX8_judgedNow 1 = .ok (.istore_n 1, 1) := by decide +kernel
theorem dX8_judgedNow_2 : decode cX8_judgedNow 2 = .ok (.iconst 1, 1) := by decide +kernel
theorem dX8_judgedNow_3 : decode cX8_judgedNow 3 = .ok (.istore_n 2, 1) := by decide +kernel
theorem dX8_judgedNow_4 : decode cX8_judgedNow 4 = .ok (.iload_n 2, 1) := by decide +kernel
theorem dX8_judgedNow_5 : decode cX8_judgedNow 5 = .ok (.aload_n 0, 1) := by decide +kernel
theorem dX8_judgedNow_6 : decode cX8_judgedNow 6 = .ok (.getfield 109, 3) := by decide +kernel
theorem dX8_judgedNow_9 : decode cX8_judgedNow 9 = .ok (.if_icmp .ge 31, 3) := by decide +kernel
theorem dX8_judgedNow_12 : decode cX8_judgedNow 12 = .ok (.aload_n 0, 1) := by decide +kernel
theorem dX8_judgedNow_13 : decode cX8_judgedNow 13 = .ok (.getfield 28, 3) := by decide +kernel
theorem dX8_judgedNow_16 : decode cX8_judgedNow 16 = .ok (.iload_n 2, 1) := by decide +kernel
theorem dX8_judgedNow_17 : decode cX8_judgedNow 17 = .ok (.laload, 1) := by decide +kernel
theorem dX8_judgedNow_18 : decode cX8_judgedNow 18 = .ok (.aload_n 0, 1) := by decide +kernel
theorem dX8_judgedNow_19 : decode cX8_judgedNow 19 = .ok (.getfield 28, 3) := by decide +kernel
theorem dX8_judgedNow_22 : decode cX8_judgedNow 22 = .ok (.iload_n 1, 1) := by decide +kernel
theorem dX8_judgedNow_23 : decode cX8_judgedNow 23 = .ok (.laload, 1) := by decide +kernel
theorem dX8_judgedNow_24 : decode cX8_judgedNow 24 = .ok (.lcmp, 1) := by decide +kernel
theorem dX8_judgedNow_25 : decode cX8_judgedNow 25 = .ok (.ifCond .le 7, 3) := by decide +kernel
theorem dX8_judgedNow_28 : decode cX8_judgedNow 28 = .ok (.iload_n 2, 1) := by decide +kernel
theorem dX8_judgedNow_29 : decode cX8_judgedNow 29 = .ok (.goto 4, 3) := by decide +kernel
theorem dX8_judgedNow_32 : decode cX8_judgedNow 32 = .ok (.iload_n 1, 1) := by decide +kernel
theorem dX8_judgedNow_33 : decode cX8_judgedNow 33 = .ok (.istore_n 1, 1) := by decide +kernel
theorem dX8_judgedNow_34 : decode cX8_judgedNow 34 = .ok (.iinc 2 1, 3) := by decide +kernel
theorem dX8_judgedNow_37 : decode cX8_judgedNow 37 = .ok (.goto (-33), 3) := by decide +kernel
theorem dX8_judgedNow_40 : decode cX8_judgedNow 40 = .ok (.iload_n 1, 1) := by decide +kernel
theorem dX8_judgedNow_41 : decode cX8_judgedNow 41 = .ok (.ireturn, 1) := by decide +kernel
theorem dX8_takeThought_0 : decode cX8_takeThought 0 = .ok (.lconst 0, 1) := by decide +kernel
theorem dX8_takeThought_1 : decode cX8_takeThought 1 = .ok (.lstore_n 1, 1) := by decide +kernel
theorem dX8_takeThought_2 : decode cX8_takeThought 2 = .ok (.iconst 0, 1) := by decide +kernel
theorem dX8_takeThought_3 : decode cX8_takeThought 3 = .ok (.istore_n 3, 1) := by decide +kernel
theorem dX8_takeThought_4 : decode cX8_takeThought 4 = .ok (.iload_n 3, 1) := by decide +kernel
theorem dX8_takeThought_5 : decode cX8_takeThought 5 = .ok (.aload_n 0, 1) := by decide +kernel
theorem dX8_takeThought_6 : decode cX8_takeThought 6 = .ok (.getfield 109, 3) := by decide +kernel
theorem dX8_takeThought_9 : decode cX8_takeThought 9 = .ok (.if_icmp .ge 22, 3) := by decide +kernel
theorem dX8_takeThought_12 : decode cX8_takeThought 12 = .ok (.aload_n 0, 1) := by decide +kernel
theorem dX8_takeThought_13 : decode cX8_takeThought 13 = .ok (.getfield 48, 3) := by decide +kernel
theorem dX8_takeThought_16 : decode cX8_takeThought 16 = .ok (.iconst 4, 1) := by decide +kernel
theorem dX8_takeThought_17 : decode cX8_takeThought 17 = .ok (.iload_n 3, 1) := by decide +kernel
theorem dX8_takeThought_18 : decode cX8_takeThought 18 = .ok (.iadd, 1) := by decide +kernel
theorem dX8_takeThought_19 : decode cX8_takeThought 19 = .ok (.laload, 1) := by decide +kernel
theorem dX8_takeThought_20 : decode cX8_takeThought 20 = .ok (.lload_n 1, 1) := by decide +kernel
theorem dX8_takeThought_21 : decode cX8_takeThought 21 = .ok (.invokestatic 75, 3) := by decide +kernel
theorem dX8_takeThought_24 : decode cX8_takeThought 24 = .ok (.lstore_n 1, 1) := by decide +kernel
theorem dX8_takeThought_25 : decode cX8_takeThought 25 = .ok (.iinc 3 1, 3) := by decide +kernel
theorem dX8_takeThought_28 : decode cX8_takeThought 28 = .ok (.goto (-24), 3) := by decide +kernel
theorem dX8_takeThought_31 : decode cX8_takeThought 31 = .ok (.iconst 0, 1) := by decide +kernel
theorem dX8_takeThought_32 : decode cX8_takeThought 32 = .ok (.istore_n 3, 1) := by decide +kernel
theorem dX8_takeThought_33 : decode cX8_takeThought 33 = .ok (.iload_n 3, 1) := by decide +kernel
theorem dX8_takeThought_34 : decode cX8_takeThought 34 = .ok (.aload_n 0, 1) := by decide +kernel
theorem dX8_takeThought_35 : decode cX8_takeThought 35 = .ok (.getfield 109, 3) := by decide +kernel
theorem dX8_takeThought_38 : decode cX8_takeThought 38 = .ok (.if_icmp .ge 25, 3) := by decide +kernel
theorem dX8_takeThought_41 : decode cX8_takeThought 41 = .ok (.aload_n 0, 1) := by decide +kernel
theorem dX8_takeThought_42 : decode cX8_takeThought 42 = .ok (.getfield 28, 3) := by decide +kernel
theorem dX8_takeThought_45 : decode cX8_takeThought 45 = .ok (.iload_n 3, 1) := by decide +kernel
theorem dX8_takeThought_46 : decode cX8_takeThought 46 = .ok (.aload_n 0, 1) := by decide +kernel
theorem dX8_takeThought_47 : decode cX8_takeThought 47 = .ok (.getfield 48, 3) := by decide +kernel
theorem dX8_takeThought_50 : decode cX8_takeThought 50 = .ok (.iconst 4, 1) := by decide +kernel
theorem dX8_takeThought_51 : decode cX8_takeThought 51 = .ok (.iload_n 3, 1) := by decide +kernel
theorem dX8_takeThought_52 : decode cX8_takeThought 52 = .ok (.iadd, 1) := by decide +kernel
theorem dX8_takeThought_53 : decode cX8_takeThought 53 = .ok (.laload, 1) := by decide +kernel
theorem dX8_takeThought_54 : decode cX8_takeThought 54 = .ok (.lload_n 1, 1) := by decide +kernel
theorem dX8_takeThought_55 : decode cX8_takeThought 55 = .ok (.ldiv, 1) := by decide +kernel
theorem dX8_takeThought_56 : decode cX8_takeThought 56 = .ok (.lastore, 1) := by decide +kernel
theorem dX8_takeThought_57 : decode cX8_takeThought 57 = .ok (.iinc 3 1, 3) := by decide +kernel
theorem dX8_takeThought_60 : decode cX8_takeThought 60 = .ok (.goto (-27), 3) := by decide +kernel
theorem dX8_takeThought_63 : decode cX8_takeThought 63 = .ok (.return_, 1) := by decide +kernel
theorem dX8_judged_0 : decode cX8_judged 0 = .ok (.aload_n 0, 1) := by decide +kernel
theorem dX8_judged_1 : decode cX8_judged 1 = .ok (.getfield 109, 3) := by decide +kernel
theorem dX8_judged_4 : decode cX8_judged 4 = .ok (.ifCond .ne 8, 3) := by decide +kernel
theorem dX8_judged_7 : decode cX8_judged 7 = .ok (.bipush (-103), 2) := by decide +kernel
theorem dX8_judged_9 : decode cX8_judged 9 = .ok (.goto 7, 3) := by decide +kernel
theorem dX8_judged_12 : decode cX8_judged 12 = .ok (.aload_n 0, 1) := by decide +kernel
theorem dX8_judged_13 : decode cX8_judged 13 = .ok (.invokevirtual 160, 3) := by decide +kernel
theorem dX8_judged_16 : decode cX8_judged 16 = .ok (.ireturn, 1) := by decide +kernel
theorem dX8_restOf_0 : decode cX8_restOf 0 = .ok (.iload_n 1, 1) := by decide +kernel
theorem dX8_restOf_1 : decode cX8_restOf 1 = .ok (.ifCond .ne 11, 3) := by decide +kernel
theorem dX8_restOf_4 : decode cX8_restOf 4 = .ok (.aload_n 0, 1) := by decide +kernel
theorem dX8_restOf_5 : decode cX8_restOf 5 = .ok (.iload_n 2, 1) := by decide +kernel
theorem dX8_restOf_6 : decode cX8_restOf 6 = .ok (.invokevirtual 153, 3) := by decide +kernel
theorem dX8_restOf_9 : decode cX8_restOf 9 = .ok (.goto 21, 3) := by decide +kernel
theorem dX8_restOf_12 : decode cX8_restOf 12 = .ok (.iload_n 1, 1) := by decide +kernel
theorem dX8_restOf_13 : decode cX8_restOf 13 = .ok (.iconst 1, 1) := by decide +kernel
theorem dX8_restOf_14 : decode cX8_restOf 14 = .ok (.if_icmp .ne 11, 3) := by decide +kernel
theorem dX8_restOf_17 : decode cX8_restOf 17 = .ok (.aload_n 0, 1) := by decide +kernel
theorem dX8_restOf_18 : decode cX8_restOf 18 = .ok (.iload_n 2, 1) := by decide +kernel
theorem dX8_restOf_19 : decode cX8_restOf 19 = .ok (.invokevirtual 177, 3) := by decide +kernel
theorem dX8_restOf_22 : decode cX8_restOf 22 = .ok (.goto 8, 3) := by decide +kernel
theorem dX8_restOf_25 : decode cX8_restOf 25 = .ok (.aload_n 0, 1) := by decide +kernel
theorem dX8_restOf_26 : decode cX8_restOf 26 = .ok (.iload_n 2, 1) := by decide +kernel
theorem dX8_restOf_27 : decode cX8_restOf 27 = .ok (.invokevirtual 180, 3) := by decide +kernel
theorem dX8_restOf_30 : decode cX8_restOf 30 = .ok (.lreturn, 1) := by decide +kernel
theorem dX8_layRight_0 : decode cX8_layRight 0 = .ok (.aload_n 0, 1) := by decide +kernel
theorem dX8_layRight_1 : decode cX8_layRight 1 = .ok (.invokevirtual 146, 3) := by decide +kernel
theorem dX8_layRight_4 : decode cX8_layRight 4 = .ok (.aload_n 0, 1) := by decide +kernel
theorem dX8_layRight_5 : decode cX8_layRight 5 = .ok (.iconst (-1), 1) := by decide +kernel
theorem dX8_layRight_6 : decode cX8_layRight 6 = .ok (.putfield 183, 3) := by decide +kernel
theorem dX8_layRight_9 : decode cX8_layRight 9 = .ok (.iload_n 1, 1) := by decide +kernel
theorem dX8_layRight_10 : decode cX8_layRight 10 = .ok (.ifCond .ne 9, 3) := by decide +kernel
theorem dX8_layRight_13 : decode cX8_layRight 13 = .ok (.aload_n 0, 1) := by decide +kernel
theorem dX8_layRight_14 : decode cX8_layRight 14 = .ok (.iconst 0, 1) := by decide +kernel
theorem dX8_layRight_15 : decode cX8_layRight 15 = .ok (.invokevirtual 153, 3) := by decide +kernel
theorem dX8_layRight_18 : decode cX8_layRight 18 = .ok (.lreturn, 1) := by decide +kernel
theorem dX8_layRight_19 : decode cX8_layRight 19 = .ok (.ldc2_w 175, 3) := by decide +kernel
theorem dX8_layRight_22 : decode cX8_layRight 22 = .ok (.lstore_n 2, 1) := by decide +kernel
theorem dX8_layRight_23 : decode cX8_layRight 23 = .ok (.iconst 0, 1) := by decide +kernel
theorem dX8_layRight_24 : decode cX8_layRight 24 = .ok (.istore 4, 2) := by decide +kernel
theorem dX8_layRight_26 : decode cX8_layRight 26 = .ok (.iload 4, 2) := by decide +kernel
theorem dX8_layRight_28 : decode cX8_layRight 28 = .ok (.aload_n 0, 1) := by decide +kernel
theorem dX8_layRight_29 : decode cX8_layRight 29 = .ok (.getfield 109, 3) := by decide +kernel
theorem dX8_layRight_32 : decode cX8_layRight 32 = .ok (.if_icmp .ge 90, 3) := by decide +kernel
theorem dX8_layRight_35 : decode cX8_layRight 35 = .ok (.aload_n 0, 1) := by decide +kernel
theorem dX8_layRight_36 : decode cX8_layRight 36 = .ok (.iconst 0, 1) := by decide +kernel
theorem dX8_layRight_37 : decode cX8_layRight 37 = .ok (.iload 4, 2) := by decide +kernel
theorem dX8_layRight_39 : decode cX8_layRight 39 = .ok (.iconst 1, 1) := by decide +kernel
theorem dX8_layRight_40 : decode cX8_layRight 40 = .ok (.aload_n 0, 1) := by decide +kernel
theorem dX8_layRight_41 : decode cX8_layRight 41 = .ok (.getfield 112, 3) := by decide +kernel
theorem dX8_layRight_44 : decode cX8_layRight 44 = .ok (.invokevirtual 149, 3) := by decide +kernel
theorem dX8_layRight_47 : decode cX8_layRight 47 = .ok (.aload_n 0, 1) := by decide +kernel
theorem dX8_layRight_48 : decode cX8_layRight 48 = .ok (.iload_n 1, 1) := by decide +kernel
theorem dX8_layRight_49 : decode cX8_layRight 49 = .ok (.iconst 1, 1) := by decide +kernel
theorem dX8_layRight_50 : decode cX8_layRight 50 = .ok (.isub, 1) := by decide +kernel
theorem dX8_layRight_51 : decode cX8_layRight 51 = .ok (.iconst 1, 1) := by decide +kernel
theorem dX8_layRight_52 : decode cX8_layRight 52 = .ok (.invokevirtual 186, 3) := by decide +kernel
theorem dX8_layRight_55 : decode cX8_layRight 55 = .ok (.lstore 5, 2) := by decide +kernel
theorem dX8_layRight_57 : decode cX8_layRight 57 = .ok (.aload_n 0, 1) := by decide +kernel
theorem dX8_layRight_58 : decode cX8_layRight 58 = .ok (.iconst 0, 1) := by decide +kernel
theorem dX8_layRight_59 : decode cX8_layRight 59 = .ok (.iload 4, 2) := by decide +kernel
theorem dX8_layRight_61 : decode cX8_layRight 61 = .ok (.iconst 0, 1) := by decide +kernel
theorem dX8_layRight_62 : decode cX8_layRight 62 = .ok (.aload_n 0, 1) := by decide +kernel
theorem dX8_layRight_63 : decode cX8_layRight 63 = .ok (.getfield 112, 3) := by decide +kernel
theorem dX8_layRight_66 : decode cX8_layRight 66 = .ok (.invokevirtual 149, 3) := by decide +kernel
theorem dX8_layRight_69 : decode cX8_layRight 69 = .ok (.lload 5, 2) := by decide +kernel
theorem dX8_layRight_71 : decode cX8_layRight 71 = .ok (.aload_n 0, 1) := by decide +kernel
theorem dX8_layRight_72 : decode cX8_layRight 72 = .ok (.iload_n 1, 1) := by decide +kernel
theorem dX8_layRight_73 : decode cX8_layRight 73 = .ok (.iconst 1, 1) := by decide +kernel
theorem dX8_layRight_74 : decode cX8_layRight 74 = .ok (.isub, 1) := by decide +kernel
theorem dX8_layRight_75 : decode cX8_layRight 75 = .ok (.iconst 1, 1) := by decide +kernel
theorem dX8_layRight_76 : decode cX8_layRight 76 = .ok (.invokevirtual 186, 3) := by decide +kernel
theorem dX8_layRight_79 : decode cX8_layRight 79 = .ok (.ladd, 1) := by decide +kernel
theorem dX8_layRight_80 : decode cX8_layRight 80 = .ok (.lstore 5, 2) := by decide +kernel
theorem dX8_layRight_82 : decode cX8_layRight 82 = .ok (.aload_n 0, 1) := by decide +kernel
theorem dX8_layRight_83 : decode cX8_layRight 83 = .ok (.lload 5, 2) := by decide +kernel
theorem dX8_layRight_85 : decode cX8_layRight 85 = .ok (.lload_n 2, 1) := by decide +kernel
theorem dX8_layRight_86 : decode cX8_layRight 86 = .ok (.lcmp, 1) := by decide +kernel
theorem dX8_layRight_87 : decode cX8_layRight 87 = .ok (.ifCond .le 8, 3) := by decide +kernel
theorem dX8_layRight_90 : decode cX8_layRight 90 = .ok (.iload 4, 2) := by decide +kernel
theorem dX8_layRight_92 : decode cX8_layRight 92 = .ok (.goto 7, 3) := by decide +kernel
theorem dX8_layRight_95 : decode cX8_layRight 95 = .ok (.aload_n 0, 1) := by decide +kernel
theorem dX8_layRight_96 : decode cX8_layRight 96 = .ok (.getfield 183, 3) := by decide +kernel
theorem dX8_layRight_99 : decode cX8_layRight 99 = .ok (.putfield 183, 3) := by decide +kernel
theorem dX8_layRight_102 : decode cX8_layRight 102 = .ok (.lload 5, 2) := by decide +kernel
theorem dX8_layRight_104 : decode cX8_layRight 104 = .ok (.lload_n 2, 1) := by decide +kernel
theorem dX8_layRight_105 : decode cX8_layRight 105 = .ok (.lcmp, 1) := by decide +kernel
theorem dX8_layRight_106 : decode cX8_layRight 106 = .ok (.ifCond .le 8, 3) := by decide +kernel
theorem dX8_layRight_109 : decode cX8_layRight 109 = .ok (.lload 5, 2) := by decide +kernel
theorem dX8_layRight_111 : decode cX8_layRight 111 = .ok (.goto 4, 3) := by decide +kernel
theorem dX8_layRight_114 : decode cX8_layRight 114 = .ok (.lload_n 2, 1) := by decide +kernel
theorem dX8_layRight_115 : decode cX8_layRight 115 = .ok (.lstore_n 2, 1) := by decide +kernel
theorem dX8_layRight_116 : decode cX8_layRight 116 = .ok (.iinc 4 1, 3) := by decide +kernel
theorem dX8_layRight_119 : decode cX8_layRight 119 = .ok (.goto (-93), 3) := by decide +kernel
theorem dX8_layRight_122 : decode cX8_layRight 122 = .ok (.lload_n 2, 1) := by decide +kernel
theorem dX8_layRight_123 : decode cX8_layRight 123 = .ok (.lreturn, 1) := by decide +kernel
theorem dX8_right_0 : decode cX8_right 0 = .ok (.iload_n 1, 1) := by decide +kernel
theorem dX8_right_1 : decode cX8_right 1 = .ok (.iconst 0, 1) := by decide +kernel
theorem dX8_right_2 : decode cX8_right 2 = .ok (.iconst 3, 1) := by decide +kernel
theorem dX8_right_3 : decode cX8_right 3 = .ok (.invokestatic 79, 3) := by decide +kernel
theorem dX8_right_6 : decode cX8_right 6 = .ok (.ifCond .eq 12, 3) := by decide +kernel
theorem dX8_right_9 : decode cX8_right 9 = .ok (.iload_n 2, 1) := by decide +kernel
theorem dX8_right_10 : decode cX8_right 10 = .ok (.iconst 0, 1) := by decide +kernel
theorem dX8_right_11 : decode cX8_right 11 = .ok (.iconst 2, 1) := by decide +kernel
theorem dX8_right_12 : decode cX8_right 12 = .ok (.invokestatic 79, 3) := by decide +kernel
theorem dX8_right_15 : decode cX8_right 15 = .ok (.ifCond .ne 7, 3) := by decide +kernel
theorem dX8_right_18 : decode cX8_right 18 = .ok (.ldc2_w 173, 3) := by decide +kernel
theorem dX8_right_21 : decode cX8_right 21 = .ok (.lreturn, 1) := by decide +kernel
theorem dX8_right_22 : decode cX8_right 22 = .ok (.aload_n 0, 1) := by decide +kernel
theorem dX8_right_23 : decode cX8_right 23 = .ok (.getfield 109, 3) := by decide +kernel
theorem dX8_right_26 : decode cX8_right 26 = .ok (.ifCond .eq 12, 3) := by decide +kernel
theorem dX8_right_29 : decode cX8_right 29 = .ok (.aload_n 0, 1) := by decide +kernel
theorem dX8_right_30 : decode cX8_right 30 = .ok (.getfield 190, 3) := by decide +kernel
theorem dX8_right_33 : decode cX8_right 33 = .ok (.bipush 20, 2) := by decide +kernel
theorem dX8_right_35 : decode cX8_right 35 = .ok (.if_icmp .ne 7, 3) := by decide +kernel
theorem dX8_right_38 : decode cX8_right 38 = .ok (.ldc2_w 193, 3) := by decide +kernel
theorem dX8_right_41 : decode cX8_right 41 = .ok (.lreturn, 1) := by decide +kernel
theorem dX8_right_42 : decode cX8_right 42 = .ok (.aload_n 0, 1) := by decide +kernel
theorem dX8_right_43 : decode cX8_right 43 = .ok (.dup, 1) := by decide +kernel
theorem dX8_right_44 : decode cX8_right 44 = .ok (.getfield 190, 3) := by decide +kernel
theorem dX8_right_47 : decode cX8_right 47 = .ok (.iconst 1, 1) := by decide +kernel
theorem dX8_right_48 : decode cX8_right 48 = .ok (.iadd, 1) := by decide +kernel
theorem dX8_right_49 : decode cX8_right 49 = .ok (.putfield 190, 3) := by decide +kernel
theorem dX8_right_52 : decode cX8_right 52 = .ok (.aload_n 0, 1) := by decide +kernel
theorem dX8_right_53 : decode cX8_right 53 = .ok (.iload_n 1, 1) := by decide +kernel
theorem dX8_right_54 : decode cX8_right 54 = .ok (.invokevirtual 195, 3) := by decide +kernel
theorem dX8_right_57 : decode cX8_right 57 = .ok (.lstore_n 3, 1) := by decide +kernel
theorem dX8_right_58 : decode cX8_right 58 = .ok (.aload_n 0, 1) := by decide +kernel
theorem dX8_right_59 : decode cX8_right 59 = .ok (.invokevirtual 165, 3) := by decide +kernel
theorem dX8_right_62 : decode cX8_right 62 = .ok (.lstore 5, 2) := by decide +kernel
theorem dX8_right_64 : decode cX8_right 64 = .ok (.iconst 0, 1) := by decide +kernel
theorem dX8_right_65 : decode cX8_right 65 = .ok (.istore 7, 2) := by decide +kernel
theorem dX8_right_67 : decode cX8_right 67 = .ok (.iload 7, 2) := by decide +kernel
theorem dX8_right_69 : decode cX8_right 69 = .ok (.iload_n 1, 1) := by decide +kernel
theorem dX8_right_70 : decode cX8_right 70 = .ok (.if_icmp .ge 17, 3) := by decide +kernel
theorem dX8_right_73 : decode cX8_right 73 = .ok (.lload 5, 2) := by decide +kernel
theorem dX8_right_75 : decode cX8_right 75 = .ok (.ldc2_w 198, 3) := by decide +kernel
theorem dX8_right_78 : decode cX8_right 78 = .ok (.lmul, 1) := by decide +kernel
theorem dX8_right_79 : decode cX8_right 79 = .ok (.lstore 5, 2) := by decide +kernel
theorem dX8_right_81 : decode cX8_right 81 = .ok (.iinc 7 1, 3) := by decide +kernel
theorem dX8_right_84 : decode cX8_right 84 = .ok (.goto (-17), 3) := by decide +kernel
theorem dX8_right_87 : decode cX8_right 87 = .ok (.iload_n 2, 1) := by decide +kernel
theorem dX8_right_88 : decode cX8_right 88 = .ok (.iconst 2, 1) := by decide +kernel
theorem dX8_right_89 : decode cX8_right 89 = .ok (.if_icmp .ne 11, 3) := by decide +kernel
theorem dX8_right_92 : decode cX8_right 92 = .ok (.aload_n 0, 1) := by decide +kernel
theorem dX8_right_93 : decode cX8_right 93 = .ok (.getfield 183, 3) := by decide +kernel
theorem dX8_right_96 : decode cX8_right 96 = .ok (.i2l, 1) := by decide +kernel
theorem dX8_right_97 : decode cX8_right 97 = .ok (.goto 10, 3) := by decide +kernel
theorem dX8_right_100 : decode cX8_right 100 = .ok (.lload_n 3, 1) := by decide +kernel
theorem dX8_right_101 : decode cX8_right 101 = .ok (.lload 5, 2) := by decide +kernel
theorem dX8_right_103 : decode cX8_right 103 = .ok (.iload_n 2, 1) := by decide +kernel
theorem dX8_right_104 : decode cX8_right 104 = .ok (.invokestatic 169, 3) := by decide +kernel
theorem dX8_right_107 : decode cX8_right 107 = .ok (.lreturn, 1) := by decide +kernel
theorem dX8_rightBy_0 : decode cX8_rightBy 0 = .ok (.aload_n 0, 1) := by decide +kernel
theorem dX8_rightBy_1 : decode cX8_rightBy 1 = .ok (.invokevirtual 146, 3) := by decide +kernel
theorem dX8_rightBy_4 : decode cX8_rightBy 4 = .ok (.aload_n 0, 1) := by decide +kernel
theorem dX8_rightBy_5 : decode cX8_rightBy 5 = .ok (.iconst 0, 1) := by decide +kernel
theorem dX8_rightBy_6 : decode cX8_rightBy 6 = .ok (.iload_n 1, 1) := by decide +kernel
theorem dX8_rightBy_7 : decode cX8_rightBy 7 = .ok (.iconst 1, 1) := by decide +kernel
theorem dX8_rightBy_8 : decode cX8_rightBy 8 = .ok (.iload_n 2, 1) := by decide +kernel
theorem dX8_rightBy_9 : decode cX8_rightBy 9 = .ok (.invokevirtual 149, 3) := by decide +kernel
theorem dX8_rightBy_12 : decode cX8_rightBy 12 = .ok (.aload_n 0, 1) := by decide +kernel
theorem dX8_rightBy_13 : decode cX8_rightBy 13 = .ok (.iconst 1, 1) := by decide +kernel
theorem dX8_rightBy_14 : decode cX8_rightBy 14 = .ok (.invokevirtual 153, 3) := by decide +kernel
theorem dX8_rightBy_17 : decode cX8_rightBy 17 = .ok (.lstore_n 3, 1) := by decide +kernel
theorem dX8_rightBy_18 : decode cX8_rightBy 18 = .ok (.aload_n 0, 1) := by decide +kernel
theorem dX8_rightBy_19 : decode cX8_rightBy 19 = .ok (.iconst 0, 1) := by decide +kernel
theorem dX8_rightBy_20 : decode cX8_rightBy 20 = .ok (.iload_n 1, 1) := by decide +kernel
theorem dX8_rightBy_21 : decode cX8_rightBy 21 = .ok (.iconst 0, 1) := by decide +kernel
theorem dX8_rightBy_22 : decode cX8_rightBy 22 = .ok (.iload_n 2, 1) := by decide +kernel
theorem dX8_rightBy_23 : decode cX8_rightBy 23 = .ok (.invokevirtual 149, 3) := by decide +kernel
theorem dX8_rightBy_26 : decode cX8_rightBy 26 = .ok (.lload_n 3, 1) := by decide +kernel
theorem dX8_rightBy_27 : decode cX8_rightBy 27 = .ok (.aload_n 0, 1) := by decide +kernel
theorem dX8_rightBy_28 : decode cX8_rightBy 28 = .ok (.iconst 1, 1) := by decide +kernel
theorem dX8_rightBy_29 : decode cX8_rightBy 29 = .ok (.invokevirtual 153, 3) := by decide +kernel
theorem dX8_rightBy_32 : decode cX8_rightBy 32 = .ok (.ladd, 1) := by decide +kernel
theorem dX8_rightBy_33 : decode cX8_rightBy 33 = .ok (.lreturn, 1) := by decide +kernel
theorem dX8_hear_0 : decode cX8_hear 0 = .ok (.aload_n 0, 1) := by decide +kernel
theorem dX8_hear_1 : decode cX8_hear 1 = .ok (.iload_n 1, 1) := by decide +kernel
theorem dX8_hear_2 : decode cX8_hear 2 = .ok (.invokevirtual 138, 3) := by decide +kernel
theorem dX8_hear_5 : decode cX8_hear 5 = .ok (.ifCond .ne 6, 3) := by decide +kernel
theorem dX8_hear_8 : decode cX8_hear 8 = .ok (.bipush (-101), 2) := by decide +kernel
theorem dX8_hear_10 : decode cX8_hear 10 = .ok (.ireturn, 1) := by decide +kernel
theorem dX8_hear_11 : decode cX8_hear 11 = .ok (.aload_n 0, 1) := by decide +kernel
theorem dX8_hear_12 : decode cX8_hear 12 = .ok (.getfield 121, 3) := by decide +kernel
theorem dX8_hear_15 : decode cX8_hear 15 = .ok (.bipush 6, 2) := by decide +kernel
theorem dX8_hear_17 : decode cX8_hear 17 = .ok (.if_icmp .ne 6, 3) := by decide +kernel
theorem dX8_hear_20 : decode cX8_hear 20 = .ok (.bipush (-104), 2) := by decide +kernel
theorem dX8_hear_22 : decode cX8_hear 22 = .ok (.ireturn, 1) := by decide +kernel
theorem dX8_hear_23 : decode cX8_hear 23 = .ok (.aload_n 0, 1) := by decide +kernel
theorem dX8_hear_24 : decode cX8_hear 24 = .ok (.getfield 32, 3) := by decide +kernel
theorem dX8_hear_27 : decode cX8_hear 27 = .ok (.aload_n 0, 1) := by decide +kernel
theorem dX8_hear_28 : decode cX8_hear 28 = .ok (.getfield 121, 3) := by decide +kernel
theorem dX8_hear_31 : decode cX8_hear 31 = .ok (.iload_n 1, 1) := by decide +kernel
theorem dX8_hear_32 : decode cX8_hear 32 = .ok (.iastore, 1) := by decide +kernel
theorem dX8_hear_33 : decode cX8_hear 33 = .ok (.aload_n 0, 1) := by decide +kernel
theorem dX8_hear_34 : decode cX8_hear 34 = .ok (.getfield 35, 3) := by decide +kernel
theorem dX8_hear_37 : decode cX8_hear 37 = .ok (.aload_n 0, 1) := by decide +kernel
theorem dX8_hear_38 : decode cX8_hear 38 = .ok (.getfield 121, 3) := by decide +kernel
theorem dX8_hear_41 : decode cX8_hear 41 = .ok (.iload_n 2, 1) := by decide +kernel
theorem dX8_hear_42 : decode cX8_hear 42 = .ok (.ifCond .eq 7, 3) := by decide +kernel
theorem dX8_hear_45 : decode cX8_hear 45 = .ok (.iconst 1, 1) := by decide +kernel
theorem dX8_hear_46 : decode cX8_hear 46 = .ok (.goto 4, 3) := by decide +kernel
theorem dX8_hear_49 : decode cX8_hear 49 = .ok (.iconst 0, 1) := by decide +kernel
theorem dX8_hear_50 : decode cX8_hear 50 = .ok (.iastore, 1) := by decide +kernel
theorem dX8_hear_51 : decode cX8_hear 51 = .ok (.aload_n 0, 1) := by decide +kernel
theorem dX8_hear_52 : decode cX8_hear 52 = .ok (.getfield 38, 3) := by decide +kernel
theorem dX8_hear_55 : decode cX8_hear 55 = .ok (.aload_n 0, 1) := by decide +kernel
theorem dX8_hear_56 : decode cX8_hear 56 = .ok (.getfield 121, 3) := by decide +kernel
theorem dX8_hear_59 : decode cX8_hear 59 = .ok (.iload_n 3, 1) := by decide +kernel
theorem dX8_hear_60 : decode cX8_hear 60 = .ok (.ifCond .eq 7, 3) := by decide +kernel
theorem dX8_hear_63 : decode cX8_hear 63 = .ok (.iconst 1, 1) := by decide +kernel
theorem dX8_hear_64 : decode cX8_hear 64 = .ok (.goto 4, 3) := by decide +kernel
theorem dX8_hear_67 : decode cX8_hear 67 = .ok (.iconst 0, 1) := by decide +kernel
theorem dX8_hear_68 : decode cX8_hear 68 = .ok (.iastore, 1) := by decide +kernel
theorem dX8_hear_69 : decode cX8_hear 69 = .ok (.aload_n 0, 1) := by decide +kernel
theorem dX8_hear_70 : decode cX8_hear 70 = .ok (.getfield 41, 3) := by decide +kernel
theorem dX8_hear_73 : decode cX8_hear 73 = .ok (.aload_n 0, 1) := by decide +kernel
theorem dX8_hear_74 : decode cX8_hear 74 = .ok (.getfield 121, 3) := by decide +kernel
theorem dX8_hear_77 : decode cX8_hear 77 = .ok (.aload_n 0, 1) := by decide +kernel
theorem dX8_hear_78 : decode cX8_hear 78 = .ok (.getfield 112, 3) := by decide +kernel
theorem dX8_hear_81 : decode cX8_hear 81 = .ok (.iastore, 1) := by decide +kernel
theorem dX8_hear_82 : decode cX8_hear 82 = .ok (.aload_n 0, 1) := by decide +kernel
theorem dX8_hear_83 : decode cX8_hear 83 = .ok (.dup, 1) := by decide +kernel
theorem dX8_hear_84 : decode cX8_hear 84 = .ok (.getfield 121, 3) := by decide +kernel
theorem dX8_hear_87 : decode cX8_hear 87 = .ok (.iconst 1, 1) := by decide +kernel
theorem dX8_hear_88 : decode cX8_hear 88 = .ok (.iadd, 1) := by decide +kernel
theorem dX8_hear_89 : decode cX8_hear 89 = .ok (.putfield 121, 3) := by decide +kernel
theorem dX8_hear_92 : decode cX8_hear 92 = .ok (.aload_n 0, 1) := by decide +kernel
theorem dX8_hear_93 : decode cX8_hear 93 = .ok (.getfield 121, 3) := by decide +kernel
theorem dX8_hear_96 : decode cX8_hear 96 = .ok (.ireturn, 1) := by decide +kernel
theorem dX8_sessionsNow_0 : decode cX8_sessionsNow 0 = .ok (.aload_n 0, 1) := by decide +kernel
theorem dX8_sessionsNow_1 : decode cX8_sessionsNow 1 = .ok (.iload_n 3, 1) := by decide +kernel
theorem dX8_sessionsNow_2 : decode cX8_sessionsNow 2 = .ok (.i2l, 1) := by decide +kernel
theorem dX8_sessionsNow_3 : decode cX8_sessionsNow 3 = .ok (.putfield 214, 3) := by decide +kernel
theorem dX8_sessionsNow_6 : decode cX8_sessionsNow 6 = .ok (.iconst 0, 1) := by decide +kernel
theorem dX8_sessionsNow_7 : decode cX8_sessionsNow 7 = .ok (.istore 5, 2) := by decide +kernel
theorem dX8_sessionsNow_9 : decode cX8_sessionsNow 9 = .ok (.iconst 0, 1) := by decide +kernel
theorem dX8_sessionsNow_10 : decode cX8_sessionsNow 10 = .ok (.istore 6, 2) := by decide +kernel
theorem dX8_sessionsNow_12 : decode cX8_sessionsNow 12 = .ok (.iconst 0, 1) := by decide +kernel
theorem dX8_sessionsNow_13 : decode cX8_sessionsNow 13 = .ok (.istore 7, 2) := by decide +kernel
theorem dX8_sessionsNow_15 : decode cX8_sessionsNow 15 = .ok (.iload 7, 2) := by decide +kernel
theorem dX8_sessionsNow_17 : decode cX8_sessionsNow 17 = .ok (.iload_n 2, 1) := by decide +kernel
theorem dX8_sessionsNow_18 : decode cX8_sessionsNow 18 = .ok (.if_icmp .ge 88, 3) := by decide +kernel
theorem dX8_sessionsNow_21 : decode cX8_sessionsNow 21 = .ok (.aload_n 0, 1) := by decide +kernel
theorem dX8_sessionsNow_22 : decode cX8_sessionsNow 22 = .ok (.aload_n 0, 1) := by decide +kernel
theorem dX8_sessionsNow_23 : decode cX8_sessionsNow 23 = .ok (.getfield 109, 3) := by decide +kernel
theorem dX8_sessionsNow_26 : decode cX8_sessionsNow 26 = .ok (.invokevirtual 224, 3) := by decide +kernel
theorem dX8_sessionsNow_29 : decode cX8_sessionsNow 29 = .ok (.istore 8, 2) := by decide +kernel
theorem dX8_sessionsNow_31 : decode cX8_sessionsNow 31 = .ok (.aload_n 0, 1) := by decide +kernel
theorem dX8_sessionsNow_32 : decode cX8_sessionsNow 32 = .ok (.bipush 10, 2) := by decide +kernel
theorem dX8_sessionsNow_34 : decode cX8_sessionsNow 34 = .ok (.invokevirtual 224, 3) := by decide +kernel
theorem dX8_sessionsNow_37 : decode cX8_sessionsNow 37 = .ok (.aload_n 0, 1) := by decide +kernel
theorem dX8_sessionsNow_38 : decode cX8_sessionsNow 38 = .ok (.iload 8, 2) := by decide +kernel
theorem dX8_sessionsNow_40 : decode cX8_sessionsNow 40 = .ok (.iload 8, 2) := by decide +kernel
theorem dX8_sessionsNow_42 : decode cX8_sessionsNow 42 = .ok (.iload_n 1, 1) := by decide +kernel
theorem dX8_sessionsNow_43 : decode cX8_sessionsNow 43 = .ok (.if_icmp .ne 7, 3) := by decide +kernel
theorem dX8_sessionsNow_46 : decode cX8_sessionsNow 46 = .ok (.iconst 1, 1) := by decide +kernel
theorem dX8_sessionsNow_47 : decode cX8_sessionsNow 47 = .ok (.goto 4, 3) := by decide +kernel
theorem dX8_sessionsNow_50 : decode cX8_sessionsNow 50 = .ok (.iconst 0, 1) := by decide +kernel
theorem dX8_sessionsNow_51 : decode cX8_sessionsNow 51 = .ok (.invokevirtual 132, 3) := by decide +kernel
theorem dX8_sessionsNow_54 : decode cX8_sessionsNow 54 = .ok (.if_icmp .ge 7, 3) := by decide +kernel
theorem dX8_sessionsNow_57 : decode cX8_sessionsNow 57 = .ok (.iconst 1, 1) := by decide +kernel
theorem dX8_sessionsNow_58 : decode cX8_sessionsNow 58 = .ok (.goto 4, 3) := by decide +kernel
theorem dX8_sessionsNow_61 : decode cX8_sessionsNow 61 = .ok (.iconst 0, 1) := by decide +kernel
theorem dX8_sessionsNow_62 : decode cX8_sessionsNow 62 = .ok (.istore 9, 2) := by decide +kernel
theorem dX8_sessionsNow_64 : decode cX8_sessionsNow 64 = .ok (.iload 5, 2) := by decide +kernel
theorem dX8_sessionsNow_66 : decode cX8_sessionsNow 66 = .ok (.iload 9, 2) := by decide +kernel
theorem dX8_sessionsNow_68 : decode cX8_sessionsNow 68 = .ok (.ifCond .eq 7, 3) := by decide +kernel
theorem dX8_sessionsNow_71 : decode cX8_sessionsNow 71 = .ok (.iconst 1, 1) := by decide +kernel
theorem dX8_sessionsNow_72 : decode cX8_sessionsNow 72 = .ok (.goto 4, 3) := by decide +kernel
theorem dX8_sessionsNow_75 : decode cX8_sessionsNow 75 = .ok (.iconst 0, 1) := by decide +kernel
theorem dX8_sessionsNow_76 : decode cX8_sessionsNow 76 = .ok (.iadd, 1) := by decide +kernel
theorem dX8_sessionsNow_77 : decode cX8_sessionsNow 77 = .ok (.istore 5, 2) := by decide +kernel
theorem dX8_sessionsNow_79 : decode cX8_sessionsNow 79 = .ok (.iload 6, 2) := by decide +kernel
theorem dX8_sessionsNow_81 : decode cX8_sessionsNow 81 = .ok (.iload 9, 2) := by decide +kernel
theorem dX8_sessionsNow_83 : decode cX8_sessionsNow 83 = .ok (.ifCond .eq 13, 3) := by decide +kernel
theorem dX8_sessionsNow_86 : decode cX8_sessionsNow 86 = .ok (.iload 8, 2) := by decide +kernel
theorem dX8_sessionsNow_88 : decode cX8_sessionsNow 88 = .ok (.iload_n 1, 1) := by decide +kernel
theorem dX8_sessionsNow_89 : decode cX8_sessionsNow 89 = .ok (.if_icmp .eq 7, 3) := by decide +kernel
theorem dX8_sessionsNow_92 : decode cX8_sessionsNow 92 = .ok (.iconst 1, 1) := by decide +kernel
theorem dX8_sessionsNow_93 : decode cX8_sessionsNow 93 = .ok (.goto 4, 3) := by decide +kernel
theorem dX8_sessionsNow_96 : decode cX8_sessionsNow 96 = .ok (.iconst 0, 1) := by decide +kernel
theorem dX8_sessionsNow_97 : decode cX8_sessionsNow 97 = .ok (.iadd, 1) := by decide +kernel
theorem dX8_sessionsNow_98 : decode cX8_sessionsNow 98 = .ok (.istore 6, 2) := by decide +kernel
theorem dX8_sessionsNow_100 : decode cX8_sessionsNow 100 = .ok (.iinc 7 1, 3) := by decide +kernel
theorem dX8_sessionsNow_103 : decode cX8_sessionsNow 103 = .ok (.goto (-88), 3) := by decide +kernel
theorem dX8_sessionsNow_106 : decode cX8_sessionsNow 106 = .ok (.iload 4, 2) := by decide +kernel
theorem dX8_sessionsNow_108 : decode cX8_sessionsNow 108 = .ok (.ifCond .ne 8, 3) := by decide +kernel
theorem dX8_sessionsNow_111 : decode cX8_sessionsNow 111 = .ok (.iload 5, 2) := by decide +kernel
theorem dX8_sessionsNow_113 : decode cX8_sessionsNow 113 = .ok (.goto 19, 3) := by decide +kernel
theorem dX8_sessionsNow_116 : decode cX8_sessionsNow 116 = .ok (.iload 4, 2) := by decide +kernel
theorem dX8_sessionsNow_118 : decode cX8_sessionsNow 118 = .ok (.iconst 1, 1) := by decide +kernel
theorem dX8_sessionsNow_119 : decode cX8_sessionsNow 119 = .ok (.if_icmp .ne 8, 3) := by decide +kernel
theorem dX8_sessionsNow_122 : decode cX8_sessionsNow 122 = .ok (.iload 6, 2) := by decide +kernel
theorem dX8_sessionsNow_124 : decode cX8_sessionsNow 124 = .ok (.goto 8, 3) := by decide +kernel
theorem dX8_sessionsNow_127 : decode cX8_sessionsNow 127 = .ok (.aload_n 0, 1) := by decide +kernel
theorem dX8_sessionsNow_128 : decode cX8_sessionsNow 128 = .ok (.getfield 214, 3) := by decide +kernel
theorem dX8_sessionsNow_131 : decode cX8_sessionsNow 131 = .ok (.l2i, 1) := by decide +kernel
theorem dX8_sessionsNow_132 : decode cX8_sessionsNow 132 = .ok (.ireturn, 1) := by decide +kernel
theorem dX8_sessions_0 : decode cX8_sessions 0 = .ok (.aload_n 0, 1) := by decide +kernel
theorem dX8_sessions_1 : decode cX8_sessions 1 = .ok (.iload_n 1, 1) := by decide +kernel
theorem dX8_sessions_2 : decode cX8_sessions 2 = .ok (.invokevirtual 138, 3) := by decide +kernel
theorem dX8_sessions_5 : decode cX8_sessions 5 = .ok (.ifCond .ne 6, 3) := by decide +kernel
theorem dX8_sessions_8 : decode cX8_sessions 8 = .ok (.bipush (-101), 2) := by decide +kernel
theorem dX8_sessions_10 : decode cX8_sessions 10 = .ok (.ireturn, 1) := by decide +kernel
theorem dX8_sessions_11 : decode cX8_sessions 11 = .ok (.iload_n 2, 1) := by decide +kernel
theorem dX8_sessions_12 : decode cX8_sessions 12 = .ok (.iconst 1, 1) := by decide +kernel
theorem dX8_sessions_13 : decode cX8_sessions 13 = .ok (.bipush 60, 2) := by decide +kernel
theorem dX8_sessions_15 : decode cX8_sessions 15 = .ok (.invokestatic 79, 3) := by decide +kernel
theorem dX8_sessions_18 : decode cX8_sessions 18 = .ok (.ifCond .eq 29, 3) := by decide +kernel
theorem dX8_sessions_21 : decode cX8_sessions 21 = .ok (.iload_n 3, 1) := by decide +kernel
theorem dX8_sessions_22 : decode cX8_sessions 22 = .ok (.ifCond .lt 25, 3) := by decide +kernel
theorem dX8_sessions_25 : decode cX8_sessions 25 = .ok (.iload 4, 2) := by decide +kernel
theorem dX8_sessions_27 : decode cX8_sessions 27 = .ok (.iconst 0, 1) := by decide +kernel
theorem dX8_sessions_28 : decode cX8_sessions 28 = .ok (.iconst 2, 1) := by decide +kernel
theorem dX8_sessions_29 : decode cX8_sessions 29 = .ok (.invokestatic 79, 3) := by decide +kernel
theorem dX8_sessions_32 : decode cX8_sessions 32 = .ok (.ifCond .eq 15, 3) := by decide +kernel
theorem dX8_sessions_35 : decode cX8_sessions 35 = .ok (.aload_n 0, 1) := by decide +kernel
theorem dX8_sessions_36 : decode cX8_sessions 36 = .ok (.iload_n 1, 1) := by decide +kernel
theorem dX8_sessions_37 : decode cX8_sessions 37 = .ok (.iload_n 2, 1) := by decide +kernel
theorem dX8_sessions_38 : decode cX8_sessions 38 = .ok (.iload_n 3, 1) := by decide +kernel
theorem dX8_sessions_39 : decode cX8_sessions 39 = .ok (.iload 4, 2) := by decide +kernel
theorem dX8_sessions_41 : decode cX8_sessions 41 = .ok (.invokevirtual 227, 3) := by decide +kernel
theorem dX8_sessions_44 : decode cX8_sessions 44 = .ok (.goto 5, 3) := by decide +kernel
theorem dX8_sessions_47 : decode cX8_sessions 47 = .ok (.bipush (-102), 2) := by decide +kernel
theorem dX8_sessions_49 : decode cX8_sessions 49 = .ok (.ireturn, 1) := by decide +kernel
theorem dX8_image_0 : decode cX8_image 0 = .ok (.aload_n 0, 1) := by decide +kernel
theorem dX8_image_1 : decode cX8_image 1 = .ok (.getfield 109, 3) := by decide +kernel
theorem dX8_image_4 : decode cX8_image 4 = .ok (.ifCond .ne 6, 3) := by decide +kernel
theorem dX8_image_7 : decode cX8_image 7 = .ok (.bipush (-103), 2) := by decide +kernel
theorem dX8_image_9 : decode cX8_image 9 = .ok (.ireturn, 1) := by decide +kernel
theorem dX8_image_10 : decode cX8_image 10 = .ok (.aload_n 0, 1) := by decide +kernel
theorem dX8_image_11 : decode cX8_image 11 = .ok (.iconst 1, 1) := by decide +kernel
theorem dX8_image_12 : decode cX8_image 12 = .ok (.putfield 231, 3) := by decide +kernel
theorem dX8_image_15 : decode cX8_image 15 = .ok (.aload_n 0, 1) := by decide +kernel
theorem dX8_image_16 : decode cX8_image 16 = .ok (.aload_n 0, 1) := by decide +kernel
theorem dX8_image_17 : decode cX8_image 17 = .ok (.getfield 115, 3) := by decide +kernel
theorem dX8_image_20 : decode cX8_image 20 = .ok (.putfield 234, 3) := by decide +kernel
theorem dX8_image_23 : decode cX8_image 23 = .ok (.aload_n 0, 1) := by decide +kernel
theorem dX8_image_24 : decode cX8_image 24 = .ok (.aload_n 0, 1) := by decide +kernel
theorem dX8_image_25 : decode cX8_image 25 = .ok (.getfield 112, 3) := by decide +kernel
theorem dX8_image_28 : decode cX8_image 28 = .ok (.putfield 237, 3) := by decide +kernel
theorem dX8_image_31 : decode cX8_image 31 = .ok (.aload_n 0, 1) := by decide +kernel
theorem dX8_image_32 : decode cX8_image 32 = .ok (.aload_n 0, 1) := by decide +kernel
theorem dX8_image_33 : decode cX8_image 33 = .ok (.getfield 118, 3) := by decide +kernel
theorem dX8_image_36 : decode cX8_image 36 = .ok (.putfield 240, 3) := by decide +kernel
theorem dX8_image_39 : decode cX8_image 39 = .ok (.aload_n 0, 1) := by decide +kernel
theorem dX8_image_40 : decode cX8_image 40 = .ok (.aload_n 0, 1) := by decide +kernel
theorem dX8_image_41 : decode cX8_image 41 = .ok (.getfield 121, 3) := by decide +kernel
theorem dX8_image_44 : decode cX8_image 44 = .ok (.putfield 243, 3) := by decide +kernel
theorem dX8_image_47 : decode cX8_image 47 = .ok (.iconst 0, 1) := by decide +kernel
theorem dX8_image_48 : decode cX8_image 48 = .ok (.istore_n 1, 1) := by decide +kernel
theorem dX8_image_49 : decode cX8_image 49 = .ok (.iload_n 1, 1) := by decide +kernel
theorem dX8_image_50 : decode cX8_image 50 = .ok (.iconst 4, 1) := by decide +kernel
theorem dX8_image_51 : decode cX8_image 51 = .ok (.if_icmp .ge 57, 3) := by decide +kernel
theorem dX8_image_54 : decode cX8_image 54 = .ok (.aload_n 0, 1) := by decide +kernel
theorem dX8_image_55 : decode cX8_image 55 = .ok (.getfield 51, 3) := by decide +kernel
theorem dX8_image_58 : decode cX8_image 58 = .ok (.iload_n 1, 1) := by decide +kernel
theorem dX8_image_59 : decode cX8_image 59 = .ok (.aload_n 0, 1) := by decide +kernel
theorem dX8_image_60 : decode cX8_image 60 = .ok (.getfield 19, 3) := by decide +kernel
theorem dX8_image_63 : decode cX8_image 63 = .ok (.iload_n 1, 1) := by decide +kernel
theorem dX8_image_64 : decode cX8_image 64 = .ok (.iaload, 1) := by decide +kernel
theorem dX8_image_65 : decode cX8_image 65 = .ok (.iastore, 1) := by decide +kernel
theorem dX8_image_66 : decode cX8_image 66 = .ok (.aload_n 0, 1) := by decide +kernel
theorem dX8_image_67 : decode cX8_image 67 = .ok (.getfield 54, 3) := by decide +kernel
theorem dX8_image_70 : decode cX8_image 70 = .ok (.iload_n 1, 1) := by decide +kernel
theorem dX8_image_71 : decode cX8_image 71 = .ok (.aload_n 0, 1) := by decide +kernel
theorem dX8_image_72 : decode cX8_image 72 = .ok (.getfield 22, 3) := by decide +kernel
theorem dX8_image_75 : decode cX8_image 75 = .ok (.iload_n 1, 1) := by decide +kernel
theorem dX8_image_76 : decode cX8_image 76 = .ok (.iaload, 1) := by decide +kernel
theorem dX8_image_77 : decode cX8_image 77 = .ok (.iastore, 1) := by decide +kernel
theorem dX8_image_78 : decode cX8_image 78 = .ok (.aload_n 0, 1) := by decide +kernel
theorem dX8_image_79 : decode cX8_image 79 = .ok (.getfield 57, 3) := by decide +kernel
theorem dX8_image_82 : decode cX8_image 82 = .ok (.iload_n 1, 1) := by decide +kernel
theorem dX8_image_83 : decode cX8_image 83 = .ok (.aload_n 0, 1) := by decide +kernel
theorem dX8_image_84 : decode cX8_image 84 = .ok (.getfield 25, 3) := by decide +kernel
theorem dX8_image_87 : decode cX8_image 87 = .ok (.iload_n 1, 1) := by decide +kernel
theorem dX8_image_88 : decode cX8_image 88 = .ok (.iaload, 1) := by decide +kernel
theorem dX8_image_89 : decode cX8_image 89 = .ok (.iastore, 1) := by decide +kernel
theorem dX8_image_90 : decode cX8_image 90 = .ok (.aload_n 0, 1) := by decide +kernel
theorem dX8_image_91 : decode cX8_image 91 = .ok (.getfield 60, 3) := by decide +kernel
theorem dX8_image_94 : decode cX8_image 94 = .ok (.iload_n 1, 1) := by decide +kernel
theorem dX8_image_95 : decode cX8_image 95 = .ok (.aload_n 0, 1) := by decide +kernel
theorem dX8_image_96 : decode cX8_image 96 = .ok (.getfield 28, 3) := by decide +kernel
theorem dX8_image_99 : decode cX8_image 99 = .ok (.iload_n 1, 1) := by decide +kernel
theorem dX8_image_100 : decode cX8_image 100 = .ok (.laload, 1) := by decide +kernel
theorem dX8_image_101 : decode cX8_image 101 = .ok (.lastore, 1) := by decide +kernel
theorem dX8_image_102 : decode cX8_image 102 = .ok (.iinc 1 1, 3) := by decide +kernel
theorem dX8_image_105 : decode cX8_image 105 = .ok (.goto (-56), 3) := by decide +kernel
theorem dX8_image_108 : decode cX8_image 108 = .ok (.iconst 0, 1) := by decide +kernel
theorem dX8_image_109 : decode cX8_image 109 = .ok (.istore_n 1, 1) := by decide +kernel
theorem dX8_image_110 : decode cX8_image 110 = .ok (.iload_n 1, 1) := by decide +kernel
theorem dX8_image_111 : decode cX8_image 111 = .ok (.bipush 6, 2) := by decide +kernel
theorem dX8_image_113 : decode cX8_image 113 = .ok (.if_icmp .ge 57, 3) := by decide +kernel
theorem dX8_image_116 : decode cX8_image 116 = .ok (.aload_n 0, 1) := by decide +kernel
theorem dX8_image_117 : decode cX8_image 117 = .ok (.getfield 63, 3) := by decide +kernel
theorem dX8_image_120 : decode cX8_image 120 = .ok (.iload_n 1, 1) := by decide +kernel
theorem dX8_image_121 : decode cX8_image 121 = .ok (.aload_n 0, 1) := by decide +kernel
theorem dX8_image_122 : decode cX8_image 122 = .ok (.getfield 32, 3) := by decide +kernel
theorem dX8_image_125 : decode cX8_image 125 = .ok (.iload_n 1, 1) := by decide +kernel
theorem dX8_image_126 : decode cX8_image 126 = .ok (.iaload, 1) := by decide +kernel
theorem dX8_image_127 : decode cX8_image 127 = .ok (.iastore, 1) := by decide +kernel
theorem dX8_image_128 : decode cX8_image 128 = .ok (.aload_n 0, 1) := by decide +kernel
theorem dX8_image_129 : decode cX8_image 129 = .ok (.getfield 66, 3) := by decide +kernel
theorem dX8_image_132 : decode cX8_image 132 = .ok (.iload_n 1, 1) := by decide +kernel
theorem dX8_image_133 : decode cX8_image 133 = .ok (.aload_n 0, 1) := by decide +kernel
theorem dX8_image_134 : decode cX8_image 134 = .ok (.getfield 35, 3) := by decide +kernel
theorem dX8_image_137 : decode cX8_image 137 = .ok (.iload_n 1, 1) := by decide +kernel
theorem dX8_image_138 : decode cX8_image 138 = .ok (.iaload, 1) := by decide +kernel
theorem dX8_image_139 : decode cX8_image 139 = .ok (.iastore, 1) := by decide +kernel
theorem dX8_image_140 : decode cX8_image 140 = .ok (.aload_n 0, 1) := by decide +kernel
theorem dX8_image_141 : decode cX8_image 141 = .ok (.getfield 69, 3) := by decide +kernel
theorem dX8_image_144 : decode cX8_image 144 = .ok (.iload_n 1, 1) := by decide +kernel
theorem dX8_image_145 : decode cX8_image 145 = .ok (.aload_n 0, 1) := by decide +kernel
theorem dX8_image_146 : decode cX8_image 146 = .ok (.getfield 38, 3) := by decide +kernel
theorem dX8_image_149 : decode cX8_image 149 = .ok (.iload_n 1, 1) := by decide +kernel
theorem dX8_image_150 : decode cX8_image 150 = .ok (.iaload, 1) := by decide +kernel
theorem dX8_image_151 : decode cX8_image 151 = .ok (.iastore, 1) := by decide +kernel
theorem dX8_image_152 : decode cX8_image 152 = .ok (.aload_n 0, 1) := by decide +kernel
theorem dX8_image_153 : decode cX8_image 153 = .ok (.getfield 72, 3) := by decide +kernel
theorem dX8_image_156 : decode cX8_image 156 = .ok (.iload_n 1, 1) := by decide +kernel
theorem dX8_image_157 : decode cX8_image 157 = .ok (.aload_n 0, 1) := by decide +kernel
theorem dX8_image_158 : decode cX8_image 158 = .ok (.getfield 41, 3) := by decide +kernel
theorem dX8_image_161 : decode cX8_image 161 = .ok (.iload_n 1, 1) := by decide +kernel
theorem dX8_image_162 : decode cX8_image 162 = .ok (.iaload, 1) := by decide +kernel
theorem dX8_image_163 : decode cX8_image 163 = .ok (.iastore, 1) := by decide +kernel
theorem dX8_image_164 : decode cX8_image 164 = .ok (.iinc 1 1, 3) := by decide +kernel
theorem dX8_image_167 : decode cX8_image 167 = .ok (.goto (-57), 3) := by decide +kernel
theorem dX8_image_170 : decode cX8_image 170 = .ok (.aload_n 0, 1) := by decide +kernel
theorem dX8_image_171 : decode cX8_image 171 = .ok (.getfield 118, 3) := by decide +kernel
theorem dX8_image_174 : decode cX8_image 174 = .ok (.ireturn, 1) := by decide +kernel
theorem dX8_restore_0 : decode cX8_restore 0 = .ok (.aload_n 0, 1) := by decide +kernel
theorem dX8_restore_1 : decode cX8_restore 1 = .ok (.getfield 231, 3) := by decide +kernel
theorem dX8_restore_4 : decode cX8_restore 4 = .ok (.ifCond .eq 14, 3) := by decide +kernel
theorem dX8_restore_7 : decode cX8_restore 7 = .ok (.aload_n 0, 1) := by decide +kernel
theorem dX8_restore_8 : decode cX8_restore 8 = .ok (.getfield 234, 3) := by decide +kernel
theorem dX8_restore_11 : decode cX8_restore 11 = .ok (.aload_n 0, 1) := by decide +kernel
theorem dX8_restore_12 : decode cX8_restore 12 = .ok (.getfield 115, 3) := by decide +kernel
theorem dX8_restore_15 : decode cX8_restore 15 = .ok (.if_icmp .eq 6, 3) := by decide +kernel
theorem dX8_restore_18 : decode cX8_restore 18 = .ok (.bipush (-103), 2) := by decide +kernel
theorem dX8_restore_20 : decode cX8_restore 20 = .ok (.ireturn, 1) := by decide +kernel
theorem dX8_restore_21 : decode cX8_restore 21 = .ok (.aload_n 0, 1) := by decide +kernel
theorem dX8_restore_22 : decode cX8_restore 22 = .ok (.aload_n 0, 1) := by decide +kernel
theorem dX8_restore_23 : decode cX8_restore 23 = .ok (.getfield 237, 3) := by decide +kernel
theorem dX8_restore_26 : decode cX8_restore 26 = .ok (.putfield 112, 3) := by decide +kernel
theorem dX8_restore_29 : decode cX8_restore 29 = .ok (.aload_n 0, 1) := by decide +kernel
theorem dX8_restore_30 : decode cX8_restore 30 = .ok (.aload_n 0, 1) := by decide +kernel
theorem dX8_restore_31 : decode cX8_restore 31 = .ok (.getfield 240, 3) := by decide +kernel
theorem dX8_restore_34 : decode cX8_restore 34 = .ok (.putfield 118, 3) := by decide +kernel
theorem dX8_restore_37 : decode cX8_restore 37 = .ok (.aload_n 0, 1) := by decide +kernel
theorem dX8_restore_38 : decode cX8_restore 38 = .ok (.aload_n 0, 1) := by decide +kernel
theorem dX8_restore_39 : decode cX8_restore 39 = .ok (.getfield 243, 3) := by decide +kernel
theorem dX8_restore_42 : decode cX8_restore 42 = .ok (.putfield 121, 3) := by decide +kernel
theorem dX8_restore_45 : decode cX8_restore 45 = .ok (.iconst 0, 1) := by decide +kernel
theorem dX8_restore_46 : decode cX8_restore 46 = .ok (.istore_n 1, 1) := by decide +kernel
theorem dX8_restore_47 : decode cX8_restore 47 = .ok (.iload_n 1, 1) := by decide +kernel
theorem dX8_restore_48 : decode cX8_restore 48 = .ok (.iconst 4, 1) := by decide +kernel
theorem dX8_restore_49 : decode cX8_restore 49 = .ok (.if_icmp .ge 57, 3) := by decide +kernel
theorem dX8_restore_52 : decode cX8_restore 52 = .ok (.aload_n 0, 1) := by decide +kernel
theorem dX8_restore_53 : decode cX8_restore 53 = .ok (.getfield 19, 3) := by decide +kernel
theorem dX8_restore_56 : decode cX8_restore 56 = .ok (.iload_n 1, 1) := by decide +kernel
theorem dX8_restore_57 : decode cX8_restore 57 = .ok (.aload_n 0, 1) := by decide +kernel
theorem dX8_restore_58 : decode cX8_restore 58 = .ok (.getfield 51, 3) := by decide +kernel
theorem dX8_restore_61 : decode cX8_restore 61 = .ok (.iload_n 1, 1) := by decide +kernel
theorem dX8_restore_62 : decode cX8_restore 62 = .ok (.iaload, 1) := by decide +kernel
theorem dX8_restore_63 : decode cX8_restore 63 = .ok (.iastore, 1) := by decide +kernel
theorem dX8_restore_64 : decode cX8_restore 64 = .ok (.aload_n 0, 1) := by decide +kernel
theorem dX8_restore_65 : decode cX8_restore 65 = .ok (.getfield 22, 3) := by decide +kernel
theorem dX8_restore_68 : decode cX8_restore 68 = .ok (.iload_n 1, 1) := by decide +kernel
theorem dX8_restore_69 : decode cX8_restore 69 = .ok (.aload_n 0, 1) := by decide +kernel
theorem dX8_restore_70 : decode cX8_restore 70 = .ok (.getfield 54, 3) := by decide +kernel
theorem dX8_restore_73 : decode cX8_restore 73 = .ok (.iload_n 1, 1) := by decide +kernel
theorem dX8_restore_74 : decode cX8_restore 74 = .ok (.iaload, 1) := by decide +kernel
theorem dX8_restore_75 : decode cX8_restore 75 = .ok (.iastore, 1) := by decide +kernel
theorem dX8_restore_76 : decode cX8_restore 76 = .ok (.aload_n 0, 1) := by decide +kernel
theorem dX8_restore_77 : decode cX8_restore 77 = .ok (.getfield 25, 3) := by decide +kernel
theorem dX8_restore_80 : decode cX8_restore 80 = .ok (.iload_n 1, 1) := by decide +kernel
theorem dX8_restore_81 : decode cX8_restore 81 = .ok (.aload_n 0, 1) := by decide +kernel
theorem dX8_restore_82 : decode cX8_restore 82 = .ok (.getfield 57, 3) := by decide +kernel
theorem dX8_restore_85 : decode cX8_restore 85 = .ok (.iload_n 1, 1) := by decide +kernel
theorem dX8_restore_86 : decode cX8_restore 86 = .ok (.iaload, 1) := by decide +kernel
theorem dX8_restore_87 : decode cX8_restore 87 = .ok (.iastore, 1) := by decide +kernel
theorem dX8_restore_88 : decode cX8_restore 88 = .ok (.aload_n 0, 1) := by decide +kernel
theorem dX8_restore_89 : decode cX8_restore 89 = .ok (.getfield 28, 3) := by decide +kernel
theorem dX8_restore_92 : decode cX8_restore 92 = .ok (.iload_n 1, 1) := by decide +kernel
theorem dX8_restore_93 : decode cX8_restore 93 = .ok (.aload_n 0, 1) := by decide +kernel
theorem dX8_restore_94 : decode cX8_restore 94 = .ok (.getfield 60, 3) := by decide +kernel
theorem dX8_restore_97 : decode cX8_restore 97 = .ok (.iload_n 1, 1) := by decide +kernel
theorem dX8_restore_98 : decode cX8_restore 98 = .ok (.laload, 1) := by decide +kernel
theorem dX8_restore_99 : decode cX8_restore 99 = .ok (.lastore, 1) := by decide +kernel
theorem dX8_restore_100 : decode cX8_restore 100 = .ok (.iinc 1 1, 3) := by decide +kernel
theorem dX8_restore_103 : decode cX8_restore 103 = .ok (.goto (-56), 3) := by decide +kernel
theorem dX8_restore_106 : decode cX8_restore 106 = .ok (.iconst 0, 1) := by decide +kernel
theorem dX8_restore_107 : decode cX8_restore 107 = .ok (.istore_n 1, 1) := by decide +kernel
theorem dX8_restore_108 : decode cX8_restore 108 = .ok (.iload_n 1, 1) := by decide +kernel
theorem dX8_restore_109 : decode cX8_restore 109 = .ok (.bipush 6, 2) := by decide +kernel
theorem dX8_restore_111 : decode cX8_restore 111 = .ok (.if_icmp .ge 57, 3) := by decide +kernel
theorem dX8_restore_114 : decode cX8_restore 114 = .ok (.aload_n 0, 1) := by decide +kernel
theorem dX8_restore_115 : decode cX8_restore 115 = .ok (.getfield 32, 3) := by decide +kernel
theorem dX8_restore_118 : decode cX8_restore 118 = .ok (.iload_n 1, 1) := by decide +kernel
theorem dX8_restore_119 : decode cX8_restore 119 = .ok (.aload_n 0, 1) := by decide +kernel
theorem dX8_restore_120 : decode cX8_restore 120 = .ok (.getfield 63, 3) := by decide +kernel
theorem dX8_restore_123 : decode cX8_restore 123 = .ok (.iload_n 1, 1) := by decide +kernel
theorem dX8_restore_124 : decode cX8_restore 124 = .ok (.iaload, 1) := by decide +kernel
theorem dX8_restore_125 : decode cX8_restore 125 = .ok (.iastore, 1) := by decide +kernel
theorem dX8_restore_126 : decode cX8_restore 126 = .ok (.aload_n 0, 1) := by decide +kernel
theorem dX8_restore_127 : decode cX8_restore 127 = .ok (.getfield 35, 3) := by decide +kernel
theorem dX8_restore_130 : decode cX8_restore 130 = .ok (.iload_n 1, 1) := by decide +kernel
theorem dX8_restore_131 : decode cX8_restore 131 = .ok (.aload_n 0, 1) := by decide +kernel
theorem dX8_restore_132 : decode cX8_restore 132 = .ok (.getfield 66, 3) := by decide +kernel
theorem dX8_restore_135 : decode cX8_restore 135 = .ok (.iload_n 1, 1) := by decide +kernel
theorem dX8_restore_136 : decode cX8_restore 136 = .ok (.iaload, 1) := by decide +kernel
theorem dX8_restore_137 : decode cX8_restore 137 = .ok (.iastore, 1) := by decide +kernel
theorem dX8_restore_138 : decode cX8_restore 138 = .ok (.aload_n 0, 1) := by decide +kernel
theorem dX8_restore_139 : decode cX8_restore 139 = .ok (.getfield 38, 3) := by decide +kernel
theorem dX8_restore_142 : decode cX8_restore 142 = .ok (.iload_n 1, 1) := by decide +kernel
theorem dX8_restore_143 : decode cX8_restore 143 = .ok (.aload_n 0, 1) := by decide +kernel
theorem dX8_restore_144 : decode cX8_restore 144 = .ok (.getfield 69, 3) := by decide +kernel
theorem dX8_restore_147 : decode cX8_restore 147 = .ok (.iload_n 1, 1) := by decide +kernel
theorem dX8_restore_148 : decode cX8_restore 148 = .ok (.iaload, 1) := by decide +kernel
theorem dX8_restore_149 : decode cX8_restore 149 = .ok (.iastore, 1) := by decide +kernel
theorem dX8_restore_150 : decode cX8_restore 150 = .ok (.aload_n 0, 1) := by decide +kernel
theorem dX8_restore_151 : decode cX8_restore 151 = .ok (.getfield 41, 3) := by decide +kernel
theorem dX8_restore_154 : decode cX8_restore 154 = .ok (.iload_n 1, 1) := by decide +kernel
theorem dX8_restore_155 : decode cX8_restore 155 = .ok (.aload_n 0, 1) := by decide +kernel
theorem dX8_restore_156 : decode cX8_restore 156 = .ok (.getfield 72, 3) := by decide +kernel
theorem dX8_restore_159 : decode cX8_restore 159 = .ok (.iload_n 1, 1) := by decide +kernel
theorem dX8_restore_160 : decode cX8_restore 160 = .ok (.iaload, 1) := by decide +kernel
theorem dX8_restore_161 : decode cX8_restore 161 = .ok (.iastore, 1) := by decide +kernel
theorem dX8_restore_162 : decode cX8_restore 162 = .ok (.iinc 1 1, 3) := by decide +kernel
theorem dX8_restore_165 : decode cX8_restore 165 = .ok (.goto (-57), 3) := by decide +kernel
theorem dX8_restore_168 : decode cX8_restore 168 = .ok (.aload_n 0, 1) := by decide +kernel
theorem dX8_restore_169 : decode cX8_restore 169 = .ok (.getfield 118, 3) := by decide +kernel
theorem dX8_restore_172 : decode cX8_restore 172 = .ok (.ireturn, 1) := by decide +kernel
theorem dX8_sum_0 : decode cX8_sum 0 = .ok (.iconst 0, 1) := by decide +kernel
theorem dX8_sum_1 : decode cX8_sum 1 = .ok (.istore_n 2, 1) := by decide +kernel
theorem dX8_sum_2 : decode cX8_sum 2 = .ok (.iconst 0, 1) := by decide +kernel
theorem dX8_sum_3 : decode cX8_sum 3 = .ok (.istore_n 3, 1) := by decide +kernel
theorem dX8_sum_4 : decode cX8_sum 4 = .ok (.iload_n 3, 1) := by decide +kernel
theorem dX8_sum_5 : decode cX8_sum 5 = .ok (.aload_n 0, 1) := by decide +kernel
theorem dX8_sum_6 : decode cX8_sum 6 = .ok (.getfield 109, 3) := by decide +kernel
theorem dX8_sum_9 : decode cX8_sum 9 = .ok (.if_icmp .ge 18, 3) := by decide +kernel
theorem dX8_sum_12 : decode cX8_sum 12 = .ok (.iload_n 2, 1) := by decide +kernel
theorem dX8_sum_13 : decode cX8_sum 13 = .ok (.aload_n 0, 1) := by decide +kernel
theorem dX8_sum_14 : decode cX8_sum 14 = .ok (.iload_n 3, 1) := by decide +kernel
theorem dX8_sum_15 : decode cX8_sum 15 = .ok (.iload_n 1, 1) := by decide +kernel
theorem dX8_sum_16 : decode cX8_sum 16 = .ok (.invokevirtual 142, 3) := by decide +kernel
theorem dX8_sum_19 : decode cX8_sum 19 = .ok (.iadd, 1) := by decide +kernel
theorem dX8_sum_20 : decode cX8_sum 20 = .ok (.istore_n 2, 1) := by decide +kernel
theorem dX8_sum_21 : decode cX8_sum 21 = .ok (.iinc 3 1, 3) := by decide +kernel
theorem dX8_sum_24 : decode cX8_sum 24 = .ok (.goto (-20), 3) := by decide +kernel
theorem dX8_sum_27 : decode cX8_sum 27 = .ok (.iload_n 2, 1) := by decide +kernel
theorem dX8_sum_28 : decode cX8_sum 28 = .ok (.ireturn, 1) := by decide +kernel
theorem dX8_howMany_0 : decode cX8_howMany 0 = .ok (.iload_n 1, 1) := by decide +kernel
theorem dX8_howMany_1 : decode cX8_howMany 1 = .ok (.tableswitch 99 0 8 #[51, 56, 61, 66, 73, 79, 84, 89, 94], 51) := by decide +kernel
theorem dX8_howMany_52 : decode cX8_howMany 52 = .ok (.aload_n 0, 1) := by decide +kernel
theorem dX8_howMany_53 : decode cX8_howMany 53 = .ok (.getfield 109, 3) := by decide +kernel
theorem dX8_howMany_56 : decode cX8_howMany 56 = .ok (.ireturn, 1) := by decide +kernel
theorem dX8_howMany_57 : decode cX8_howMany 57 = .ok (.aload_n 0, 1) := by decide +kernel
theorem dX8_howMany_58 : decode cX8_howMany 58 = .ok (.getfield 112, 3) := by decide +kernel
theorem dX8_howMany_61 : decode cX8_howMany 61 = .ok (.ireturn, 1) := by decide +kernel
theorem dX8_howMany_62 : decode cX8_howMany 62 = .ok (.aload_n 0, 1) := by decide +kernel
theorem dX8_howMany_63 : decode cX8_howMany 63 = .ok (.getfield 118, 3) := by decide +kernel
theorem dX8_howMany_66 : decode cX8_howMany 66 = .ok (.ireturn, 1) := by decide +kernel
theorem dX8_howMany_67 : decode cX8_howMany 67 = .ok (.aload_n 0, 1) := by decide +kernel
theorem dX8_howMany_68 : decode cX8_howMany 68 = .ok (.bipush 7, 2) := by decide +kernel
theorem dX8_howMany_70 : decode cX8_howMany 70 = .ok (.invokevirtual 246, 3) := by decide +kernel
theorem dX8_howMany_73 : decode cX8_howMany 73 = .ok (.ireturn, 1) := by decide +kernel
theorem dX8_howMany_74 : decode cX8_howMany 74 = .ok (.aload_n 0, 1) := by decide +kernel
theorem dX8_howMany_75 : decode cX8_howMany 75 = .ok (.iconst 3, 1) := by decide +kernel
theorem dX8_howMany_76 : decode cX8_howMany 76 = .ok (.invokevirtual 246, 3) := by decide +kernel
theorem dX8_howMany_79 : decode cX8_howMany 79 = .ok (.ireturn, 1) := by decide +kernel
theorem dX8_howMany_80 : decode cX8_howMany 80 = .ok (.aload_n 0, 1) := by decide +kernel
theorem dX8_howMany_81 : decode cX8_howMany 81 = .ok (.getfield 121, 3) := by decide +kernel
theorem dX8_howMany_84 : decode cX8_howMany 84 = .ok (.ireturn, 1) := by decide +kernel
theorem dX8_howMany_85 : decode cX8_howMany 85 = .ok (.aload_n 0, 1) := by decide +kernel
theorem dX8_howMany_86 : decode cX8_howMany 86 = .ok (.getfield 83, 3) := by decide +kernel
theorem dX8_howMany_89 : decode cX8_howMany 89 = .ok (.ireturn, 1) := by decide +kernel
theorem dX8_howMany_90 : decode cX8_howMany 90 = .ok (.aload_n 0, 1) := by decide +kernel
theorem dX8_howMany_91 : decode cX8_howMany 91 = .ok (.getfield 115, 3) := by decide +kernel
theorem dX8_howMany_94 : decode cX8_howMany 94 = .ok (.ireturn, 1) := by decide +kernel
theorem dX8_howMany_95 : decode cX8_howMany 95 = .ok (.aload_n 0, 1) := by decide +kernel
theorem dX8_howMany_96 : decode cX8_howMany 96 = .ok (.getfield 190, 3) := by decide +kernel
theorem dX8_howMany_99 : decode cX8_howMany 99 = .ok (.ireturn, 1) := by decide +kernel
theorem dX8_howMany_100 : decode cX8_howMany 100 = .ok (.bipush (-102), 2) := by decide +kernel
theorem dX8_howMany_102 : decode cX8_howMany 102 = .ok (.ireturn, 1) := by decide +kernel
theorem dX8_mix_0 : decode cX8_mix 0 = .ok (.aload_n 0, 1) := by decide +kernel
theorem dX8_mix_1 : decode cX8_mix 1 = .ok (.ldc2_w 252, 3) := by decide +kernel
theorem dX8_mix_4 : decode cX8_mix 4 = .ok (.aload_n 0, 1) := by decide +kernel
theorem dX8_mix_5 : decode cX8_mix 5 = .ok (.getfield 254, 3) := by decide +kernel
theorem dX8_mix_8 : decode cX8_mix 8 = .ok (.lmul, 1) := by decide +kernel
theorem dX8_mix_9 : decode cX8_mix 9 = .ok (.lload_n 1, 1) := by decide +kernel
theorem dX8_mix_10 : decode cX8_mix 10 = .ok (.ladd, 1) := by decide +kernel
theorem dX8_mix_11 : decode cX8_mix 11 = .ok (.putfield 254, 3) := by decide +kernel
theorem dX8_mix_14 : decode cX8_mix 14 = .ok (.return_, 1) := by decide +kernel
theorem dX8_mixOne_0 : decode cX8_mixOne 0 = .ok (.iconst 0, 1) := by decide +kernel
theorem dX8_mixOne_1 : decode cX8_mixOne 1 = .ok (.istore_n 2, 1) := by decide +kernel
theorem dX8_mixOne_2 : decode cX8_mixOne 2 = .ok (.iload_n 2, 1) := by decide +kernel
theorem dX8_mixOne_3 : decode cX8_mixOne 3 = .ok (.bipush 9, 2) := by decide +kernel
theorem dX8_mixOne_5 : decode cX8_mixOne 5 = .ok (.if_icmp .ge 20, 3) := by decide +kernel
theorem dX8_mixOne_8 : decode cX8_mixOne 8 = .ok (.aload_n 0, 1) := by decide +kernel
theorem dX8_mixOne_9 : decode cX8_mixOne 9 = .ok (.aload_n 0, 1) := by decide +kernel
theorem dX8_mixOne_10 : decode cX8_mixOne 10 = .ok (.iload_n 1, 1) := by decide +kernel
theorem dX8_mixOne_11 : decode cX8_mixOne 11 = .ok (.iload_n 2, 1) := by decide +kernel
theorem dX8_mixOne_12 : decode cX8_mixOne 12 = .ok (.invokevirtual 142, 3) := by decide +kernel
theorem dX8_mixOne_15 : decode cX8_mixOne 15 = .ok (.i2l, 1) := by decide +kernel
theorem dX8_mixOne_16 : decode cX8_mixOne 16 = .ok (.invokevirtual 257, 3) := by decide +kernel
theorem dX8_mixOne_19 : decode cX8_mixOne 19 = .ok (.iinc 2 1, 3) := by decide +kernel
theorem dX8_mixOne_22 : decode cX8_mixOne 22 = .ok (.goto (-20), 3) := by decide +kernel
theorem dX8_mixOne_25 : decode cX8_mixOne 25 = .ok (.aload_n 0, 1) := by decide +kernel
theorem dX8_mixOne_26 : decode cX8_mixOne 26 = .ok (.aload_n 0, 1) := by decide +kernel
theorem dX8_mixOne_27 : decode cX8_mixOne 27 = .ok (.getfield 28, 3) := by decide +kernel
theorem dX8_mixOne_30 : decode cX8_mixOne 30 = .ok (.iload_n 1, 1) := by decide +kernel
theorem dX8_mixOne_31 : decode cX8_mixOne 31 = .ok (.laload, 1) := by decide +kernel
theorem dX8_mixOne_32 : decode cX8_mixOne 32 = .ok (.aload_n 0, 1) := by decide +kernel
theorem dX8_mixOne_33 : decode cX8_mixOne 33 = .ok (.invokevirtual 165, 3) := by decide +kernel
theorem dX8_mixOne_36 : decode cX8_mixOne 36 = .ok (.iconst 0, 1) := by decide +kernel
theorem dX8_mixOne_37 : decode cX8_mixOne 37 = .ok (.invokestatic 169, 3) := by decide +kernel
theorem dX8_mixOne_40 : decode cX8_mixOne 40 = .ok (.invokevirtual 257, 3) := by decide +kernel
theorem dX8_mixOne_43 : decode cX8_mixOne 43 = .ok (.aload_n 0, 1) := by decide +kernel
theorem dX8_mixOne_44 : decode cX8_mixOne 44 = .ok (.aload_n 0, 1) := by decide +kernel
theorem dX8_mixOne_45 : decode cX8_mixOne 45 = .ok (.getfield 28, 3) := by decide +kernel
theorem dX8_mixOne_48 : decode cX8_mixOne 48 = .ok (.iload_n 1, 1) := by decide +kernel
theorem dX8_mixOne_49 : decode cX8_mixOne 49 = .ok (.laload, 1) := by decide +kernel
theorem dX8_mixOne_50 : decode cX8_mixOne 50 = .ok (.aload_n 0, 1) := by decide +kernel
theorem dX8_mixOne_51 : decode cX8_mixOne 51 = .ok (.invokevirtual 165, 3) := by decide +kernel
theorem dX8_mixOne_54 : decode cX8_mixOne 54 = .ok (.iconst 1, 1) := by decide +kernel
theorem dX8_mixOne_55 : decode cX8_mixOne 55 = .ok (.invokestatic 169, 3) := by decide +kernel
theorem dX8_mixOne_58 : decode cX8_mixOne 58 = .ok (.invokevirtual 257, 3) := by decide +kernel
theorem dX8_mixOne_61 : decode cX8_mixOne 61 = .ok (.iconst 0, 1) := by decide +kernel
theorem dX8_mixOne_62 : decode cX8_mixOne 62 = .ok (.istore_n 2, 1) := by decide +kernel
theorem dX8_mixOne_63 : decode cX8_mixOne 63 = .ok (.iload_n 2, 1) := by decide +kernel
theorem dX8_mixOne_64 : decode cX8_mixOne 64 = .ok (.iconst 3, 1) := by decide +kernel
theorem dX8_mixOne_65 : decode cX8_mixOne 65 = .ok (.if_icmp .ge 19, 3) := by decide +kernel
theorem dX8_mixOne_68 : decode cX8_mixOne 68 = .ok (.aload_n 0, 1) := by decide +kernel
theorem dX8_mixOne_69 : decode cX8_mixOne 69 = .ok (.aload_n 0, 1) := by decide +kernel
theorem dX8_mixOne_70 : decode cX8_mixOne 70 = .ok (.iload_n 1, 1) := by decide +kernel
theorem dX8_mixOne_71 : decode cX8_mixOne 71 = .ok (.iload_n 2, 1) := by decide +kernel
theorem dX8_mixOne_72 : decode cX8_mixOne 72 = .ok (.invokevirtual 203, 3) := by decide +kernel
theorem dX8_mixOne_75 : decode cX8_mixOne 75 = .ok (.invokevirtual 257, 3) := by decide +kernel
theorem dX8_mixOne_78 : decode cX8_mixOne 78 = .ok (.iinc 2 1, 3) := by decide +kernel
theorem dX8_mixOne_81 : decode cX8_mixOne 81 = .ok (.goto (-18), 3) := by decide +kernel
theorem dX8_mixOne_84 : decode cX8_mixOne 84 = .ok (.aload_n 0, 1) := by decide +kernel
theorem dX8_mixOne_85 : decode cX8_mixOne 85 = .ok (.aload_n 0, 1) := by decide +kernel
theorem dX8_mixOne_86 : decode cX8_mixOne 86 = .ok (.iload_n 1, 1) := by decide +kernel
theorem dX8_mixOne_87 : decode cX8_mixOne 87 = .ok (.invokevirtual 209, 3) := by decide +kernel
theorem dX8_mixOne_90 : decode cX8_mixOne 90 = .ok (.i2l, 1) := by decide +kernel
theorem dX8_mixOne_91 : decode cX8_mixOne 91 = .ok (.invokevirtual 257, 3) := by decide +kernel
theorem dX8_mixOne_94 : decode cX8_mixOne 94 = .ok (.return_, 1) := by decide +kernel
