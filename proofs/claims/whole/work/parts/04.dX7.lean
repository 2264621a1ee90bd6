theorem dX7_init_0 : decode cX7_init 0 = .ok (.aload_n 0, 1) := by decide +kernel
theorem dX7_init_1 : decode cX7_init 1 = .ok (.invokespecial 1, 3) := by decide +kernel
theorem dX7_init_4 : decode cX7_init 4 = .ok (.aload_n 0, 1) := by decide +kernel
theorem dX7_init_5 : decode cX7_init 5 = .ok (.new 7, 3) := by decide +kernel
theorem dX7_init_8 : decode cX7_init 8 = .ok (.dup, 1) := by decide +kernel
theorem dX7_init_9 : decode cX7_init 9 = .ok (.invokespecial 9, 3) := by decide +kernel
theorem dX7_init_12 : decode cX7_init 12 = .ok (.putfield 10, 3) := by decide +kernel
theorem dX7_init_15 : decode cX7_init 15 = .ok (.aload_n 0, 1) := by decide +kernel
theorem dX7_init_16 : decode cX7_init 16 = .ok (.iconst 4, 1) := by decide +kernel
theorem dX7_init_17 : decode cX7_init 17 = .ok (.anewarray 16, 3) := by decide +kernel
theorem dX7_init_20 : decode cX7_init 20 = .ok (.putfield 18, 3) := by decide +kernel
theorem dX7_init_23 : decode cX7_init 23 = .ok (.aload_n 0, 1) := by decide +kernel
theorem dX7_init_24 : decode cX7_init 24 = .ok (.new 22, 3) := by decide +kernel
theorem dX7_init_27 : decode cX7_init 27 = .ok (.dup, 1) := by decide +kernel
theorem dX7_init_28 : decode cX7_init 28 = .ok (.invokespecial 24, 3) := by decide +kernel
theorem dX7_init_31 : decode cX7_init 31 = .ok (.putfield 25, 3) := by decide +kernel
theorem dX7_init_34 : decode cX7_init 34 = .ok (.aload_n 0, 1) := by decide +kernel
theorem dX7_init_35 : decode cX7_init 35 = .ok (.new 22, 3) := by decide +kernel
theorem dX7_init_38 : decode cX7_init 38 = .ok (.dup, 1) := by decide +kernel
theorem dX7_init_39 : decode cX7_init 39 = .ok (.invokespecial 24, 3) := by decide +kernel
theorem dX7_init_42 : decode cX7_init 42 = .ok (.putfield 29, 3) := by decide +kernel
theorem dX7_init_45 : decode cX7_init 45 = .ok (.aload_n 0, 1) := by decide +kernel
theorem dX7_init_46 : decode cX7_init 46 = .ok (.iconst 4, 1) := by decide +kernel
theorem dX7_init_47 : decode cX7_init 47 = .ok (.iconst 4, 1) := by decide +kernel
theorem dX7_init_48 : decode cX7_init 48 = .ok (.multianewarray 32 2, 4) := by decide +kernel
theorem dX7_init_52 : decode cX7_init 52 = .ok (.putfield 34, 3) := by decide +kernel
theorem dX7_init_55 : decode cX7_init 55 = .ok (.return_, 1) := by decide +kernel
theorem dX7_letter_0 : decode cX7_letter 0 = .ok (.iload_n 1, 1) := by decide +kernel
theorem dX7_letter_1 : decode cX7_letter 1 = .ok (.bipush 32, 2) := by decide +kernel
theorem dX7_letter_3 : decode cX7_letter 3 = .ok (.if_icmp .lt 9, 3) := by decide +kernel
theorem dX7_letter_6 : decode cX7_letter 6 = .ok (.iload_n 1, 1) := by decide +kernel
theorem dX7_letter_7 : decode cX7_letter 7 = .ok (.bipush 126, 2) := by decide +kernel
theorem dX7_letter_9 : decode cX7_letter 9 = .ok (.if_icmp .le 6, 3) := by decide +kernel
theorem dX7_letter_12 : decode cX7_letter 12 = .ok (.bipush (-102), 2) := by decide +kernel
theorem dX7_letter_14 : decode cX7_letter 14 = .ok (.ireturn, 1) := by decide +kernel
theorem dX7_letter_15 : decode cX7_letter 15 = .ok (.aload_n 0, 1) := by decide +kernel
theorem dX7_letter_16 : decode cX7_letter 16 = .ok (.getfield 10, 3) := by decide +kernel
theorem dX7_letter_19 : decode cX7_letter 19 = .ok (.iload_n 1, 1) := by decide +kernel
theorem dX7_letter_20 : decode cX7_letter 20 = .ok (.invokevirtual 37, 3) := by decide +kernel
theorem dX7_letter_23 : decode cX7_letter 23 = .ok (.ifCond .eq 13, 3) := by decide +kernel
theorem dX7_letter_26 : decode cX7_letter 26 = .ok (.aload_n 0, 1) := by decide +kernel
theorem dX7_letter_27 : decode cX7_letter 27 = .ok (.getfield 10, 3) := by decide +kernel
theorem dX7_letter_30 : decode cX7_letter 30 = .ok (.getfield 41, 3) := by decide +kernel
theorem dX7_letter_33 : decode cX7_letter 33 = .ok (.goto 5, 3) := by decide +kernel
theorem dX7_letter_36 : decode cX7_letter 36 = .ok (.bipush (-104), 2) := by decide +kernel
theorem dX7_letter_38 : decode cX7_letter 38 = .ok (.ireturn, 1) := by decide +kernel
theorem dX7_blank_0 : decode cX7_blank 0 = .ok (.aload_n 0, 1) := by decide +kernel
theorem dX7_blank_1 : decode cX7_blank 1 = .ok (.getfield 10, 3) := by decide +kernel
theorem dX7_blank_4 : decode cX7_blank 4 = .ok (.getfield 41, 3) := by decide +kernel
theorem dX7_blank_7 : decode cX7_blank 7 = .ok (.istore_n 1, 1) := by decide +kernel
theorem dX7_blank_8 : decode cX7_blank 8 = .ok (.aload_n 0, 1) := by decide +kernel
theorem dX7_blank_9 : decode cX7_blank 9 = .ok (.getfield 10, 3) := by decide +kernel
theorem dX7_blank_12 : decode cX7_blank 12 = .ok (.iconst 0, 1) := by decide +kernel
theorem dX7_blank_13 : decode cX7_blank 13 = .ok (.putfield 41, 3) := by decide +kernel
theorem dX7_blank_16 : decode cX7_blank 16 = .ok (.iload_n 1, 1) := by decide +kernel
theorem dX7_blank_17 : decode cX7_blank 17 = .ok (.ireturn, 1) := by decide +kernel
theorem dX7_fault_0 : decode cX7_fault 0 = .ok (.aload_n 0, 1) := by decide +kernel
theorem dX7_fault_1 : decode cX7_fault 1 = .ok (.getfield 10, 3) := by decide +kernel
theorem dX7_fault_4 : decode cX7_fault 4 = .ok (.invokevirtual 45, 3) := by decide +kernel
theorem dX7_fault_7 : decode cX7_fault 7 = .ok (.ireturn, 1) := by decide +kernel
theorem dX7_court_0 : decode cX7_court 0 = .ok (.aload_n 0, 1) := by decide +kernel
theorem dX7_court_1 : decode cX7_court 1 = .ok (.getfield 10, 3) := by decide +kernel
theorem dX7_court_4 : decode cX7_court 4 = .ok (.invokevirtual 49, 3) := by decide +kernel
theorem dX7_court_7 : decode cX7_court 7 = .ok (.ifCond .ne 6, 3) := by decide +kernel
theorem dX7_court_10 : decode cX7_court 10 = .ok (.bipush (-103), 2) := by decide +kernel
theorem dX7_court_12 : decode cX7_court 12 = .ok (.ireturn, 1) := by decide +kernel
theorem dX7_court_13 : decode cX7_court 13 = .ok (.aload_n 0, 1) := by decide +kernel
theorem dX7_court_14 : decode cX7_court 14 = .ok (.aload_n 0, 1) := by decide +kernel
theorem dX7_court_15 : decode cX7_court 15 = .ok (.getfield 10, 3) := by decide +kernel
theorem dX7_court_18 : decode cX7_court 18 = .ok (.invokevirtual 53, 3) := by decide +kernel
theorem dX7_court_21 : decode cX7_court 21 = .ok (.putfield 56, 3) := by decide +kernel
theorem dX7_court_24 : decode cX7_court 24 = .ok (.aload_n 0, 1) := by decide +kernel
theorem dX7_court_25 : decode cX7_court 25 = .ok (.getfield 25, 3) := by decide +kernel
theorem dX7_court_28 : decode cX7_court 28 = .ok (.aload_n 0, 1) := by decide +kernel
theorem dX7_court_29 : decode cX7_court 29 = .ok (.getfield 10, 3) := by decide +kernel
theorem dX7_court_32 : decode cX7_court 32 = .ok (.aload_n 0, 1) := by decide +kernel
theorem dX7_court_33 : decode cX7_court 33 = .ok (.getfield 10, 3) := by decide +kernel
theorem dX7_court_36 : decode cX7_court 36 = .ok (.getfield 41, 3) := by decide +kernel
theorem dX7_court_39 : decode cX7_court 39 = .ok (.iconst 1, 1) := by decide +kernel
theorem dX7_court_40 : decode cX7_court 40 = .ok (.isub, 1) := by decide +kernel
theorem dX7_court_41 : decode cX7_court 41 = .ok (.invokevirtual 59, 3) := by decide +kernel
theorem dX7_court_44 : decode cX7_court 44 = .ok (.invokevirtual 63, 3) := by decide +kernel
theorem dX7_court_47 : decode cX7_court 47 = .ok (.iconst 0, 1) := by decide +kernel
theorem dX7_court_48 : decode cX7_court 48 = .ok (.istore_n 1, 1) := by decide +kernel
theorem dX7_court_49 : decode cX7_court 49 = .ok (.iload_n 1, 1) := by decide +kernel
theorem dX7_court_50 : decode cX7_court 50 = .ok (.aload_n 0, 1) := by decide +kernel
theorem dX7_court_51 : decode cX7_court 51 = .ok (.getfield 56, 3) := by decide +kernel
theorem dX7_court_54 : decode cX7_court 54 = .ok (.if_icmp .ge 39, 3) := by decide +kernel
theorem dX7_court_57 : decode cX7_court 57 = .ok (.aload_n 0, 1) := by decide +kernel
theorem dX7_court_58 : decode cX7_court 58 = .ok (.getfield 10, 3) := by decide +kernel
theorem dX7_court_61 : decode cX7_court 61 = .ok (.iload_n 1, 1) := by decide +kernel
theorem dX7_court_62 : decode cX7_court 62 = .ok (.invokevirtual 67, 3) := by decide +kernel
theorem dX7_court_65 : decode cX7_court 65 = .ok (.astore_n 2, 1) := by decide +kernel
theorem dX7_court_66 : decode cX7_court 66 = .ok (.aload_n 0, 1) := by decide +kernel
theorem dX7_court_67 : decode cX7_court 67 = .ok (.getfield 18, 3) := by decide +kernel
theorem dX7_court_70 : decode cX7_court 70 = .ok (.iload_n 1, 1) := by decide +kernel
theorem dX7_court_71 : decode cX7_court 71 = .ok (.aload_n 2, 1) := by decide +kernel
theorem dX7_court_72 : decode cX7_court 72 = .ok (.aastore, 1) := by decide +kernel
theorem dX7_court_73 : decode cX7_court 73 = .ok (.aload_n 0, 1) := by decide +kernel
theorem dX7_court_74 : decode cX7_court 74 = .ok (.getfield 25, 3) := by decide +kernel
theorem dX7_court_77 : decode cX7_court 77 = .ok (.getfield 71, 3) := by decide +kernel
theorem dX7_court_80 : decode cX7_court 80 = .ok (.iload_n 1, 1) := by decide +kernel
theorem dX7_court_81 : decode cX7_court 81 = .ok (.aload_n 2, 1) := by decide +kernel
theorem dX7_court_82 : decode cX7_court 82 = .ok (.getfield 75, 3) := by decide +kernel
theorem dX7_court_85 : decode cX7_court 85 = .ok (.i2l, 1) := by decide +kernel
theorem dX7_court_86 : decode cX7_court 86 = .ok (.lastore, 1) := by decide +kernel
theorem dX7_court_87 : decode cX7_court 87 = .ok (.iinc 1 1, 3) := by decide +kernel
theorem dX7_court_90 : decode cX7_court 90 = .ok (.goto (-41), 3) := by decide +kernel
theorem dX7_court_93 : decode cX7_court 93 = .ok (.aload_n 0, 1) := by decide +kernel
theorem dX7_court_94 : decode cX7_court 94 = .ok (.getfield 10, 3) := by decide +kernel
theorem dX7_court_97 : decode cX7_court 97 = .ok (.iconst 0, 1) := by decide +kernel
theorem dX7_court_98 : decode cX7_court 98 = .ok (.putfield 41, 3) := by decide +kernel
theorem dX7_court_101 : decode cX7_court 101 = .ok (.aload_n 0, 1) := by decide +kernel
theorem dX7_court_102 : decode cX7_court 102 = .ok (.dup, 1) := by decide +kernel
theorem dX7_court_103 : decode cX7_court 103 = .ok (.getfield 78, 3) := by decide +kernel
theorem dX7_court_106 : decode cX7_court 106 = .ok (.iconst 1, 1) := by decide +kernel
theorem dX7_court_107 : decode cX7_court 107 = .ok (.iadd, 1) := by decide +kernel
theorem dX7_court_108 : decode cX7_court 108 = .ok (.putfield 78, 3) := by decide +kernel
theorem dX7_court_111 : decode cX7_court 111 = .ok (.aload_n 0, 1) := by decide +kernel
theorem dX7_court_112 : decode cX7_court 112 = .ok (.getfield 56, 3) := by decide +kernel
theorem dX7_court_115 : decode cX7_court 115 = .ok (.ireturn, 1) := by decide +kernel
theorem dX7_about_0 : decode cX7_about 0 = .ok (.aload_n 0, 1) := by decide +kernel
theorem dX7_about_1 : decode cX7_about 1 = .ok (.iload_n 1, 1) := by decide +kernel
theorem dX7_about_2 : decode cX7_about 2 = .ok (.invokevirtual 81, 3) := by decide +kernel
theorem dX7_about_5 : decode cX7_about 5 = .ok (.astore_n 3, 1) := by decide +kernel
theorem dX7_about_6 : decode cX7_about 6 = .ok (.aload_n 3, 1) := by decide +kernel
theorem dX7_about_7 : decode cX7_about 7 = .ok (.ifnonnull 6, 3) := by decide +kernel
theorem dX7_about_10 : decode cX7_about 10 = .ok (.bipush (-101), 2) := by decide +kernel
theorem dX7_about_12 : decode cX7_about 12 = .ok (.ireturn, 1) := by decide +kernel
theorem dX7_about_13 : decode cX7_about 13 = .ok (.iload_n 2, 1) := by decide +kernel
theorem dX7_about_14 : decode cX7_about 14 = .ok (.tableswitch 151 0 8 #[50, 55, 60, 65, 75, 97, 119, 129, 139], 50) := by decide +kernel
theorem dX7_about_64 : decode cX7_about 64 = .ok (.aload_n 3, 1) := by decide +kernel
theorem dX7_about_65 : decode cX7_about 65 = .ok (.invokevirtual 84, 3) := by decide +kernel
theorem dX7_about_68 : decode cX7_about 68 = .ok (.ireturn, 1) := by decide +kernel
theorem dX7_about_69 : decode cX7_about 69 = .ok (.aload_n 3, 1) := by decide +kernel
theorem dX7_about_70 : decode cX7_about 70 = .ok (.getfield 87, 3) := by decide +kernel
theorem dX7_about_73 : decode cX7_about 73 = .ok (.ireturn, 1) := by decide +kernel
theorem dX7_about_74 : decode cX7_about 74 = .ok (.aload_n 3, 1) := by decide +kernel
theorem dX7_about_75 : decode cX7_about 75 = .ok (.getfield 75, 3) := by decide +kernel
theorem dX7_about_78 : decode cX7_about 78 = .ok (.ireturn, 1) := by decide +kernel
theorem dX7_about_79 : decode cX7_about 79 = .ok (.aload_n 0, 1) := by decide +kernel
theorem dX7_about_80 : decode cX7_about 80 = .ok (.getfield 25, 3) := by decide +kernel
theorem dX7_about_83 : decode cX7_about 83 = .ok (.getfield 90, 3) := by decide +kernel
theorem dX7_about_86 : decode cX7_about 86 = .ok (.iload_n 1, 1) := by decide +kernel
theorem dX7_about_87 : decode cX7_about 87 = .ok (.iaload, 1) := by decide +kernel
theorem dX7_about_88 : decode cX7_about 88 = .ok (.ireturn, 1) := by decide +kernel
theorem dX7_about_89 : decode cX7_about 89 = .ok (.aload_n 3, 1) := by decide +kernel
theorem dX7_about_90 : decode cX7_about 90 = .ok (.iconst 1, 1) := by decide +kernel
theorem dX7_about_91 : decode cX7_about 91 = .ok (.aload_n 0, 1) := by decide +kernel
theorem dX7_about_92 : decode cX7_about 92 = .ok (.getfield 25, 3) := by decide +kernel
theorem dX7_about_95 : decode cX7_about 95 = .ok (.getfield 94, 3) := by decide +kernel
theorem dX7_about_98 : decode cX7_about 98 = .ok (.aload_n 0, 1) := by decide +kernel
theorem dX7_about_99 : decode cX7_about 99 = .ok (.getfield 25, 3) := by decide +kernel
theorem dX7_about_102 : decode cX7_about 102 = .ok (.getfield 90, 3) := by decide +kernel
theorem dX7_about_105 : decode cX7_about 105 = .ok (.iload_n 1, 1) := by decide +kernel
theorem dX7_about_106 : decode cX7_about 106 = .ok (.iaload, 1) := by decide +kernel
theorem dX7_about_107 : decode cX7_about 107 = .ok (.invokevirtual 97, 3) := by decide +kernel
theorem dX7_about_110 : decode cX7_about 110 = .ok (.ireturn, 1) := by decide +kernel
theorem dX7_about_111 : decode cX7_about 111 = .ok (.aload_n 3, 1) := by decide +kernel
theorem dX7_about_112 : decode cX7_about 112 = .ok (.iconst 0, 1) := by decide +kernel
theorem dX7_about_113 : decode cX7_about 113 = .ok (.aload_n 0, 1) := by decide +kernel
theorem dX7_about_114 : decode cX7_about 114 = .ok (.getfield 25, 3) := by decide +kernel
theorem dX7_about_117 : decode cX7_about 117 = .ok (.getfield 94, 3) := by decide +kernel
theorem dX7_about_120 : decode cX7_about 120 = .ok (.aload_n 0, 1) := by decide +kernel
theorem dX7_about_121 : decode cX7_about 121 = .ok (.getfield 25, 3) := by decide +kernel
theorem dX7_about_124 : decode cX7_about 124 = .ok (.getfield 90, 3) := by decide +kernel
theorem dX7_about_127 : decode cX7_about 127 = .ok (.iload_n 1, 1) := by decide +kernel
theorem dX7_about_128 : decode cX7_about 128 = .ok (.iaload, 1) := by decide +kernel
theorem dX7_about_129 : decode cX7_about 129 = .ok (.invokevirtual 97, 3) := by decide +kernel
theorem dX7_about_132 : decode cX7_about 132 = .ok (.ireturn, 1) := by decide +kernel
theorem dX7_about_133 : decode cX7_about 133 = .ok (.aload_n 0, 1) := by decide +kernel
theorem dX7_about_134 : decode cX7_about 134 = .ok (.getfield 25, 3) := by decide +kernel
theorem dX7_about_137 : decode cX7_about 137 = .ok (.getfield 101, 3) := by decide +kernel
theorem dX7_about_140 : decode cX7_about 140 = .ok (.iload_n 1, 1) := by decide +kernel
theorem dX7_about_141 : decode cX7_about 141 = .ok (.iaload, 1) := by decide +kernel
theorem dX7_about_142 : decode cX7_about 142 = .ok (.ireturn, 1) := by decide +kernel
theorem dX7_about_143 : decode cX7_about 143 = .ok (.aload_n 0, 1) := by decide +kernel
theorem dX7_about_144 : decode cX7_about 144 = .ok (.getfield 25, 3) := by decide +kernel
theorem dX7_about_147 : decode cX7_about 147 = .ok (.getfield 104, 3) := by decide +kernel
theorem dX7_about_150 : decode cX7_about 150 = .ok (.iload_n 1, 1) := by decide +kernel
theorem dX7_about_151 : decode cX7_about 151 = .ok (.iaload, 1) := by decide +kernel
theorem dX7_about_152 : decode cX7_about 152 = .ok (.ireturn, 1) := by decide +kernel
theorem dX7_about_153 : decode cX7_about 153 = .ok (.aload_n 3, 1) := by decide +kernel
theorem dX7_about_154 : decode cX7_about 154 = .ok (.aload_n 0, 1) := by decide +kernel
theorem dX7_about_155 : decode cX7_about 155 = .ok (.getfield 25, 3) := by decide +kernel
theorem dX7_about_158 : decode cX7_about 158 = .ok (.getfield 94, 3) := by decide +kernel
theorem dX7_about_161 : decode cX7_about 161 = .ok (.invokevirtual 107, 3) := by decide +kernel
theorem dX7_about_164 : decode cX7_about 164 = .ok (.ireturn, 1) := by decide +kernel
theorem dX7_about_165 : decode cX7_about 165 = .ok (.bipush (-102), 2) := by decide +kernel
theorem dX7_about_167 : decode cX7_about 167 = .ok (.ireturn, 1) := by decide +kernel
theorem dX7_as_0 : decode cX7_as 0 = .ok (.aload_n 0, 1) := by decide +kernel
theorem dX7_as_1 : decode cX7_as 1 = .ok (.iload_n 1, 1) := by decide +kernel
theorem dX7_as_2 : decode cX7_as 2 = .ok (.invokevirtual 81, 3) := by decide +kernel
theorem dX7_as_5 : decode cX7_as 5 = .ok (.astore_n 3, 1) := by decide +kernel
theorem dX7_as_6 : decode cX7_as 6 = .ok (.aload_n 3, 1) := by decide +kernel
theorem dX7_as_7 : decode cX7_as 7 = .ok (.ifnonnull 6, 3) := by decide +kernel
theorem dX7_as_10 : decode cX7_as 10 = .ok (.bipush (-101), 2) := by decide +kernel
theorem dX7_as_12 : decode cX7_as 12 = .ok (.ireturn, 1) := by decide +kernel
theorem dX7_as_13 : decode cX7_as 13 = .ok (.iload_n 2, 1) := by decide +kernel
theorem dX7_as_14 : decode cX7_as 14 = .ok (.ifCond .lt 8, 3) := by decide +kernel
theorem dX7_as_17 : decode cX7_as 17 = .ok (.iload_n 2, 1) := by decide +kernel
theorem dX7_as_18 : decode cX7_as 18 = .ok (.iconst 4, 1) := by decide +kernel
theorem dX7_as_19 : decode cX7_as 19 = .ok (.if_icmp .le 6, 3) := by decide +kernel
theorem dX7_as_22 : decode cX7_as 22 = .ok (.bipush (-102), 2) := by decide +kernel
theorem dX7_as_24 : decode cX7_as 24 = .ok (.ireturn, 1) := by decide +kernel
theorem dX7_as_25 : decode cX7_as 25 = .ok (.aload_n 3, 1) := by decide +kernel
theorem dX7_as_26 : decode cX7_as 26 = .ok (.iload_n 2, 1) := by decide +kernel
theorem dX7_as_27 : decode cX7_as 27 = .ok (.invokestatic 110, 3) := by decide +kernel
theorem dX7_as_30 : decode cX7_as 30 = .ok (.ifCond .eq 7, 3) := by decide +kernel
theorem dX7_as_33 : decode cX7_as 33 = .ok (.iload_n 1, 1) := by decide +kernel
theorem dX7_as_34 : decode cX7_as 34 = .ok (.goto 4, 3) := by decide +kernel
theorem dX7_as_37 : decode cX7_as 37 = .ok (.iconst (-1), 1) := by decide +kernel
theorem dX7_as_38 : decode cX7_as 38 = .ok (.ireturn, 1) := by decide +kernel
theorem dX7_butter_0 : decode cX7_butter 0 = .ok (.aload_n 0, 1) := by decide +kernel
theorem dX7_butter_1 : decode cX7_butter 1 = .ok (.iload_n 1, 1) := by decide +kernel
theorem dX7_butter_2 : decode cX7_butter 2 = .ok (.invokevirtual 81, 3) := by decide +kernel
theorem dX7_butter_5 : decode cX7_butter 5 = .ok (.ifnonnull 6, 3) := by decide +kernel
theorem dX7_butter_8 : decode cX7_butter 8 = .ok (.bipush (-101), 2) := by decide +kernel
theorem dX7_butter_10 : decode cX7_butter 10 = .ok (.ireturn, 1) := by decide +kernel
theorem dX7_butter_11 : decode cX7_butter 11 = .ok (.iload_n 2, 1) := by decide +kernel
theorem dX7_butter_12 : decode cX7_butter 12 = .ok (.ifCond .lt 9, 3) := by decide +kernel
theorem dX7_butter_15 : decode cX7_butter 15 = .ok (.iload_n 2, 1) := by decide +kernel
theorem dX7_butter_16 : decode cX7_butter 16 = .ok (.bipush 9, 2) := by decide +kernel
theorem dX7_butter_18 : decode cX7_butter 18 = .ok (.if_icmp .le 6, 3) := by decide +kernel
theorem dX7_butter_21 : decode cX7_butter 21 = .ok (.bipush (-102), 2) := by decide +kernel
theorem dX7_butter_23 : decode cX7_butter 23 = .ok (.ireturn, 1) := by decide +kernel
theorem dX7_butter_24 : decode cX7_butter 24 = .ok (.aload_n 0, 1) := by decide +kernel
theorem dX7_butter_25 : decode cX7_butter 25 = .ok (.getfield 25, 3) := by decide +kernel
theorem dX7_butter_28 : decode cX7_butter 28 = .ok (.getfield 90, 3) := by decide +kernel
theorem dX7_butter_31 : decode cX7_butter 31 = .ok (.iload_n 1, 1) := by decide +kernel
theorem dX7_butter_32 : decode cX7_butter 32 = .ok (.iaload, 1) := by decide +kernel
theorem dX7_butter_33 : decode cX7_butter 33 = .ok (.istore_n 3, 1) := by decide +kernel
theorem dX7_butter_34 : decode cX7_butter 34 = .ok (.aload_n 0, 1) := by decide +kernel
theorem dX7_butter_35 : decode cX7_butter 35 = .ok (.getfield 25, 3) := by decide +kernel
theorem dX7_butter_38 : decode cX7_butter 38 = .ok (.getfield 90, 3) := by decide +kernel
theorem dX7_butter_41 : decode cX7_butter 41 = .ok (.iload_n 1, 1) := by decide +kernel
theorem dX7_butter_42 : decode cX7_butter 42 = .ok (.iload_n 2, 1) := by decide +kernel
theorem dX7_butter_43 : decode cX7_butter 43 = .ok (.iastore, 1) := by decide +kernel
theorem dX7_butter_44 : decode cX7_butter 44 = .ok (.iload_n 3, 1) := by decide +kernel
theorem dX7_butter_45 : decode cX7_butter 45 = .ok (.ireturn, 1) := by decide +kernel
theorem dX7_loaf_0 : decode cX7_loaf 0 = .ok (.iload_n 1, 1) := by decide +kernel
theorem dX7_loaf_1 : decode cX7_loaf 1 = .ok (.iconst 1, 1) := by decide +kernel
theorem dX7_loaf_2 : decode cX7_loaf 2 = .ok (.if_icmp .lt 9, 3) := by decide +kernel
theorem dX7_loaf_5 : decode cX7_loaf 5 = .ok (.iload_n 1, 1) := by decide +kernel
theorem dX7_loaf_6 : decode cX7_loaf 6 = .ok (.bipush 9, 2) := by decide +kernel
theorem dX7_loaf_8 : decode cX7_loaf 8 = .ok (.if_icmp .le 6, 3) := by decide +kernel
theorem dX7_loaf_11 : decode cX7_loaf 11 = .ok (.bipush (-102), 2) := by decide +kernel
theorem dX7_loaf_13 : decode cX7_loaf 13 = .ok (.ireturn, 1) := by decide +kernel
theorem dX7_loaf_14 : decode cX7_loaf 14 = .ok (.aload_n 0, 1) := by decide +kernel
theorem dX7_loaf_15 : decode cX7_loaf 15 = .ok (.getfield 56, 3) := by decide +kernel
theorem dX7_loaf_18 : decode cX7_loaf 18 = .ok (.ifCond .ne 6, 3) := by decide +kernel
theorem dX7_loaf_21 : decode cX7_loaf 21 = .ok (.bipush (-103), 2) := by decide +kernel
theorem dX7_loaf_23 : decode cX7_loaf 23 = .ok (.ireturn, 1) := by decide +kernel
theorem dX7_loaf_24 : decode cX7_loaf 24 = .ok (.aload_n 0, 1) := by decide +kernel
theorem dX7_loaf_25 : decode cX7_loaf 25 = .ok (.getfield 25, 3) := by decide +kernel
theorem dX7_loaf_28 : decode cX7_loaf 28 = .ok (.getfield 94, 3) := by decide +kernel
theorem dX7_loaf_31 : decode cX7_loaf 31 = .ok (.istore_n 2, 1) := by decide +kernel
theorem dX7_loaf_32 : decode cX7_loaf 32 = .ok (.aload_n 0, 1) := by decide +kernel
theorem dX7_loaf_33 : decode cX7_loaf 33 = .ok (.getfield 25, 3) := by decide +kernel
theorem dX7_loaf_36 : decode cX7_loaf 36 = .ok (.iload_n 1, 1) := by decide +kernel
theorem dX7_loaf_37 : decode cX7_loaf 37 = .ok (.putfield 94, 3) := by decide +kernel
theorem dX7_loaf_40 : decode cX7_loaf 40 = .ok (.iload_n 2, 1) := by decide +kernel
theorem dX7_loaf_41 : decode cX7_loaf 41 = .ok (.ireturn, 1) := by decide +kernel
theorem dX7_eat_0 : decode cX7_eat 0 = .ok (.aload_n 0, 1) := by decide +kernel
theorem dX7_eat_1 : decode cX7_eat 1 = .ok (.iload_n 1, 1) := by decide +kernel
theorem dX7_eat_2 : decode cX7_eat 2 = .ok (.invokevirtual 81, 3) := by decide +kernel
theorem dX7_eat_5 : decode cX7_eat 5 = .ok (.ifnonnull 6, 3) := by decide +kernel
theorem dX7_eat_8 : decode cX7_eat 8 = .ok (.bipush (-101), 2) := by decide +kernel
theorem dX7_eat_10 : decode cX7_eat 10 = .ok (.ireturn, 1) := by decide +kernel
theorem dX7_eat_11 : decode cX7_eat 11 = .ok (.aload_n 0, 1) := by decide +kernel
theorem dX7_eat_12 : decode cX7_eat 12 = .ok (.getfield 34, 3) := by decide +kernel
theorem dX7_eat_15 : decode cX7_eat 15 = .ok (.iconst 0, 1) := by decide +kernel
theorem dX7_eat_16 : decode cX7_eat 16 = .ok (.aaload, 1) := by decide +kernel
theorem dX7_eat_17 : decode cX7_eat 17 = .ok (.astore_n 3, 1) := by decide +kernel
theorem dX7_eat_18 : decode cX7_eat 18 = .ok (.aload_n 0, 1) := by decide +kernel
theorem dX7_eat_19 : decode cX7_eat 19 = .ok (.aload_n 0, 1) := by decide +kernel
theorem dX7_eat_20 : decode cX7_eat 20 = .ok (.getfield 25, 3) := by decide +kernel
theorem dX7_eat_23 : decode cX7_eat 23 = .ok (.getfield 71, 3) := by decide +kernel
theorem dX7_eat_26 : decode cX7_eat 26 = .ok (.iload_n 1, 1) := by decide +kernel
theorem dX7_eat_27 : decode cX7_eat 27 = .ok (.iload_n 2, 1) := by decide +kernel
theorem dX7_eat_28 : decode cX7_eat 28 = .ok (.aload_n 0, 1) := by decide +kernel
theorem dX7_eat_29 : decode cX7_eat 29 = .ok (.getfield 25, 3) := by decide +kernel
theorem dX7_eat_32 : decode cX7_eat 32 = .ok (.getfield 94, 3) := by decide +kernel
theorem dX7_eat_35 : decode cX7_eat 35 = .ok (.aload_n 3, 1) := by decide +kernel
theorem dX7_eat_36 : decode cX7_eat 36 = .ok (.invokevirtual 114, 3) := by decide +kernel
theorem dX7_eat_39 : decode cX7_eat 39 = .ok (.aload_n 3, 1) := by decide +kernel
theorem dX7_eat_40 : decode cX7_eat 40 = .ok (.invokestatic 118, 3) := by decide +kernel
theorem dX7_eat_43 : decode cX7_eat 43 = .ok (.lstore 4, 2) := by decide +kernel
theorem dX7_eat_45 : decode cX7_eat 45 = .ok (.lload 4, 2) := by decide +kernel
theorem dX7_eat_47 : decode cX7_eat 47 = .ok (.lconst 0, 1) := by decide +kernel
theorem dX7_eat_48 : decode cX7_eat 48 = .ok (.lcmp, 1) := by decide +kernel
theorem dX7_eat_49 : decode cX7_eat 49 = .ok (.ifCond .gt 6, 3) := by decide +kernel
theorem dX7_eat_52 : decode cX7_eat 52 = .ok (.bipush (-103), 2) := by decide +kernel
theorem dX7_eat_54 : decode cX7_eat 54 = .ok (.ireturn, 1) := by decide +kernel
theorem dX7_eat_55 : decode cX7_eat 55 = .ok (.aload_n 0, 1) := by decide +kernel
theorem dX7_eat_56 : decode cX7_eat 56 = .ok (.getfield 25, 3) := by decide +kernel
theorem dX7_eat_59 : decode cX7_eat 59 = .ok (.getfield 101, 3) := by decide +kernel
theorem dX7_eat_62 : decode cX7_eat 62 = .ok (.invokestatic 122, 3) := by decide +kernel
theorem dX7_eat_65 : decode cX7_eat 65 = .ok (.bipush 6, 2) := by decide +kernel
theorem dX7_eat_67 : decode cX7_eat 67 = .ok (.if_icmp .lt 6, 3) := by decide +kernel
theorem dX7_eat_70 : decode cX7_eat 70 = .ok (.bipush (-104), 2) := by decide +kernel
theorem dX7_eat_72 : decode cX7_eat 72 = .ok (.ireturn, 1) := by decide +kernel
theorem dX7_eat_73 : decode cX7_eat 73 = .ok (.iconst 0, 1) := by decide +kernel
theorem dX7_eat_74 : decode cX7_eat 74 = .ok (.istore 6, 2) := by decide +kernel
theorem dX7_eat_76 : decode cX7_eat 76 = .ok (.iload 6, 2) := by decide +kernel
theorem dX7_eat_78 : decode cX7_eat 78 = .ok (.iconst 4, 1) := by decide +kernel
theorem dX7_eat_79 : decode cX7_eat 79 = .ok (.if_icmp .ge 26, 3) := by decide +kernel
theorem dX7_eat_82 : decode cX7_eat 82 = .ok (.aload_n 0, 1) := by decide +kernel
theorem dX7_eat_83 : decode cX7_eat 83 = .ok (.getfield 25, 3) := by decide +kernel
theorem dX7_eat_86 : decode cX7_eat 86 = .ok (.getfield 71, 3) := by decide +kernel
theorem dX7_eat_89 : decode cX7_eat 89 = .ok (.iload 6, 2) := by decide +kernel
theorem dX7_eat_91 : decode cX7_eat 91 = .ok (.aload_n 3, 1) := by decide +kernel
theorem dX7_eat_92 : decode cX7_eat 92 = .ok (.iload 6, 2) := by decide +kernel
theorem dX7_eat_94 : decode cX7_eat 94 = .ok (.laload, 1) := by decide +kernel
theorem dX7_eat_95 : decode cX7_eat 95 = .ok (.lload 4, 2) := by decide +kernel
theorem dX7_eat_97 : decode cX7_eat 97 = .ok (.ldiv, 1) := by decide +kernel
theorem dX7_eat_98 : decode cX7_eat 98 = .ok (.lastore, 1) := by decide +kernel
theorem dX7_eat_99 : decode cX7_eat 99 = .ok (.iinc 6 1, 3) := by decide +kernel
theorem dX7_eat_102 : decode cX7_eat 102 = .ok (.goto (-26), 3) := by decide +kernel
theorem dX7_eat_105 : decode cX7_eat 105 = .ok (.aload_n 0, 1) := by decide +kernel
theorem dX7_eat_106 : decode cX7_eat 106 = .ok (.getfield 25, 3) := by decide +kernel
theorem dX7_eat_109 : decode cX7_eat 109 = .ok (.getfield 101, 3) := by decide +kernel
theorem dX7_eat_112 : decode cX7_eat 112 = .ok (.iload_n 1, 1) := by decide +kernel
theorem dX7_eat_113 : decode cX7_eat 113 = .ok (.dup2, 1) := by decide +kernel
theorem dX7_eat_114 : decode cX7_eat 114 = .ok (.iaload, 1) := by decide +kernel
theorem dX7_eat_115 : decode cX7_eat 115 = .ok (.iconst 1, 1) := by decide +kernel
theorem dX7_eat_116 : decode cX7_eat 116 = .ok (.iadd, 1) := by decide +kernel
theorem dX7_eat_117 : decode cX7_eat 117 = .ok (.iastore, 1) := by decide +kernel
theorem dX7_eat_118 : decode cX7_eat 118 = .ok (.iload_n 2, 1) := by decide +kernel
theorem dX7_eat_119 : decode cX7_eat 119 = .ok (.ifCond .eq 16, 3) := by decide +kernel
theorem dX7_eat_122 : decode cX7_eat 122 = .ok (.aload_n 0, 1) := by decide +kernel
theorem dX7_eat_123 : decode cX7_eat 123 = .ok (.getfield 25, 3) := by decide +kernel
theorem dX7_eat_126 : decode cX7_eat 126 = .ok (.getfield 104, 3) := by decide +kernel
theorem dX7_eat_129 : decode cX7_eat 129 = .ok (.iload_n 1, 1) := by decide +kernel
theorem dX7_eat_130 : decode cX7_eat 130 = .ok (.dup2, 1) := by decide +kernel
theorem dX7_eat_131 : decode cX7_eat 131 = .ok (.iaload, 1) := by decide +kernel
theorem dX7_eat_132 : decode cX7_eat 132 = .ok (.iconst 1, 1) := by decide +kernel
theorem dX7_eat_133 : decode cX7_eat 133 = .ok (.iadd, 1) := by decide +kernel
theorem dX7_eat_134 : decode cX7_eat 134 = .ok (.iastore, 1) := by decide +kernel
theorem dX7_eat_135 : decode cX7_eat 135 = .ok (.aload_n 0, 1) := by decide +kernel
theorem dX7_eat_136 : decode cX7_eat 136 = .ok (.getfield 25, 3) := by decide +kernel
theorem dX7_eat_139 : decode cX7_eat 139 = .ok (.getfield 71, 3) := by decide +kernel
theorem dX7_eat_142 : decode cX7_eat 142 = .ok (.invokestatic 126, 3) := by decide +kernel
theorem dX7_eat_145 : decode cX7_eat 145 = .ok (.ireturn, 1) := by decide +kernel
theorem dX7_belief_0 : decode cX7_belief 0 = .ok (.aload_n 0, 1) := by decide +kernel
theorem dX7_belief_1 : decode cX7_belief 1 = .ok (.iload_n 1, 1) := by decide +kernel
theorem dX7_belief_2 : decode cX7_belief 2 = .ok (.invokevirtual 81, 3) := by decide +kernel
theorem dX7_belief_5 : decode cX7_belief 5 = .ok (.ifnonnull 7, 3) := by decide +kernel
theorem dX7_belief_8 : decode cX7_belief 8 = .ok (.ldc2_w 130, 3) := by decide +kernel
theorem dX7_belief_11 : decode cX7_belief 11 = .ok (.lreturn, 1) := by decide +kernel
theorem dX7_belief_12 : decode cX7_belief 12 = .ok (.iload_n 2, 1) := by decide +kernel
theorem dX7_belief_13 : decode cX7_belief 13 = .ok (.ifCond .lt 8, 3) := by decide +kernel
theorem dX7_belief_16 : decode cX7_belief 16 = .ok (.iload_n 2, 1) := by decide +kernel
theorem dX7_belief_17 : decode cX7_belief 17 = .ok (.iconst 1, 1) := by decide +kernel
theorem dX7_belief_18 : decode cX7_belief 18 = .ok (.if_icmp .le 7, 3) := by decide +kernel
theorem dX7_belief_21 : decode cX7_belief 21 = .ok (.ldc2_w 132, 3) := by decide +kernel
theorem dX7_belief_24 : decode cX7_belief 24 = .ok (.lreturn, 1) := by decide +kernel
theorem dX7_belief_25 : decode cX7_belief 25 = .ok (.aload_n 0, 1) := by decide +kernel
theorem dX7_belief_26 : decode cX7_belief 26 = .ok (.getfield 25, 3) := by decide +kernel
theorem dX7_belief_29 : decode cX7_belief 29 = .ok (.getfield 71, 3) := by decide +kernel
theorem dX7_belief_32 : decode cX7_belief 32 = .ok (.iload_n 1, 1) := by decide +kernel
theorem dX7_belief_33 : decode cX7_belief 33 = .ok (.laload, 1) := by decide +kernel
theorem dX7_belief_34 : decode cX7_belief 34 = .ok (.aload_n 0, 1) := by decide +kernel
theorem dX7_belief_35 : decode cX7_belief 35 = .ok (.invokevirtual 134, 3) := by decide +kernel
theorem dX7_belief_38 : decode cX7_belief 38 = .ok (.iload_n 2, 1) := by decide +kernel
theorem dX7_belief_39 : decode cX7_belief 39 = .ok (.invokestatic 138, 3) := by decide +kernel
theorem dX7_belief_42 : decode cX7_belief 42 = .ok (.lreturn, 1) := by decide +kernel
theorem dX7_judged_0 : decode cX7_judged 0 = .ok (.aload_n 0, 1) := by decide +kernel
theorem dX7_judged_1 : decode cX7_judged 1 = .ok (.getfield 56, 3) := by decide +kernel
theorem dX7_judged_4 : decode cX7_judged 4 = .ok (.ifCond .ne 8, 3) := by decide +kernel
theorem dX7_judged_7 : decode cX7_judged 7 = .ok (.bipush (-103), 2) := by decide +kernel
theorem dX7_judged_9 : decode cX7_judged 9 = .ok (.goto 13, 3) := by decide +kernel
theorem dX7_judged_12 : decode cX7_judged 12 = .ok (.aload_n 0, 1) := by decide +kernel
theorem dX7_judged_13 : decode cX7_judged 13 = .ok (.getfield 25, 3) := by decide +kernel
theorem dX7_judged_16 : decode cX7_judged 16 = .ok (.getfield 71, 3) := by decide +kernel
theorem dX7_judged_19 : decode cX7_judged 19 = .ok (.invokestatic 126, 3) := by decide +kernel
theorem dX7_judged_22 : decode cX7_judged 22 = .ok (.ireturn, 1) := by decide +kernel
theorem dX7_right_0 : decode cX7_right 0 = .ok (.iload_n 1, 1) := by decide +kernel
theorem dX7_right_1 : decode cX7_right 1 = .ok (.ifCond .lt 17, 3) := by decide +kernel
theorem dX7_right_4 : decode cX7_right 4 = .ok (.iload_n 1, 1) := by decide +kernel
theorem dX7_right_5 : decode cX7_right 5 = .ok (.iconst 3, 1) := by decide +kernel
theorem dX7_right_6 : decode cX7_right 6 = .ok (.if_icmp .gt 12, 3) := by decide +kernel
theorem dX7_right_9 : decode cX7_right 9 = .ok (.iload_n 2, 1) := by decide +kernel
theorem dX7_right_10 : decode cX7_right 10 = .ok (.ifCond .lt 8, 3) := by decide +kernel
theorem dX7_right_13 : decode cX7_right 13 = .ok (.iload_n 2, 1) := by decide +kernel
theorem dX7_right_14 : decode cX7_right 14 = .ok (.iconst 2, 1) := by decide +kernel
theorem dX7_right_15 : decode cX7_right 15 = .ok (.if_icmp .le 7, 3) := by decide +kernel
theorem dX7_right_18 : decode cX7_right 18 = .ok (.ldc2_w 132, 3) := by decide +kernel
theorem dX7_right_21 : decode cX7_right 21 = .ok (.lreturn, 1) := by decide +kernel
theorem dX7_right_22 : decode cX7_right 22 = .ok (.aload_n 0, 1) := by decide +kernel
theorem dX7_right_23 : decode cX7_right 23 = .ok (.getfield 56, 3) := by decide +kernel
theorem dX7_right_26 : decode cX7_right 26 = .ok (.ifCond .eq 12, 3) := by decide +kernel
theorem dX7_right_29 : decode cX7_right 29 = .ok (.aload_n 0, 1) := by decide +kernel
theorem dX7_right_30 : decode cX7_right 30 = .ok (.getfield 142, 3) := by decide +kernel
theorem dX7_right_33 : decode cX7_right 33 = .ok (.bipush 20, 2) := by decide +kernel
theorem dX7_right_35 : decode cX7_right 35 = .ok (.if_icmp .lt 7, 3) := by decide +kernel
theorem dX7_right_38 : decode cX7_right 38 = .ok (.ldc2_w 145, 3) := by decide +kernel
theorem dX7_right_41 : decode cX7_right 41 = .ok (.lreturn, 1) := by decide +kernel
theorem dX7_right_42 : decode cX7_right 42 = .ok (.aload_n 0, 1) := by decide +kernel
theorem dX7_right_43 : decode cX7_right 43 = .ok (.dup, 1) := by decide +kernel
theorem dX7_right_44 : decode cX7_right 44 = .ok (.getfield 142, 3) := by decide +kernel
theorem dX7_right_47 : decode cX7_right 47 = .ok (.iconst 1, 1) := by decide +kernel
theorem dX7_right_48 : decode cX7_right 48 = .ok (.iadd, 1) := by decide +kernel
theorem dX7_right_49 : decode cX7_right 49 = .ok (.putfield 142, 3) := by decide +kernel
theorem dX7_right_52 : decode cX7_right 52 = .ok (.aload_n 0, 1) := by decide +kernel
theorem dX7_right_53 : decode cX7_right 53 = .ok (.getfield 25, 3) := by decide +kernel
theorem dX7_right_56 : decode cX7_right 56 = .ok (.getfield 71, 3) := by decide +kernel
theorem dX7_right_59 : decode cX7_right 59 = .ok (.iconst 0, 1) := by decide +kernel
theorem dX7_right_60 : decode cX7_right 60 = .ok (.aload_n 0, 1) := by decide +kernel
theorem dX7_right_61 : decode cX7_right 61 = .ok (.getfield 34, 3) := by decide +kernel
theorem dX7_right_64 : decode cX7_right 64 = .ok (.iload_n 1, 1) := by decide +kernel
theorem dX7_right_65 : decode cX7_right 65 = .ok (.aaload, 1) := by decide +kernel
theorem dX7_right_66 : decode cX7_right 66 = .ok (.iconst 0, 1) := by decide +kernel
theorem dX7_right_67 : decode cX7_right 67 = .ok (.iconst 4, 1) := by decide +kernel
theorem dX7_right_68 : decode cX7_right 68 = .ok (.invokestatic 147, 3) := by decide +kernel
theorem dX7_right_71 : decode cX7_right 71 = .ok (.iload_n 2, 1) := by decide +kernel
theorem dX7_right_72 : decode cX7_right 72 = .ok (.iconst 2, 1) := by decide +kernel
theorem dX7_right_73 : decode cX7_right 73 = .ok (.if_icmp .ne 10, 3) := by decide +kernel
theorem dX7_right_76 : decode cX7_right 76 = .ok (.aload_n 0, 1) := by decide +kernel
theorem dX7_right_77 : decode cX7_right 77 = .ok (.iload_n 1, 1) := by decide +kernel
theorem dX7_right_78 : decode cX7_right 78 = .ok (.invokevirtual 153, 3) := by decide +kernel
theorem dX7_right_81 : decode cX7_right 81 = .ok (.i2l, 1) := by decide +kernel
theorem dX7_right_82 : decode cX7_right 82 = .ok (.lreturn, 1) := by decide +kernel
theorem dX7_right_83 : decode cX7_right 83 = .ok (.aload_n 0, 1) := by decide +kernel
theorem dX7_right_84 : decode cX7_right 84 = .ok (.invokevirtual 134, 3) := by decide +kernel
theorem dX7_right_87 : decode cX7_right 87 = .ok (.lstore_n 3, 1) := by decide +kernel
theorem dX7_right_88 : decode cX7_right 88 = .ok (.iconst 0, 1) := by decide +kernel
theorem dX7_right_89 : decode cX7_right 89 = .ok (.istore 5, 2) := by decide +kernel
theorem dX7_right_91 : decode cX7_right 91 = .ok (.iload 5, 2) := by decide +kernel
theorem dX7_right_93 : decode cX7_right 93 = .ok (.iload_n 1, 1) := by decide +kernel
theorem dX7_right_94 : decode cX7_right 94 = .ok (.if_icmp .ge 15, 3) := by decide +kernel
theorem dX7_right_97 : decode cX7_right 97 = .ok (.lload_n 3, 1) := by decide +kernel
theorem dX7_right_98 : decode cX7_right 98 = .ok (.ldc2_w 156, 3) := by decide +kernel
theorem dX7_right_101 : decode cX7_right 101 = .ok (.lmul, 1) := by decide +kernel
theorem dX7_right_102 : decode cX7_right 102 = .ok (.lstore_n 3, 1) := by decide +kernel
theorem dX7_right_103 : decode cX7_right 103 = .ok (.iinc 5 1, 3) := by decide +kernel
theorem dX7_right_106 : decode cX7_right 106 = .ok (.goto (-15), 3) := by decide +kernel
theorem dX7_right_109 : decode cX7_right 109 = .ok (.aload_n 0, 1) := by decide +kernel
theorem dX7_right_110 : decode cX7_right 110 = .ok (.iload_n 1, 1) := by decide +kernel
theorem dX7_right_111 : decode cX7_right 111 = .ok (.invokevirtual 158, 3) := by decide +kernel
theorem dX7_right_114 : decode cX7_right 114 = .ok (.lload_n 3, 1) := by decide +kernel
theorem dX7_right_115 : decode cX7_right 115 = .ok (.iload_n 2, 1) := by decide +kernel
theorem dX7_right_116 : decode cX7_right 116 = .ok (.invokestatic 138, 3) := by decide +kernel
theorem dX7_right_119 : decode cX7_right 119 = .ok (.lreturn, 1) := by decide +kernel
theorem dX7_driest_0 : decode cX7_driest 0 = .ok (.aload_n 0, 1) := by decide +kernel
theorem dX7_driest_1 : decode cX7_driest 1 = .ok (.iload_n 1, 1) := by decide +kernel
theorem dX7_driest_2 : decode cX7_driest 2 = .ok (.invokevirtual 81, 3) := by decide +kernel
theorem dX7_driest_5 : decode cX7_driest 5 = .ok (.ifnonnull 7, 3) := by decide +kernel
theorem dX7_driest_8 : decode cX7_driest 8 = .ok (.ldc2_w 130, 3) := by decide +kernel
theorem dX7_driest_11 : decode cX7_driest 11 = .ok (.lreturn, 1) := by decide +kernel
theorem dX7_driest_12 : decode cX7_driest 12 = .ok (.iload_n 2, 1) := by decide +kernel
theorem dX7_driest_13 : decode cX7_driest 13 = .ok (.ifCond .lt 8, 3) := by decide +kernel
theorem dX7_driest_16 : decode cX7_driest 16 = .ok (.iload_n 2, 1) := by decide +kernel
theorem dX7_driest_17 : decode cX7_driest 17 = .ok (.iconst 2, 1) := by decide +kernel
theorem dX7_driest_18 : decode cX7_driest 18 = .ok (.if_icmp .le 7, 3) := by decide +kernel
theorem dX7_driest_21 : decode cX7_driest 21 = .ok (.ldc2_w 132, 3) := by decide +kernel
theorem dX7_driest_24 : decode cX7_driest 24 = .ok (.lreturn, 1) := by decide +kernel
theorem dX7_driest_25 : decode cX7_driest 25 = .ok (.aload_n 0, 1) := by decide +kernel
theorem dX7_driest_26 : decode cX7_driest 26 = .ok (.getfield 25, 3) := by decide +kernel
theorem dX7_driest_29 : decode cX7_driest 29 = .ok (.getfield 71, 3) := by decide +kernel
theorem dX7_driest_32 : decode cX7_driest 32 = .ok (.iconst 0, 1) := by decide +kernel
theorem dX7_driest_33 : decode cX7_driest 33 = .ok (.aload_n 0, 1) := by decide +kernel
theorem dX7_driest_34 : decode cX7_driest 34 = .ok (.getfield 34, 3) := by decide +kernel
theorem dX7_driest_37 : decode cX7_driest 37 = .ok (.iconst 1, 1) := by decide +kernel
theorem dX7_driest_38 : decode cX7_driest 38 = .ok (.aaload, 1) := by decide +kernel
theorem dX7_driest_39 : decode cX7_driest 39 = .ok (.iconst 0, 1) := by decide +kernel
theorem dX7_driest_40 : decode cX7_driest 40 = .ok (.iconst 4, 1) := by decide +kernel
theorem dX7_driest_41 : decode cX7_driest 41 = .ok (.invokestatic 147, 3) := by decide +kernel
theorem dX7_driest_44 : decode cX7_driest 44 = .ok (.iconst 0, 1) := by decide +kernel
theorem dX7_driest_45 : decode cX7_driest 45 = .ok (.istore_n 3, 1) := by decide +kernel
theorem dX7_driest_46 : decode cX7_driest 46 = .ok (.ldc2_w 162, 3) := by decide +kernel
theorem dX7_driest_49 : decode cX7_driest 49 = .ok (.lstore 4, 2) := by decide +kernel
theorem dX7_driest_51 : decode cX7_driest 51 = .ok (.iconst 1, 1) := by decide +kernel
theorem dX7_driest_52 : decode cX7_driest 52 = .ok (.istore 6, 2) := by decide +kernel
theorem dX7_driest_54 : decode cX7_driest 54 = .ok (.iload 6, 2) := by decide +kernel
theorem dX7_driest_56 : decode cX7_driest 56 = .ok (.bipush 9, 2) := by decide +kernel
theorem dX7_driest_58 : decode cX7_driest 58 = .ok (.if_icmp .gt 34, 3) := by decide +kernel
theorem dX7_driest_61 : decode cX7_driest 61 = .ok (.aload_n 0, 1) := by decide +kernel
theorem dX7_driest_62 : decode cX7_driest 62 = .ok (.iload_n 1, 1) := by decide +kernel
theorem dX7_driest_63 : decode cX7_driest 63 = .ok (.iconst 1, 1) := by decide +kernel
theorem dX7_driest_64 : decode cX7_driest 64 = .ok (.iload 6, 2) := by decide +kernel
theorem dX7_driest_66 : decode cX7_driest 66 = .ok (.invokevirtual 164, 3) := by decide +kernel
theorem dX7_driest_69 : decode cX7_driest 69 = .ok (.lstore 7, 2) := by decide +kernel
theorem dX7_driest_71 : decode cX7_driest 71 = .ok (.lload 7, 2) := by decide +kernel
theorem dX7_driest_73 : decode cX7_driest 73 = .ok (.lload 4, 2) := by decide +kernel
theorem dX7_driest_75 : decode cX7_driest 75 = .ok (.lcmp, 1) := by decide +kernel
theorem dX7_driest_76 : decode cX7_driest 76 = .ok (.ifCond .le 10, 3) := by decide +kernel
theorem dX7_driest_79 : decode cX7_driest 79 = .ok (.lload 7, 2) := by decide +kernel
theorem dX7_driest_81 : decode cX7_driest 81 = .ok (.lstore 4, 2) := by decide +kernel
theorem dX7_driest_83 : decode cX7_driest 83 = .ok (.iload 6, 2) := by decide +kernel
theorem dX7_driest_85 : decode cX7_driest 85 = .ok (.istore_n 3, 1) := by decide +kernel
theorem dX7_driest_86 : decode cX7_driest 86 = .ok (.iinc 6 1, 3) := by decide +kernel
theorem dX7_driest_89 : decode cX7_driest 89 = .ok (.goto (-35), 3) := by decide +kernel
theorem dX7_driest_92 : decode cX7_driest 92 = .ok (.iload_n 2, 1) := by decide +kernel
theorem dX7_driest_93 : decode cX7_driest 93 = .ok (.ifCond .ne 8, 3) := by decide +kernel
theorem dX7_driest_96 : decode cX7_driest 96 = .ok (.iload_n 3, 1) := by decide +kernel
theorem dX7_driest_97 : decode cX7_driest 97 = .ok (.i2l, 1) := by decide +kernel
theorem dX7_driest_98 : decode cX7_driest 98 = .ok (.goto 19, 3) := by decide +kernel
theorem dX7_driest_101 : decode cX7_driest 101 = .ok (.lload 4, 2) := by decide +kernel
theorem dX7_driest_103 : decode cX7_driest 103 = .ok (.ldc2_w 156, 3) := by decide +kernel
theorem dX7_driest_106 : decode cX7_driest 106 = .ok (.aload_n 0, 1) := by decide +kernel
theorem dX7_driest_107 : decode cX7_driest 107 = .ok (.invokevirtual 134, 3) := by decide +kernel
theorem dX7_driest_110 : decode cX7_driest 110 = .ok (.lmul, 1) := by decide +kernel
theorem dX7_driest_111 : decode cX7_driest 111 = .ok (.iload_n 2, 1) := by decide +kernel
theorem dX7_driest_112 : decode cX7_driest 112 = .ok (.iconst 1, 1) := by decide +kernel
theorem dX7_driest_113 : decode cX7_driest 113 = .ok (.isub, 1) := by decide +kernel
theorem dX7_driest_114 : decode cX7_driest 114 = .ok (.invokestatic 138, 3) := by decide +kernel
theorem dX7_driest_117 : decode cX7_driest 117 = .ok (.lreturn, 1) := by decide +kernel
theorem dX7_hear_0 : decode cX7_hear 0 = .ok (.aload_n 0, 1) := by decide +kernel
theorem dX7_hear_1 : decode cX7_hear 1 = .ok (.iload_n 1, 1) := by decide +kernel
theorem dX7_hear_2 : decode cX7_hear 2 = .ok (.invokevirtual 81, 3) := by decide +kernel
theorem dX7_hear_5 : decode cX7_hear 5 = .ok (.astore 4, 2) := by decide +kernel
theorem dX7_hear_7 : decode cX7_hear 7 = .ok (.aload 4, 2) := by decide +kernel
theorem dX7_hear_9 : decode cX7_hear 9 = .ok (.ifnonnull 6, 3) := by decide +kernel
theorem dX7_hear_12 : decode cX7_hear 12 = .ok (.bipush (-101), 2) := by decide +kernel
theorem dX7_hear_14 : decode cX7_hear 14 = .ok (.ireturn, 1) := by decide +kernel
theorem dX7_hear_15 : decode cX7_hear 15 = .ok (.aload_n 0, 1) := by decide +kernel
theorem dX7_hear_16 : decode cX7_hear 16 = .ok (.getfield 25, 3) := by decide +kernel
theorem dX7_hear_19 : decode cX7_hear 19 = .ok (.getfield 168, 3) := by decide +kernel
theorem dX7_hear_22 : decode cX7_hear 22 = .ok (.bipush 6, 2) := by decide +kernel
theorem dX7_hear_24 : decode cX7_hear 24 = .ok (.if_icmp .lt 6, 3) := by decide +kernel
theorem dX7_hear_27 : decode cX7_hear 27 = .ok (.bipush (-104), 2) := by decide +kernel
theorem dX7_hear_29 : decode cX7_hear 29 = .ok (.ireturn, 1) := by decide +kernel
theorem dX7_hear_30 : decode cX7_hear 30 = .ok (.aload_n 0, 1) := by decide +kernel
theorem dX7_hear_31 : decode cX7_hear 31 = .ok (.getfield 25, 3) := by decide +kernel
theorem dX7_hear_34 : decode cX7_hear 34 = .ok (.getfield 171, 3) := by decide +kernel
theorem dX7_hear_37 : decode cX7_hear 37 = .ok (.iload_n 1, 1) := by decide +kernel
theorem dX7_hear_38 : decode cX7_hear 38 = .ok (.dup2, 1) := by decide +kernel
theorem dX7_hear_39 : decode cX7_hear 39 = .ok (.iaload, 1) := by decide +kernel
theorem dX7_hear_40 : decode cX7_hear 40 = .ok (.aload 4, 2) := by decide +kernel
theorem dX7_hear_42 : decode cX7_hear 42 = .ok (.iload_n 2, 1) := by decide +kernel
theorem dX7_hear_43 : decode cX7_hear 43 = .ok (.iload_n 3, 1) := by decide +kernel
theorem dX7_hear_44 : decode cX7_hear 44 = .ok (.aload_n 0, 1) := by decide +kernel
theorem dX7_hear_45 : decode cX7_hear 45 = .ok (.getfield 25, 3) := by decide +kernel
theorem dX7_hear_48 : decode cX7_hear 48 = .ok (.getfield 94, 3) := by decide +kernel
theorem dX7_hear_51 : decode cX7_hear 51 = .ok (.invokevirtual 174, 3) := by decide +kernel
theorem dX7_hear_54 : decode cX7_hear 54 = .ok (.iand, 1) := by decide +kernel
theorem dX7_hear_55 : decode cX7_hear 55 = .ok (.iastore, 1) := by decide +kernel
theorem dX7_hear_56 : decode cX7_hear 56 = .ok (.aload_n 0, 1) := by decide +kernel
theorem dX7_hear_57 : decode cX7_hear 57 = .ok (.getfield 25, 3) := by decide +kernel
theorem dX7_hear_60 : decode cX7_hear 60 = .ok (.dup, 1) := by decide +kernel
theorem dX7_hear_61 : decode cX7_hear 61 = .ok (.getfield 168, 3) := by decide +kernel
theorem dX7_hear_64 : decode cX7_hear 64 = .ok (.iconst 1, 1) := by decide +kernel
theorem dX7_hear_65 : decode cX7_hear 65 = .ok (.iadd, 1) := by decide +kernel
theorem dX7_hear_66 : decode cX7_hear 66 = .ok (.putfield 168, 3) := by decide +kernel
theorem dX7_hear_69 : decode cX7_hear 69 = .ok (.aload_n 0, 1) := by decide +kernel
theorem dX7_hear_70 : decode cX7_hear 70 = .ok (.getfield 25, 3) := by decide +kernel
theorem dX7_hear_73 : decode cX7_hear 73 = .ok (.getfield 168, 3) := by decide +kernel
theorem dX7_hear_76 : decode cX7_hear 76 = .ok (.ireturn, 1) := by decide +kernel
theorem dX7_forget_0 : decode cX7_forget 0 = .ok (.aload_n 0, 1) := by decide +kernel
theorem dX7_forget_1 : decode cX7_forget 1 = .ok (.getfield 25, 3) := by decide +kernel
theorem dX7_forget_4 : decode cX7_forget 4 = .ok (.getfield 168, 3) := by decide +kernel
theorem dX7_forget_7 : decode cX7_forget 7 = .ok (.istore_n 1, 1) := by decide +kernel
theorem dX7_forget_8 : decode cX7_forget 8 = .ok (.aload_n 0, 1) := by decide +kernel
theorem dX7_forget_9 : decode cX7_forget 9 = .ok (.getfield 25, 3) := by decide +kernel
theorem dX7_forget_12 : decode cX7_forget 12 = .ok (.invokevirtual 177, 3) := by decide +kernel
theorem dX7_forget_15 : decode cX7_forget 15 = .ok (.iload_n 1, 1) := by decide +kernel
theorem dX7_forget_16 : decode cX7_forget 16 = .ok (.ireturn, 1) := by decide +kernel
theorem dX7_buttered_0 : decode cX7_buttered 0 = .ok (.aload_n 0, 1) := by decide +kernel
theorem dX7_buttered_1 : decode cX7_buttered 1 = .ok (.iload_n 1, 1) := by decide +kernel
theorem dX7_buttered_2 : decode cX7_buttered 2 = .ok (.invokevirtual 81, 3) := by decide +kernel
theorem dX7_buttered_5 : decode cX7_buttered 5 = .ok (.ifnonnull 8, 3) := by decide +kernel
theorem dX7_buttered_8 : decode cX7_buttered 8 = .ok (.bipush (-101), 2) := by decide +kernel
theorem dX7_buttered_10 : decode cX7_buttered 10 = .ok (.goto 12, 3) := by decide +kernel
theorem dX7_buttered_13 : decode cX7_buttered 13 = .ok (.aload_n 0, 1) := by decide +kernel
theorem dX7_buttered_14 : decode cX7_buttered 14 = .ok (.getfield 25, 3) := by decide +kernel
theorem dX7_buttered_17 : decode cX7_buttered 17 = .ok (.getfield 171, 3) := by decide +kernel
theorem dX7_buttered_20 : decode cX7_buttered 20 = .ok (.iload_n 1, 1) := by decide +kernel
theorem dX7_buttered_21 : decode cX7_buttered 21 = .ok (.iaload, 1) := by decide +kernel
theorem dX7_buttered_22 : decode cX7_buttered 22 = .ok (.ireturn, 1) := by decide +kernel
theorem dX7_sessions_0 : decode cX7_sessions 0 = .ok (.aload_n 0, 1) := by decide +kernel
theorem dX7_sessions_1 : decode cX7_sessions 1 = .ok (.iload_n 1, 1) := by decide +kernel
theorem dX7_sessions_2 : decode cX7_sessions 2 = .ok (.invokevirtual 81, 3) := by decide +kernel
theorem dX7_sessions_5 : decode cX7_sessions 5 = .ok (.ifnonnull 6, 3) := by decide +kernel
theorem dX7_sessions_8 : decode cX7_sessions 8 = .ok (.bipush (-101), 2) := by decide +kernel
theorem dX7_sessions_10 : decode cX7_sessions 10 = .ok (.ireturn, 1) := by decide +kernel
theorem dX7_sessions_11 : decode cX7_sessions 11 = .ok (.iload_n 2, 1) := by decide +kernel
theorem dX7_sessions_12 : decode cX7_sessions 12 = .ok (.iconst 1, 1) := by decide +kernel
theorem dX7_sessions_13 : decode cX7_sessions 13 = .ok (.if_icmp .lt 24, 3) := by decide +kernel
theorem dX7_sessions_16 : decode cX7_sessions 16 = .ok (.iload_n 2, 1) := by decide +kernel
theorem dX7_sessions_17 : decode cX7_sessions 17 = .ok (.bipush 60, 2) := by decide +kernel
theorem dX7_sessions_19 : decode cX7_sessions 19 = .ok (.if_icmp .gt 18, 3) := by decide +kernel
theorem dX7_sessions_22 : decode cX7_sessions 22 = .ok (.iload_n 3, 1) := by decide +kernel
theorem dX7_sessions_23 : decode cX7_sessions 23 = .ok (.ifCond .lt 14, 3) := by decide +kernel
theorem dX7_sessions_26 : decode cX7_sessions 26 = .ok (.iload 4, 2) := by decide +kernel
theorem dX7_sessions_28 : decode cX7_sessions 28 = .ok (.ifCond .lt 9, 3) := by decide +kernel
theorem dX7_sessions_31 : decode cX7_sessions 31 = .ok (.iload 4, 2) := by decide +kernel
theorem dX7_sessions_33 : decode cX7_sessions 33 = .ok (.iconst 2, 1) := by decide +kernel
theorem dX7_sessions_34 : decode cX7_sessions 34 = .ok (.if_icmp .le 6, 3) := by decide +kernel
theorem dX7_sessions_37 : decode cX7_sessions 37 = .ok (.bipush (-102), 2) := by decide +kernel
theorem dX7_sessions_39 : decode cX7_sessions 39 = .ok (.ireturn, 1) := by decide +kernel
theorem dX7_sessions_40 : decode cX7_sessions 40 = .ok (.iload_n 3, 1) := by decide +kernel
theorem dX7_sessions_41 : decode cX7_sessions 41 = .ok (.i2l, 1) := by decide +kernel
theorem dX7_sessions_42 : decode cX7_sessions 42 = .ok (.lstore 5, 2) := by decide +kernel
theorem dX7_sessions_44 : decode cX7_sessions 44 = .ok (.iconst 0, 1) := by decide +kernel
theorem dX7_sessions_45 : decode cX7_sessions 45 = .ok (.istore 7, 2) := by decide +kernel
theorem dX7_sessions_47 : decode cX7_sessions 47 = .ok (.iconst 0, 1) := by decide +kernel
theorem dX7_sessions_48 : decode cX7_sessions 48 = .ok (.istore 8, 2) := by decide +kernel
theorem dX7_sessions_50 : decode cX7_sessions 50 = .ok (.iconst 0, 1) := by decide +kernel
theorem dX7_sessions_51 : decode cX7_sessions 51 = .ok (.istore 9, 2) := by decide +kernel
theorem dX7_sessions_53 : decode cX7_sessions 53 = .ok (.iload 9, 2) := by decide +kernel
theorem dX7_sessions_55 : decode cX7_sessions 55 = .ok (.iload_n 2, 1) := by decide +kernel
theorem dX7_sessions_56 : decode cX7_sessions 56 = .ok (.if_icmp .ge 91, 3) := by decide +kernel
theorem dX7_sessions_59 : decode cX7_sessions 59 = .ok (.lload 5, 2) := by decide +kernel
theorem dX7_sessions_61 : decode cX7_sessions 61 = .ok (.invokestatic 180, 3) := by decide +kernel
theorem dX7_sessions_64 : decode cX7_sessions 64 = .ok (.lstore 5, 2) := by decide +kernel
theorem dX7_sessions_66 : decode cX7_sessions 66 = .ok (.lload 5, 2) := by decide +kernel
theorem dX7_sessions_68 : decode cX7_sessions 68 = .ok (.aload_n 0, 1) := by decide +kernel
theorem dX7_sessions_69 : decode cX7_sessions 69 = .ok (.getfield 56, 3) := by decide +kernel
theorem dX7_sessions_72 : decode cX7_sessions 72 = .ok (.invokestatic 184, 3) := by decide +kernel
theorem dX7_sessions_75 : decode cX7_sessions 75 = .ok (.istore 10, 2) := by decide +kernel
theorem dX7_sessions_77 : decode cX7_sessions 77 = .ok (.lload 5, 2) := by decide +kernel
theorem dX7_sessions_79 : decode cX7_sessions 79 = .ok (.invokestatic 180, 3) := by decide +kernel
theorem dX7_sessions_82 : decode cX7_sessions 82 = .ok (.lstore 5, 2) := by decide +kernel
theorem dX7_sessions_84 : decode cX7_sessions 84 = .ok (.iload 10, 2) := by decide +kernel
theorem dX7_sessions_86 : decode cX7_sessions 86 = .ok (.iload_n 1, 1) := by decide +kernel
theorem dX7_sessions_87 : decode cX7_sessions 87 = .ok (.if_icmp .ne 7, 3) := by decide +kernel
theorem dX7_sessions_90 : decode cX7_sessions 90 = .ok (.iconst 1, 1) := by decide +kernel
theorem dX7_sessions_91 : decode cX7_sessions 91 = .ok (.goto 4, 3) := by decide +kernel
theorem dX7_sessions_94 : decode cX7_sessions 94 = .ok (.iconst 0, 1) := by decide +kernel
theorem dX7_sessions_95 : decode cX7_sessions 95 = .ok (.istore 11, 2) := by decide +kernel
theorem dX7_sessions_97 : decode cX7_sessions 97 = .ok (.lload 5, 2) := by decide +kernel
theorem dX7_sessions_99 : decode cX7_sessions 99 = .ok (.bipush 10, 2) := by decide +kernel
theorem dX7_sessions_101 : decode cX7_sessions 101 = .ok (.invokestatic 184, 3) := by decide +kernel
theorem dX7_sessions_104 : decode cX7_sessions 104 = .ok (.aload_n 0, 1) := by decide +kernel
theorem dX7_sessions_105 : decode cX7_sessions 105 = .ok (.iload 10, 2) := by decide +kernel
theorem dX7_sessions_107 : decode cX7_sessions 107 = .ok (.iload 11, 2) := by decide +kernel
theorem dX7_sessions_109 : decode cX7_sessions 109 = .ok (.ifCond .eq 7, 3) := by decide +kernel
theorem dX7_sessions_112 : decode cX7_sessions 112 = .ok (.iconst 4, 1) := by decide +kernel
theorem dX7_sessions_113 : decode cX7_sessions 113 = .ok (.goto 4, 3) := by decide +kernel
theorem dX7_sessions_116 : decode cX7_sessions 116 = .ok (.iconst 5, 1) := by decide +kernel
theorem dX7_sessions_117 : decode cX7_sessions 117 = .ok (.invokevirtual 188, 3) := by decide +kernel
theorem dX7_sessions_120 : decode cX7_sessions 120 = .ok (.if_icmp .ge 21, 3) := by decide +kernel
theorem dX7_sessions_123 : decode cX7_sessions 123 = .ok (.iinc 7 1, 3) := by decide +kernel
theorem dX7_sessions_126 : decode cX7_sessions 126 = .ok (.iload 8, 2) := by decide +kernel
theorem dX7_sessions_128 : decode cX7_sessions 128 = .ok (.iload 11, 2) := by decide +kernel
theorem dX7_sessions_130 : decode cX7_sessions 130 = .ok (.ifCond .eq 7, 3) := by decide +kernel
theorem dX7_sessions_133 : decode cX7_sessions 133 = .ok (.iconst 0, 1) := by decide +kernel
theorem dX7_sessions_134 : decode cX7_sessions 134 = .ok (.goto 4, 3) := by decide +kernel
theorem dX7_sessions_137 : decode cX7_sessions 137 = .ok (.iconst 1, 1) := by decide +kernel
theorem dX7_sessions_138 : decode cX7_sessions 138 = .ok (.iadd, 1) := by decide +kernel
theorem dX7_sessions_139 : decode cX7_sessions 139 = .ok (.istore 8, 2) := by decide +kernel
theorem dX7_sessions_141 : decode cX7_sessions 141 = .ok (.iinc 9 1, 3) := by decide +kernel
theorem dX7_sessions_144 : decode cX7_sessions 144 = .ok (.goto (-91), 3) := by decide +kernel
theorem dX7_sessions_147 : decode cX7_sessions 147 = .ok (.iload 4, 2) := by decide +kernel
theorem dX7_sessions_149 : decode cX7_sessions 149 = .ok (.ifCond .ne 8, 3) := by decide +kernel
theorem dX7_sessions_152 : decode cX7_sessions 152 = .ok (.iload 7, 2) := by decide +kernel
theorem dX7_sessions_154 : decode cX7_sessions 154 = .ok (.goto 17, 3) := by decide +kernel
theorem dX7_sessions_157 : decode cX7_sessions 157 = .ok (.iload 4, 2) := by decide +kernel
theorem dX7_sessions_159 : decode cX7_sessions 159 = .ok (.iconst 1, 1) := by decide +kernel
theorem dX7_sessions_160 : decode cX7_sessions 160 = .ok (.if_icmp .ne 8, 3) := by decide +kernel
theorem dX7_sessions_163 : decode cX7_sessions 163 = .ok (.iload 8, 2) := by decide +kernel
theorem dX7_sessions_165 : decode cX7_sessions 165 = .ok (.goto 6, 3) := by decide +kernel
theorem dX7_sessions_168 : decode cX7_sessions 168 = .ok (.lload 5, 2) := by decide +kernel
theorem dX7_sessions_170 : decode cX7_sessions 170 = .ok (.l2i, 1) := by decide +kernel
theorem dX7_sessions_171 : decode cX7_sessions 171 = .ok (.ireturn, 1) := by decide +kernel
theorem dX7_image_0 : decode cX7_image 0 = .ok (.aload_n 0, 1) := by decide +kernel
theorem dX7_image_1 : decode cX7_image 1 = .ok (.getfield 56, 3) := by decide +kernel
theorem dX7_image_4 : decode cX7_image 4 = .ok (.ifCond .ne 6, 3) := by decide +kernel
theorem dX7_image_7 : decode cX7_image 7 = .ok (.bipush (-103), 2) := by decide +kernel
theorem dX7_image_9 : decode cX7_image 9 = .ok (.ireturn, 1) := by decide +kernel
theorem dX7_image_10 : decode cX7_image 10 = .ok (.aload_n 0, 1) := by decide +kernel
theorem dX7_image_11 : decode cX7_image 11 = .ok (.getfield 29, 3) := by decide +kernel
theorem dX7_image_14 : decode cX7_image 14 = .ok (.aload_n 0, 1) := by decide +kernel
theorem dX7_image_15 : decode cX7_image 15 = .ok (.getfield 25, 3) := by decide +kernel
theorem dX7_image_18 : decode cX7_image 18 = .ok (.invokevirtual 192, 3) := by decide +kernel
theorem dX7_image_21 : decode cX7_image 21 = .ok (.aload_n 0, 1) := by decide +kernel
theorem dX7_image_22 : decode cX7_image 22 = .ok (.aload_n 0, 1) := by decide +kernel
theorem dX7_image_23 : decode cX7_image 23 = .ok (.getfield 78, 3) := by decide +kernel
theorem dX7_image_26 : decode cX7_image 26 = .ok (.putfield 196, 3) := by decide +kernel
theorem dX7_image_29 : decode cX7_image 29 = .ok (.aload_n 0, 1) := by decide +kernel
theorem dX7_image_30 : decode cX7_image 30 = .ok (.getfield 25, 3) := by decide +kernel
theorem dX7_image_33 : decode cX7_image 33 = .ok (.getfield 101, 3) := by decide +kernel
theorem dX7_image_36 : decode cX7_image 36 = .ok (.invokestatic 122, 3) := by decide +kernel
theorem dX7_image_39 : decode cX7_image 39 = .ok (.ireturn, 1) := by decide +kernel
theorem dX7_restore_0 : decode cX7_restore 0 = .ok (.aload_n 0, 1) := by decide +kernel
theorem dX7_restore_1 : decode cX7_restore 1 = .ok (.getfield 196, 3) := by decide +kernel
theorem dX7_restore_4 : decode cX7_restore 4 = .ok (.ifCond .eq 14, 3) := by decide +kernel
theorem dX7_restore_7 : decode cX7_restore 7 = .ok (.aload_n 0, 1) := by decide +kernel
theorem dX7_restore_8 : decode cX7_restore 8 = .ok (.getfield 196, 3) := by decide +kernel
theorem dX7_restore_11 : decode cX7_restore 11 = .ok (.aload_n 0, 1) := by decide +kernel
theorem dX7_restore_12 : decode cX7_restore 12 = .ok (.getfield 78, 3) := by decide +kernel
theorem dX7_restore_15 : decode cX7_restore 15 = .ok (.if_icmp .eq 6, 3) := by decide +kernel
theorem dX7_restore_18 : decode cX7_restore 18 = .ok (.bipush (-103), 2) := by decide +kernel
theorem dX7_restore_20 : decode cX7_restore 20 = .ok (.ireturn, 1) := by decide +kernel
theorem dX7_restore_21 : decode cX7_restore 21 = .ok (.aload_n 0, 1) := by decide +kernel
theorem dX7_restore_22 : decode cX7_restore 22 = .ok (.getfield 25, 3) := by decide +kernel
theorem dX7_restore_25 : decode cX7_restore 25 = .ok (.aload_n 0, 1) := by decide +kernel
theorem dX7_restore_26 : decode cX7_restore 26 = .ok (.getfield 29, 3) := by decide +kernel
theorem dX7_restore_29 : decode cX7_restore 29 = .ok (.invokevirtual 192, 3) := by decide +kernel
theorem dX7_restore_32 : decode cX7_restore 32 = .ok (.aload_n 0, 1) := by decide +kernel
theorem dX7_restore_33 : decode cX7_restore 33 = .ok (.getfield 25, 3) := by decide +kernel
theorem dX7_restore_36 : decode cX7_restore 36 = .ok (.getfield 101, 3) := by decide +kernel
theorem dX7_restore_39 : decode cX7_restore 39 = .ok (.invokestatic 122, 3) := by decide +kernel
theorem dX7_restore_42 : decode cX7_restore 42 = .ok (.ireturn, 1) := by decide +kernel
theorem dX7_count_0 : decode cX7_count 0 = .ok (.iload_n 1, 1) := by decide +kernel
theorem dX7_count_1 : decode cX7_count 1 = .ok (.tableswitch 123 0 8 #[51, 56, 64, 75, 86, 97, 105, 113, 118], 51) := by decide +kernel
theorem dX7_count_52 : decode cX7_count 52 = .ok (.aload_n 0, 1) := by decide +kernel
theorem dX7_count_53 : decode cX7_count 53 = .ok (.getfield 56, 3) := by decide +kernel
theorem dX7_count_56 : decode cX7_count 56 = .ok (.ireturn, 1) := by decide +kernel
theorem dX7_count_57 : decode cX7_count 57 = .ok (.aload_n 0, 1) := by decide +kernel
theorem dX7_count_58 : decode cX7_count 58 = .ok (.getfield 25, 3) := by decide +kernel
theorem dX7_count_61 : decode cX7_count 61 = .ok (.getfield 94, 3) := by decide +kernel
theorem dX7_count_64 : decode cX7_count 64 = .ok (.ireturn, 1) := by decide +kernel
theorem dX7_count_65 : decode cX7_count 65 = .ok (.aload_n 0, 1) := by decide +kernel
theorem dX7_count_66 : decode cX7_count 66 = .ok (.getfield 25, 3) := by decide +kernel
theorem dX7_count_69 : decode cX7_count 69 = .ok (.getfield 101, 3) := by decide +kernel
theorem dX7_count_72 : decode cX7_count 72 = .ok (.invokestatic 122, 3) := by decide +kernel
theorem dX7_count_75 : decode cX7_count 75 = .ok (.ireturn, 1) := by decide +kernel
theorem dX7_count_76 : decode cX7_count 76 = .ok (.aload_n 0, 1) := by decide +kernel
theorem dX7_count_77 : decode cX7_count 77 = .ok (.getfield 25, 3) := by decide +kernel
theorem dX7_count_80 : decode cX7_count 80 = .ok (.getfield 104, 3) := by decide +kernel
theorem dX7_count_83 : decode cX7_count 83 = .ok (.invokestatic 122, 3) := by decide +kernel
theorem dX7_count_86 : decode cX7_count 86 = .ok (.ireturn, 1) := by decide +kernel
theorem dX7_count_87 : decode cX7_count 87 = .ok (.aload_n 0, 1) := by decide +kernel
theorem dX7_count_88 : decode cX7_count 88 = .ok (.getfield 25, 3) := by decide +kernel
theorem dX7_count_91 : decode cX7_count 91 = .ok (.getfield 90, 3) := by decide +kernel
theorem dX7_count_94 : decode cX7_count 94 = .ok (.invokestatic 122, 3) := by decide +kernel
theorem dX7_count_97 : decode cX7_count 97 = .ok (.ireturn, 1) := by decide +kernel
theorem dX7_count_98 : decode cX7_count 98 = .ok (.aload_n 0, 1) := by decide +kernel
theorem dX7_count_99 : decode cX7_count 99 = .ok (.getfield 25, 3) := by decide +kernel
theorem dX7_count_102 : decode cX7_count 102 = .ok (.getfield 168, 3) := by decide +kernel
theorem dX7_count_105 : decode cX7_count 105 = .ok (.ireturn, 1) := by decide +kernel
theorem dX7_count_106 : decode cX7_count 106 = .ok (.aload_n 0, 1) := by decide +kernel
theorem dX7_count_107 : decode cX7_count 107 = .ok (.getfield 10, 3) := by decide +kernel
theorem dX7_count_110 : decode cX7_count 110 = .ok (.getfield 41, 3) := by decide +kernel
theorem dX7_count_113 : decode cX7_count 113 = .ok (.ireturn, 1) := by decide +kernel
theorem dX7_count_114 : decode cX7_count 114 = .ok (.aload_n 0, 1) := by decide +kernel
theorem dX7_count_115 : decode cX7_count 115 = .ok (.getfield 78, 3) := by decide +kernel
theorem dX7_count_118 : decode cX7_count 118 = .ok (.ireturn, 1) := by decide +kernel
theorem dX7_count_119 : decode cX7_count 119 = .ok (.aload_n 0, 1) := by decide +kernel
theorem dX7_count_120 : decode cX7_count 120 = .ok (.getfield 142, 3) := by decide +kernel
theorem dX7_count_123 : decode cX7_count 123 = .ok (.ireturn, 1) := by decide +kernel
theorem dX7_count_124 : decode cX7_count 124 = .ok (.bipush (-102), 2) := by decide +kernel
theorem dX7_count_126 : decode cX7_count 126 = .ok (.ireturn, 1) := by decide +kernel
theorem dX7_digest_0 : decode cX7_digest 0 = .ok (.ldc2_w 199, 3) := by decide +kernel
theorem dX7_digest_3 : decode cX7_digest 3 = .ok (.lstore_n 1, 1) := by decide +kernel
theorem dX7_digest_4 : decode cX7_digest 4 = .ok (.iconst 0, 1) := by decide +kernel
theorem dX7_digest_5 : decode cX7_digest 5 = .ok (.istore_n 3, 1) := by decide +kernel
theorem dX7_digest_6 : decode cX7_digest 6 = .ok (.iload_n 3, 1) := by decide +kernel
theorem dX7_digest_7 : decode cX7_digest 7 = .ok (.aload_n 0, 1) := by decide +kernel
theorem dX7_digest_8 : decode cX7_digest 8 = .ok (.getfield 56, 3) := by decide +kernel
theorem dX7_digest_11 : decode cX7_digest 11 = .ok (.if_icmp .ge 16, 3) := by decide +kernel
theorem dX7_digest_14 : decode cX7_digest 14 = .ok (.aload_n 0, 1) := by decide +kernel
theorem dX7_digest_15 : decode cX7_digest 15 = .ok (.lload_n 1, 1) := by decide +kernel
theorem dX7_digest_16 : decode cX7_digest 16 = .ok (.iload_n 3, 1) := by decide +kernel
theorem dX7_digest_17 : decode cX7_digest 17 = .ok (.invokevirtual 201, 3) := by decide +kernel
theorem dX7_digest_20 : decode cX7_digest 20 = .ok (.lstore_n 1, 1) := by decide +kernel
theorem dX7_digest_21 : decode cX7_digest 21 = .ok (.iinc 3 1, 3) := by decide +kernel
theorem dX7_digest_24 : decode cX7_digest 24 = .ok (.goto (-18), 3) := by decide +kernel
theorem dX7_digest_27 : decode cX7_digest 27 = .ok (.aload_n 0, 1) := by decide +kernel
theorem dX7_digest_28 : decode cX7_digest 28 = .ok (.getfield 56, 3) := by decide +kernel
theorem dX7_digest_31 : decode cX7_digest 31 = .ok (.ifCond .le 13, 3) := by decide +kernel
theorem dX7_digest_34 : decode cX7_digest 34 = .ok (.lload_n 1, 1) := by decide +kernel
theorem dX7_digest_35 : decode cX7_digest 35 = .ok (.aload_n 0, 1) := by decide +kernel
theorem dX7_digest_36 : decode cX7_digest 36 = .ok (.invokevirtual 205, 3) := by decide +kernel
theorem dX7_digest_39 : decode cX7_digest 39 = .ok (.i2l, 1) := by decide +kernel
theorem dX7_digest_40 : decode cX7_digest 40 = .ok (.invokestatic 208, 3) := by decide +kernel
theorem dX7_digest_43 : decode cX7_digest 43 = .ok (.lstore_n 1, 1) := by decide +kernel
theorem dX7_digest_44 : decode cX7_digest 44 = .ok (.iconst 0, 1) := by decide +kernel
theorem dX7_digest_45 : decode cX7_digest 45 = .ok (.istore_n 3, 1) := by decide +kernel
theorem dX7_digest_46 : decode cX7_digest 46 = .ok (.iload_n 3, 1) := by decide +kernel
theorem dX7_digest_47 : decode cX7_digest 47 = .ok (.aload_n 0, 1) := by decide +kernel
theorem dX7_digest_48 : decode cX7_digest 48 = .ok (.getfield 10, 3) := by decide +kernel
theorem dX7_digest_51 : decode cX7_digest 51 = .ok (.getfield 41, 3) := by decide +kernel
theorem dX7_digest_54 : decode cX7_digest 54 = .ok (.if_icmp .ge 23, 3) := by decide +kernel
theorem dX7_digest_57 : decode cX7_digest 57 = .ok (.lload_n 1, 1) := by decide +kernel
theorem dX7_digest_58 : decode cX7_digest 58 = .ok (.aload_n 0, 1) := by decide +kernel
theorem dX7_digest_59 : decode cX7_digest 59 = .ok (.getfield 10, 3) := by decide +kernel
theorem dX7_digest_62 : decode cX7_digest 62 = .ok (.iload_n 3, 1) := by decide +kernel
theorem dX7_digest_63 : decode cX7_digest 63 = .ok (.invokevirtual 212, 3) := by decide +kernel
theorem dX7_digest_66 : decode cX7_digest 66 = .ok (.i2l, 1) := by decide +kernel
theorem dX7_digest_67 : decode cX7_digest 67 = .ok (.invokestatic 208, 3) := by decide +kernel
theorem dX7_digest_70 : decode cX7_digest 70 = .ok (.lstore_n 1, 1) := by decide +kernel
theorem dX7_digest_71 : decode cX7_digest 71 = .ok (.iinc 3 1, 3) := by decide +kernel
theorem dX7_digest_74 : decode cX7_digest 74 = .ok (.goto (-28), 3) := by decide +kernel
theorem dX7_digest_77 : decode cX7_digest 77 = .ok (.iconst 0, 1) := by decide +kernel
theorem dX7_digest_78 : decode cX7_digest 78 = .ok (.istore_n 3, 1) := by decide +kernel
theorem dX7_digest_79 : decode cX7_digest 79 = .ok (.iload_n 3, 1) := by decide +kernel
theorem dX7_digest_80 : decode cX7_digest 80 = .ok (.bipush 8, 2) := by decide +kernel
theorem dX7_digest_82 : decode cX7_digest 82 = .ok (.if_icmp .gt 20, 3) := by decide +kernel
theorem dX7_digest_85 : decode cX7_digest 85 = .ok (.lload_n 1, 1) := by decide +kernel
theorem dX7_digest_86 : decode cX7_digest 86 = .ok (.aload_n 0, 1) := by decide +kernel
theorem dX7_digest_87 : decode cX7_digest 87 = .ok (.iload_n 3, 1) := by decide +kernel
theorem dX7_digest_88 : decode cX7_digest 88 = .ok (.invokevirtual 215, 3) := by decide +kernel
theorem dX7_digest_91 : decode cX7_digest 91 = .ok (.i2l, 1) := by decide +kernel
theorem dX7_digest_92 : decode cX7_digest 92 = .ok (.invokestatic 208, 3) := by decide +kernel
theorem dX7_digest_95 : decode cX7_digest 95 = .ok (.lstore_n 1, 1) := by decide +kernel
theorem dX7_digest_96 : decode cX7_digest 96 = .ok (.iinc 3 1, 3) := by decide +kernel
theorem dX7_digest_99 : decode cX7_digest 99 = .ok (.goto (-20), 3) := by decide +kernel
theorem dX7_digest_102 : decode cX7_digest 102 = .ok (.lload_n 1, 1) := by decide +kernel
theorem dX7_digest_103 : decode cX7_digest 103 = .ok (.lreturn, 1) := by decide +kernel
theorem dX7_foldAccused_0 : decode cX7_foldAccused 0 = .ok (.lload_n 1, 1) := by decide +kernel
theorem dX7_foldAccused_1 : decode cX7_foldAccused 1 = .ok (.lstore 4, 2) := by decide +kernel
theorem dX7_foldAccused_3 : decode cX7_foldAccused 3 = .ok (.iconst 0, 1) := by decide +kernel
theorem dX7_foldAccused_4 : decode cX7_foldAccused 4 = .ok (.istore 6, 2) := by decide +kernel
theorem dX7_foldAccused_6 : decode cX7_foldAccused 6 = .ok (.iload 6, 2) := by decide +kernel
theorem dX7_foldAccused_8 : decode cX7_foldAccused 8 = .ok (.bipush 8, 2) := by decide +kernel
theorem dX7_foldAccused_10 : decode cX7_foldAccused 10 = .ok (.if_icmp .gt 24, 3) := by decide +kernel
theorem dX7_foldAccused_13 : decode cX7_foldAccused 13 = .ok (.lload 4, 2) := by decide +kernel
theorem dX7_foldAccused_15 : decode cX7_foldAccused 15 = .ok (.aload_n 0, 1) := by decide +kernel
theorem dX7_foldAccused_16 : decode cX7_foldAccused 16 = .ok (.iload_n 3, 1) := by decide +kernel
theorem dX7_foldAccused_17 : decode cX7_foldAccused 17 = .ok (.iload 6, 2) := by decide +kernel
theorem dX7_foldAccused_19 : decode cX7_foldAccused 19 = .ok (.invokevirtual 188, 3) := by decide +kernel
theorem dX7_foldAccused_22 : decode cX7_foldAccused 22 = .ok (.i2l, 1) := by decide +kernel
theorem dX7_foldAccused_23 : decode cX7_foldAccused 23 = .ok (.invokestatic 208, 3) := by decide +kernel
theorem dX7_foldAccused_26 : decode cX7_foldAccused 26 = .ok (.lstore 4, 2) := by decide +kernel
theorem dX7_foldAccused_28 : decode cX7_foldAccused 28 = .ok (.iinc 6 1, 3) := by decide +kernel
theorem dX7_foldAccused_31 : decode cX7_foldAccused 31 = .ok (.goto (-25), 3) := by decide +kernel
theorem dX7_foldAccused_34 : decode cX7_foldAccused 34 = .ok (.iconst 0, 1) := by decide +kernel
theorem dX7_foldAccused_35 : decode cX7_foldAccused 35 = .ok (.istore 6, 2) := by decide +kernel
theorem dX7_foldAccused_37 : decode cX7_foldAccused 37 = .ok (.iload 6, 2) := by decide +kernel
theorem dX7_foldAccused_39 : decode cX7_foldAccused 39 = .ok (.iconst 1, 1) := by decide +kernel
theorem dX7_foldAccused_40 : decode cX7_foldAccused 40 = .ok (.if_icmp .gt 23, 3) := by decide +kernel
theorem dX7_foldAccused_43 : decode cX7_foldAccused 43 = .ok (.lload 4, 2) := by decide +kernel
theorem dX7_foldAccused_45 : decode cX7_foldAccused 45 = .ok (.aload_n 0, 1) := by decide +kernel
theorem dX7_foldAccused_46 : decode cX7_foldAccused 46 = .ok (.iload_n 3, 1) := by decide +kernel
theorem dX7_foldAccused_47 : decode cX7_foldAccused 47 = .ok (.iload 6, 2) := by decide +kernel
theorem dX7_foldAccused_49 : decode cX7_foldAccused 49 = .ok (.invokevirtual 218, 3) := by decide +kernel
theorem dX7_foldAccused_52 : decode cX7_foldAccused 52 = .ok (.invokestatic 208, 3) := by decide +kernel
theorem dX7_foldAccused_55 : decode cX7_foldAccused 55 = .ok (.lstore 4, 2) := by decide +kernel
theorem dX7_foldAccused_57 : decode cX7_foldAccused 57 = .ok (.iinc 6 1, 3) := by decide +kernel
theorem dX7_foldAccused_60 : decode cX7_foldAccused 60 = .ok (.goto (-23), 3) := by decide +kernel
theorem dX7_foldAccused_63 : decode cX7_foldAccused 63 = .ok (.iconst 0, 1) := by decide +kernel
theorem dX7_foldAccused_64 : decode cX7_foldAccused 64 = .ok (.istore 6, 2) := by decide +kernel
theorem dX7_foldAccused_66 : decode cX7_foldAccused 66 = .ok (.iload 6, 2) := by decide +kernel
theorem dX7_foldAccused_68 : decode cX7_foldAccused 68 = .ok (.iconst 2, 1) := by decide +kernel
theorem dX7_foldAccused_69 : decode cX7_foldAccused 69 = .ok (.if_icmp .gt 23, 3) := by decide +kernel
theorem dX7_foldAccused_72 : decode cX7_foldAccused 72 = .ok (.lload 4, 2) := by decide +kernel
theorem dX7_foldAccused_74 : decode cX7_foldAccused 74 = .ok (.aload_n 0, 1) := by decide +kernel
theorem dX7_foldAccused_75 : decode cX7_foldAccused 75 = .ok (.iload_n 3, 1) := by decide +kernel
theorem dX7_foldAccused_76 : decode cX7_foldAccused 76 = .ok (.iload 6, 2) := by decide +kernel
theorem dX7_foldAccused_78 : decode cX7_foldAccused 78 = .ok (.invokevirtual 222, 3) := by decide +kernel
theorem dX7_foldAccused_81 : decode cX7_foldAccused 81 = .ok (.invokestatic 208, 3) := by decide +kernel
theorem dX7_foldAccused_84 : decode cX7_foldAccused 84 = .ok (.lstore 4, 2) := by decide +kernel
theorem dX7_foldAccused_86 : decode cX7_foldAccused 86 = .ok (.iinc 6 1, 3) := by decide +kernel
theorem dX7_foldAccused_89 : decode cX7_foldAccused 89 = .ok (.goto (-23), 3) := by decide +kernel
theorem dX7_foldAccused_92 : decode cX7_foldAccused 92 = .ok (.lload 4, 2) := by decide +kernel
theorem dX7_foldAccused_94 : decode cX7_foldAccused 94 = .ok (.aload_n 0, 1) := by decide +kernel
theorem dX7_foldAccused_95 : decode cX7_foldAccused 95 = .ok (.iload_n 3, 1) := by decide +kernel
theorem dX7_foldAccused_96 : decode cX7_foldAccused 96 = .ok (.invokevirtual 225, 3) := by decide +kernel
theorem dX7_foldAccused_99 : decode cX7_foldAccused 99 = .ok (.i2l, 1) := by decide +kernel
theorem dX7_foldAccused_100 : decode cX7_foldAccused 100 = .ok (.invokestatic 208, 3) := by decide +kernel
theorem dX7_foldAccused_103 : decode cX7_foldAccused 103 = .ok (.lreturn, 1) := by decide +kernel
theorem dX7_fold_0 : decode cX7_fold 0 = .ok (.ldc2_w 228, 3) := by decide +kernel
theorem dX7_fold_3 : decode cX7_fold 3 = .ok (.lload_n 0, 1) := by decide +kernel
theorem dX7_fold_4 : decode cX7_fold 4 = .ok (.lmul, 1) := by decide +kernel
theorem dX7_fold_5 : decode cX7_fold 5 = .ok (.lload_n 2, 1) := by decide +kernel
theorem dX7_fold_6 : decode cX7_fold 6 = .ok (.ladd, 1) := by decide +kernel
theorem dX7_fold_7 : decode cX7_fold 7 = .ok (.lreturn, 1) := by decide +kernel
theorem dX7_personAt_0 : decode cX7_personAt 0 = .ok (.iload_n 1, 1) := by decide +kernel
theorem dX7_personAt_1 : decode cX7_personAt 1 = .ok (.ifCond .lt 16, 3) := by decide +kernel
theorem dX7_personAt_4 : decode cX7_personAt 4 = .ok (.iload_n 1, 1) := by decide +kernel
theorem dX7_personAt_5 : decode cX7_personAt 5 = .ok (.aload_n 0, 1) := by decide +kernel
theorem dX7_personAt_6 : decode cX7_personAt 6 = .ok (.getfield 56, 3) := by decide +kernel
theorem dX7_personAt_9 : decode cX7_personAt 9 = .ok (.if_icmp .ge 8, 3) := by decide +kernel
theorem dX7_personAt_12 : decode cX7_personAt 12 = .ok (.iload_n 1, 1) := by decide +kernel
theorem dX7_personAt_13 : decode cX7_personAt 13 = .ok (.iconst 4, 1) := by decide +kernel
theorem dX7_personAt_14 : decode cX7_personAt 14 = .ok (.if_icmp .lt 5, 3) := by decide +kernel
theorem dX7_personAt_17 : decode cX7_personAt 17 = .ok (.aconst_null, 1) := by decide +kernel
theorem dX7_personAt_18 : decode cX7_personAt 18 = .ok (.areturn, 1) := by decide +kernel
theorem dX7_personAt_19 : decode cX7_personAt 19 = .ok (.aload_n 0, 1) := by decide +kernel
theorem dX7_personAt_20 : decode cX7_personAt 20 = .ok (.getfield 18, 3) := by decide +kernel
theorem dX7_personAt_23 : decode cX7_personAt 23 = .ok (.iload_n 1, 1) := by decide +kernel
theorem dX7_personAt_24 : decode cX7_personAt 24 = .ok (.aaload, 1) := by decide +kernel
theorem dX7_personAt_25 : decode cX7_personAt 25 = .ok (.areturn, 1) := by decide +kernel
theorem dX7_isSuch_0 : decode cX7_isSuch 0 = .ok (.iload_n 1, 1) := by decide +kernel
theorem dX7_isSuch_1 : decode cX7_isSuch 1 = .ok (.tableswitch 51 1 4 #[31, 36, 41, 46], 31) := by decide +kernel
theorem dX7_isSuch_32 : decode cX7_isSuch 32 = .ok (.aload_n 0, 1) := by decide +kernel
theorem dX7_isSuch_33 : decode cX7_isSuch 33 = .ok (.instanceof 230, 3) := by decide +kernel
theorem dX7_isSuch_36 : decode cX7_isSuch 36 = .ok (.ireturn, 1) := by decide +kernel
theorem dX7_isSuch_37 : decode cX7_isSuch 37 = .ok (.aload_n 0, 1) := by decide +kernel
theorem dX7_isSuch_38 : decode cX7_isSuch 38 = .ok (.instanceof 232, 3) := by decide +kernel
theorem dX7_isSuch_41 : decode cX7_isSuch 41 = .ok (.ireturn, 1) := by decide +kernel
theorem dX7_isSuch_42 : decode cX7_isSuch 42 = .ok (.aload_n 0, 1) := by decide +kernel
theorem dX7_isSuch_43 : decode cX7_isSuch 43 = .ok (.instanceof 234, 3) := by decide +kernel
theorem dX7_isSuch_46 : decode cX7_isSuch 46 = .ok (.ireturn, 1) := by decide +kernel
theorem dX7_isSuch_47 : decode cX7_isSuch 47 = .ok (.aload_n 0, 1) := by decide +kernel
theorem dX7_isSuch_48 : decode cX7_isSuch 48 = .ok (.instanceof 236, 3) := by decide +kernel
theorem dX7_isSuch_51 : decode cX7_isSuch 51 = .ok (.ireturn, 1) := by decide +kernel
theorem dX7_isSuch_52 : decode cX7_isSuch 52 = .ok (.iconst 1, 1) := by decide +kernel
theorem dX7_isSuch_53 : decode cX7_isSuch 53 = .ok (.ireturn, 1) := by decide +kernel
theorem dX7_weigh_0 : decode cX7_weigh 0 = .ok (.aload_n 0, 1) := by decide +kernel
theorem dX7_weigh_1 : decode cX7_weigh 1 = .ok (.iload_n 2, 1) := by decide +kernel
theorem dX7_weigh_2 : decode cX7_weigh 2 = .ok (.invokevirtual 81, 3) := by decide +kernel
theorem dX7_weigh_5 : decode cX7_weigh 5 = .ok (.astore 6, 2) := by decide +kernel
theorem dX7_weigh_7 : decode cX7_weigh 7 = .ok (.aload 6, 2) := by decide +kernel
theorem dX7_weigh_9 : decode cX7_weigh 9 = .ok (.ifnonnull 7, 3) := by decide +kernel
theorem dX7_weigh_12 : decode cX7_weigh 12 = .ok (.iconst 0, 1) := by decide +kernel
theorem dX7_weigh_13 : decode cX7_weigh 13 = .ok (.goto 20, 3) := by decide +kernel
theorem dX7_weigh_16 : decode cX7_weigh 16 = .ok (.aload 6, 2) := by decide +kernel
theorem dX7_weigh_18 : decode cX7_weigh 18 = .ok (.iconst 1, 1) := by decide +kernel
theorem dX7_weigh_19 : decode cX7_weigh 19 = .ok (.iload 4, 2) := by decide +kernel
theorem dX7_weigh_21 : decode cX7_weigh 21 = .ok (.aload_n 0, 1) := by decide +kernel
theorem dX7_weigh_22 : decode cX7_weigh 22 = .ok (.getfield 25, 3) := by decide +kernel
theorem dX7_weigh_25 : decode cX7_weigh 25 = .ok (.getfield 90, 3) := by decide +kernel
theorem dX7_weigh_28 : decode cX7_weigh 28 = .ok (.iload_n 2, 1) := by decide +kernel
theorem dX7_weigh_29 : decode cX7_weigh 29 = .ok (.iaload, 1) := by decide +kernel
theorem dX7_weigh_30 : decode cX7_weigh 30 = .ok (.invokevirtual 97, 3) := by decide +kernel
theorem dX7_weigh_33 : decode cX7_weigh 33 = .ok (.istore 7, 2) := by decide +kernel
theorem dX7_weigh_35 : decode cX7_weigh 35 = .ok (.aload 6, 2) := by decide +kernel
theorem dX7_weigh_37 : decode cX7_weigh 37 = .ok (.ifnonnull 7, 3) := by decide +kernel
theorem dX7_weigh_40 : decode cX7_weigh 40 = .ok (.iconst 0, 1) := by decide +kernel
theorem dX7_weigh_41 : decode cX7_weigh 41 = .ok (.goto 20, 3) := by decide +kernel
theorem dX7_weigh_44 : decode cX7_weigh 44 = .ok (.aload 6, 2) := by decide +kernel
theorem dX7_weigh_46 : decode cX7_weigh 46 = .ok (.iconst 0, 1) := by decide +kernel
theorem dX7_weigh_47 : decode cX7_weigh 47 = .ok (.iload 4, 2) := by decide +kernel
theorem dX7_weigh_49 : decode cX7_weigh 49 = .ok (.aload_n 0, 1) := by decide +kernel
theorem dX7_weigh_50 : decode cX7_weigh 50 = .ok (.getfield 25, 3) := by decide +kernel
theorem dX7_weigh_53 : decode cX7_weigh 53 = .ok (.getfield 90, 3) := by decide +kernel
theorem dX7_weigh_56 : decode cX7_weigh 56 = .ok (.iload_n 2, 1) := by decide +kernel
theorem dX7_weigh_57 : decode cX7_weigh 57 = .ok (.iaload, 1) := by decide +kernel
theorem dX7_weigh_58 : decode cX7_weigh 58 = .ok (.invokevirtual 97, 3) := by decide +kernel
theorem dX7_weigh_61 : decode cX7_weigh 61 = .ok (.istore 8, 2) := by decide +kernel
theorem dX7_weigh_63 : decode cX7_weigh 63 = .ok (.iconst 0, 1) := by decide +kernel
theorem dX7_weigh_64 : decode cX7_weigh 64 = .ok (.istore 9, 2) := by decide +kernel
theorem dX7_weigh_66 : decode cX7_weigh 66 = .ok (.iload 9, 2) := by decide +kernel
theorem dX7_weigh_68 : decode cX7_weigh 68 = .ok (.iconst 4, 1) := by decide +kernel
theorem dX7_weigh_69 : decode cX7_weigh 69 = .ok (.if_icmp .ge 49, 3) := by decide +kernel
theorem dX7_weigh_72 : decode cX7_weigh 72 = .ok (.iload 9, 2) := by decide +kernel
theorem dX7_weigh_74 : decode cX7_weigh 74 = .ok (.iload_n 2, 1) := by decide +kernel
theorem dX7_weigh_75 : decode cX7_weigh 75 = .ok (.if_icmp .ne 8, 3) := by decide +kernel
theorem dX7_weigh_78 : decode cX7_weigh 78 = .ok (.iload 7, 2) := by decide +kernel
theorem dX7_weigh_80 : decode cX7_weigh 80 = .ok (.goto 5, 3) := by decide +kernel
theorem dX7_weigh_83 : decode cX7_weigh 83 = .ok (.iload 8, 2) := by decide +kernel
theorem dX7_weigh_85 : decode cX7_weigh 85 = .ok (.istore 10, 2) := by decide +kernel
theorem dX7_weigh_87 : decode cX7_weigh 87 = .ok (.aload 5, 2) := by decide +kernel
theorem dX7_weigh_89 : decode cX7_weigh 89 = .ok (.iload 9, 2) := by decide +kernel
theorem dX7_weigh_91 : decode cX7_weigh 91 = .ok (.aload_n 1, 1) := by decide +kernel
theorem dX7_weigh_92 : decode cX7_weigh 92 = .ok (.iload 9, 2) := by decide +kernel
theorem dX7_weigh_94 : decode cX7_weigh 94 = .ok (.laload, 1) := by decide +kernel
theorem dX7_weigh_95 : decode cX7_weigh 95 = .ok (.iload_n 3, 1) := by decide +kernel
theorem dX7_weigh_96 : decode cX7_weigh 96 = .ok (.ifCond .eq 8, 3) := by decide +kernel
theorem dX7_weigh_99 : decode cX7_weigh 99 = .ok (.iload 10, 2) := by decide +kernel
theorem dX7_weigh_101 : decode cX7_weigh 101 = .ok (.goto 8, 3) := by decide +kernel
theorem dX7_weigh_104 : decode cX7_weigh 104 = .ok (.bipush 10, 2) := by decide +kernel
theorem dX7_weigh_106 : decode cX7_weigh 106 = .ok (.iload 10, 2) := by decide +kernel
theorem dX7_weigh_108 : decode cX7_weigh 108 = .ok (.isub, 1) := by decide +kernel
theorem dX7_weigh_109 : decode cX7_weigh 109 = .ok (.i2l, 1) := by decide +kernel
theorem dX7_weigh_110 : decode cX7_weigh 110 = .ok (.lmul, 1) := by decide +kernel
theorem dX7_weigh_111 : decode cX7_weigh 111 = .ok (.lastore, 1) := by decide +kernel
theorem dX7_weigh_112 : decode cX7_weigh 112 = .ok (.iinc 9 1, 3) := by decide +kernel
theorem dX7_weigh_115 : decode cX7_weigh 115 = .ok (.goto (-49), 3) := by decide +kernel
theorem dX7_weigh_118 : decode cX7_weigh 118 = .ok (.return_, 1) := by decide +kernel
theorem dX7_rightAtBest_0 : decode cX7_rightAtBest 0 = .ok (.iload_n 1, 1) := by decide +kernel
theorem dX7_rightAtBest_1 : decode cX7_rightAtBest 1 = .ok (.ifCond .gt 20, 3) := by decide +kernel
theorem dX7_rightAtBest_4 : decode cX7_rightAtBest 4 = .ok (.aload_n 0, 1) := by decide +kernel
theorem dX7_rightAtBest_5 : decode cX7_rightAtBest 5 = .ok (.getfield 34, 3) := by decide +kernel
theorem dX7_rightAtBest_8 : decode cX7_rightAtBest 8 = .ok (.iconst 0, 1) := by decide +kernel
theorem dX7_rightAtBest_9 : decode cX7_rightAtBest 9 = .ok (.aaload, 1) := by decide +kernel
theorem dX7_rightAtBest_10 : decode cX7_rightAtBest 10 = .ok (.aload_n 0, 1) := by decide +kernel
theorem dX7_rightAtBest_11 : decode cX7_rightAtBest 11 = .ok (.getfield 34, 3) := by decide +kernel
theorem dX7_rightAtBest_14 : decode cX7_rightAtBest 14 = .ok (.iconst 0, 1) := by decide +kernel
theorem dX7_rightAtBest_15 : decode cX7_rightAtBest 15 = .ok (.aaload, 1) := by decide +kernel
theorem dX7_rightAtBest_16 : decode cX7_rightAtBest 16 = .ok (.invokestatic 126, 3) := by decide +kernel
theorem dX7_rightAtBest_19 : decode cX7_rightAtBest 19 = .ok (.laload, 1) := by decide +kernel
theorem dX7_rightAtBest_20 : decode cX7_rightAtBest 20 = .ok (.lreturn, 1) := by decide +kernel
theorem dX7_rightAtBest_21 : decode cX7_rightAtBest 21 = .ok (.ldc2_w 162, 3) := by decide +kernel
theorem dX7_rightAtBest_24 : decode cX7_rightAtBest 24 = .ok (.lstore_n 2, 1) := by decide +kernel
theorem dX7_rightAtBest_25 : decode cX7_rightAtBest 25 = .ok (.iconst 0, 1) := by decide +kernel
theorem dX7_rightAtBest_26 : decode cX7_rightAtBest 26 = .ok (.istore 4, 2) := by decide +kernel
theorem dX7_rightAtBest_28 : decode cX7_rightAtBest 28 = .ok (.iload 4, 2) := by decide +kernel
theorem dX7_rightAtBest_30 : decode cX7_rightAtBest 30 = .ok (.aload_n 0, 1) := by decide +kernel
theorem dX7_rightAtBest_31 : decode cX7_rightAtBest 31 = .ok (.getfield 56, 3) := by decide +kernel
theorem dX7_rightAtBest_34 : decode cX7_rightAtBest 34 = .ok (.if_icmp .ge 28, 3) := by decide +kernel
theorem dX7_rightAtBest_37 : decode cX7_rightAtBest 37 = .ok (.lload_n 2, 1) := by decide +kernel
theorem dX7_rightAtBest_38 : decode cX7_rightAtBest 38 = .ok (.aload_n 0, 1) := by decide +kernel
theorem dX7_rightAtBest_39 : decode cX7_rightAtBest 39 = .ok (.iload 4, 2) := by decide +kernel
theorem dX7_rightAtBest_41 : decode cX7_rightAtBest 41 = .ok (.iload_n 1, 1) := by decide +kernel
theorem dX7_rightAtBest_42 : decode cX7_rightAtBest 42 = .ok (.aload_n 0, 1) := by decide +kernel
theorem dX7_rightAtBest_43 : decode cX7_rightAtBest 43 = .ok (.getfield 25, 3) := by decide +kernel
theorem dX7_rightAtBest_46 : decode cX7_rightAtBest 46 = .ok (.getfield 94, 3) := by decide +kernel
theorem dX7_rightAtBest_49 : decode cX7_rightAtBest 49 = .ok (.invokevirtual 164, 3) := by decide +kernel
theorem dX7_rightAtBest_52 : decode cX7_rightAtBest 52 = .ok (.invokestatic 238, 3) := by decide +kernel
theorem dX7_rightAtBest_55 : decode cX7_rightAtBest 55 = .ok (.lstore_n 2, 1) := by decide +kernel
theorem dX7_rightAtBest_56 : decode cX7_rightAtBest 56 = .ok (.iinc 4 1, 3) := by decide +kernel
theorem dX7_rightAtBest_59 : decode cX7_rightAtBest 59 = .ok (.goto (-31), 3) := by decide +kernel
theorem dX7_rightAtBest_62 : decode cX7_rightAtBest 62 = .ok (.lload_n 2, 1) := by decide +kernel
theorem dX7_rightAtBest_63 : decode cX7_rightAtBest 63 = .ok (.lreturn, 1) := by decide +kernel
theorem dX7_rightIfEats_0 : decode cX7_rightIfEats 0 = .ok (.iload_n 2, 1) := by decide +kernel
theorem dX7_rightIfEats_1 : decode cX7_rightIfEats 1 = .ok (.iconst 1, 1) := by decide +kernel
theorem dX7_rightIfEats_2 : decode cX7_rightIfEats 2 = .ok (.if_icmp .lt 8, 3) := by decide +kernel
theorem dX7_rightIfEats_5 : decode cX7_rightIfEats 5 = .ok (.iload_n 2, 1) := by decide +kernel
theorem dX7_rightIfEats_6 : decode cX7_rightIfEats 6 = .ok (.iconst 3, 1) := by decide +kernel
theorem dX7_rightIfEats_7 : decode cX7_rightIfEats 7 = .ok (.if_icmp .le 5, 3) := by decide +kernel
theorem dX7_rightIfEats_10 : decode cX7_rightIfEats 10 = .ok (.lconst 0, 1) := by decide +kernel
theorem dX7_rightIfEats_11 : decode cX7_rightIfEats 11 = .ok (.lreturn, 1) := by decide +kernel
theorem dX7_rightIfEats_12 : decode cX7_rightIfEats 12 = .ok (.aload_n 0, 1) := by decide +kernel
theorem dX7_rightIfEats_13 : decode cX7_rightIfEats 13 = .ok (.aload_n 0, 1) := by decide +kernel
theorem dX7_rightIfEats_14 : decode cX7_rightIfEats 14 = .ok (.getfield 34, 3) := by decide +kernel
theorem dX7_rightIfEats_17 : decode cX7_rightIfEats 17 = .ok (.iload_n 2, 1) := by decide +kernel
theorem dX7_rightIfEats_18 : decode cX7_rightIfEats 18 = .ok (.aaload, 1) := by decide +kernel
theorem dX7_rightIfEats_19 : decode cX7_rightIfEats 19 = .ok (.iload_n 1, 1) := by decide +kernel
theorem dX7_rightIfEats_20 : decode cX7_rightIfEats 20 = .ok (.iconst 1, 1) := by decide +kernel
theorem dX7_rightIfEats_21 : decode cX7_rightIfEats 21 = .ok (.iload_n 3, 1) := by decide +kernel
theorem dX7_rightIfEats_22 : decode cX7_rightIfEats 22 = .ok (.aload_n 0, 1) := by decide +kernel
theorem dX7_rightIfEats_23 : decode cX7_rightIfEats 23 = .ok (.getfield 34, 3) := by decide +kernel
theorem dX7_rightIfEats_26 : decode cX7_rightIfEats 26 = .ok (.iload_n 2, 1) := by decide +kernel
theorem dX7_rightIfEats_27 : decode cX7_rightIfEats 27 = .ok (.iconst 1, 1) := by decide +kernel
theorem dX7_rightIfEats_28 : decode cX7_rightIfEats 28 = .ok (.isub, 1) := by decide +kernel
theorem dX7_rightIfEats_29 : decode cX7_rightIfEats 29 = .ok (.aaload, 1) := by decide +kernel
theorem dX7_rightIfEats_30 : decode cX7_rightIfEats 30 = .ok (.invokevirtual 114, 3) := by decide +kernel
theorem dX7_rightIfEats_33 : decode cX7_rightIfEats 33 = .ok (.aload_n 0, 1) := by decide +kernel
theorem dX7_rightIfEats_34 : decode cX7_rightIfEats 34 = .ok (.iload_n 2, 1) := by decide +kernel
theorem dX7_rightIfEats_35 : decode cX7_rightIfEats 35 = .ok (.iconst 1, 1) := by decide +kernel
theorem dX7_rightIfEats_36 : decode cX7_rightIfEats 36 = .ok (.isub, 1) := by decide +kernel
theorem dX7_rightIfEats_37 : decode cX7_rightIfEats 37 = .ok (.invokevirtual 158, 3) := by decide +kernel
theorem dX7_rightIfEats_40 : decode cX7_rightIfEats 40 = .ok (.lstore 4, 2) := by decide +kernel
theorem dX7_rightIfEats_42 : decode cX7_rightIfEats 42 = .ok (.aload_n 0, 1) := by decide +kernel
theorem dX7_rightIfEats_43 : decode cX7_rightIfEats 43 = .ok (.aload_n 0, 1) := by decide +kernel
theorem dX7_rightIfEats_44 : decode cX7_rightIfEats 44 = .ok (.getfield 34, 3) := by decide +kernel
theorem dX7_rightIfEats_47 : decode cX7_rightIfEats 47 = .ok (.iload_n 2, 1) := by decide +kernel
theorem dX7_rightIfEats_48 : decode cX7_rightIfEats 48 = .ok (.aaload, 1) := by decide +kernel
theorem dX7_rightIfEats_49 : decode cX7_rightIfEats 49 = .ok (.iload_n 1, 1) := by decide +kernel
theorem dX7_rightIfEats_50 : decode cX7_rightIfEats 50 = .ok (.iconst 0, 1) := by decide +kernel
theorem dX7_rightIfEats_51 : decode cX7_rightIfEats 51 = .ok (.iload_n 3, 1) := by decide +kernel
theorem dX7_rightIfEats_52 : decode cX7_rightIfEats 52 = .ok (.aload_n 0, 1) := by decide +kernel
theorem dX7_rightIfEats_53 : decode cX7_rightIfEats 53 = .ok (.getfield 34, 3) := by decide +kernel
theorem dX7_rightIfEats_56 : decode cX7_rightIfEats 56 = .ok (.iload_n 2, 1) := by decide +kernel
theorem dX7_rightIfEats_57 : decode cX7_rightIfEats 57 = .ok (.iconst 1, 1) := by decide +kernel
theorem dX7_rightIfEats_58 : decode cX7_rightIfEats 58 = .ok (.isub, 1) := by decide +kernel
theorem dX7_rightIfEats_59 : decode cX7_rightIfEats 59 = .ok (.aaload, 1) := by decide +kernel
theorem dX7_rightIfEats_60 : decode cX7_rightIfEats 60 = .ok (.invokevirtual 114, 3) := by decide +kernel
theorem dX7_rightIfEats_63 : decode cX7_rightIfEats 63 = .ok (.lload 4, 2) := by decide +kernel
theorem dX7_rightIfEats_65 : decode cX7_rightIfEats 65 = .ok (.aload_n 0, 1) := by decide +kernel
theorem dX7_rightIfEats_66 : decode cX7_rightIfEats 66 = .ok (.iload_n 2, 1) := by decide +kernel
theorem dX7_rightIfEats_67 : decode cX7_rightIfEats 67 = .ok (.iconst 1, 1) := by decide +kernel
theorem dX7_rightIfEats_68 : decode cX7_rightIfEats 68 = .ok (.isub, 1) := by decide +kernel
theorem dX7_rightIfEats_69 : decode cX7_rightIfEats 69 = .ok (.invokevirtual 158, 3) := by decide +kernel
theorem dX7_rightIfEats_72 : decode cX7_rightIfEats 72 = .ok (.ladd, 1) := by decide +kernel
theorem dX7_rightIfEats_73 : decode cX7_rightIfEats 73 = .ok (.lreturn, 1) := by decide +kernel
theorem dX7_bestEater_0 : decode cX7_bestEater 0 = .ok (.iconst (-1), 1) := by decide +kernel
theorem dX7_bestEater_1 : decode cX7_bestEater 1 = .ok (.istore_n 2, 1) := by decide +kernel
theorem dX7_bestEater_2 : decode cX7_bestEater 2 = .ok (.ldc2_w 162, 3) := by decide +kernel
theorem dX7_bestEater_5 : decode cX7_bestEater 5 = .ok (.lstore_n 3, 1) := by decide +kernel
theorem dX7_bestEater_6 : decode cX7_bestEater 6 = .ok (.iconst 0, 1) := by decide +kernel
theorem dX7_bestEater_7 : decode cX7_bestEater 7 = .ok (.istore 5, 2) := by decide +kernel
theorem dX7_bestEater_9 : decode cX7_bestEater 9 = .ok (.iload 5, 2) := by decide +kernel
theorem dX7_bestEater_11 : decode cX7_bestEater 11 = .ok (.aload_n 0, 1) := by decide +kernel
theorem dX7_bestEater_12 : decode cX7_bestEater 12 = .ok (.getfield 56, 3) := by decide +kernel
theorem dX7_bestEater_15 : decode cX7_bestEater 15 = .ok (.if_icmp .ge 42, 3) := by decide +kernel
theorem dX7_bestEater_18 : decode cX7_bestEater 18 = .ok (.iload_n 1, 1) := by decide +kernel
theorem dX7_bestEater_19 : decode cX7_bestEater 19 = .ok (.ifCond .le 38, 3) := by decide +kernel
theorem dX7_bestEater_22 : decode cX7_bestEater 22 = .ok (.aload_n 0, 1) := by decide +kernel
theorem dX7_bestEater_23 : decode cX7_bestEater 23 = .ok (.iload 5, 2) := by decide +kernel
theorem dX7_bestEater_25 : decode cX7_bestEater 25 = .ok (.iload_n 1, 1) := by decide +kernel
theorem dX7_bestEater_26 : decode cX7_bestEater 26 = .ok (.aload_n 0, 1) := by decide +kernel
theorem dX7_bestEater_27 : decode cX7_bestEater 27 = .ok (.getfield 25, 3) := by decide +kernel
theorem dX7_bestEater_30 : decode cX7_bestEater 30 = .ok (.getfield 94, 3) := by decide +kernel
theorem dX7_bestEater_33 : decode cX7_bestEater 33 = .ok (.invokevirtual 164, 3) := by decide +kernel
theorem dX7_bestEater_36 : decode cX7_bestEater 36 = .ok (.lstore 6, 2) := by decide +kernel
theorem dX7_bestEater_38 : decode cX7_bestEater 38 = .ok (.lload 6, 2) := by decide +kernel
theorem dX7_bestEater_40 : decode cX7_bestEater 40 = .ok (.lload_n 3, 1) := by decide +kernel
theorem dX7_bestEater_41 : decode cX7_bestEater 41 = .ok (.lcmp, 1) := by decide +kernel
theorem dX7_bestEater_42 : decode cX7_bestEater 42 = .ok (.ifCond .le 9, 3) := by decide +kernel
theorem dX7_bestEater_45 : decode cX7_bestEater 45 = .ok (.lload 6, 2) := by decide +kernel
theorem dX7_bestEater_47 : decode cX7_bestEater 47 = .ok (.lstore_n 3, 1) := by decide +kernel
theorem dX7_bestEater_48 : decode cX7_bestEater 48 = .ok (.iload 5, 2) := by decide +kernel
theorem dX7_bestEater_50 : decode cX7_bestEater 50 = .ok (.istore_n 2, 1) := by decide +kernel
theorem dX7_bestEater_51 : decode cX7_bestEater 51 = .ok (.iinc 5 1, 3) := by decide +kernel
theorem dX7_bestEater_54 : decode cX7_bestEater 54 = .ok (.goto (-45), 3) := by decide +kernel
theorem dX7_bestEater_57 : decode cX7_bestEater 57 = .ok (.iload_n 2, 1) := by decide +kernel
theorem dX7_bestEater_58 : decode cX7_bestEater 58 = .ok (.ireturn, 1) := by decide +kernel
theorem dX7_weightOfAll_0 : decode cX7_weightOfAll 0 = .ok (.lconst 0, 1) := by decide +kernel
theorem dX7_weightOfAll_1 : decode cX7_weightOfAll 1 = .ok (.lstore_n 1, 1) := by decide +kernel
theorem dX7_weightOfAll_2 : decode cX7_weightOfAll 2 = .ok (.iconst 0, 1) := by decide +kernel
theorem dX7_weightOfAll_3 : decode cX7_weightOfAll 3 = .ok (.istore_n 3, 1) := by decide +kernel
theorem dX7_weightOfAll_4 : decode cX7_weightOfAll 4 = .ok (.iload_n 3, 1) := by decide +kernel
theorem dX7_weightOfAll_5 : decode cX7_weightOfAll 5 = .ok (.iconst 4, 1) := by decide +kernel
theorem dX7_weightOfAll_6 : decode cX7_weightOfAll 6 = .ok (.if_icmp .ge 21, 3) := by decide +kernel
theorem dX7_weightOfAll_9 : decode cX7_weightOfAll 9 = .ok (.lload_n 1, 1) := by decide +kernel
theorem dX7_weightOfAll_10 : decode cX7_weightOfAll 10 = .ok (.aload_n 0, 1) := by decide +kernel
theorem dX7_weightOfAll_11 : decode cX7_weightOfAll 11 = .ok (.getfield 25, 3) := by decide +kernel
theorem dX7_weightOfAll_14 : decode cX7_weightOfAll 14 = .ok (.getfield 71, 3) := by decide +kernel
theorem dX7_weightOfAll_17 : decode cX7_weightOfAll 17 = .ok (.iload_n 3, 1) := by decide +kernel
theorem dX7_weightOfAll_18 : decode cX7_weightOfAll 18 = .ok (.laload, 1) := by decide +kernel
theorem dX7_weightOfAll_19 : decode cX7_weightOfAll 19 = .ok (.ladd, 1) := by decide +kernel
theorem dX7_weightOfAll_20 : decode cX7_weightOfAll 20 = .ok (.lstore_n 1, 1) := by decide +kernel
theorem dX7_weightOfAll_21 : decode cX7_weightOfAll 21 = .ok (.iinc 3 1, 3) := by decide +kernel
theorem dX7_weightOfAll_24 : decode cX7_weightOfAll 24 = .ok (.goto (-20), 3) := by decide +kernel
theorem dX7_weightOfAll_27 : decode cX7_weightOfAll 27 = .ok (.lload_n 1, 1) := by decide +kernel
theorem dX7_weightOfAll_28 : decode cX7_weightOfAll 28 = .ok (.lreturn, 1) := by decide +kernel
theorem dX7_heaviest_0 : decode cX7_heaviest 0 = .ok (.iconst 0, 1) := by decide +kernel
theorem dX7_heaviest_1 : decode cX7_heaviest 1 = .ok (.istore_n 1, 1) := by decide +kernel
theorem dX7_heaviest_2 : decode cX7_heaviest 2 = .ok (.iconst 1, 1) := by decide +kernel
theorem dX7_heaviest_3 : decode cX7_heaviest 3 = .ok (.istore_n 2, 1) := by decide +kernel
theorem dX7_heaviest_4 : decode cX7_heaviest 4 = .ok (.iload_n 2, 1) := by decide +kernel
theorem dX7_heaviest_5 : decode cX7_heaviest 5 = .ok (.iconst 4, 1) := by decide +kernel
theorem dX7_heaviest_6 : decode cX7_heaviest 6 = .ok (.if_icmp .ge 21, 3) := by decide +kernel
theorem dX7_heaviest_9 : decode cX7_heaviest 9 = .ok (.aload_n 0, 1) := by decide +kernel
theorem dX7_heaviest_10 : decode cX7_heaviest 10 = .ok (.iload_n 2, 1) := by decide +kernel
theorem dX7_heaviest_11 : decode cX7_heaviest 11 = .ok (.laload, 1) := by decide +kernel
theorem dX7_heaviest_12 : decode cX7_heaviest 12 = .ok (.aload_n 0, 1) := by decide +kernel
theorem dX7_heaviest_13 : decode cX7_heaviest 13 = .ok (.iload_n 1, 1) := by decide +kernel
theorem dX7_heaviest_14 : decode cX7_heaviest 14 = .ok (.laload, 1) := by decide +kernel
theorem dX7_heaviest_15 : decode cX7_heaviest 15 = .ok (.lcmp, 1) := by decide +kernel
theorem dX7_heaviest_16 : decode cX7_heaviest 16 = .ok (.ifCond .le 5, 3) := by decide +kernel
theorem dX7_heaviest_19 : decode cX7_heaviest 19 = .ok (.iload_n 2, 1) := by decide +kernel
theorem dX7_heaviest_20 : decode cX7_heaviest 20 = .ok (.istore_n 1, 1) := by decide +kernel
theorem dX7_heaviest_21 : decode cX7_heaviest 21 = .ok (.iinc 2 1, 3) := by decide +kernel
theorem dX7_heaviest_24 : decode cX7_heaviest 24 = .ok (.goto (-20), 3) := by decide +kernel
theorem dX7_heaviest_27 : decode cX7_heaviest 27 = .ok (.iload_n 1, 1) := by decide +kernel
theorem dX7_heaviest_28 : decode cX7_heaviest 28 = .ok (.ireturn, 1) := by decide +kernel
theorem dX7_sumOf_0 : decode cX7_sumOf 0 = .ok (.iconst 0, 1) := by decide +kernel
theorem dX7_sumOf_1 : decode cX7_sumOf 1 = .ok (.istore_n 1, 1) := by decide +kernel
theorem dX7_sumOf_2 : decode cX7_sumOf 2 = .ok (.iconst 0, 1) := by decide +kernel
theorem dX7_sumOf_3 : decode cX7_sumOf 3 = .ok (.istore_n 2, 1) := by decide +kernel
theorem dX7_sumOf_4 : decode cX7_sumOf 4 = .ok (.iload_n 2, 1) := by decide +kernel
theorem dX7_sumOf_5 : decode cX7_sumOf 5 = .ok (.aload_n 0, 1) := by decide +kernel
theorem dX7_sumOf_6 : decode cX7_sumOf 6 = .ok (.arraylength, 1) := by decide +kernel
theorem dX7_sumOf_7 : decode cX7_sumOf 7 = .ok (.if_icmp .ge 15, 3) := by decide +kernel
theorem dX7_sumOf_10 : decode cX7_sumOf 10 = .ok (.iload_n 1, 1) := by decide +kernel
theorem dX7_sumOf_11 : decode cX7_sumOf 11 = .ok (.aload_n 0, 1) := by decide +kernel
theorem dX7_sumOf_12 : decode cX7_sumOf 12 = .ok (.iload_n 2, 1) := by decide +kernel
theorem dX7_sumOf_13 : decode cX7_sumOf 13 = .ok (.iaload, 1) := by decide +kernel
theorem dX7_sumOf_14 : decode cX7_sumOf 14 = .ok (.iadd, 1) := by decide +kernel
theorem dX7_sumOf_15 : decode cX7_sumOf 15 = .ok (.istore_n 1, 1) := by decide +kernel
theorem dX7_sumOf_16 : decode cX7_sumOf 16 = .ok (.iinc 2 1, 3) := by decide +kernel
theorem dX7_sumOf_19 : decode cX7_sumOf 19 = .ok (.goto (-15), 3) := by decide +kernel
theorem dX7_sumOf_22 : decode cX7_sumOf 22 = .ok (.iload_n 1, 1) := by decide +kernel
theorem dX7_sumOf_23 : decode cX7_sumOf 23 = .ok (.ireturn, 1) := by decide +kernel
theorem dX7_inLowestTerms_0 : decode cX7_inLowestTerms 0 = .ok (.lload_n 0, 1) := by decide +kernel
theorem dX7_inLowestTerms_1 : decode cX7_inLowestTerms 1 = .ok (.lload_n 2, 1) := by decide +kernel
theorem dX7_inLowestTerms_2 : decode cX7_inLowestTerms 2 = .ok (.invokestatic 243, 3) := by decide +kernel
theorem dX7_inLowestTerms_5 : decode cX7_inLowestTerms 5 = .ok (.lstore 5, 2) := by decide +kernel
theorem dX7_inLowestTerms_7 : decode cX7_inLowestTerms 7 = .ok (.lload 5, 2) := by decide +kernel
theorem dX7_inLowestTerms_9 : decode cX7_inLowestTerms 9 = .ok (.lconst 0, 1) := by decide +kernel
theorem dX7_inLowestTerms_10 : decode cX7_inLowestTerms 10 = .ok (.lcmp, 1) := by decide +kernel
theorem dX7_inLowestTerms_11 : decode cX7_inLowestTerms 11 = .ok (.ifCond .gt 5, 3) := by decide +kernel
theorem dX7_inLowestTerms_14 : decode cX7_inLowestTerms 14 = .ok (.lconst 0, 1) := by decide +kernel
theorem dX7_inLowestTerms_15 : decode cX7_inLowestTerms 15 = .ok (.lreturn, 1) := by decide +kernel
theorem dX7_inLowestTerms_16 : decode cX7_inLowestTerms 16 = .ok (.iload 4, 2) := by decide +kernel
theorem dX7_inLowestTerms_18 : decode cX7_inLowestTerms 18 = .ok (.ifCond .ne 7, 3) := by decide +kernel
theorem dX7_inLowestTerms_21 : decode cX7_inLowestTerms 21 = .ok (.lload_n 0, 1) := by decide +kernel
theorem dX7_inLowestTerms_22 : decode cX7_inLowestTerms 22 = .ok (.goto 4, 3) := by decide +kernel
theorem dX7_inLowestTerms_25 : decode cX7_inLowestTerms 25 = .ok (.lload_n 2, 1) := by decide +kernel
theorem dX7_inLowestTerms_26 : decode cX7_inLowestTerms 26 = .ok (.lload 5, 2) := by decide +kernel
theorem dX7_inLowestTerms_28 : decode cX7_inLowestTerms 28 = .ok (.ldiv, 1) := by decide +kernel
theorem dX7_inLowestTerms_29 : decode cX7_inLowestTerms 29 = .ok (.lreturn, 1) := by decide +kernel
theorem dX7_commonDivisor_0 : decode cX7_commonDivisor 0 = .ok (.lconst 0, 1) := by decide +kernel
theorem dX7_commonDivisor_1 : decode cX7_commonDivisor 1 = .ok (.lstore_n 1, 1) := by decide +kernel
theorem dX7_commonDivisor_2 : decode cX7_commonDivisor 2 = .ok (.iconst 0, 1) := by decide +kernel
theorem dX7_commonDivisor_3 : decode cX7_commonDivisor 3 = .ok (.istore_n 3, 1) := by decide +kernel
theorem dX7_commonDivisor_4 : decode cX7_commonDivisor 4 = .ok (.iload_n 3, 1) := by decide +kernel
theorem dX7_commonDivisor_5 : decode cX7_commonDivisor 5 = .ok (.iconst 4, 1) := by decide +kernel
theorem dX7_commonDivisor_6 : decode cX7_commonDivisor 6 = .ok (.if_icmp .ge 17, 3) := by decide +kernel
theorem dX7_commonDivisor_9 : decode cX7_commonDivisor 9 = .ok (.lload_n 1, 1) := by decide +kernel
theorem dX7_commonDivisor_10 : decode cX7_commonDivisor 10 = .ok (.aload_n 0, 1) := by decide +kernel
theorem dX7_commonDivisor_11 : decode cX7_commonDivisor 11 = .ok (.iload_n 3, 1) := by decide +kernel
theorem dX7_commonDivisor_12 : decode cX7_commonDivisor 12 = .ok (.laload, 1) := by decide +kernel
theorem dX7_commonDivisor_13 : decode cX7_commonDivisor 13 = .ok (.invokestatic 243, 3) := by decide +kernel
theorem dX7_commonDivisor_16 : decode cX7_commonDivisor 16 = .ok (.lstore_n 1, 1) := by decide +kernel
theorem dX7_commonDivisor_17 : decode cX7_commonDivisor 17 = .ok (.iinc 3 1, 3) := by decide +kernel
theorem dX7_commonDivisor_20 : decode cX7_commonDivisor 20 = .ok (.goto (-16), 3) := by decide +kernel
theorem dX7_commonDivisor_23 : decode cX7_commonDivisor 23 = .ok (.lload_n 1, 1) := by decide +kernel
theorem dX7_commonDivisor_24 : decode cX7_commonDivisor 24 = .ok (.lreturn, 1) := by decide +kernel
theorem dX7_commonDivisor__0 : decode cX7_commonDivisor_ 0 = .ok (.lload_n 0, 1) := by decide +kernel
theorem dX7_commonDivisor__1 : decode cX7_commonDivisor_ 1 = .ok (.lstore 4, 2) := by decide +kernel
theorem dX7_commonDivisor__3 : decode cX7_commonDivisor_ 3 = .ok (.lload_n 2, 1) := by decide +kernel
theorem dX7_commonDivisor__4 : decode cX7_commonDivisor_ 4 = .ok (.lstore 6, 2) := by decide +kernel
theorem dX7_commonDivisor__6 : decode cX7_commonDivisor_ 6 = .ok (.iconst 0, 1) := by decide +kernel
theorem dX7_commonDivisor__7 : decode cX7_commonDivisor_ 7 = .ok (.istore 8, 2) := by decide +kernel
theorem dX7_commonDivisor__9 : decode cX7_commonDivisor_ 9 = .ok (.iload 8, 2) := by decide +kernel
theorem dX7_commonDivisor__11 : decode cX7_commonDivisor_ 11 = .ok (.bipush 100, 2) := by decide +kernel
theorem dX7_commonDivisor__13 : decode cX7_commonDivisor_ 13 = .ok (.if_icmp .ge 31, 3) := by decide +kernel
theorem dX7_commonDivisor__16 : decode cX7_commonDivisor_ 16 = .ok (.lload 6, 2) := by decide +kernel
theorem dX7_commonDivisor__18 : decode cX7_commonDivisor_ 18 = .ok (.lconst 0, 1) := by decide +kernel
theorem dX7_commonDivisor__19 : decode cX7_commonDivisor_ 19 = .ok (.lcmp, 1) := by decide +kernel
theorem dX7_commonDivisor__20 : decode cX7_commonDivisor_ 20 = .ok (.ifCond .eq 24, 3) := by decide +kernel
theorem dX7_commonDivisor__23 : decode cX7_commonDivisor_ 23 = .ok (.lload 4, 2) := by decide +kernel
theorem dX7_commonDivisor__25 : decode cX7_commonDivisor_ 25 = .ok (.lload 6, 2) := by decide +kernel
theorem dX7_commonDivisor__27 : decode cX7_commonDivisor_ 27 = .ok (.lrem, 1) := by decide +kernel
theorem dX7_commonDivisor__28 : decode cX7_commonDivisor_ 28 = .ok (.lstore 9, 2) := by decide +kernel
theorem dX7_commonDivisor__30 : decode cX7_commonDivisor_ 30 = .ok (.lload 6, 2) := by decide +kernel
theorem dX7_commonDivisor__32 : decode cX7_commonDivisor_ 32 = .ok (.lstore 4, 2) := by decide +kernel
theorem dX7_commonDivisor__34 : decode cX7_commonDivisor_ 34 = .ok (.lload 9, 2) := by decide +kernel
theorem dX7_commonDivisor__36 : decode cX7_commonDivisor_ 36 = .ok (.lstore 6, 2) := by decide +kernel
theorem dX7_commonDivisor__38 : decode cX7_commonDivisor_ 38 = .ok (.iinc 8 1, 3) := by decide +kernel
theorem dX7_commonDivisor__41 : decode cX7_commonDivisor_ 41 = .ok (.goto (-32), 3) := by decide +kernel
theorem dX7_commonDivisor__44 : decode cX7_commonDivisor_ 44 = .ok (.lload 4, 2) := by decide +kernel
theorem dX7_commonDivisor__46 : decode cX7_commonDivisor_ 46 = .ok (.lreturn, 1) := by decide +kernel
theorem dX7_nextSeed_0 : decode cX7_nextSeed 0 = .ok (.ldc2_w 245, 3) := by decide +kernel
theorem dX7_nextSeed_3 : decode cX7_nextSeed 3 = .ok (.lload_n 0, 1) := by decide +kernel
theorem dX7_nextSeed_4 : decode cX7_nextSeed 4 = .ok (.lmul, 1) := by decide +kernel
theorem dX7_nextSeed_5 : decode cX7_nextSeed 5 = .ok (.ldc2_w 247, 3) := by decide +kernel
theorem dX7_nextSeed_8 : decode cX7_nextSeed 8 = .ok (.ladd, 1) := by decide +kernel
theorem dX7_nextSeed_9 : decode cX7_nextSeed 9 = .ok (.ldc2_w 249, 3) := by decide +kernel
theorem dX7_nextSeed_12 : decode cX7_nextSeed 12 = .ok (.lrem, 1) := by decide +kernel
theorem dX7_nextSeed_13 : decode cX7_nextSeed 13 = .ok (.lreturn, 1) := by decide +kernel
theorem dX7_draw_0 : decode cX7_draw 0 = .ok (.iload_n 2, 1) := by decide +kernel
theorem dX7_draw_1 : decode cX7_draw 1 = .ok (.ifCond .gt 7, 3) := by decide +kernel
theorem dX7_draw_4 : decode cX7_draw 4 = .ok (.iconst 0, 1) := by decide +kernel
theorem dX7_draw_5 : decode cX7_draw 5 = .ok (.goto 12, 3) := by decide +kernel
theorem dX7_draw_8 : decode cX7_draw 8 = .ok (.lload_n 0, 1) := by decide +kernel
theorem dX7_draw_9 : decode cX7_draw 9 = .ok (.ldc2_w 251, 3) := by decide +kernel
theorem dX7_draw_12 : decode cX7_draw 12 = .ok (.ldiv, 1) := by decide +kernel
theorem dX7_draw_13 : decode cX7_draw 13 = .ok (.iload_n 2, 1) := by decide +kernel
theorem dX7_draw_14 : decode cX7_draw 14 = .ok (.i2l, 1) := by decide +kernel
theorem dX7_draw_15 : decode cX7_draw 15 = .ok (.lrem, 1) := by decide +kernel
theorem dX7_draw_16 : decode cX7_draw 16 = .ok (.l2i, 1) := by decide +kernel
theorem dX7_draw_17 : decode cX7_draw 17 = .ok (.ireturn, 1) := by decide +kernel
