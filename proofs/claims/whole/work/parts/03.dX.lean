theorem dX0_init_0 : decode cX0_init 0 = .ok (.aload_n 0, 1) := by decide +kernel
theorem dX0_init_1 : decode cX0_init 1 = .ok (.iload_n 1, 1) := by decide +kernel
theorem dX0_init_2 : decode cX0_init 2 = .ok (.iload_n 2, 1) := by decide +kernel
theorem dX0_init_3 : decode cX0_init 3 = .ok (.invokespecial 3, 3) := by decide +kernel
theorem dX0_init_6 : decode cX0_init 6 = .ok (.return_, 1) := by decide +kernel
theorem dX0_kind_0 : decode cX0_kind 0 = .ok (.iconst 1, 1) := by decide +kernel
theorem dX0_kind_1 : decode cX0_kind 1 = .ok (.ireturn, 1) := by decide +kernel
theorem dX0_dread_0 : decode cX0_dread 0 = .ok (.aload_n 0, 1) := by decide +kernel
theorem dX0_dread_1 : decode cX0_dread 1 = .ok (.getfield 9, 3) := by decide +kernel
theorem dX0_dread_4 : decode cX0_dread 4 = .ok (.ireturn, 1) := by decide +kernel
theorem dX1_init_0 : decode cX1_init 0 = .ok (.aload_n 0, 1) := by decide +kernel
theorem dX1_init_1 : decode cX1_init 1 = .ok (.invokespecial 3, 3) := by decide +kernel
theorem dX1_init_4 : decode cX1_init 4 = .ok (.aload_n 0, 1) := by decide +kernel
theorem dX1_init_5 : decode cX1_init 5 = .ok (.bipush 18, 2) := by decide +kernel
theorem dX1_init_7 : decode cX1_init 7 = .ok (.newarray .int, 2) := by decide +kernel
theorem dX1_init_9 : decode cX1_init 9 = .ok (.putfield 9, 3) := by decide +kernel
theorem dX1_init_12 : decode cX1_init 12 = .ok (.return_, 1) := by decide +kernel
theorem dX1_write_0 : decode cX1_write 0 = .ok (.aload_n 0, 1) := by decide +kernel
theorem dX1_write_1 : decode cX1_write 1 = .ok (.getfield 15, 3) := by decide +kernel
theorem dX1_write_4 : decode cX1_write 4 = .ok (.ifCond .lt 12, 3) := by decide +kernel
theorem dX1_write_7 : decode cX1_write 7 = .ok (.aload_n 0, 1) := by decide +kernel
theorem dX1_write_8 : decode cX1_write 8 = .ok (.getfield 15, 3) := by decide +kernel
theorem dX1_write_11 : decode cX1_write 11 = .ok (.bipush 18, 2) := by decide +kernel
theorem dX1_write_13 : decode cX1_write 13 = .ok (.if_icmp .lt 5, 3) := by decide +kernel
theorem dX1_write_16 : decode cX1_write 16 = .ok (.iconst 0, 1) := by decide +kernel
theorem dX1_write_17 : decode cX1_write 17 = .ok (.ireturn, 1) := by decide +kernel
theorem dX1_write_18 : decode cX1_write 18 = .ok (.aload_n 0, 1) := by decide +kernel
theorem dX1_write_19 : decode cX1_write 19 = .ok (.getfield 9, 3) := by decide +kernel
theorem dX1_write_22 : decode cX1_write 22 = .ok (.aload_n 0, 1) := by decide +kernel
theorem dX1_write_23 : decode cX1_write 23 = .ok (.getfield 15, 3) := by decide +kernel
theorem dX1_write_26 : decode cX1_write 26 = .ok (.iload_n 1, 1) := by decide +kernel
theorem dX1_write_27 : decode cX1_write 27 = .ok (.iastore, 1) := by decide +kernel
theorem dX1_write_28 : decode cX1_write 28 = .ok (.aload_n 0, 1) := by decide +kernel
theorem dX1_write_29 : decode cX1_write 29 = .ok (.dup, 1) := by decide +kernel
theorem dX1_write_30 : decode cX1_write 30 = .ok (.getfield 15, 3) := by decide +kernel
theorem dX1_write_33 : decode cX1_write 33 = .ok (.iconst 1, 1) := by decide +kernel
theorem dX1_write_34 : decode cX1_write 34 = .ok (.iadd, 1) := by decide +kernel
theorem dX1_write_35 : decode cX1_write 35 = .ok (.putfield 15, 3) := by decide +kernel
theorem dX1_write_38 : decode cX1_write 38 = .ok (.iconst 1, 1) := by decide +kernel
theorem dX1_write_39 : decode cX1_write 39 = .ok (.ireturn, 1) := by decide +kernel
theorem dX1_codeAt_0 : decode cX1_codeAt 0 = .ok (.iload_n 1, 1) := by decide +kernel
theorem dX1_codeAt_1 : decode cX1_codeAt 1 = .ok (.ifCond .lt 17, 3) := by decide +kernel
theorem dX1_codeAt_4 : decode cX1_codeAt 4 = .ok (.iload_n 1, 1) := by decide +kernel
theorem dX1_codeAt_5 : decode cX1_codeAt 5 = .ok (.aload_n 0, 1) := by decide +kernel
theorem dX1_codeAt_6 : decode cX1_codeAt 6 = .ok (.getfield 15, 3) := by decide +kernel
theorem dX1_codeAt_9 : decode cX1_codeAt 9 = .ok (.if_icmp .ge 9, 3) := by decide +kernel
theorem dX1_codeAt_12 : decode cX1_codeAt 12 = .ok (.iload_n 1, 1) := by decide +kernel
theorem dX1_codeAt_13 : decode cX1_codeAt 13 = .ok (.bipush 18, 2) := by decide +kernel
theorem dX1_codeAt_15 : decode cX1_codeAt 15 = .ok (.if_icmp .lt 7, 3) := by decide +kernel
theorem dX1_codeAt_18 : decode cX1_codeAt 18 = .ok (.iconst 0, 1) := by decide +kernel
theorem dX1_codeAt_19 : decode cX1_codeAt 19 = .ok (.goto 9, 3) := by decide +kernel
theorem dX1_codeAt_22 : decode cX1_codeAt 22 = .ok (.aload_n 0, 1) := by decide +kernel
theorem dX1_codeAt_23 : decode cX1_codeAt 23 = .ok (.getfield 9, 3) := by decide +kernel
theorem dX1_codeAt_26 : decode cX1_codeAt 26 = .ok (.iload_n 1, 1) := by decide +kernel
theorem dX1_codeAt_27 : decode cX1_codeAt 27 = .ok (.iaload, 1) := by decide +kernel
theorem dX1_codeAt_28 : decode cX1_codeAt 28 = .ok (.ireturn, 1) := by decide +kernel
theorem dX1_digitAt_0 : decode cX1_digitAt 0 = .ok (.aload_n 0, 1) := by decide +kernel
theorem dX1_digitAt_1 : decode cX1_digitAt 1 = .ok (.iload_n 1, 1) := by decide +kernel
theorem dX1_digitAt_2 : decode cX1_digitAt 2 = .ok (.invokevirtual 19, 3) := by decide +kernel
theorem dX1_digitAt_5 : decode cX1_digitAt 5 = .ok (.bipush 48, 2) := by decide +kernel
theorem dX1_digitAt_7 : decode cX1_digitAt 7 = .ok (.isub, 1) := by decide +kernel
theorem dX1_digitAt_8 : decode cX1_digitAt 8 = .ok (.ireturn, 1) := by decide +kernel
theorem dX1_firstFault_0 : decode cX1_firstFault 0 = .ok (.iconst (-1), 1) := by decide +kernel
theorem dX1_firstFault_1 : decode cX1_firstFault 1 = .ok (.istore_n 1, 1) := by decide +kernel
theorem dX1_firstFault_2 : decode cX1_firstFault 2 = .ok (.iconst 0, 1) := by decide +kernel
theorem dX1_firstFault_3 : decode cX1_firstFault 3 = .ok (.istore_n 2, 1) := by decide +kernel
theorem dX1_firstFault_4 : decode cX1_firstFault 4 = .ok (.iload_n 2, 1) := by decide +kernel
theorem dX1_firstFault_5 : decode cX1_firstFault 5 = .ok (.aload_n 0, 1) := by decide +kernel
theorem dX1_firstFault_6 : decode cX1_firstFault 6 = .ok (.getfield 15, 3) := by decide +kernel
theorem dX1_firstFault_9 : decode cX1_firstFault 9 = .ok (.if_icmp .ge 62, 3) := by decide +kernel
theorem dX1_firstFault_12 : decode cX1_firstFault 12 = .ok (.iload_n 1, 1) := by decide +kernel
theorem dX1_firstFault_13 : decode cX1_firstFault 13 = .ok (.iconst (-1), 1) := by decide +kernel
theorem dX1_firstFault_14 : decode cX1_firstFault 14 = .ok (.if_icmp .ne 11, 3) := by decide +kernel
theorem dX1_firstFault_17 : decode cX1_firstFault 17 = .ok (.aload_n 0, 1) := by decide +kernel
theorem dX1_firstFault_18 : decode cX1_firstFault 18 = .ok (.iload_n 2, 1) := by decide +kernel
theorem dX1_firstFault_19 : decode cX1_firstFault 19 = .ok (.invokevirtual 23, 3) := by decide +kernel
theorem dX1_firstFault_22 : decode cX1_firstFault 22 = .ok (.goto 24, 3) := by decide +kernel
theorem dX1_firstFault_25 : decode cX1_firstFault 25 = .ok (.iload_n 2, 1) := by decide +kernel
theorem dX1_firstFault_26 : decode cX1_firstFault 26 = .ok (.iload_n 1, 1) := by decide +kernel
theorem dX1_firstFault_27 : decode cX1_firstFault 27 = .ok (.iconst 1, 1) := by decide +kernel
theorem dX1_firstFault_28 : decode cX1_firstFault 28 = .ok (.iadd, 1) := by decide +kernel
theorem dX1_firstFault_29 : decode cX1_firstFault 29 = .ok (.if_icmp .ne 16, 3) := by decide +kernel
theorem dX1_firstFault_32 : decode cX1_firstFault 32 = .ok (.aload_n 0, 1) := by decide +kernel
theorem dX1_firstFault_33 : decode cX1_firstFault 33 = .ok (.iload_n 2, 1) := by decide +kernel
theorem dX1_firstFault_34 : decode cX1_firstFault 34 = .ok (.iconst 1, 1) := by decide +kernel
theorem dX1_firstFault_35 : decode cX1_firstFault 35 = .ok (.invokevirtual 27, 3) := by decide +kernel
theorem dX1_firstFault_38 : decode cX1_firstFault 38 = .ok (.ifCond .eq 7, 3) := by decide +kernel
theorem dX1_firstFault_41 : decode cX1_firstFault 41 = .ok (.iconst 1, 1) := by decide +kernel
theorem dX1_firstFault_42 : decode cX1_firstFault 42 = .ok (.goto 4, 3) := by decide +kernel
theorem dX1_firstFault_45 : decode cX1_firstFault 45 = .ok (.iconst 0, 1) := by decide +kernel
theorem dX1_firstFault_46 : decode cX1_firstFault 46 = .ok (.istore_n 3, 1) := by decide +kernel
theorem dX1_firstFault_47 : decode cX1_firstFault 47 = .ok (.iload_n 3, 1) := by decide +kernel
theorem dX1_firstFault_48 : decode cX1_firstFault 48 = .ok (.ifCond .ne 5, 3) := by decide +kernel
theorem dX1_firstFault_51 : decode cX1_firstFault 51 = .ok (.iload_n 2, 1) := by decide +kernel
theorem dX1_firstFault_52 : decode cX1_firstFault 52 = .ok (.ireturn, 1) := by decide +kernel
theorem dX1_firstFault_53 : decode cX1_firstFault 53 = .ok (.aload_n 0, 1) := by decide +kernel
theorem dX1_firstFault_54 : decode cX1_firstFault 54 = .ok (.iload_n 2, 1) := by decide +kernel
theorem dX1_firstFault_55 : decode cX1_firstFault 55 = .ok (.invokevirtual 19, 3) := by decide +kernel
theorem dX1_firstFault_58 : decode cX1_firstFault 58 = .ok (.bipush 59, 2) := by decide +kernel
theorem dX1_firstFault_60 : decode cX1_firstFault 60 = .ok (.if_icmp .ne 5, 3) := by decide +kernel
theorem dX1_firstFault_63 : decode cX1_firstFault 63 = .ok (.iload_n 2, 1) := by decide +kernel
theorem dX1_firstFault_64 : decode cX1_firstFault 64 = .ok (.istore_n 1, 1) := by decide +kernel
theorem dX1_firstFault_65 : decode cX1_firstFault 65 = .ok (.iinc 2 1, 3) := by decide +kernel
theorem dX1_firstFault_68 : decode cX1_firstFault 68 = .ok (.goto (-64), 3) := by decide +kernel
theorem dX1_firstFault_71 : decode cX1_firstFault 71 = .ok (.aload_n 0, 1) := by decide +kernel
theorem dX1_firstFault_72 : decode cX1_firstFault 72 = .ok (.getfield 15, 3) := by decide +kernel
theorem dX1_firstFault_75 : decode cX1_firstFault 75 = .ok (.ireturn, 1) := by decide +kernel
theorem dX1_isWhole_0 : decode cX1_isWhole 0 = .ok (.aload_n 0, 1) := by decide +kernel
theorem dX1_isWhole_1 : decode cX1_isWhole 1 = .ok (.invokevirtual 31, 3) := by decide +kernel
theorem dX1_isWhole_4 : decode cX1_isWhole 4 = .ok (.aload_n 0, 1) := by decide +kernel
theorem dX1_isWhole_5 : decode cX1_isWhole 5 = .ok (.getfield 15, 3) := by decide +kernel
theorem dX1_isWhole_8 : decode cX1_isWhole 8 = .ok (.if_icmp .ne 22, 3) := by decide +kernel
theorem dX1_isWhole_11 : decode cX1_isWhole 11 = .ok (.aload_n 0, 1) := by decide +kernel
theorem dX1_isWhole_12 : decode cX1_isWhole 12 = .ok (.aload_n 0, 1) := by decide +kernel
theorem dX1_isWhole_13 : decode cX1_isWhole 13 = .ok (.getfield 15, 3) := by decide +kernel
theorem dX1_isWhole_16 : decode cX1_isWhole 16 = .ok (.iconst 2, 1) := by decide +kernel
theorem dX1_isWhole_17 : decode cX1_isWhole 17 = .ok (.isub, 1) := by decide +kernel
theorem dX1_isWhole_18 : decode cX1_isWhole 18 = .ok (.invokevirtual 19, 3) := by decide +kernel
theorem dX1_isWhole_21 : decode cX1_isWhole 21 = .ok (.bipush 59, 2) := by decide +kernel
theorem dX1_isWhole_23 : decode cX1_isWhole 23 = .ok (.if_icmp .ne 7, 3) := by decide +kernel
theorem dX1_isWhole_26 : decode cX1_isWhole 26 = .ok (.iconst 1, 1) := by decide +kernel
theorem dX1_isWhole_27 : decode cX1_isWhole 27 = .ok (.goto 4, 3) := by decide +kernel
theorem dX1_isWhole_30 : decode cX1_isWhole 30 = .ok (.iconst 0, 1) := by decide +kernel
theorem dX1_isWhole_31 : decode cX1_isWhole 31 = .ok (.ireturn, 1) := by decide +kernel
theorem dX1_accusedCount_0 : decode cX1_accusedCount 0 = .ok (.iconst 4, 1) := by decide +kernel
theorem dX1_accusedCount_1 : decode cX1_accusedCount 1 = .ok (.aload_n 0, 1) := by decide +kernel
theorem dX1_accusedCount_2 : decode cX1_accusedCount 2 = .ok (.getfield 15, 3) := by decide +kernel
theorem dX1_accusedCount_5 : decode cX1_accusedCount 5 = .ok (.iconst 1, 1) := by decide +kernel
theorem dX1_accusedCount_6 : decode cX1_accusedCount 6 = .ok (.isub, 1) := by decide +kernel
theorem dX1_accusedCount_7 : decode cX1_accusedCount 7 = .ok (.iconst 4, 1) := by decide +kernel
theorem dX1_accusedCount_8 : decode cX1_accusedCount 8 = .ok (.idiv, 1) := by decide +kernel
theorem dX1_accusedCount_9 : decode cX1_accusedCount 9 = .ok (.invokestatic 35, 3) := by decide +kernel
theorem dX1_accusedCount_12 : decode cX1_accusedCount 12 = .ok (.ireturn, 1) := by decide +kernel
theorem dX1_readPerson_0 : decode cX1_readPerson 0 = .ok (.iload_n 1, 1) := by decide +kernel
theorem dX1_readPerson_1 : decode cX1_readPerson 1 = .ok (.iconst 4, 1) := by decide +kernel
theorem dX1_readPerson_2 : decode cX1_readPerson 2 = .ok (.imul, 1) := by decide +kernel
theorem dX1_readPerson_3 : decode cX1_readPerson 3 = .ok (.istore_n 2, 1) := by decide +kernel
theorem dX1_readPerson_4 : decode cX1_readPerson 4 = .ok (.aload_n 0, 1) := by decide +kernel
theorem dX1_readPerson_5 : decode cX1_readPerson 5 = .ok (.iload_n 2, 1) := by decide +kernel
theorem dX1_readPerson_6 : decode cX1_readPerson 6 = .ok (.iconst 1, 1) := by decide +kernel
theorem dX1_readPerson_7 : decode cX1_readPerson 7 = .ok (.iadd, 1) := by decide +kernel
theorem dX1_readPerson_8 : decode cX1_readPerson 8 = .ok (.invokevirtual 41, 3) := by decide +kernel
theorem dX1_readPerson_11 : decode cX1_readPerson 11 = .ok (.istore_n 3, 1) := by decide +kernel
theorem dX1_readPerson_12 : decode cX1_readPerson 12 = .ok (.aload_n 0, 1) := by decide +kernel
theorem dX1_readPerson_13 : decode cX1_readPerson 13 = .ok (.iload_n 2, 1) := by decide +kernel
theorem dX1_readPerson_14 : decode cX1_readPerson 14 = .ok (.iconst 2, 1) := by decide +kernel
theorem dX1_readPerson_15 : decode cX1_readPerson 15 = .ok (.iadd, 1) := by decide +kernel
theorem dX1_readPerson_16 : decode cX1_readPerson 16 = .ok (.invokevirtual 41, 3) := by decide +kernel
theorem dX1_readPerson_19 : decode cX1_readPerson 19 = .ok (.istore 4, 2) := by decide +kernel
theorem dX1_readPerson_21 : decode cX1_readPerson 21 = .ok (.aload_n 0, 1) := by decide +kernel
theorem dX1_readPerson_22 : decode cX1_readPerson 22 = .ok (.iload_n 2, 1) := by decide +kernel
theorem dX1_readPerson_23 : decode cX1_readPerson 23 = .ok (.invokevirtual 44, 3) := by decide +kernel
theorem dX1_readPerson_26 : decode cX1_readPerson 26 = .ok (.tableswitch 74 1 4 #[30, 41, 52, 63], 30) := by decide +kernel
theorem dX1_readPerson_56 : decode cX1_readPerson 56 = .ok (.new 47, 3) := by decide +kernel
theorem dX1_readPerson_59 : decode cX1_readPerson 59 = .ok (.dup, 1) := by decide +kernel
theorem dX1_readPerson_60 : decode cX1_readPerson 60 = .ok (.iload_n 3, 1) := by decide +kernel
theorem dX1_readPerson_61 : decode cX1_readPerson 61 = .ok (.iload 4, 2) := by decide +kernel
theorem dX1_readPerson_63 : decode cX1_readPerson 63 = .ok (.invokespecial 49, 3) := by decide +kernel
theorem dX1_readPerson_66 : decode cX1_readPerson 66 = .ok (.areturn, 1) := by decide +kernel
theorem dX1_readPerson_67 : decode cX1_readPerson 67 = .ok (.new 52, 3) := by decide +kernel
theorem dX1_readPerson_70 : decode cX1_readPerson 70 = .ok (.dup, 1) := by decide +kernel
theorem dX1_readPerson_71 : decode cX1_readPerson 71 = .ok (.iload_n 3, 1) := by decide +kernel
theorem dX1_readPerson_72 : decode cX1_readPerson 72 = .ok (.iload 4, 2) := by decide +kernel
theorem dX1_readPerson_74 : decode cX1_readPerson 74 = .ok (.invokespecial 54, 3) := by decide +kernel
theorem dX1_readPerson_77 : decode cX1_readPerson 77 = .ok (.areturn, 1) := by decide +kernel
theorem dX1_readPerson_78 : decode cX1_readPerson 78 = .ok (.new 55, 3) := by decide +kernel
theorem dX1_readPerson_81 : decode cX1_readPerson 81 = .ok (.dup, 1) := by decide +kernel
theorem dX1_readPerson_82 : decode cX1_readPerson 82 = .ok (.iload_n 3, 1) := by decide +kernel
theorem dX1_readPerson_83 : decode cX1_readPerson 83 = .ok (.iload 4, 2) := by decide +kernel
theorem dX1_readPerson_85 : decode cX1_readPerson 85 = .ok (.invokespecial 57, 3) := by decide +kernel
theorem dX1_readPerson_88 : decode cX1_readPerson 88 = .ok (.areturn, 1) := by decide +kernel
theorem dX1_readPerson_89 : decode cX1_readPerson 89 = .ok (.new 58, 3) := by decide +kernel
theorem dX1_readPerson_92 : decode cX1_readPerson 92 = .ok (.dup, 1) := by decide +kernel
theorem dX1_readPerson_93 : decode cX1_readPerson 93 = .ok (.iload_n 3, 1) := by decide +kernel
theorem dX1_readPerson_94 : decode cX1_readPerson 94 = .ok (.iload 4, 2) := by decide +kernel
theorem dX1_readPerson_96 : decode cX1_readPerson 96 = .ok (.invokespecial 60, 3) := by decide +kernel
theorem dX1_readPerson_99 : decode cX1_readPerson 99 = .ok (.areturn, 1) := by decide +kernel
theorem dX1_readPerson_100 : decode cX1_readPerson 100 = .ok (.new 61, 3) := by decide +kernel
theorem dX1_readPerson_103 : decode cX1_readPerson 103 = .ok (.dup, 1) := by decide +kernel
theorem dX1_readPerson_104 : decode cX1_readPerson 104 = .ok (.iload_n 3, 1) := by decide +kernel
theorem dX1_readPerson_105 : decode cX1_readPerson 105 = .ok (.iload 4, 2) := by decide +kernel
theorem dX1_readPerson_107 : decode cX1_readPerson 107 = .ok (.invokespecial 63, 3) := by decide +kernel
theorem dX1_readPerson_110 : decode cX1_readPerson 110 = .ok (.areturn, 1) := by decide +kernel
theorem dX1_fitsAccused_0 : decode cX1_fitsAccused 0 = .ok (.iload_n 1, 1) := by decide +kernel
theorem dX1_fitsAccused_1 : decode cX1_fitsAccused 1 = .ok (.iconst 4, 1) := by decide +kernel
theorem dX1_fitsAccused_2 : decode cX1_fitsAccused 2 = .ok (.irem, 1) := by decide +kernel
theorem dX1_fitsAccused_3 : decode cX1_fitsAccused 3 = .ok (.tableswitch 53 0 2 #[25, 39, 46], 25) := by decide +kernel
theorem dX1_fitsAccused_28 : decode cX1_fitsAccused 28 = .ok (.aload_n 0, 1) := by decide +kernel
theorem dX1_fitsAccused_29 : decode cX1_fitsAccused 29 = .ok (.iload_n 1, 1) := by decide +kernel
theorem dX1_fitsAccused_30 : decode cX1_fitsAccused 30 = .ok (.invokevirtual 44, 3) := by decide +kernel
theorem dX1_fitsAccused_33 : decode cX1_fitsAccused 33 = .ok (.ifCond .lt 7, 3) := by decide +kernel
theorem dX1_fitsAccused_36 : decode cX1_fitsAccused 36 = .ok (.iconst 1, 1) := by decide +kernel
theorem dX1_fitsAccused_37 : decode cX1_fitsAccused 37 = .ok (.goto 4, 3) := by decide +kernel
theorem dX1_fitsAccused_40 : decode cX1_fitsAccused 40 = .ok (.iconst 0, 1) := by decide +kernel
theorem dX1_fitsAccused_41 : decode cX1_fitsAccused 41 = .ok (.ireturn, 1) := by decide +kernel
theorem dX1_fitsAccused_42 : decode cX1_fitsAccused 42 = .ok (.aload_n 0, 1) := by decide +kernel
theorem dX1_fitsAccused_43 : decode cX1_fitsAccused 43 = .ok (.iload_n 1, 1) := by decide +kernel
theorem dX1_fitsAccused_44 : decode cX1_fitsAccused 44 = .ok (.iconst 0, 1) := by decide +kernel
theorem dX1_fitsAccused_45 : decode cX1_fitsAccused 45 = .ok (.invokevirtual 27, 3) := by decide +kernel
theorem dX1_fitsAccused_48 : decode cX1_fitsAccused 48 = .ok (.ireturn, 1) := by decide +kernel
theorem dX1_fitsAccused_49 : decode cX1_fitsAccused 49 = .ok (.aload_n 0, 1) := by decide +kernel
theorem dX1_fitsAccused_50 : decode cX1_fitsAccused 50 = .ok (.iload_n 1, 1) := by decide +kernel
theorem dX1_fitsAccused_51 : decode cX1_fitsAccused 51 = .ok (.iconst 1, 1) := by decide +kernel
theorem dX1_fitsAccused_52 : decode cX1_fitsAccused 52 = .ok (.invokevirtual 27, 3) := by decide +kernel
theorem dX1_fitsAccused_55 : decode cX1_fitsAccused 55 = .ok (.ireturn, 1) := by decide +kernel
theorem dX1_fitsAccused_56 : decode cX1_fitsAccused 56 = .ok (.aload_n 0, 1) := by decide +kernel
theorem dX1_fitsAccused_57 : decode cX1_fitsAccused 57 = .ok (.iload_n 1, 1) := by decide +kernel
theorem dX1_fitsAccused_58 : decode cX1_fitsAccused 58 = .ok (.iload_n 1, 1) := by decide +kernel
theorem dX1_fitsAccused_59 : decode cX1_fitsAccused 59 = .ok (.iconst 4, 1) := by decide +kernel
theorem dX1_fitsAccused_60 : decode cX1_fitsAccused 60 = .ok (.idiv, 1) := by decide +kernel
theorem dX1_fitsAccused_61 : decode cX1_fitsAccused 61 = .ok (.iconst 1, 1) := by decide +kernel
theorem dX1_fitsAccused_62 : decode cX1_fitsAccused 62 = .ok (.iadd, 1) := by decide +kernel
theorem dX1_fitsAccused_63 : decode cX1_fitsAccused 63 = .ok (.invokevirtual 64, 3) := by decide +kernel
theorem dX1_fitsAccused_66 : decode cX1_fitsAccused 66 = .ok (.ireturn, 1) := by decide +kernel
theorem dX1_fitsBehind_0 : decode cX1_fitsBehind 0 = .ok (.aload_n 0, 1) := by decide +kernel
theorem dX1_fitsBehind_1 : decode cX1_fitsBehind 1 = .ok (.iload_n 1, 1) := by decide +kernel
theorem dX1_fitsBehind_2 : decode cX1_fitsBehind 2 = .ok (.invokevirtual 19, 3) := by decide +kernel
theorem dX1_fitsBehind_5 : decode cX1_fitsBehind 5 = .ok (.istore_n 3, 1) := by decide +kernel
theorem dX1_fitsBehind_6 : decode cX1_fitsBehind 6 = .ok (.iload_n 3, 1) := by decide +kernel
theorem dX1_fitsBehind_7 : decode cX1_fitsBehind 7 = .ok (.bipush 44, 2) := by decide +kernel
theorem dX1_fitsBehind_9 : decode cX1_fitsBehind 9 = .ok (.if_icmp .ne 8, 3) := by decide +kernel
theorem dX1_fitsBehind_12 : decode cX1_fitsBehind 12 = .ok (.iload_n 2, 1) := by decide +kernel
theorem dX1_fitsBehind_13 : decode cX1_fitsBehind 13 = .ok (.iconst 4, 1) := by decide +kernel
theorem dX1_fitsBehind_14 : decode cX1_fitsBehind 14 = .ok (.if_icmp .lt 14, 3) := by decide +kernel
theorem dX1_fitsBehind_17 : decode cX1_fitsBehind 17 = .ok (.iload_n 3, 1) := by decide +kernel
theorem dX1_fitsBehind_18 : decode cX1_fitsBehind 18 = .ok (.bipush 59, 2) := by decide +kernel
theorem dX1_fitsBehind_20 : decode cX1_fitsBehind 20 = .ok (.if_icmp .ne 12, 3) := by decide +kernel
theorem dX1_fitsBehind_23 : decode cX1_fitsBehind 23 = .ok (.iload_n 2, 1) := by decide +kernel
theorem dX1_fitsBehind_24 : decode cX1_fitsBehind 24 = .ok (.iconst 2, 1) := by decide +kernel
theorem dX1_fitsBehind_25 : decode cX1_fitsBehind 25 = .ok (.if_icmp .lt 7, 3) := by decide +kernel
theorem dX1_fitsBehind_28 : decode cX1_fitsBehind 28 = .ok (.iconst 1, 1) := by decide +kernel
theorem dX1_fitsBehind_29 : decode cX1_fitsBehind 29 = .ok (.goto 4, 3) := by decide +kernel
theorem dX1_fitsBehind_32 : decode cX1_fitsBehind 32 = .ok (.iconst 0, 1) := by decide +kernel
theorem dX1_fitsBehind_33 : decode cX1_fitsBehind 33 = .ok (.ireturn, 1) := by decide +kernel
theorem dX1_kindAt_0 : decode cX1_kindAt 0 = .ok (.ldc 67, 2) := by decide +kernel
theorem dX1_kindAt_2 : decode cX1_kindAt 2 = .ok (.aload_n 0, 1) := by decide +kernel
theorem dX1_kindAt_3 : decode cX1_kindAt 3 = .ok (.iload_n 1, 1) := by decide +kernel
theorem dX1_kindAt_4 : decode cX1_kindAt 4 = .ok (.invokevirtual 19, 3) := by decide +kernel
theorem dX1_kindAt_7 : decode cX1_kindAt 7 = .ok (.i2c, 1) := by decide +kernel
theorem dX1_kindAt_8 : decode cX1_kindAt 8 = .ok (.invokevirtual 69, 3) := by decide +kernel
theorem dX1_kindAt_11 : decode cX1_kindAt 11 = .ok (.ireturn, 1) := by decide +kernel
theorem dX1_isDigit_0 : decode cX1_isDigit 0 = .ok (.aload_n 0, 1) := by decide +kernel
theorem dX1_isDigit_1 : decode cX1_isDigit 1 = .ok (.iload_n 1, 1) := by decide +kernel
theorem dX1_isDigit_2 : decode cX1_isDigit 2 = .ok (.invokevirtual 41, 3) := by decide +kernel
theorem dX1_isDigit_5 : decode cX1_isDigit 5 = .ok (.istore_n 3, 1) := by decide +kernel
theorem dX1_isDigit_6 : decode cX1_isDigit 6 = .ok (.iload_n 3, 1) := by decide +kernel
theorem dX1_isDigit_7 : decode cX1_isDigit 7 = .ok (.iload_n 2, 1) := by decide +kernel
theorem dX1_isDigit_8 : decode cX1_isDigit 8 = .ok (.if_icmp .lt 13, 3) := by decide +kernel
theorem dX1_isDigit_11 : decode cX1_isDigit 11 = .ok (.iload_n 3, 1) := by decide +kernel
theorem dX1_isDigit_12 : decode cX1_isDigit 12 = .ok (.bipush 9, 2) := by decide +kernel
theorem dX1_isDigit_14 : decode cX1_isDigit 14 = .ok (.if_icmp .gt 7, 3) := by decide +kernel
theorem dX1_isDigit_17 : decode cX1_isDigit 17 = .ok (.iconst 1, 1) := by decide +kernel
theorem dX1_isDigit_18 : decode cX1_isDigit 18 = .ok (.goto 4, 3) := by decide +kernel
theorem dX1_isDigit_21 : decode cX1_isDigit 21 = .ok (.iconst 0, 1) := by decide +kernel
theorem dX1_isDigit_22 : decode cX1_isDigit 22 = .ok (.ireturn, 1) := by decide +kernel
theorem dX2_init_0 : decode cX2_init 0 = .ok (.aload_n 0, 1) := by decide +kernel
theorem dX2_init_1 : decode cX2_init 1 = .ok (.invokespecial 3, 3) := by decide +kernel
theorem dX2_init_4 : decode cX2_init 4 = .ok (.aload_n 0, 1) := by decide +kernel
theorem dX2_init_5 : decode cX2_init 5 = .ok (.iload_n 1, 1) := by decide +kernel
theorem dX2_init_6 : decode cX2_init 6 = .ok (.putfield 9, 3) := by decide +kernel
theorem dX2_init_9 : decode cX2_init 9 = .ok (.aload_n 0, 1) := by decide +kernel
theorem dX2_init_10 : decode cX2_init 10 = .ok (.iload_n 2, 1) := by decide +kernel
theorem dX2_init_11 : decode cX2_init 11 = .ok (.putfield 15, 3) := by decide +kernel
theorem dX2_init_14 : decode cX2_init 14 = .ok (.return_, 1) := by decide +kernel
theorem dX2_kind_0 : decode cX2_kind 0 = .ok (.iconst 0, 1) := by decide +kernel
theorem dX2_kind_1 : decode cX2_kind 1 = .ok (.ireturn, 1) := by decide +kernel
theorem dX2_dread_0 : decode cX2_dread 0 = .ok (.iload_n 1, 1) := by decide +kernel
theorem dX2_dread_1 : decode cX2_dread 1 = .ok (.ifCond .eq 12, 3) := by decide +kernel
theorem dX2_dread_4 : decode cX2_dread 4 = .ok (.aload_n 0, 1) := by decide +kernel
theorem dX2_dread_5 : decode cX2_dread 5 = .ok (.getfield 9, 3) := by decide +kernel
theorem dX2_dread_8 : decode cX2_dread 8 = .ok (.iconst 3, 1) := by decide +kernel
theorem dX2_dread_9 : decode cX2_dread 9 = .ok (.iadd, 1) := by decide +kernel
theorem dX2_dread_10 : decode cX2_dread 10 = .ok (.goto 7, 3) := by decide +kernel
theorem dX2_dread_13 : decode cX2_dread 13 = .ok (.aload_n 0, 1) := by decide +kernel
theorem dX2_dread_14 : decode cX2_dread 14 = .ok (.getfield 9, 3) := by decide +kernel
theorem dX2_dread_17 : decode cX2_dread 17 = .ok (.ireturn, 1) := by decide +kernel
theorem dX2_tenths_0 : decode cX2_tenths 0 = .ok (.iconst 0, 1) := by decide +kernel
theorem dX2_tenths_1 : decode cX2_tenths 1 = .ok (.bipush 10, 2) := by decide +kernel
theorem dX2_tenths_3 : decode cX2_tenths 3 = .ok (.aload_n 0, 1) := by decide +kernel
theorem dX2_tenths_4 : decode cX2_tenths 4 = .ok (.iload_n 1, 1) := by decide +kernel
theorem dX2_tenths_5 : decode cX2_tenths 5 = .ok (.invokevirtual 18, 3) := by decide +kernel
theorem dX2_tenths_8 : decode cX2_tenths 8 = .ok (.iload_n 2, 1) := by decide +kernel
theorem dX2_tenths_9 : decode cX2_tenths 9 = .ok (.iadd, 1) := by decide +kernel
theorem dX2_tenths_10 : decode cX2_tenths 10 = .ok (.iload_n 3, 1) := by decide +kernel
theorem dX2_tenths_11 : decode cX2_tenths 11 = .ok (.isub, 1) := by decide +kernel
theorem dX2_tenths_12 : decode cX2_tenths 12 = .ok (.iconst 5, 1) := by decide +kernel
theorem dX2_tenths_13 : decode cX2_tenths 13 = .ok (.isub, 1) := by decide +kernel
theorem dX2_tenths_14 : decode cX2_tenths 14 = .ok (.invokestatic 22, 3) := by decide +kernel
theorem dX2_tenths_17 : decode cX2_tenths 17 = .ok (.invokestatic 28, 3) := by decide +kernel
theorem dX2_tenths_20 : decode cX2_tenths 20 = .ok (.ireturn, 1) := by decide +kernel
theorem dX2_need_0 : decode cX2_need 0 = .ok (.iconst 0, 1) := by decide +kernel
theorem dX2_need_1 : decode cX2_need 1 = .ok (.istore_n 2, 1) := by decide +kernel
theorem dX2_need_2 : decode cX2_need 2 = .ok (.iload_n 2, 1) := by decide +kernel
theorem dX2_need_3 : decode cX2_need 3 = .ok (.bipush 9, 2) := by decide +kernel
theorem dX2_need_5 : decode cX2_need 5 = .ok (.if_icmp .gt 31, 3) := by decide +kernel
theorem dX2_need_8 : decode cX2_need 8 = .ok (.aload_n 0, 1) := by decide +kernel
theorem dX2_need_9 : decode cX2_need 9 = .ok (.iconst 1, 1) := by decide +kernel
theorem dX2_need_10 : decode cX2_need 10 = .ok (.iload_n 1, 1) := by decide +kernel
theorem dX2_need_11 : decode cX2_need 11 = .ok (.iload_n 2, 1) := by decide +kernel
theorem dX2_need_12 : decode cX2_need 12 = .ok (.invokevirtual 31, 3) := by decide +kernel
theorem dX2_need_15 : decode cX2_need 15 = .ok (.ifCond .ne 15, 3) := by decide +kernel
theorem dX2_need_18 : decode cX2_need 18 = .ok (.aload_n 0, 1) := by decide +kernel
theorem dX2_need_19 : decode cX2_need 19 = .ok (.iconst 0, 1) := by decide +kernel
theorem dX2_need_20 : decode cX2_need 20 = .ok (.iload_n 1, 1) := by decide +kernel
theorem dX2_need_21 : decode cX2_need 21 = .ok (.iload_n 2, 1) := by decide +kernel
theorem dX2_need_22 : decode cX2_need 22 = .ok (.invokevirtual 31, 3) := by decide +kernel
theorem dX2_need_25 : decode cX2_need 25 = .ok (.ifCond .ne 5, 3) := by decide +kernel
theorem dX2_need_28 : decode cX2_need 28 = .ok (.iload_n 2, 1) := by decide +kernel
theorem dX2_need_29 : decode cX2_need 29 = .ok (.ireturn, 1) := by decide +kernel
theorem dX2_need_30 : decode cX2_need 30 = .ok (.iinc 2 1, 3) := by decide +kernel
theorem dX2_need_33 : decode cX2_need 33 = .ok (.goto (-31), 3) := by decide +kernel
theorem dX2_need_36 : decode cX2_need 36 = .ok (.iconst (-1), 1) := by decide +kernel
theorem dX2_need_37 : decode cX2_need 37 = .ok (.ireturn, 1) := by decide +kernel
theorem dX2_butterBits_0 : decode cX2_butterBits 0 = .ok (.iconst 0, 1) := by decide +kernel
theorem dX2_butterBits_1 : decode cX2_butterBits 1 = .ok (.istore 4, 2) := by decide +kernel
theorem dX2_butterBits_3 : decode cX2_butterBits 3 = .ok (.iconst 0, 1) := by decide +kernel
theorem dX2_butterBits_4 : decode cX2_butterBits 4 = .ok (.istore 5, 2) := by decide +kernel
theorem dX2_butterBits_6 : decode cX2_butterBits 6 = .ok (.iload 5, 2) := by decide +kernel
theorem dX2_butterBits_8 : decode cX2_butterBits 8 = .ok (.bipush 9, 2) := by decide +kernel
theorem dX2_butterBits_10 : decode cX2_butterBits 10 = .ok (.if_icmp .gt 47, 3) := by decide +kernel
theorem dX2_butterBits_13 : decode cX2_butterBits 13 = .ok (.aload_n 0, 1) := by decide +kernel
theorem dX2_butterBits_14 : decode cX2_butterBits 14 = .ok (.iload_n 1, 1) := by decide +kernel
theorem dX2_butterBits_15 : decode cX2_butterBits 15 = .ok (.iload_n 3, 1) := by decide +kernel
theorem dX2_butterBits_16 : decode cX2_butterBits 16 = .ok (.iload 5, 2) := by decide +kernel
theorem dX2_butterBits_18 : decode cX2_butterBits 18 = .ok (.invokevirtual 31, 3) := by decide +kernel
theorem dX2_butterBits_21 : decode cX2_butterBits 21 = .ok (.istore 6, 2) := by decide +kernel
theorem dX2_butterBits_23 : decode cX2_butterBits 23 = .ok (.iload_n 2, 1) := by decide +kernel
theorem dX2_butterBits_24 : decode cX2_butterBits 24 = .ok (.ifCond .eq 11, 3) := by decide +kernel
theorem dX2_butterBits_27 : decode cX2_butterBits 27 = .ok (.iload 6, 2) := by decide +kernel
theorem dX2_butterBits_29 : decode cX2_butterBits 29 = .ok (.ifCond .le 22, 3) := by decide +kernel
theorem dX2_butterBits_32 : decode cX2_butterBits 32 = .ok (.goto 10, 3) := by decide +kernel
theorem dX2_butterBits_35 : decode cX2_butterBits 35 = .ok (.iload 6, 2) := by decide +kernel
theorem dX2_butterBits_37 : decode cX2_butterBits 37 = .ok (.bipush 10, 2) := by decide +kernel
theorem dX2_butterBits_39 : decode cX2_butterBits 39 = .ok (.if_icmp .ge 12, 3) := by decide +kernel
theorem dX2_butterBits_42 : decode cX2_butterBits 42 = .ok (.iload 4, 2) := by decide +kernel
theorem dX2_butterBits_44 : decode cX2_butterBits 44 = .ok (.iconst 1, 1) := by decide +kernel
theorem dX2_butterBits_45 : decode cX2_butterBits 45 = .ok (.iload 5, 2) := by decide +kernel
theorem dX2_butterBits_47 : decode cX2_butterBits 47 = .ok (.ishl, 1) := by decide +kernel
theorem dX2_butterBits_48 : decode cX2_butterBits 48 = .ok (.ior, 1) := by decide +kernel
theorem dX2_butterBits_49 : decode cX2_butterBits 49 = .ok (.istore 4, 2) := by decide +kernel
theorem dX2_butterBits_51 : decode cX2_butterBits 51 = .ok (.iinc 5 1, 3) := by decide +kernel
theorem dX2_butterBits_54 : decode cX2_butterBits 54 = .ok (.goto (-48), 3) := by decide +kernel
theorem dX2_butterBits_57 : decode cX2_butterBits 57 = .ok (.iload 4, 2) := by decide +kernel
theorem dX2_butterBits_59 : decode cX2_butterBits 59 = .ok (.ireturn, 1) := by decide +kernel
theorem dX3_init_0 : decode cX3_init 0 = .ok (.aload_n 0, 1) := by decide +kernel
theorem dX3_init_1 : decode cX3_init 1 = .ok (.iload_n 1, 1) := by decide +kernel
theorem dX3_init_2 : decode cX3_init 2 = .ok (.iload_n 2, 1) := by decide +kernel
theorem dX3_init_3 : decode cX3_init 3 = .ok (.invokespecial 3, 3) := by decide +kernel
theorem dX3_init_6 : decode cX3_init 6 = .ok (.return_, 1) := by decide +kernel
theorem dX3_kind_0 : decode cX3_kind 0 = .ok (.iconst 3, 1) := by decide +kernel
theorem dX3_kind_1 : decode cX3_kind 1 = .ok (.ireturn, 1) := by decide +kernel
theorem dX3_dread_0 : decode cX3_dread 0 = .ok (.iload_n 1, 1) := by decide +kernel
theorem dX3_dread_1 : decode cX3_dread 1 = .ok (.ifCond .eq 14, 3) := by decide +kernel
theorem dX3_dread_4 : decode cX3_dread 4 = .ok (.aload_n 0, 1) := by decide +kernel
theorem dX3_dread_5 : decode cX3_dread 5 = .ok (.getfield 9, 3) := by decide +kernel
theorem dX3_dread_8 : decode cX3_dread 8 = .ok (.iconst 2, 1) := by decide +kernel
theorem dX3_dread_9 : decode cX3_dread 9 = .ok (.idiv, 1) := by decide +kernel
theorem dX3_dread_10 : decode cX3_dread 10 = .ok (.iconst 3, 1) := by decide +kernel
theorem dX3_dread_11 : decode cX3_dread 11 = .ok (.iadd, 1) := by decide +kernel
theorem dX3_dread_12 : decode cX3_dread 12 = .ok (.goto 9, 3) := by decide +kernel
theorem dX3_dread_15 : decode cX3_dread 15 = .ok (.aload_n 0, 1) := by decide +kernel
theorem dX3_dread_16 : decode cX3_dread 16 = .ok (.getfield 9, 3) := by decide +kernel
theorem dX3_dread_19 : decode cX3_dread 19 = .ok (.iconst 2, 1) := by decide +kernel
theorem dX3_dread_20 : decode cX3_dread 20 = .ok (.idiv, 1) := by decide +kernel
theorem dX3_dread_21 : decode cX3_dread 21 = .ok (.ireturn, 1) := by decide +kernel
theorem dX4_init_0 : decode cX4_init 0 = .ok (.aload_n 0, 1) := by decide +kernel
theorem dX4_init_1 : decode cX4_init 1 = .ok (.invokespecial 3, 3) := by decide +kernel
theorem dX4_init_4 : decode cX4_init 4 = .ok (.aload_n 0, 1) := by decide +kernel
theorem dX4_init_5 : decode cX4_init 5 = .ok (.iconst 4, 1) := by decide +kernel
theorem dX4_init_6 : decode cX4_init 6 = .ok (.newarray .int, 2) := by decide +kernel
theorem dX4_init_8 : decode cX4_init 8 = .ok (.putfield 9, 3) := by decide +kernel
theorem dX4_init_11 : decode cX4_init 11 = .ok (.aload_n 0, 1) := by decide +kernel
theorem dX4_init_12 : decode cX4_init 12 = .ok (.iconst 4, 1) := by decide +kernel
theorem dX4_init_13 : decode cX4_init 13 = .ok (.newarray .long, 2) := by decide +kernel
theorem dX4_init_15 : decode cX4_init 15 = .ok (.putfield 15, 3) := by decide +kernel
theorem dX4_init_18 : decode cX4_init 18 = .ok (.aload_n 0, 1) := by decide +kernel
theorem dX4_init_19 : decode cX4_init 19 = .ok (.iconst 4, 1) := by decide +kernel
theorem dX4_init_20 : decode cX4_init 20 = .ok (.newarray .int, 2) := by decide +kernel
theorem dX4_init_22 : decode cX4_init 22 = .ok (.putfield 19, 3) := by decide +kernel
theorem dX4_init_25 : decode cX4_init 25 = .ok (.aload_n 0, 1) := by decide +kernel
theorem dX4_init_26 : decode cX4_init 26 = .ok (.iconst 4, 1) := by decide +kernel
theorem dX4_init_27 : decode cX4_init 27 = .ok (.newarray .int, 2) := by decide +kernel
theorem dX4_init_29 : decode cX4_init 29 = .ok (.putfield 22, 3) := by decide +kernel
theorem dX4_init_32 : decode cX4_init 32 = .ok (.aload_n 0, 1) := by decide +kernel
theorem dX4_init_33 : decode cX4_init 33 = .ok (.iconst 4, 1) := by decide +kernel
theorem dX4_init_34 : decode cX4_init 34 = .ok (.newarray .int, 2) := by decide +kernel
theorem dX4_init_36 : decode cX4_init 36 = .ok (.putfield 25, 3) := by decide +kernel
theorem dX4_init_39 : decode cX4_init 39 = .ok (.return_, 1) := by decide +kernel
theorem dX4_clear_0 : decode cX4_clear 0 = .ok (.iconst 0, 1) := by decide +kernel
theorem dX4_clear_1 : decode cX4_clear 1 = .ok (.istore_n 2, 1) := by decide +kernel
theorem dX4_clear_2 : decode cX4_clear 2 = .ok (.iload_n 2, 1) := by decide +kernel
theorem dX4_clear_3 : decode cX4_clear 3 = .ok (.iconst 4, 1) := by decide +kernel
theorem dX4_clear_4 : decode cX4_clear 4 = .ok (.if_icmp .ge 37, 3) := by decide +kernel
theorem dX4_clear_7 : decode cX4_clear 7 = .ok (.aload_n 0, 1) := by decide +kernel
theorem dX4_clear_8 : decode cX4_clear 8 = .ok (.getfield 9, 3) := by decide +kernel
theorem dX4_clear_11 : decode cX4_clear 11 = .ok (.iload_n 2, 1) := by decide +kernel
theorem dX4_clear_12 : decode cX4_clear 12 = .ok (.iconst 0, 1) := by decide +kernel
theorem dX4_clear_13 : decode cX4_clear 13 = .ok (.iastore, 1) := by decide +kernel
theorem dX4_clear_14 : decode cX4_clear 14 = .ok (.aload_n 0, 1) := by decide +kernel
theorem dX4_clear_15 : decode cX4_clear 15 = .ok (.getfield 15, 3) := by decide +kernel
theorem dX4_clear_18 : decode cX4_clear 18 = .ok (.iload_n 2, 1) := by decide +kernel
theorem dX4_clear_19 : decode cX4_clear 19 = .ok (.lconst 0, 1) := by decide +kernel
theorem dX4_clear_20 : decode cX4_clear 20 = .ok (.lastore, 1) := by decide +kernel
theorem dX4_clear_21 : decode cX4_clear 21 = .ok (.aload_n 0, 1) := by decide +kernel
theorem dX4_clear_22 : decode cX4_clear 22 = .ok (.getfield 19, 3) := by decide +kernel
theorem dX4_clear_25 : decode cX4_clear 25 = .ok (.iload_n 2, 1) := by decide +kernel
theorem dX4_clear_26 : decode cX4_clear 26 = .ok (.iconst 0, 1) := by decide +kernel
theorem dX4_clear_27 : decode cX4_clear 27 = .ok (.iastore, 1) := by decide +kernel
theorem dX4_clear_28 : decode cX4_clear 28 = .ok (.aload_n 0, 1) := by decide +kernel
theorem dX4_clear_29 : decode cX4_clear 29 = .ok (.getfield 22, 3) := by decide +kernel
theorem dX4_clear_32 : decode cX4_clear 32 = .ok (.iload_n 2, 1) := by decide +kernel
theorem dX4_clear_33 : decode cX4_clear 33 = .ok (.iconst 0, 1) := by decide +kernel
theorem dX4_clear_34 : decode cX4_clear 34 = .ok (.iastore, 1) := by decide +kernel
theorem dX4_clear_35 : decode cX4_clear 35 = .ok (.iinc 2 1, 3) := by decide +kernel
theorem dX4_clear_38 : decode cX4_clear 38 = .ok (.goto (-36), 3) := by decide +kernel
theorem dX4_clear_41 : decode cX4_clear 41 = .ok (.aload_n 0, 1) := by decide +kernel
theorem dX4_clear_42 : decode cX4_clear 42 = .ok (.invokevirtual 28, 3) := by decide +kernel
theorem dX4_clear_45 : decode cX4_clear 45 = .ok (.aload_n 0, 1) := by decide +kernel
theorem dX4_clear_46 : decode cX4_clear 46 = .ok (.iload_n 1, 1) := by decide +kernel
theorem dX4_clear_47 : decode cX4_clear 47 = .ok (.putfield 31, 3) := by decide +kernel
theorem dX4_clear_50 : decode cX4_clear 50 = .ok (.return_, 1) := by decide +kernel
theorem dX4_unhear_0 : decode cX4_unhear 0 = .ok (.iconst 0, 1) := by decide +kernel
theorem dX4_unhear_1 : decode cX4_unhear 1 = .ok (.istore_n 1, 1) := by decide +kernel
theorem dX4_unhear_2 : decode cX4_unhear 2 = .ok (.iload_n 1, 1) := by decide +kernel
theorem dX4_unhear_3 : decode cX4_unhear 3 = .ok (.iconst 4, 1) := by decide +kernel
theorem dX4_unhear_4 : decode cX4_unhear 4 = .ok (.if_icmp .ge 18, 3) := by decide +kernel
theorem dX4_unhear_7 : decode cX4_unhear 7 = .ok (.aload_n 0, 1) := by decide +kernel
theorem dX4_unhear_8 : decode cX4_unhear 8 = .ok (.getfield 25, 3) := by decide +kernel
theorem dX4_unhear_11 : decode cX4_unhear 11 = .ok (.iload_n 1, 1) := by decide +kernel
theorem dX4_unhear_12 : decode cX4_unhear 12 = .ok (.sipush 1023, 3) := by decide +kernel
theorem dX4_unhear_15 : decode cX4_unhear 15 = .ok (.iastore, 1) := by decide +kernel
theorem dX4_unhear_16 : decode cX4_unhear 16 = .ok (.iinc 1 1, 3) := by decide +kernel
theorem dX4_unhear_19 : decode cX4_unhear 19 = .ok (.goto (-17), 3) := by decide +kernel
theorem dX4_unhear_22 : decode cX4_unhear 22 = .ok (.aload_n 0, 1) := by decide +kernel
theorem dX4_unhear_23 : decode cX4_unhear 23 = .ok (.iconst 0, 1) := by decide +kernel
theorem dX4_unhear_24 : decode cX4_unhear 24 = .ok (.putfield 35, 3) := by decide +kernel
theorem dX4_unhear_27 : decode cX4_unhear 27 = .ok (.return_, 1) := by decide +kernel
theorem dX4_copyFrom_0 : decode cX4_copyFrom 0 = .ok (.iconst 0, 1) := by decide +kernel
theorem dX4_copyFrom_1 : decode cX4_copyFrom 1 = .ok (.istore_n 2, 1) := by decide +kernel
theorem dX4_copyFrom_2 : decode cX4_copyFrom 2 = .ok (.iload_n 2, 1) := by decide +kernel
theorem dX4_copyFrom_3 : decode cX4_copyFrom 3 = .ok (.iconst 4, 1) := by decide +kernel
theorem dX4_copyFrom_4 : decode cX4_copyFrom 4 = .ok (.if_icmp .ge 69, 3) := by decide +kernel
theorem dX4_copyFrom_7 : decode cX4_copyFrom 7 = .ok (.aload_n 0, 1) := by decide +kernel
theorem dX4_copyFrom_8 : decode cX4_copyFrom 8 = .ok (.getfield 9, 3) := by decide +kernel
theorem dX4_copyFrom_11 : decode cX4_copyFrom 11 = .ok (.iload_n 2, 1) := by decide +kernel
theorem dX4_copyFrom_12 : decode cX4_copyFrom 12 = .ok (.aload_n 1, 1) := by decide +kernel
theorem dX4_copyFrom_13 : decode cX4_copyFrom 13 = .ok (.getfield 9, 3) := by decide +kernel
theorem dX4_copyFrom_16 : decode cX4_copyFrom 16 = .ok (.iload_n 2, 1) := by decide +kernel
theorem dX4_copyFrom_17 : decode cX4_copyFrom 17 = .ok (.iaload, 1) := by decide +kernel
theorem dX4_copyFrom_18 : decode cX4_copyFrom 18 = .ok (.iastore, 1) := by decide +kernel
theorem dX4_copyFrom_19 : decode cX4_copyFrom 19 = .ok (.aload_n 0, 1) := by decide +kernel
theorem dX4_copyFrom_20 : decode cX4_copyFrom 20 = .ok (.getfield 15, 3) := by decide +kernel
theorem dX4_copyFrom_23 : decode cX4_copyFrom 23 = .ok (.iload_n 2, 1) := by decide +kernel
theorem dX4_copyFrom_24 : decode cX4_copyFrom 24 = .ok (.aload_n 1, 1) := by decide +kernel
theorem dX4_copyFrom_25 : decode cX4_copyFrom 25 = .ok (.getfield 15, 3) := by decide +kernel
theorem dX4_copyFrom_28 : decode cX4_copyFrom 28 = .ok (.iload_n 2, 1) := by decide +kernel
theorem dX4_copyFrom_29 : decode cX4_copyFrom 29 = .ok (.laload, 1) := by decide +kernel
theorem dX4_copyFrom_30 : decode cX4_copyFrom 30 = .ok (.lastore, 1) := by decide +kernel
theorem dX4_copyFrom_31 : decode cX4_copyFrom 31 = .ok (.aload_n 0, 1) := by decide +kernel
theorem dX4_copyFrom_32 : decode cX4_copyFrom 32 = .ok (.getfield 19, 3) := by decide +kernel
theorem dX4_copyFrom_35 : decode cX4_copyFrom 35 = .ok (.iload_n 2, 1) := by decide +kernel
theorem dX4_copyFrom_36 : decode cX4_copyFrom 36 = .ok (.aload_n 1, 1) := by decide +kernel
theorem dX4_copyFrom_37 : decode cX4_copyFrom 37 = .ok (.getfield 19, 3) := by decide +kernel
theorem dX4_copyFrom_40 : decode cX4_copyFrom 40 = .ok (.iload_n 2, 1) := by decide +kernel
theorem dX4_copyFrom_41 : decode cX4_copyFrom 41 = .ok (.iaload, 1) := by decide +kernel
theorem dX4_copyFrom_42 : decode cX4_copyFrom 42 = .ok (.iastore, 1) := by decide +kernel
theorem dX4_copyFrom_43 : decode cX4_copyFrom 43 = .ok (.aload_n 0, 1) := by decide +kernel
theorem dX4_copyFrom_44 : decode cX4_copyFrom 44 = .ok (.getfield 22, 3) := by decide +kernel
theorem dX4_copyFrom_47 : decode cX4_copyFrom 47 = .ok (.iload_n 2, 1) := by decide +kernel
theorem dX4_copyFrom_48 : decode cX4_copyFrom 48 = .ok (.aload_n 1, 1) := by decide +kernel
theorem dX4_copyFrom_49 : decode cX4_copyFrom 49 = .ok (.getfield 22, 3) := by decide +kernel
theorem dX4_copyFrom_52 : decode cX4_copyFrom 52 = .ok (.iload_n 2, 1) := by decide +kernel
theorem dX4_copyFrom_53 : decode cX4_copyFrom 53 = .ok (.iaload, 1) := by decide +kernel
theorem dX4_copyFrom_54 : decode cX4_copyFrom 54 = .ok (.iastore, 1) := by decide +kernel
theorem dX4_copyFrom_55 : decode cX4_copyFrom 55 = .ok (.aload_n 0, 1) := by decide +kernel
theorem dX4_copyFrom_56 : decode cX4_copyFrom 56 = .ok (.getfield 25, 3) := by decide +kernel
theorem dX4_copyFrom_59 : decode cX4_copyFrom 59 = .ok (.iload_n 2, 1) := by decide +kernel
theorem dX4_copyFrom_60 : decode cX4_copyFrom 60 = .ok (.aload_n 1, 1) := by decide +kernel
theorem dX4_copyFrom_61 : decode cX4_copyFrom 61 = .ok (.getfield 25, 3) := by decide +kernel
theorem dX4_copyFrom_64 : decode cX4_copyFrom 64 = .ok (.iload_n 2, 1) := by decide +kernel
theorem dX4_copyFrom_65 : decode cX4_copyFrom 65 = .ok (.iaload, 1) := by decide +kernel
theorem dX4_copyFrom_66 : decode cX4_copyFrom 66 = .ok (.iastore, 1) := by decide +kernel
theorem dX4_copyFrom_67 : decode cX4_copyFrom 67 = .ok (.iinc 2 1, 3) := by decide +kernel
theorem dX4_copyFrom_70 : decode cX4_copyFrom 70 = .ok (.goto (-68), 3) := by decide +kernel
theorem dX4_copyFrom_73 : decode cX4_copyFrom 73 = .ok (.aload_n 0, 1) := by decide +kernel
theorem dX4_copyFrom_74 : decode cX4_copyFrom 74 = .ok (.aload_n 1, 1) := by decide +kernel
theorem dX4_copyFrom_75 : decode cX4_copyFrom 75 = .ok (.getfield 35, 3) := by decide +kernel
theorem dX4_copyFrom_78 : decode cX4_copyFrom 78 = .ok (.putfield 35, 3) := by decide +kernel
theorem dX4_copyFrom_81 : decode cX4_copyFrom 81 = .ok (.aload_n 0, 1) := by decide +kernel
theorem dX4_copyFrom_82 : decode cX4_copyFrom 82 = .ok (.aload_n 1, 1) := by decide +kernel
theorem dX4_copyFrom_83 : decode cX4_copyFrom 83 = .ok (.getfield 31, 3) := by decide +kernel
theorem dX4_copyFrom_86 : decode cX4_copyFrom 86 = .ok (.putfield 31, 3) := by decide +kernel
theorem dX4_copyFrom_89 : decode cX4_copyFrom 89 = .ok (.return_, 1) := by decide +kernel
theorem dX5_init_0 : decode cX5_init 0 = .ok (.aload_n 0, 1) := by decide +kernel
theorem dX5_init_1 : decode cX5_init 1 = .ok (.iload_n 1, 1) := by decide +kernel
theorem dX5_init_2 : decode cX5_init 2 = .ok (.iload_n 2, 1) := by decide +kernel
theorem dX5_init_3 : decode cX5_init 3 = .ok (.invokespecial 3, 3) := by decide +kernel
theorem dX5_init_6 : decode cX5_init 6 = .ok (.return_, 1) := by decide +kernel
theorem dX5_kind_0 : decode cX5_kind 0 = .ok (.iconst 4, 1) := by decide +kernel
theorem dX5_kind_1 : decode cX5_kind 1 = .ok (.ireturn, 1) := by decide +kernel
theorem dX5_dread_0 : decode cX5_dread 0 = .ok (.iload_n 1, 1) := by decide +kernel
theorem dX5_dread_1 : decode cX5_dread 1 = .ok (.ifCond .eq 7, 3) := by decide +kernel
theorem dX5_dread_4 : decode cX5_dread 4 = .ok (.iconst 0, 1) := by decide +kernel
theorem dX5_dread_5 : decode cX5_dread 5 = .ok (.goto 7, 3) := by decide +kernel
theorem dX5_dread_8 : decode cX5_dread 8 = .ok (.aload_n 0, 1) := by decide +kernel
theorem dX5_dread_9 : decode cX5_dread 9 = .ok (.getfield 9, 3) := by decide +kernel
theorem dX5_dread_12 : decode cX5_dread 12 = .ok (.ireturn, 1) := by decide +kernel
theorem dX6_init_0 : decode cX6_init 0 = .ok (.aload_n 0, 1) := by decide +kernel
theorem dX6_init_1 : decode cX6_init 1 = .ok (.iload_n 1, 1) := by decide +kernel
theorem dX6_init_2 : decode cX6_init 2 = .ok (.iload_n 2, 1) := by decide +kernel
theorem dX6_init_3 : decode cX6_init 3 = .ok (.invokespecial 3, 3) := by decide +kernel
theorem dX6_init_6 : decode cX6_init 6 = .ok (.return_, 1) := by decide +kernel
theorem dX6_kind_0 : decode cX6_kind 0 = .ok (.iconst 2, 1) := by decide +kernel
theorem dX6_kind_1 : decode cX6_kind 1 = .ok (.ireturn, 1) := by decide +kernel
theorem dX6_dread_0 : decode cX6_dread 0 = .ok (.aload_n 0, 1) := by decide +kernel
theorem dX6_dread_1 : decode cX6_dread 1 = .ok (.getfield 9, 3) := by decide +kernel
theorem dX6_dread_4 : decode cX6_dread 4 = .ok (.iconst 3, 1) := by decide +kernel
theorem dX6_dread_5 : decode cX6_dread 5 = .ok (.iadd, 1) := by decide +kernel
theorem dX6_dread_6 : decode cX6_dread 6 = .ok (.ireturn, 1) := by decide +kernel
