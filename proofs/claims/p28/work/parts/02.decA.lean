theorem dX0_init_0 : decode cX0_init 0 = .ok (.aload_n 0, 1) := by decide +kernel
theorem dX0_init_1 : decode cX0_init 1 = .ok (.invokespecial 3, 3) := by decide +kernel
theorem dX0_init_4 : decode cX0_init 4 = .ok (.aload_n 0, 1) := by decide +kernel
theorem dX0_init_5 : decode cX0_init 5 = .ok (.bipush 60, 2) := by decide +kernel
theorem dX0_init_7 : decode cX0_init 7 = .ok (.newarray .char, 2) := by decide +kernel
theorem dX0_init_9 : decode cX0_init 9 = .ok (.putfield 9, 3) := by decide +kernel
theorem dX0_init_12 : decode cX0_init 12 = .ok (.aload_n 0, 1) := by decide +kernel
theorem dX0_init_13 : decode cX0_init 13 = .ok (.iconst 0, 1) := by decide +kernel
theorem dX0_init_14 : decode cX0_init 14 = .ok (.putfield 15, 3) := by decide +kernel
theorem dX0_init_17 : decode cX0_init 17 = .ok (.aload_n 0, 1) := by decide +kernel
theorem dX0_init_18 : decode cX0_init 18 = .ok (.iconst 0, 1) := by decide +kernel
theorem dX0_init_19 : decode cX0_init 19 = .ok (.putfield 19, 3) := by decide +kernel
theorem dX0_init_22 : decode cX0_init 22 = .ok (.return_, 1) := by decide +kernel
theorem dX0_goToStart_0 : decode cX0_goToStart 0 = .ok (.aload_n 0, 1) := by decide +kernel
theorem dX0_goToStart_1 : decode cX0_goToStart 1 = .ok (.iconst 0, 1) := by decide +kernel
theorem dX0_goToStart_2 : decode cX0_goToStart 2 = .ok (.putfield 19, 3) := by decide +kernel
theorem dX0_goToStart_5 : decode cX0_goToStart 5 = .ok (.return_, 1) := by decide +kernel
theorem dX0_findFault_0 : decode cX0_findFault 0 = .ok (.aload_n 0, 1) := by decide +kernel
theorem dX0_findFault_1 : decode cX0_findFault 1 = .ok (.invokevirtual 22, 3) := by decide +kernel
theorem dX0_findFault_4 : decode cX0_findFault 4 = .ok (.iconst 0, 1) := by decide +kernel
theorem dX0_findFault_5 : decode cX0_findFault 5 = .ok (.istore_n 1, 1) := by decide +kernel
theorem dX0_findFault_6 : decode cX0_findFault 6 = .ok (.iload_n 1, 1) := by decide +kernel
theorem dX0_findFault_7 : decode cX0_findFault 7 = .ok (.bipush 60, 2) := by decide +kernel
theorem dX0_findFault_9 : decode cX0_findFault 9 = .ok (.if_icmp .ge 53, 3) := by decide +kernel
theorem dX0_findFault_12 : decode cX0_findFault 12 = .ok (.aload_n 0, 1) := by decide +kernel
theorem dX0_findFault_13 : decode cX0_findFault 13 = .ok (.invokevirtual 25, 3) := by decide +kernel
theorem dX0_findFault_16 : decode cX0_findFault 16 = .ok (.ifCond .ne 8, 3) := by decide +kernel
theorem dX0_findFault_19 : decode cX0_findFault 19 = .ok (.aload_n 0, 1) := by decide +kernel
theorem dX0_findFault_20 : decode cX0_findFault 20 = .ok (.getfield 19, 3) := by decide +kernel
theorem dX0_findFault_23 : decode cX0_findFault 23 = .ok (.ireturn, 1) := by decide +kernel
theorem dX0_findFault_24 : decode cX0_findFault 24 = .ok (.aload_n 0, 1) := by decide +kernel
theorem dX0_findFault_25 : decode cX0_findFault 25 = .ok (.getfield 19, 3) := by decide +kernel
theorem dX0_findFault_28 : decode cX0_findFault 28 = .ok (.aload_n 0, 1) := by decide +kernel
theorem dX0_findFault_29 : decode cX0_findFault 29 = .ok (.getfield 15, 3) := by decide +kernel
theorem dX0_findFault_32 : decode cX0_findFault 32 = .ok (.if_icmp .lt 6, 3) := by decide +kernel
theorem dX0_findFault_35 : decode cX0_findFault 35 = .ok (.bipush (-5), 2) := by decide +kernel
theorem dX0_findFault_37 : decode cX0_findFault 37 = .ok (.ireturn, 1) := by decide +kernel
theorem dX0_findFault_38 : decode cX0_findFault 38 = .ok (.aload_n 0, 1) := by decide +kernel
theorem dX0_findFault_39 : decode cX0_findFault 39 = .ok (.bipush 59, 2) := by decide +kernel
theorem dX0_findFault_41 : decode cX0_findFault 41 = .ok (.invokevirtual 29, 3) := by decide +kernel
theorem dX0_findFault_44 : decode cX0_findFault 44 = .ok (.ifCond .ne 8, 3) := by decide +kernel
theorem dX0_findFault_47 : decode cX0_findFault 47 = .ok (.aload_n 0, 1) := by decide +kernel
theorem dX0_findFault_48 : decode cX0_findFault 48 = .ok (.getfield 19, 3) := by decide +kernel
theorem dX0_findFault_51 : decode cX0_findFault 51 = .ok (.ireturn, 1) := by decide +kernel
theorem dX0_findFault_52 : decode cX0_findFault 52 = .ok (.aload_n 0, 1) := by decide +kernel
theorem dX0_findFault_53 : decode cX0_findFault 53 = .ok (.invokevirtual 33, 3) := by decide +kernel
theorem dX0_findFault_56 : decode cX0_findFault 56 = .ok (.iinc 1 1, 3) := by decide +kernel
theorem dX0_findFault_59 : decode cX0_findFault 59 = .ok (.goto (-53), 3) := by decide +kernel
theorem dX0_findFault_62 : decode cX0_findFault 62 = .ok (.aload_n 0, 1) := by decide +kernel
theorem dX0_findFault_63 : decode cX0_findFault 63 = .ok (.getfield 19, 3) := by decide +kernel
theorem dX0_findFault_66 : decode cX0_findFault 66 = .ok (.ireturn, 1) := by decide +kernel
theorem dX0_readEntry_0 : decode cX0_readEntry 0 = .ok (.aload_n 0, 1) := by decide +kernel
theorem dX0_readEntry_1 : decode cX0_readEntry 1 = .ok (.bipush 45, 2) := by decide +kernel
theorem dX0_readEntry_3 : decode cX0_readEntry 3 = .ok (.invokevirtual 29, 3) := by decide +kernel
theorem dX0_readEntry_6 : decode cX0_readEntry 6 = .ok (.istore_n 1, 1) := by decide +kernel
theorem dX0_readEntry_7 : decode cX0_readEntry 7 = .ok (.iload_n 1, 1) := by decide +kernel
theorem dX0_readEntry_8 : decode cX0_readEntry 8 = .ok (.ifCond .eq 13, 3) := by decide +kernel
theorem dX0_readEntry_11 : decode cX0_readEntry 11 = .ok (.aload_n 0, 1) := by decide +kernel
theorem dX0_readEntry_12 : decode cX0_readEntry 12 = .ok (.dup, 1) := by decide +kernel
theorem dX0_readEntry_13 : decode cX0_readEntry 13 = .ok (.getfield 19, 3) := by decide +kernel
theorem dX0_readEntry_16 : decode cX0_readEntry 16 = .ok (.iconst 1, 1) := by decide +kernel
theorem dX0_readEntry_17 : decode cX0_readEntry 17 = .ok (.iadd, 1) := by decide +kernel
theorem dX0_readEntry_18 : decode cX0_readEntry 18 = .ok (.putfield 19, 3) := by decide +kernel
theorem dX0_readEntry_21 : decode cX0_readEntry 21 = .ok (.aload_n 0, 1) := by decide +kernel
theorem dX0_readEntry_22 : decode cX0_readEntry 22 = .ok (.iload_n 1, 1) := by decide +kernel
theorem dX0_readEntry_23 : decode cX0_readEntry 23 = .ok (.ifCond .eq 7, 3) := by decide +kernel
theorem dX0_readEntry_26 : decode cX0_readEntry 26 = .ok (.iconst 1, 1) := by decide +kernel
theorem dX0_readEntry_27 : decode cX0_readEntry 27 = .ok (.goto 4, 3) := by decide +kernel
theorem dX0_readEntry_30 : decode cX0_readEntry 30 = .ok (.iconst 0, 1) := by decide +kernel
theorem dX0_readEntry_31 : decode cX0_readEntry 31 = .ok (.bipush 40, 2) := by decide +kernel
theorem dX0_readEntry_33 : decode cX0_readEntry 33 = .ok (.invokevirtual 36, 3) := by decide +kernel
theorem dX0_readEntry_36 : decode cX0_readEntry 36 = .ok (.ifCond .ne 5, 3) := by decide +kernel
theorem dX0_readEntry_39 : decode cX0_readEntry 39 = .ok (.iconst 0, 1) := by decide +kernel
theorem dX0_readEntry_40 : decode cX0_readEntry 40 = .ok (.ireturn, 1) := by decide +kernel
theorem dX0_readEntry_41 : decode cX0_readEntry 41 = .ok (.aload_n 0, 1) := by decide +kernel
theorem dX0_readEntry_42 : decode cX0_readEntry 42 = .ok (.iload_n 1, 1) := by decide +kernel
theorem dX0_readEntry_43 : decode cX0_readEntry 43 = .ok (.ifCond .eq 11, 3) := by decide +kernel
theorem dX0_readEntry_46 : decode cX0_readEntry 46 = .ok (.aload_n 0, 1) := by decide +kernel
theorem dX0_readEntry_47 : decode cX0_readEntry 47 = .ok (.getfield 40, 3) := by decide +kernel
theorem dX0_readEntry_50 : decode cX0_readEntry 50 = .ok (.ineg, 1) := by decide +kernel
theorem dX0_readEntry_51 : decode cX0_readEntry 51 = .ok (.goto 7, 3) := by decide +kernel
theorem dX0_readEntry_54 : decode cX0_readEntry 54 = .ok (.aload_n 0, 1) := by decide +kernel
theorem dX0_readEntry_55 : decode cX0_readEntry 55 = .ok (.getfield 40, 3) := by decide +kernel
theorem dX0_readEntry_58 : decode cX0_readEntry 58 = .ok (.putfield 43, 3) := by decide +kernel
theorem dX0_readEntry_61 : decode cX0_readEntry 61 = .ok (.aload_n 0, 1) := by decide +kernel
theorem dX0_readEntry_62 : decode cX0_readEntry 62 = .ok (.iconst 1, 1) := by decide +kernel
theorem dX0_readEntry_63 : decode cX0_readEntry 63 = .ok (.putfield 46, 3) := by decide +kernel
theorem dX0_readEntry_66 : decode cX0_readEntry 66 = .ok (.aload_n 0, 1) := by decide +kernel
theorem dX0_readEntry_67 : decode cX0_readEntry 67 = .ok (.bipush 42, 2) := by decide +kernel
theorem dX0_readEntry_69 : decode cX0_readEntry 69 = .ok (.invokevirtual 29, 3) := by decide +kernel
theorem dX0_readEntry_72 : decode cX0_readEntry 72 = .ok (.ifCond .eq 33, 3) := by decide +kernel
theorem dX0_readEntry_75 : decode cX0_readEntry 75 = .ok (.aload_n 0, 1) := by decide +kernel
theorem dX0_readEntry_76 : decode cX0_readEntry 76 = .ok (.dup, 1) := by decide +kernel
theorem dX0_readEntry_77 : decode cX0_readEntry 77 = .ok (.getfield 19, 3) := by decide +kernel
theorem dX0_readEntry_80 : decode cX0_readEntry 80 = .ok (.iconst 1, 1) := by decide +kernel
theorem dX0_readEntry_81 : decode cX0_readEntry 81 = .ok (.iadd, 1) := by decide +kernel
theorem dX0_readEntry_82 : decode cX0_readEntry 82 = .ok (.putfield 19, 3) := by decide +kernel
theorem dX0_readEntry_85 : decode cX0_readEntry 85 = .ok (.aload_n 0, 1) := by decide +kernel
theorem dX0_readEntry_86 : decode cX0_readEntry 86 = .ok (.iconst 1, 1) := by decide +kernel
theorem dX0_readEntry_87 : decode cX0_readEntry 87 = .ok (.bipush 20, 2) := by decide +kernel
theorem dX0_readEntry_89 : decode cX0_readEntry 89 = .ok (.invokevirtual 36, 3) := by decide +kernel
theorem dX0_readEntry_92 : decode cX0_readEntry 92 = .ok (.ifCond .ne 5, 3) := by decide +kernel
theorem dX0_readEntry_95 : decode cX0_readEntry 95 = .ok (.iconst 0, 1) := by decide +kernel
theorem dX0_readEntry_96 : decode cX0_readEntry 96 = .ok (.ireturn, 1) := by decide +kernel
theorem dX0_readEntry_97 : decode cX0_readEntry 97 = .ok (.aload_n 0, 1) := by decide +kernel
theorem dX0_readEntry_98 : decode cX0_readEntry 98 = .ok (.aload_n 0, 1) := by decide +kernel
theorem dX0_readEntry_99 : decode cX0_readEntry 99 = .ok (.getfield 40, 3) := by decide +kernel
theorem dX0_readEntry_102 : decode cX0_readEntry 102 = .ok (.putfield 46, 3) := by decide +kernel
theorem dX0_readEntry_105 : decode cX0_readEntry 105 = .ok (.iconst 1, 1) := by decide +kernel
theorem dX0_readEntry_106 : decode cX0_readEntry 106 = .ok (.ireturn, 1) := by decide +kernel
theorem dX0_skipSeparator_0 : decode cX0_skipSeparator 0 = .ok (.aload_n 0, 1) := by decide +kernel
theorem dX0_skipSeparator_1 : decode cX0_skipSeparator 1 = .ok (.bipush 59, 2) := by decide +kernel
theorem dX0_skipSeparator_3 : decode cX0_skipSeparator 3 = .ok (.invokevirtual 29, 3) := by decide +kernel
theorem dX0_skipSeparator_6 : decode cX0_skipSeparator 6 = .ok (.ifCond .eq 13, 3) := by decide +kernel
theorem dX0_skipSeparator_9 : decode cX0_skipSeparator 9 = .ok (.aload_n 0, 1) := by decide +kernel
theorem dX0_skipSeparator_10 : decode cX0_skipSeparator 10 = .ok (.dup, 1) := by decide +kernel
theorem dX0_skipSeparator_11 : decode cX0_skipSeparator 11 = .ok (.getfield 19, 3) := by decide +kernel
theorem dX0_skipSeparator_14 : decode cX0_skipSeparator 14 = .ok (.iconst 1, 1) := by decide +kernel
theorem dX0_skipSeparator_15 : decode cX0_skipSeparator 15 = .ok (.iadd, 1) := by decide +kernel
theorem dX0_skipSeparator_16 : decode cX0_skipSeparator 16 = .ok (.putfield 19, 3) := by decide +kernel
theorem dX0_skipSeparator_19 : decode cX0_skipSeparator 19 = .ok (.return_, 1) := by decide +kernel
theorem dX0_isAtPlace_0 : decode cX0_isAtPlace 0 = .ok (.aload_n 0, 1) := by decide +kernel
theorem dX0_isAtPlace_1 : decode cX0_isAtPlace 1 = .ok (.getfield 19, 3) := by decide +kernel
theorem dX0_isAtPlace_4 : decode cX0_isAtPlace 4 = .ok (.aload_n 0, 1) := by decide +kernel
theorem dX0_isAtPlace_5 : decode cX0_isAtPlace 5 = .ok (.getfield 15, 3) := by decide +kernel
theorem dX0_isAtPlace_8 : decode cX0_isAtPlace 8 = .ok (.if_icmp .ge 20, 3) := by decide +kernel
theorem dX0_isAtPlace_11 : decode cX0_isAtPlace 11 = .ok (.aload_n 0, 1) := by decide +kernel
theorem dX0_isAtPlace_12 : decode cX0_isAtPlace 12 = .ok (.getfield 9, 3) := by decide +kernel
theorem dX0_isAtPlace_15 : decode cX0_isAtPlace 15 = .ok (.aload_n 0, 1) := by decide +kernel
theorem dX0_isAtPlace_16 : decode cX0_isAtPlace 16 = .ok (.getfield 19, 3) := by decide +kernel
theorem dX0_isAtPlace_19 : decode cX0_isAtPlace 19 = .ok (.caload, 1) := by decide +kernel
theorem dX0_isAtPlace_20 : decode cX0_isAtPlace 20 = .ok (.iload_n 1, 1) := by decide +kernel
theorem dX0_isAtPlace_21 : decode cX0_isAtPlace 21 = .ok (.if_icmp .ne 7, 3) := by decide +kernel
theorem dX0_isAtPlace_24 : decode cX0_isAtPlace 24 = .ok (.iconst 1, 1) := by decide +kernel
theorem dX0_isAtPlace_25 : decode cX0_isAtPlace 25 = .ok (.goto 4, 3) := by decide +kernel
theorem dX0_isAtPlace_28 : decode cX0_isAtPlace 28 = .ok (.iconst 0, 1) := by decide +kernel
theorem dX0_isAtPlace_29 : decode cX0_isAtPlace 29 = .ok (.ireturn, 1) := by decide +kernel
theorem dX0_digitAtPlace_0 : decode cX0_digitAtPlace 0 = .ok (.aload_n 0, 1) := by decide +kernel
theorem dX0_digitAtPlace_1 : decode cX0_digitAtPlace 1 = .ok (.getfield 19, 3) := by decide +kernel
theorem dX0_digitAtPlace_4 : decode cX0_digitAtPlace 4 = .ok (.aload_n 0, 1) := by decide +kernel
theorem dX0_digitAtPlace_5 : decode cX0_digitAtPlace 5 = .ok (.getfield 15, 3) := by decide +kernel
theorem dX0_digitAtPlace_8 : decode cX0_digitAtPlace 8 = .ok (.if_icmp .ge 31, 3) := by decide +kernel
theorem dX0_digitAtPlace_11 : decode cX0_digitAtPlace 11 = .ok (.aload_n 0, 1) := by decide +kernel
theorem dX0_digitAtPlace_12 : decode cX0_digitAtPlace 12 = .ok (.getfield 9, 3) := by decide +kernel
theorem dX0_digitAtPlace_15 : decode cX0_digitAtPlace 15 = .ok (.aload_n 0, 1) := by decide +kernel
theorem dX0_digitAtPlace_16 : decode cX0_digitAtPlace 16 = .ok (.getfield 19, 3) := by decide +kernel
theorem dX0_digitAtPlace_19 : decode cX0_digitAtPlace 19 = .ok (.caload, 1) := by decide +kernel
theorem dX0_digitAtPlace_20 : decode cX0_digitAtPlace 20 = .ok (.bipush 48, 2) := by decide +kernel
theorem dX0_digitAtPlace_22 : decode cX0_digitAtPlace 22 = .ok (.if_icmp .lt 17, 3) := by decide +kernel
theorem dX0_digitAtPlace_25 : decode cX0_digitAtPlace 25 = .ok (.aload_n 0, 1) := by decide +kernel
theorem dX0_digitAtPlace_26 : decode cX0_digitAtPlace 26 = .ok (.getfield 9, 3) := by decide +kernel
theorem dX0_digitAtPlace_29 : decode cX0_digitAtPlace 29 = .ok (.aload_n 0, 1) := by decide +kernel
theorem dX0_digitAtPlace_30 : decode cX0_digitAtPlace 30 = .ok (.getfield 19, 3) := by decide +kernel
theorem dX0_digitAtPlace_33 : decode cX0_digitAtPlace 33 = .ok (.caload, 1) := by decide +kernel
theorem dX0_digitAtPlace_34 : decode cX0_digitAtPlace 34 = .ok (.bipush 57, 2) := by decide +kernel
theorem dX0_digitAtPlace_36 : decode cX0_digitAtPlace 36 = .ok (.if_icmp .le 6, 3) := by decide +kernel
theorem dX0_digitAtPlace_39 : decode cX0_digitAtPlace 39 = .ok (.bipush (-5), 2) := by decide +kernel
theorem dX0_digitAtPlace_41 : decode cX0_digitAtPlace 41 = .ok (.ireturn, 1) := by decide +kernel
theorem dX0_digitAtPlace_42 : decode cX0_digitAtPlace 42 = .ok (.aload_n 0, 1) := by decide +kernel
theorem dX0_digitAtPlace_43 : decode cX0_digitAtPlace 43 = .ok (.getfield 9, 3) := by decide +kernel
theorem dX0_digitAtPlace_46 : decode cX0_digitAtPlace 46 = .ok (.aload_n 0, 1) := by decide +kernel
theorem dX0_digitAtPlace_47 : decode cX0_digitAtPlace 47 = .ok (.getfield 19, 3) := by decide +kernel
theorem dX0_digitAtPlace_50 : decode cX0_digitAtPlace 50 = .ok (.caload, 1) := by decide +kernel
theorem dX0_digitAtPlace_51 : decode cX0_digitAtPlace 51 = .ok (.bipush 48, 2) := by decide +kernel
theorem dX0_digitAtPlace_53 : decode cX0_digitAtPlace 53 = .ok (.isub, 1) := by decide +kernel
theorem dX0_digitAtPlace_54 : decode cX0_digitAtPlace 54 = .ok (.ireturn, 1) := by decide +kernel
theorem dX0_readNumber_0 : decode cX0_readNumber 0 = .ok (.aload_n 0, 1) := by decide +kernel
theorem dX0_readNumber_1 : decode cX0_readNumber 1 = .ok (.invokevirtual 49, 3) := by decide +kernel
theorem dX0_readNumber_4 : decode cX0_readNumber 4 = .ok (.istore_n 3, 1) := by decide +kernel
theorem dX0_readNumber_5 : decode cX0_readNumber 5 = .ok (.iload_n 3, 1) := by decide +kernel
theorem dX0_readNumber_6 : decode cX0_readNumber 6 = .ok (.bipush (-5), 2) := by decide +kernel
theorem dX0_readNumber_8 : decode cX0_readNumber 8 = .ok (.if_icmp .eq 8, 3) := by decide +kernel
theorem dX0_readNumber_11 : decode cX0_readNumber 11 = .ok (.iload_n 3, 1) := by decide +kernel
theorem dX0_readNumber_12 : decode cX0_readNumber 12 = .ok (.iload_n 1, 1) := by decide +kernel
theorem dX0_readNumber_13 : decode cX0_readNumber 13 = .ok (.if_icmp .ge 5, 3) := by decide +kernel
theorem dX0_readNumber_16 : decode cX0_readNumber 16 = .ok (.iconst 0, 1) := by decide +kernel
theorem dX0_readNumber_17 : decode cX0_readNumber 17 = .ok (.ireturn, 1) := by decide +kernel
theorem dX0_readNumber_18 : decode cX0_readNumber 18 = .ok (.aload_n 0, 1) := by decide +kernel
theorem dX0_readNumber_19 : decode cX0_readNumber 19 = .ok (.iload_n 3, 1) := by decide +kernel
theorem dX0_readNumber_20 : decode cX0_readNumber 20 = .ok (.putfield 40, 3) := by decide +kernel
theorem dX0_readNumber_23 : decode cX0_readNumber 23 = .ok (.aload_n 0, 1) := by decide +kernel
theorem dX0_readNumber_24 : decode cX0_readNumber 24 = .ok (.dup, 1) := by decide +kernel
theorem dX0_readNumber_25 : decode cX0_readNumber 25 = .ok (.getfield 19, 3) := by decide +kernel
theorem dX0_readNumber_28 : decode cX0_readNumber 28 = .ok (.iconst 1, 1) := by decide +kernel
theorem dX0_readNumber_29 : decode cX0_readNumber 29 = .ok (.iadd, 1) := by decide +kernel
theorem dX0_readNumber_30 : decode cX0_readNumber 30 = .ok (.putfield 19, 3) := by decide +kernel
theorem dX0_readNumber_33 : decode cX0_readNumber 33 = .ok (.aload_n 0, 1) := by decide +kernel
theorem dX0_readNumber_34 : decode cX0_readNumber 34 = .ok (.getfield 19, 3) := by decide +kernel
theorem dX0_readNumber_37 : decode cX0_readNumber 37 = .ok (.istore 4, 2) := by decide +kernel
theorem dX0_readNumber_39 : decode cX0_readNumber 39 = .ok (.iload 4, 2) := by decide +kernel
theorem dX0_readNumber_41 : decode cX0_readNumber 41 = .ok (.aload_n 0, 1) := by decide +kernel
theorem dX0_readNumber_42 : decode cX0_readNumber 42 = .ok (.getfield 15, 3) := by decide +kernel
theorem dX0_readNumber_45 : decode cX0_readNumber 45 = .ok (.if_icmp .ge 67, 3) := by decide +kernel
theorem dX0_readNumber_48 : decode cX0_readNumber 48 = .ok (.aload_n 0, 1) := by decide +kernel
theorem dX0_readNumber_49 : decode cX0_readNumber 49 = .ok (.getfield 40, 3) := by decide +kernel
theorem dX0_readNumber_52 : decode cX0_readNumber 52 = .ok (.ifCond .le 60, 3) := by decide +kernel
theorem dX0_readNumber_55 : decode cX0_readNumber 55 = .ok (.aload_n 0, 1) := by decide +kernel
theorem dX0_readNumber_56 : decode cX0_readNumber 56 = .ok (.invokevirtual 49, 3) := by decide +kernel
theorem dX0_readNumber_59 : decode cX0_readNumber 59 = .ok (.istore_n 3, 1) := by decide +kernel
theorem dX0_readNumber_60 : decode cX0_readNumber 60 = .ok (.iload_n 3, 1) := by decide +kernel
theorem dX0_readNumber_61 : decode cX0_readNumber 61 = .ok (.bipush (-5), 2) := by decide +kernel
theorem dX0_readNumber_63 : decode cX0_readNumber 63 = .ok (.if_icmp .ne 5, 3) := by decide +kernel
theorem dX0_readNumber_66 : decode cX0_readNumber 66 = .ok (.iconst 1, 1) := by decide +kernel
theorem dX0_readNumber_67 : decode cX0_readNumber 67 = .ok (.ireturn, 1) := by decide +kernel
theorem dX0_readNumber_68 : decode cX0_readNumber 68 = .ok (.aload_n 0, 1) := by decide +kernel
theorem dX0_readNumber_69 : decode cX0_readNumber 69 = .ok (.getfield 40, 3) := by decide +kernel
theorem dX0_readNumber_72 : decode cX0_readNumber 72 = .ok (.bipush 10, 2) := by decide +kernel
theorem dX0_readNumber_74 : decode cX0_readNumber 74 = .ok (.imul, 1) := by decide +kernel
theorem dX0_readNumber_75 : decode cX0_readNumber 75 = .ok (.iload_n 3, 1) := by decide +kernel
theorem dX0_readNumber_76 : decode cX0_readNumber 76 = .ok (.iadd, 1) := by decide +kernel
theorem dX0_readNumber_77 : decode cX0_readNumber 77 = .ok (.iload_n 2, 1) := by decide +kernel
theorem dX0_readNumber_78 : decode cX0_readNumber 78 = .ok (.if_icmp .le 5, 3) := by decide +kernel
theorem dX0_readNumber_81 : decode cX0_readNumber 81 = .ok (.iconst 0, 1) := by decide +kernel
theorem dX0_readNumber_82 : decode cX0_readNumber 82 = .ok (.ireturn, 1) := by decide +kernel
theorem dX0_readNumber_83 : decode cX0_readNumber 83 = .ok (.aload_n 0, 1) := by decide +kernel
theorem dX0_readNumber_84 : decode cX0_readNumber 84 = .ok (.aload_n 0, 1) := by decide +kernel
theorem dX0_readNumber_85 : decode cX0_readNumber 85 = .ok (.getfield 40, 3) := by decide +kernel
theorem dX0_readNumber_88 : decode cX0_readNumber 88 = .ok (.bipush 10, 2) := by decide +kernel
theorem dX0_readNumber_90 : decode cX0_readNumber 90 = .ok (.imul, 1) := by decide +kernel
theorem dX0_readNumber_91 : decode cX0_readNumber 91 = .ok (.iload_n 3, 1) := by decide +kernel
theorem dX0_readNumber_92 : decode cX0_readNumber 92 = .ok (.iadd, 1) := by decide +kernel
theorem dX0_readNumber_93 : decode cX0_readNumber 93 = .ok (.putfield 40, 3) := by decide +kernel
theorem dX0_readNumber_96 : decode cX0_readNumber 96 = .ok (.aload_n 0, 1) := by decide +kernel
theorem dX0_readNumber_97 : decode cX0_readNumber 97 = .ok (.dup, 1) := by decide +kernel
theorem dX0_readNumber_98 : decode cX0_readNumber 98 = .ok (.getfield 19, 3) := by decide +kernel
theorem dX0_readNumber_101 : decode cX0_readNumber 101 = .ok (.iconst 1, 1) := by decide +kernel
theorem dX0_readNumber_102 : decode cX0_readNumber 102 = .ok (.iadd, 1) := by decide +kernel
theorem dX0_readNumber_103 : decode cX0_readNumber 103 = .ok (.putfield 19, 3) := by decide +kernel
theorem dX0_readNumber_106 : decode cX0_readNumber 106 = .ok (.iinc 4 1, 3) := by decide +kernel
theorem dX0_readNumber_109 : decode cX0_readNumber 109 = .ok (.goto (-70), 3) := by decide +kernel
theorem dX0_readNumber_112 : decode cX0_readNumber 112 = .ok (.iconst 1, 1) := by decide +kernel
theorem dX0_readNumber_113 : decode cX0_readNumber 113 = .ok (.ireturn, 1) := by decide +kernel
theorem dX1_init_0 : decode cX1_init 0 = .ok (.aload_n 0, 1) := by decide +kernel
theorem dX1_init_1 : decode cX1_init 1 = .ok (.invokespecial 1, 3) := by decide +kernel
theorem dX1_init_4 : decode cX1_init 4 = .ok (.return_, 1) := by decide +kernel
theorem dX1_copyFrom_0 : decode cX1_copyFrom 0 = .ok (.aload_n 0, 1) := by decide +kernel
theorem dX1_copyFrom_1 : decode cX1_copyFrom 1 = .ok (.aload_n 1, 1) := by decide +kernel
theorem dX1_copyFrom_2 : decode cX1_copyFrom 2 = .ok (.getfield 7, 3) := by decide +kernel
theorem dX1_copyFrom_5 : decode cX1_copyFrom 5 = .ok (.putfield 7, 3) := by decide +kernel
theorem dX1_copyFrom_8 : decode cX1_copyFrom 8 = .ok (.aload_n 0, 1) := by decide +kernel
theorem dX1_copyFrom_9 : decode cX1_copyFrom 9 = .ok (.aload_n 1, 1) := by decide +kernel
theorem dX1_copyFrom_10 : decode cX1_copyFrom 10 = .ok (.getfield 13, 3) := by decide +kernel
theorem dX1_copyFrom_13 : decode cX1_copyFrom 13 = .ok (.putfield 13, 3) := by decide +kernel
theorem dX1_copyFrom_16 : decode cX1_copyFrom 16 = .ok (.aload_n 0, 1) := by decide +kernel
theorem dX1_copyFrom_17 : decode cX1_copyFrom 17 = .ok (.aload_n 1, 1) := by decide +kernel
theorem dX1_copyFrom_18 : decode cX1_copyFrom 18 = .ok (.getfield 16, 3) := by decide +kernel
theorem dX1_copyFrom_21 : decode cX1_copyFrom 21 = .ok (.putfield 16, 3) := by decide +kernel
theorem dX1_copyFrom_24 : decode cX1_copyFrom 24 = .ok (.aload_n 0, 1) := by decide +kernel
theorem dX1_copyFrom_25 : decode cX1_copyFrom 25 = .ok (.aload_n 1, 1) := by decide +kernel
theorem dX1_copyFrom_26 : decode cX1_copyFrom 26 = .ok (.getfield 20, 3) := by decide +kernel
theorem dX1_copyFrom_29 : decode cX1_copyFrom 29 = .ok (.putfield 20, 3) := by decide +kernel
theorem dX1_copyFrom_32 : decode cX1_copyFrom 32 = .ok (.aload_n 0, 1) := by decide +kernel
theorem dX1_copyFrom_33 : decode cX1_copyFrom 33 = .ok (.aload_n 1, 1) := by decide +kernel
theorem dX1_copyFrom_34 : decode cX1_copyFrom 34 = .ok (.getfield 23, 3) := by decide +kernel
theorem dX1_copyFrom_37 : decode cX1_copyFrom 37 = .ok (.putfield 23, 3) := by decide +kernel
theorem dX1_copyFrom_40 : decode cX1_copyFrom 40 = .ok (.return_, 1) := by decide +kernel
theorem dX1_winnings_0 : decode cX1_winnings 0 = .ok (.iload_n 1, 1) := by decide +kernel
theorem dX1_winnings_1 : decode cX1_winnings 1 = .ok (.aload_n 0, 1) := by decide +kernel
theorem dX1_winnings_2 : decode cX1_winnings 2 = .ok (.getfield 16, 3) := by decide +kernel
theorem dX1_winnings_5 : decode cX1_winnings 5 = .ok (.if_icmp .eq 9, 3) := by decide +kernel
theorem dX1_winnings_8 : decode cX1_winnings 8 = .ok (.aload_n 0, 1) := by decide +kernel
theorem dX1_winnings_9 : decode cX1_winnings 9 = .ok (.getfield 13, 3) := by decide +kernel
theorem dX1_winnings_12 : decode cX1_winnings 12 = .ok (.ineg, 1) := by decide +kernel
theorem dX1_winnings_13 : decode cX1_winnings 13 = .ok (.ireturn, 1) := by decide +kernel
theorem dX1_winnings_14 : decode cX1_winnings 14 = .ok (.iload_n 2, 1) := by decide +kernel
theorem dX1_winnings_15 : decode cX1_winnings 15 = .ok (.aload_n 0, 1) := by decide +kernel
theorem dX1_winnings_16 : decode cX1_winnings 16 = .ok (.getfield 16, 3) := by decide +kernel
theorem dX1_winnings_19 : decode cX1_winnings 19 = .ok (.if_icmp .eq 12, 3) := by decide +kernel
theorem dX1_winnings_22 : decode cX1_winnings 22 = .ok (.aload_n 0, 1) := by decide +kernel
theorem dX1_winnings_23 : decode cX1_winnings 23 = .ok (.getfield 13, 3) := by decide +kernel
theorem dX1_winnings_26 : decode cX1_winnings 26 = .ok (.iload_n 3, 1) := by decide +kernel
theorem dX1_winnings_27 : decode cX1_winnings 27 = .ok (.imul, 1) := by decide +kernel
theorem dX1_winnings_28 : decode cX1_winnings 28 = .ok (.goto 7, 3) := by decide +kernel
theorem dX1_winnings_31 : decode cX1_winnings 31 = .ok (.aload_n 0, 1) := by decide +kernel
theorem dX1_winnings_32 : decode cX1_winnings 32 = .ok (.getfield 13, 3) := by decide +kernel
theorem dX1_winnings_35 : decode cX1_winnings 35 = .ok (.ireturn, 1) := by decide +kernel
theorem dX1_dropBet_0 : decode cX1_dropBet 0 = .ok (.aload_n 0, 1) := by decide +kernel
theorem dX1_dropBet_1 : decode cX1_dropBet 1 = .ok (.iconst 0, 1) := by decide +kernel
theorem dX1_dropBet_2 : decode cX1_dropBet 2 = .ok (.putfield 13, 3) := by decide +kernel
theorem dX1_dropBet_5 : decode cX1_dropBet 5 = .ok (.aload_n 0, 1) := by decide +kernel
theorem dX1_dropBet_6 : decode cX1_dropBet 6 = .ok (.iconst 0, 1) := by decide +kernel
theorem dX1_dropBet_7 : decode cX1_dropBet 7 = .ok (.putfield 16, 3) := by decide +kernel
theorem dX1_dropBet_10 : decode cX1_dropBet 10 = .ok (.return_, 1) := by decide +kernel
theorem dX2_init_0 : decode cX2_init 0 = .ok (.aload_n 0, 1) := by decide +kernel
theorem dX2_init_1 : decode cX2_init 1 = .ok (.invokespecial 1, 3) := by decide +kernel
theorem dX2_init_4 : decode cX2_init 4 = .ok (.return_, 1) := by decide +kernel
theorem dX2_copyFrom_0 : decode cX2_copyFrom 0 = .ok (.aload_n 0, 1) := by decide +kernel
theorem dX2_copyFrom_1 : decode cX2_copyFrom 1 = .ok (.aload_n 1, 1) := by decide +kernel
theorem dX2_copyFrom_2 : decode cX2_copyFrom 2 = .ok (.getfield 7, 3) := by decide +kernel
theorem dX2_copyFrom_5 : decode cX2_copyFrom 5 = .ok (.putfield 7, 3) := by decide +kernel
theorem dX2_copyFrom_8 : decode cX2_copyFrom 8 = .ok (.aload_n 0, 1) := by decide +kernel
theorem dX2_copyFrom_9 : decode cX2_copyFrom 9 = .ok (.aload_n 1, 1) := by decide +kernel
theorem dX2_copyFrom_10 : decode cX2_copyFrom 10 = .ok (.getfield 13, 3) := by decide +kernel
theorem dX2_copyFrom_13 : decode cX2_copyFrom 13 = .ok (.putfield 13, 3) := by decide +kernel
theorem dX2_copyFrom_16 : decode cX2_copyFrom 16 = .ok (.aload_n 0, 1) := by decide +kernel
theorem dX2_copyFrom_17 : decode cX2_copyFrom 17 = .ok (.aload_n 1, 1) := by decide +kernel
theorem dX2_copyFrom_18 : decode cX2_copyFrom 18 = .ok (.getfield 16, 3) := by decide +kernel
theorem dX2_copyFrom_21 : decode cX2_copyFrom 21 = .ok (.putfield 16, 3) := by decide +kernel
theorem dX2_copyFrom_24 : decode cX2_copyFrom 24 = .ok (.aload_n 0, 1) := by decide +kernel
theorem dX2_copyFrom_25 : decode cX2_copyFrom 25 = .ok (.aload_n 1, 1) := by decide +kernel
theorem dX2_copyFrom_26 : decode cX2_copyFrom 26 = .ok (.getfield 19, 3) := by decide +kernel
theorem dX2_copyFrom_29 : decode cX2_copyFrom 29 = .ok (.putfield 19, 3) := by decide +kernel
theorem dX2_copyFrom_32 : decode cX2_copyFrom 32 = .ok (.return_, 1) := by decide +kernel
theorem dX2_reaches_0 : decode cX2_reaches 0 = .ok (.iload_n 1, 1) := by decide +kernel
theorem dX2_reaches_1 : decode cX2_reaches 1 = .ok (.aload_n 0, 1) := by decide +kernel
theorem dX2_reaches_2 : decode cX2_reaches 2 = .ok (.getfield 7, 3) := by decide +kernel
theorem dX2_reaches_5 : decode cX2_reaches 5 = .ok (.if_icmp .le 20, 3) := by decide +kernel
theorem dX2_reaches_8 : decode cX2_reaches 8 = .ok (.iload_n 1, 1) := by decide +kernel
theorem dX2_reaches_9 : decode cX2_reaches 9 = .ok (.aload_n 0, 1) := by decide +kernel
theorem dX2_reaches_10 : decode cX2_reaches 10 = .ok (.getfield 7, 3) := by decide +kernel
theorem dX2_reaches_13 : decode cX2_reaches 13 = .ok (.aload_n 0, 1) := by decide +kernel
theorem dX2_reaches_14 : decode cX2_reaches 14 = .ok (.getfield 19, 3) := by decide +kernel
theorem dX2_reaches_17 : decode cX2_reaches 17 = .ok (.iadd, 1) := by decide +kernel
theorem dX2_reaches_18 : decode cX2_reaches 18 = .ok (.if_icmp .gt 7, 3) := by decide +kernel
theorem dX2_reaches_21 : decode cX2_reaches 21 = .ok (.iconst 1, 1) := by decide +kernel
theorem dX2_reaches_22 : decode cX2_reaches 22 = .ok (.goto 4, 3) := by decide +kernel
theorem dX2_reaches_25 : decode cX2_reaches 25 = .ok (.iconst 0, 1) := by decide +kernel
theorem dX2_reaches_26 : decode cX2_reaches 26 = .ok (.ireturn, 1) := by decide +kernel
theorem dX3_init_0 : decode cX3_init 0 = .ok (.aload_n 0, 1) := by decide +kernel
theorem dX3_init_1 : decode cX3_init 1 = .ok (.invokespecial 3, 3) := by decide +kernel
theorem dX3_init_4 : decode cX3_init 4 = .ok (.aload_n 0, 1) := by decide +kernel
theorem dX3_init_5 : decode cX3_init 5 = .ok (.iconst 4, 1) := by decide +kernel
theorem dX3_init_6 : decode cX3_init 6 = .ok (.newarray .int, 2) := by decide +kernel
theorem dX3_init_8 : decode cX3_init 8 = .ok (.putfield 9, 3) := by decide +kernel
theorem dX3_init_11 : decode cX3_init 11 = .ok (.getstatic 15, 3) := by decide +kernel
theorem dX3_init_14 : decode cX3_init 14 = .ok (.iconst 0, 1) := by decide +kernel
theorem dX3_init_15 : decode cX3_init 15 = .ok (.aload_n 0, 1) := by decide +kernel
theorem dX3_init_16 : decode cX3_init 16 = .ok (.getfield 9, 3) := by decide +kernel
theorem dX3_init_19 : decode cX3_init 19 = .ok (.iconst 0, 1) := by decide +kernel
theorem dX3_init_20 : decode cX3_init 20 = .ok (.iconst 4, 1) := by decide +kernel
theorem dX3_init_21 : decode cX3_init 21 = .ok (.invokestatic 18, 3) := by decide +kernel
theorem dX3_init_24 : decode cX3_init 24 = .ok (.aload_n 0, 1) := by decide +kernel
theorem dX3_init_25 : decode cX3_init 25 = .ok (.iconst 5, 1) := by decide +kernel
theorem dX3_init_26 : decode cX3_init 26 = .ok (.anewarray 24, 3) := by decide +kernel
theorem dX3_init_29 : decode cX3_init 29 = .ok (.putfield 26, 3) := by decide +kernel
theorem dX3_init_32 : decode cX3_init 32 = .ok (.iconst 0, 1) := by decide +kernel
theorem dX3_init_33 : decode cX3_init 33 = .ok (.istore_n 1, 1) := by decide +kernel
theorem dX3_init_34 : decode cX3_init 34 = .ok (.iload_n 1, 1) := by decide +kernel
theorem dX3_init_35 : decode cX3_init 35 = .ok (.iconst 5, 1) := by decide +kernel
theorem dX3_init_36 : decode cX3_init 36 = .ok (.if_icmp .ge 22, 3) := by decide +kernel
theorem dX3_init_39 : decode cX3_init 39 = .ok (.aload_n 0, 1) := by decide +kernel
theorem dX3_init_40 : decode cX3_init 40 = .ok (.getfield 26, 3) := by decide +kernel
theorem dX3_init_43 : decode cX3_init 43 = .ok (.iload_n 1, 1) := by decide +kernel
theorem dX3_init_44 : decode cX3_init 44 = .ok (.new 24, 3) := by decide +kernel
theorem dX3_init_47 : decode cX3_init 47 = .ok (.dup, 1) := by decide +kernel
theorem dX3_init_48 : decode cX3_init 48 = .ok (.invokespecial 30, 3) := by decide +kernel
theorem dX3_init_51 : decode cX3_init 51 = .ok (.aastore, 1) := by decide +kernel
theorem dX3_init_52 : decode cX3_init 52 = .ok (.iinc 1 1, 3) := by decide +kernel
theorem dX3_init_55 : decode cX3_init 55 = .ok (.goto (-21), 3) := by decide +kernel
theorem dX3_init_58 : decode cX3_init 58 = .ok (.aload_n 0, 1) := by decide +kernel
theorem dX3_init_59 : decode cX3_init 59 = .ok (.iconst 5, 1) := by decide +kernel
theorem dX3_init_60 : decode cX3_init 60 = .ok (.anewarray 31, 3) := by decide +kernel
theorem dX3_init_63 : decode cX3_init 63 = .ok (.putfield 33, 3) := by decide +kernel
theorem dX3_init_66 : decode cX3_init 66 = .ok (.iconst 0, 1) := by decide +kernel
theorem dX3_init_67 : decode cX3_init 67 = .ok (.istore_n 1, 1) := by decide +kernel
theorem dX3_init_68 : decode cX3_init 68 = .ok (.iload_n 1, 1) := by decide +kernel
theorem dX3_init_69 : decode cX3_init 69 = .ok (.iconst 5, 1) := by decide +kernel
theorem dX3_init_70 : decode cX3_init 70 = .ok (.if_icmp .ge 22, 3) := by decide +kernel
theorem dX3_init_73 : decode cX3_init 73 = .ok (.aload_n 0, 1) := by decide +kernel
theorem dX3_init_74 : decode cX3_init 74 = .ok (.getfield 33, 3) := by decide +kernel
theorem dX3_init_77 : decode cX3_init 77 = .ok (.iload_n 1, 1) := by decide +kernel
theorem dX3_init_78 : decode cX3_init 78 = .ok (.new 31, 3) := by decide +kernel
theorem dX3_init_81 : decode cX3_init 81 = .ok (.dup, 1) := by decide +kernel
theorem dX3_init_82 : decode cX3_init 82 = .ok (.invokespecial 37, 3) := by decide +kernel
theorem dX3_init_85 : decode cX3_init 85 = .ok (.aastore, 1) := by decide +kernel
theorem dX3_init_86 : decode cX3_init 86 = .ok (.iinc 1 1, 3) := by decide +kernel
theorem dX3_init_89 : decode cX3_init 89 = .ok (.goto (-21), 3) := by decide +kernel
theorem dX3_init_92 : decode cX3_init 92 = .ok (.aload_n 0, 1) := by decide +kernel
theorem dX3_init_93 : decode cX3_init 93 = .ok (.iconst 4, 1) := by decide +kernel
theorem dX3_init_94 : decode cX3_init 94 = .ok (.anewarray 38, 3) := by decide +kernel
theorem dX3_init_97 : decode cX3_init 97 = .ok (.putfield 40, 3) := by decide +kernel
theorem dX3_init_100 : decode cX3_init 100 = .ok (.iconst 0, 1) := by decide +kernel
theorem dX3_init_101 : decode cX3_init 101 = .ok (.istore_n 1, 1) := by decide +kernel
theorem dX3_init_102 : decode cX3_init 102 = .ok (.iload_n 1, 1) := by decide +kernel
theorem dX3_init_103 : decode cX3_init 103 = .ok (.iconst 4, 1) := by decide +kernel
theorem dX3_init_104 : decode cX3_init 104 = .ok (.if_icmp .ge 33, 3) := by decide +kernel
theorem dX3_init_107 : decode cX3_init 107 = .ok (.aload_n 0, 1) := by decide +kernel
theorem dX3_init_108 : decode cX3_init 108 = .ok (.getfield 40, 3) := by decide +kernel
theorem dX3_init_111 : decode cX3_init 111 = .ok (.iload_n 1, 1) := by decide +kernel
theorem dX3_init_112 : decode cX3_init 112 = .ok (.new 38, 3) := by decide +kernel
theorem dX3_init_115 : decode cX3_init 115 = .ok (.dup, 1) := by decide +kernel
theorem dX3_init_116 : decode cX3_init 116 = .ok (.invokespecial 44, 3) := by decide +kernel
theorem dX3_init_119 : decode cX3_init 119 = .ok (.aastore, 1) := by decide +kernel
theorem dX3_init_120 : decode cX3_init 120 = .ok (.aload_n 0, 1) := by decide +kernel
theorem dX3_init_121 : decode cX3_init 121 = .ok (.getfield 40, 3) := by decide +kernel
theorem dX3_init_124 : decode cX3_init 124 = .ok (.iload_n 1, 1) := by decide +kernel
theorem dX3_init_125 : decode cX3_init 125 = .ok (.aaload, 1) := by decide +kernel
theorem dX3_init_126 : decode cX3_init 126 = .ok (.bipush 100, 2) := by decide +kernel
theorem dX3_init_128 : decode cX3_init 128 = .ok (.putfield 45, 3) := by decide +kernel
theorem dX3_init_131 : decode cX3_init 131 = .ok (.iinc 1 1, 3) := by decide +kernel
theorem dX3_init_134 : decode cX3_init 134 = .ok (.goto (-32), 3) := by decide +kernel
theorem dX3_init_137 : decode cX3_init 137 = .ok (.return_, 1) := by decide +kernel
theorem dX3_copyFrom_0 : decode cX3_copyFrom 0 = .ok (.aload_n 1, 1) := by decide +kernel
theorem dX3_copyFrom_1 : decode cX3_copyFrom 1 = .ok (.getfield 9, 3) := by decide +kernel
theorem dX3_copyFrom_4 : decode cX3_copyFrom 4 = .ok (.iconst 0, 1) := by decide +kernel
theorem dX3_copyFrom_5 : decode cX3_copyFrom 5 = .ok (.aload_n 0, 1) := by decide +kernel
theorem dX3_copyFrom_6 : decode cX3_copyFrom 6 = .ok (.getfield 9, 3) := by decide +kernel
theorem dX3_copyFrom_9 : decode cX3_copyFrom 9 = .ok (.iconst 0, 1) := by decide +kernel
theorem dX3_copyFrom_10 : decode cX3_copyFrom 10 = .ok (.iconst 4, 1) := by decide +kernel
theorem dX3_copyFrom_11 : decode cX3_copyFrom 11 = .ok (.invokestatic 18, 3) := by decide +kernel
theorem dX3_copyFrom_14 : decode cX3_copyFrom 14 = .ok (.iconst 0, 1) := by decide +kernel
theorem dX3_copyFrom_15 : decode cX3_copyFrom 15 = .ok (.istore_n 2, 1) := by decide +kernel
theorem dX3_copyFrom_16 : decode cX3_copyFrom 16 = .ok (.iload_n 2, 1) := by decide +kernel
theorem dX3_copyFrom_17 : decode cX3_copyFrom 17 = .ok (.iconst 5, 1) := by decide +kernel
theorem dX3_copyFrom_18 : decode cX3_copyFrom 18 = .ok (.if_icmp .ge 24, 3) := by decide +kernel
theorem dX3_copyFrom_21 : decode cX3_copyFrom 21 = .ok (.aload_n 0, 1) := by decide +kernel
theorem dX3_copyFrom_22 : decode cX3_copyFrom 22 = .ok (.getfield 26, 3) := by decide +kernel
theorem dX3_copyFrom_25 : decode cX3_copyFrom 25 = .ok (.iload_n 2, 1) := by decide +kernel
theorem dX3_copyFrom_26 : decode cX3_copyFrom 26 = .ok (.aaload, 1) := by decide +kernel
theorem dX3_copyFrom_27 : decode cX3_copyFrom 27 = .ok (.aload_n 1, 1) := by decide +kernel
theorem dX3_copyFrom_28 : decode cX3_copyFrom 28 = .ok (.getfield 26, 3) := by decide +kernel
theorem dX3_copyFrom_31 : decode cX3_copyFrom 31 = .ok (.iload_n 2, 1) := by decide +kernel
theorem dX3_copyFrom_32 : decode cX3_copyFrom 32 = .ok (.aaload, 1) := by decide +kernel
theorem dX3_copyFrom_33 : decode cX3_copyFrom 33 = .ok (.invokevirtual 49, 3) := by decide +kernel
theorem dX3_copyFrom_36 : decode cX3_copyFrom 36 = .ok (.iinc 2 1, 3) := by decide +kernel
theorem dX3_copyFrom_39 : decode cX3_copyFrom 39 = .ok (.goto (-23), 3) := by decide +kernel
theorem dX3_copyFrom_42 : decode cX3_copyFrom 42 = .ok (.iconst 0, 1) := by decide +kernel
theorem dX3_copyFrom_43 : decode cX3_copyFrom 43 = .ok (.istore_n 2, 1) := by decide +kernel
theorem dX3_copyFrom_44 : decode cX3_copyFrom 44 = .ok (.iload_n 2, 1) := by decide +kernel
theorem dX3_copyFrom_45 : decode cX3_copyFrom 45 = .ok (.iconst 5, 1) := by decide +kernel
theorem dX3_copyFrom_46 : decode cX3_copyFrom 46 = .ok (.if_icmp .ge 24, 3) := by decide +kernel
theorem dX3_copyFrom_49 : decode cX3_copyFrom 49 = .ok (.aload_n 0, 1) := by decide +kernel
theorem dX3_copyFrom_50 : decode cX3_copyFrom 50 = .ok (.getfield 33, 3) := by decide +kernel
theorem dX3_copyFrom_53 : decode cX3_copyFrom 53 = .ok (.iload_n 2, 1) := by decide +kernel
theorem dX3_copyFrom_54 : decode cX3_copyFrom 54 = .ok (.aaload, 1) := by decide +kernel
theorem dX3_copyFrom_55 : decode cX3_copyFrom 55 = .ok (.aload_n 1, 1) := by decide +kernel
theorem dX3_copyFrom_56 : decode cX3_copyFrom 56 = .ok (.getfield 33, 3) := by decide +kernel
theorem dX3_copyFrom_59 : decode cX3_copyFrom 59 = .ok (.iload_n 2, 1) := by decide +kernel
theorem dX3_copyFrom_60 : decode cX3_copyFrom 60 = .ok (.aaload, 1) := by decide +kernel
theorem dX3_copyFrom_61 : decode cX3_copyFrom 61 = .ok (.invokevirtual 53, 3) := by decide +kernel
theorem dX3_copyFrom_64 : decode cX3_copyFrom 64 = .ok (.iinc 2 1, 3) := by decide +kernel
theorem dX3_copyFrom_67 : decode cX3_copyFrom 67 = .ok (.goto (-23), 3) := by decide +kernel
theorem dX3_copyFrom_70 : decode cX3_copyFrom 70 = .ok (.iconst 0, 1) := by decide +kernel
theorem dX3_copyFrom_71 : decode cX3_copyFrom 71 = .ok (.istore_n 2, 1) := by decide +kernel
theorem dX3_copyFrom_72 : decode cX3_copyFrom 72 = .ok (.iload_n 2, 1) := by decide +kernel
theorem dX3_copyFrom_73 : decode cX3_copyFrom 73 = .ok (.iconst 4, 1) := by decide +kernel
theorem dX3_copyFrom_74 : decode cX3_copyFrom 74 = .ok (.if_icmp .ge 24, 3) := by decide +kernel
theorem dX3_copyFrom_77 : decode cX3_copyFrom 77 = .ok (.aload_n 0, 1) := by decide +kernel
theorem dX3_copyFrom_78 : decode cX3_copyFrom 78 = .ok (.getfield 40, 3) := by decide +kernel
theorem dX3_copyFrom_81 : decode cX3_copyFrom 81 = .ok (.iload_n 2, 1) := by decide +kernel
theorem dX3_copyFrom_82 : decode cX3_copyFrom 82 = .ok (.aaload, 1) := by decide +kernel
theorem dX3_copyFrom_83 : decode cX3_copyFrom 83 = .ok (.aload_n 1, 1) := by decide +kernel
theorem dX3_copyFrom_84 : decode cX3_copyFrom 84 = .ok (.getfield 40, 3) := by decide +kernel
theorem dX3_copyFrom_87 : decode cX3_copyFrom 87 = .ok (.iload_n 2, 1) := by decide +kernel
theorem dX3_copyFrom_88 : decode cX3_copyFrom 88 = .ok (.aaload, 1) := by decide +kernel
theorem dX3_copyFrom_89 : decode cX3_copyFrom 89 = .ok (.invokevirtual 56, 3) := by decide +kernel
theorem dX3_copyFrom_92 : decode cX3_copyFrom 92 = .ok (.iinc 2 1, 3) := by decide +kernel
theorem dX3_copyFrom_95 : decode cX3_copyFrom 95 = .ok (.goto (-23), 3) := by decide +kernel
theorem dX3_copyFrom_98 : decode cX3_copyFrom 98 = .ok (.aload_n 0, 1) := by decide +kernel
theorem dX3_copyFrom_99 : decode cX3_copyFrom 99 = .ok (.aload_n 1, 1) := by decide +kernel
theorem dX3_copyFrom_100 : decode cX3_copyFrom 100 = .ok (.getfield 59, 3) := by decide +kernel
theorem dX3_copyFrom_103 : decode cX3_copyFrom 103 = .ok (.putfield 59, 3) := by decide +kernel
theorem dX3_copyFrom_106 : decode cX3_copyFrom 106 = .ok (.aload_n 0, 1) := by decide +kernel
theorem dX3_copyFrom_107 : decode cX3_copyFrom 107 = .ok (.aload_n 1, 1) := by decide +kernel
theorem dX3_copyFrom_108 : decode cX3_copyFrom 108 = .ok (.getfield 62, 3) := by decide +kernel
theorem dX3_copyFrom_111 : decode cX3_copyFrom 111 = .ok (.putfield 62, 3) := by decide +kernel
theorem dX3_copyFrom_114 : decode cX3_copyFrom 114 = .ok (.aload_n 0, 1) := by decide +kernel
theorem dX3_copyFrom_115 : decode cX3_copyFrom 115 = .ok (.aload_n 1, 1) := by decide +kernel
theorem dX3_copyFrom_116 : decode cX3_copyFrom 116 = .ok (.getfield 65, 3) := by decide +kernel
theorem dX3_copyFrom_119 : decode cX3_copyFrom 119 = .ok (.putfield 65, 3) := by decide +kernel
theorem dX3_copyFrom_122 : decode cX3_copyFrom 122 = .ok (.aload_n 0, 1) := by decide +kernel
theorem dX3_copyFrom_123 : decode cX3_copyFrom 123 = .ok (.aload_n 1, 1) := by decide +kernel
theorem dX3_copyFrom_124 : decode cX3_copyFrom 124 = .ok (.getfield 68, 3) := by decide +kernel
theorem dX3_copyFrom_127 : decode cX3_copyFrom 127 = .ok (.putfield 68, 3) := by decide +kernel
theorem dX3_copyFrom_130 : decode cX3_copyFrom 130 = .ok (.aload_n 0, 1) := by decide +kernel
theorem dX3_copyFrom_131 : decode cX3_copyFrom 131 = .ok (.aload_n 1, 1) := by decide +kernel
theorem dX3_copyFrom_132 : decode cX3_copyFrom 132 = .ok (.getfield 71, 3) := by decide +kernel
theorem dX3_copyFrom_135 : decode cX3_copyFrom 135 = .ok (.putfield 71, 3) := by decide +kernel
theorem dX3_copyFrom_138 : decode cX3_copyFrom 138 = .ok (.aload_n 0, 1) := by decide +kernel
theorem dX3_copyFrom_139 : decode cX3_copyFrom 139 = .ok (.aload_n 1, 1) := by decide +kernel
theorem dX3_copyFrom_140 : decode cX3_copyFrom 140 = .ok (.getfield 74, 3) := by decide +kernel
theorem dX3_copyFrom_143 : decode cX3_copyFrom 143 = .ok (.putfield 74, 3) := by decide +kernel
theorem dX3_copyFrom_146 : decode cX3_copyFrom 146 = .ok (.aload_n 0, 1) := by decide +kernel
theorem dX3_copyFrom_147 : decode cX3_copyFrom 147 = .ok (.aload_n 1, 1) := by decide +kernel
theorem dX3_copyFrom_148 : decode cX3_copyFrom 148 = .ok (.getfield 77, 3) := by decide +kernel
theorem dX3_copyFrom_151 : decode cX3_copyFrom 151 = .ok (.putfield 77, 3) := by decide +kernel
theorem dX3_copyFrom_154 : decode cX3_copyFrom 154 = .ok (.aload_n 0, 1) := by decide +kernel
theorem dX3_copyFrom_155 : decode cX3_copyFrom 155 = .ok (.aload_n 1, 1) := by decide +kernel
theorem dX3_copyFrom_156 : decode cX3_copyFrom 156 = .ok (.getfield 80, 3) := by decide +kernel
theorem dX3_copyFrom_159 : decode cX3_copyFrom 159 = .ok (.putfield 80, 3) := by decide +kernel
theorem dX3_copyFrom_162 : decode cX3_copyFrom 162 = .ok (.aload_n 0, 1) := by decide +kernel
theorem dX3_copyFrom_163 : decode cX3_copyFrom 163 = .ok (.aload_n 1, 1) := by decide +kernel
theorem dX3_copyFrom_164 : decode cX3_copyFrom 164 = .ok (.getfield 83, 3) := by decide +kernel
theorem dX3_copyFrom_167 : decode cX3_copyFrom 167 = .ok (.putfield 83, 3) := by decide +kernel
theorem dX3_copyFrom_170 : decode cX3_copyFrom 170 = .ok (.return_, 1) := by decide +kernel
theorem dX3_yearOfNow_0 : decode cX3_yearOfNow 0 = .ok (.aload_n 0, 1) := by decide +kernel
theorem dX3_yearOfNow_1 : decode cX3_yearOfNow 1 = .ok (.getfield 26, 3) := by decide +kernel
theorem dX3_yearOfNow_4 : decode cX3_yearOfNow 4 = .ok (.aload_n 0, 1) := by decide +kernel
theorem dX3_yearOfNow_5 : decode cX3_yearOfNow 5 = .ok (.getfield 62, 3) := by decide +kernel
theorem dX3_yearOfNow_8 : decode cX3_yearOfNow 8 = .ok (.iconst 5, 1) := by decide +kernel
theorem dX3_yearOfNow_9 : decode cX3_yearOfNow 9 = .ok (.irem, 1) := by decide +kernel
theorem dX3_yearOfNow_10 : decode cX3_yearOfNow 10 = .ok (.aaload, 1) := by decide +kernel
theorem dX3_yearOfNow_11 : decode cX3_yearOfNow 11 = .ok (.areturn, 1) := by decide +kernel
theorem dX3_knownYears_0 : decode cX3_knownYears 0 = .ok (.aload_n 0, 1) := by decide +kernel
theorem dX3_knownYears_1 : decode cX3_knownYears 1 = .ok (.getfield 62, 3) := by decide +kernel
theorem dX3_knownYears_4 : decode cX3_knownYears 4 = .ok (.iconst 4, 1) := by decide +kernel
theorem dX3_knownYears_5 : decode cX3_knownYears 5 = .ok (.invokestatic 84, 3) := by decide +kernel
theorem dX3_knownYears_8 : decode cX3_knownYears 8 = .ok (.ireturn, 1) := by decide +kernel
theorem dX3_endedYear_0 : decode cX3_endedYear 0 = .ok (.aload_n 0, 1) := by decide +kernel
theorem dX3_endedYear_1 : decode cX3_endedYear 1 = .ok (.getfield 26, 3) := by decide +kernel
theorem dX3_endedYear_4 : decode cX3_endedYear 4 = .ok (.aload_n 0, 1) := by decide +kernel
theorem dX3_endedYear_5 : decode cX3_endedYear 5 = .ok (.getfield 62, 3) := by decide +kernel
theorem dX3_endedYear_8 : decode cX3_endedYear 8 = .ok (.iconst 1, 1) := by decide +kernel
theorem dX3_endedYear_9 : decode cX3_endedYear 9 = .ok (.isub, 1) := by decide +kernel
theorem dX3_endedYear_10 : decode cX3_endedYear 10 = .ok (.iload_n 1, 1) := by decide +kernel
theorem dX3_endedYear_11 : decode cX3_endedYear 11 = .ok (.isub, 1) := by decide +kernel
theorem dX3_endedYear_12 : decode cX3_endedYear 12 = .ok (.iconst 5, 1) := by decide +kernel
theorem dX3_endedYear_13 : decode cX3_endedYear 13 = .ok (.irem, 1) := by decide +kernel
theorem dX3_endedYear_14 : decode cX3_endedYear 14 = .ok (.aaload, 1) := by decide +kernel
theorem dX3_endedYear_15 : decode cX3_endedYear 15 = .ok (.areturn, 1) := by decide +kernel
theorem dX3_isTelling_0 : decode cX3_isTelling 0 = .ok (.aload_n 1, 1) := by decide +kernel
theorem dX3_isTelling_1 : decode cX3_isTelling 1 = .ok (.getfield 90, 3) := by decide +kernel
theorem dX3_isTelling_4 : decode cX3_isTelling 4 = .ok (.aload_n 0, 1) := by decide +kernel
theorem dX3_isTelling_5 : decode cX3_isTelling 5 = .ok (.getfield 65, 3) := by decide +kernel
theorem dX3_isTelling_8 : decode cX3_isTelling 8 = .ok (.if_icmp .ge 26, 3) := by decide +kernel
theorem dX3_isTelling_11 : decode cX3_isTelling 11 = .ok (.aload_n 0, 1) := by decide +kernel
theorem dX3_isTelling_12 : decode cX3_isTelling 12 = .ok (.invokevirtual 93, 3) := by decide +kernel
theorem dX3_isTelling_15 : decode cX3_isTelling 15 = .ok (.getfield 97, 3) := by decide +kernel
theorem dX3_isTelling_18 : decode cX3_isTelling 18 = .ok (.aload_n 1, 1) := by decide +kernel
theorem dX3_isTelling_19 : decode cX3_isTelling 19 = .ok (.getfield 90, 3) := by decide +kernel
theorem dX3_isTelling_22 : decode cX3_isTelling 22 = .ok (.iaload, 1) := by decide +kernel
theorem dX3_isTelling_23 : decode cX3_isTelling 23 = .ok (.aload_n 1, 1) := by decide +kernel
theorem dX3_isTelling_24 : decode cX3_isTelling 24 = .ok (.getfield 100, 3) := by decide +kernel
theorem dX3_isTelling_27 : decode cX3_isTelling 27 = .ok (.if_icmp .gt 7, 3) := by decide +kernel
theorem dX3_isTelling_30 : decode cX3_isTelling 30 = .ok (.iconst 1, 1) := by decide +kernel
theorem dX3_isTelling_31 : decode cX3_isTelling 31 = .ok (.goto 4, 3) := by decide +kernel
theorem dX3_isTelling_34 : decode cX3_isTelling 34 = .ok (.iconst 0, 1) := by decide +kernel
theorem dX3_isTelling_35 : decode cX3_isTelling 35 = .ok (.ireturn, 1) := by decide +kernel
theorem dX3_foretoldOf_0 : decode cX3_foretoldOf 0 = .ok (.iload_n 1, 1) := by decide +kernel
theorem dX3_foretoldOf_1 : decode cX3_foretoldOf 1 = .ok (.aload_n 0, 1) := by decide +kernel
theorem dX3_foretoldOf_2 : decode cX3_foretoldOf 2 = .ok (.getfield 65, 3) := by decide +kernel
theorem dX3_foretoldOf_5 : decode cX3_foretoldOf 5 = .ok (.if_icmp .ge 13, 3) := by decide +kernel
theorem dX3_foretoldOf_8 : decode cX3_foretoldOf 8 = .ok (.aload_n 0, 1) := by decide +kernel
theorem dX3_foretoldOf_9 : decode cX3_foretoldOf 9 = .ok (.invokevirtual 93, 3) := by decide +kernel
theorem dX3_foretoldOf_12 : decode cX3_foretoldOf 12 = .ok (.getfield 103, 3) := by decide +kernel
theorem dX3_foretoldOf_15 : decode cX3_foretoldOf 15 = .ok (.iload_n 1, 1) := by decide +kernel
theorem dX3_foretoldOf_16 : decode cX3_foretoldOf 16 = .ok (.iaload, 1) := by decide +kernel
theorem dX3_foretoldOf_17 : decode cX3_foretoldOf 17 = .ok (.ireturn, 1) := by decide +kernel
theorem dX3_foretoldOf_18 : decode cX3_foretoldOf 18 = .ok (.aload_n 0, 1) := by decide +kernel
theorem dX3_foretoldOf_19 : decode cX3_foretoldOf 19 = .ok (.invokevirtual 93, 3) := by decide +kernel
theorem dX3_foretoldOf_22 : decode cX3_foretoldOf 22 = .ok (.getfield 106, 3) := by decide +kernel
theorem dX3_foretoldOf_25 : decode cX3_foretoldOf 25 = .ok (.iload_n 1, 1) := by decide +kernel
theorem dX3_foretoldOf_26 : decode cX3_foretoldOf 26 = .ok (.iaload, 1) := by decide +kernel
theorem dX3_foretoldOf_27 : decode cX3_foretoldOf 27 = .ok (.istore_n 2, 1) := by decide +kernel
theorem dX3_foretoldOf_28 : decode cX3_foretoldOf 28 = .ok (.iconst 0, 1) := by decide +kernel
theorem dX3_foretoldOf_29 : decode cX3_foretoldOf 29 = .ok (.istore_n 3, 1) := by decide +kernel
theorem dX3_foretoldOf_30 : decode cX3_foretoldOf 30 = .ok (.iload_n 3, 1) := by decide +kernel
theorem dX3_foretoldOf_31 : decode cX3_foretoldOf 31 = .ok (.aload_n 0, 1) := by decide +kernel
theorem dX3_foretoldOf_32 : decode cX3_foretoldOf 32 = .ok (.getfield 59, 3) := by decide +kernel
theorem dX3_foretoldOf_35 : decode cX3_foretoldOf 35 = .ok (.if_icmp .ge 47, 3) := by decide +kernel
theorem dX3_foretoldOf_38 : decode cX3_foretoldOf 38 = .ok (.aload_n 0, 1) := by decide +kernel
theorem dX3_foretoldOf_39 : decode cX3_foretoldOf 39 = .ok (.getfield 33, 3) := by decide +kernel
theorem dX3_foretoldOf_42 : decode cX3_foretoldOf 42 = .ok (.iload_n 3, 1) := by decide +kernel
theorem dX3_foretoldOf_43 : decode cX3_foretoldOf 43 = .ok (.aaload, 1) := by decide +kernel
theorem dX3_foretoldOf_44 : decode cX3_foretoldOf 44 = .ok (.iload_n 1, 1) := by decide +kernel
theorem dX3_foretoldOf_45 : decode cX3_foretoldOf 45 = .ok (.invokevirtual 109, 3) := by decide +kernel
theorem dX3_foretoldOf_48 : decode cX3_foretoldOf 48 = .ok (.ifCond .eq 28, 3) := by decide +kernel
theorem dX3_foretoldOf_51 : decode cX3_foretoldOf 51 = .ok (.aload_n 0, 1) := by decide +kernel
theorem dX3_foretoldOf_52 : decode cX3_foretoldOf 52 = .ok (.aload_n 0, 1) := by decide +kernel
theorem dX3_foretoldOf_53 : decode cX3_foretoldOf 53 = .ok (.getfield 33, 3) := by decide +kernel
theorem dX3_foretoldOf_56 : decode cX3_foretoldOf 56 = .ok (.iload_n 3, 1) := by decide +kernel
theorem dX3_foretoldOf_57 : decode cX3_foretoldOf 57 = .ok (.aaload, 1) := by decide +kernel
theorem dX3_foretoldOf_58 : decode cX3_foretoldOf 58 = .ok (.invokevirtual 113, 3) := by decide +kernel
theorem dX3_foretoldOf_61 : decode cX3_foretoldOf 61 = .ok (.ifCond .eq 15, 3) := by decide +kernel
theorem dX3_foretoldOf_64 : decode cX3_foretoldOf 64 = .ok (.iload_n 2, 1) := by decide +kernel
theorem dX3_foretoldOf_65 : decode cX3_foretoldOf 65 = .ok (.aload_n 0, 1) := by decide +kernel
theorem dX3_foretoldOf_66 : decode cX3_foretoldOf 66 = .ok (.getfield 33, 3) := by decide +kernel
theorem dX3_foretoldOf_69 : decode cX3_foretoldOf 69 = .ok (.iload_n 3, 1) := by decide +kernel
theorem dX3_foretoldOf_70 : decode cX3_foretoldOf 70 = .ok (.aaload, 1) := by decide +kernel
theorem dX3_foretoldOf_71 : decode cX3_foretoldOf 71 = .ok (.getfield 117, 3) := by decide +kernel
theorem dX3_foretoldOf_74 : decode cX3_foretoldOf 74 = .ok (.iadd, 1) := by decide +kernel
theorem dX3_foretoldOf_75 : decode cX3_foretoldOf 75 = .ok (.istore_n 2, 1) := by decide +kernel
theorem dX3_foretoldOf_76 : decode cX3_foretoldOf 76 = .ok (.iinc 3 1, 3) := by decide +kernel
theorem dX3_foretoldOf_79 : decode cX3_foretoldOf 79 = .ok (.goto (-49), 3) := by decide +kernel
theorem dX3_foretoldOf_82 : decode cX3_foretoldOf 82 = .ok (.iload_n 2, 1) := by decide +kernel
theorem dX3_foretoldOf_83 : decode cX3_foretoldOf 83 = .ok (.invokestatic 120, 3) := by decide +kernel
theorem dX3_foretoldOf_86 : decode cX3_foretoldOf 86 = .ok (.ireturn, 1) := by decide +kernel
theorem dX3_isFrostForetold_0 : decode cX3_isFrostForetold 0 = .ok (.iload_n 1, 1) := by decide +kernel
theorem dX3_isFrostForetold_1 : decode cX3_isFrostForetold 1 = .ok (.aload_n 0, 1) := by decide +kernel
theorem dX3_isFrostForetold_2 : decode cX3_isFrostForetold 2 = .ok (.getfield 9, 3) := by decide +kernel
theorem dX3_isFrostForetold_5 : decode cX3_isFrostForetold 5 = .ok (.iconst 2, 1) := by decide +kernel
theorem dX3_isFrostForetold_6 : decode cX3_isFrostForetold 6 = .ok (.iaload, 1) := by decide +kernel
theorem dX3_isFrostForetold_7 : decode cX3_isFrostForetold 7 = .ok (.if_icmp .gt 7, 3) := by decide +kernel
theorem dX3_isFrostForetold_10 : decode cX3_isFrostForetold 10 = .ok (.iconst 1, 1) := by decide +kernel
theorem dX3_isFrostForetold_11 : decode cX3_isFrostForetold 11 = .ok (.goto 4, 3) := by decide +kernel
theorem dX3_isFrostForetold_14 : decode cX3_isFrostForetold 14 = .ok (.iconst 0, 1) := by decide +kernel
theorem dX3_isFrostForetold_15 : decode cX3_isFrostForetold 15 = .ok (.ireturn, 1) := by decide +kernel
theorem dX3_removeSaint_0 : decode cX3_removeSaint 0 = .ok (.iload_n 1, 1) := by decide +kernel
theorem dX3_removeSaint_1 : decode cX3_removeSaint 1 = .ok (.iconst 1, 1) := by decide +kernel
theorem dX3_removeSaint_2 : decode cX3_removeSaint 2 = .ok (.iadd, 1) := by decide +kernel
theorem dX3_removeSaint_3 : decode cX3_removeSaint 3 = .ok (.istore_n 2, 1) := by decide +kernel
theorem dX3_removeSaint_4 : decode cX3_removeSaint 4 = .ok (.iload_n 2, 1) := by decide +kernel
theorem dX3_removeSaint_5 : decode cX3_removeSaint 5 = .ok (.aload_n 0, 1) := by decide +kernel
theorem dX3_removeSaint_6 : decode cX3_removeSaint 6 = .ok (.getfield 59, 3) := by decide +kernel
theorem dX3_removeSaint_9 : decode cX3_removeSaint 9 = .ok (.if_icmp .ge 26, 3) := by decide +kernel
theorem dX3_removeSaint_12 : decode cX3_removeSaint 12 = .ok (.aload_n 0, 1) := by decide +kernel
theorem dX3_removeSaint_13 : decode cX3_removeSaint 13 = .ok (.getfield 33, 3) := by decide +kernel
theorem dX3_removeSaint_16 : decode cX3_removeSaint 16 = .ok (.iload_n 2, 1) := by decide +kernel
theorem dX3_removeSaint_17 : decode cX3_removeSaint 17 = .ok (.iconst 1, 1) := by decide +kernel
theorem dX3_removeSaint_18 : decode cX3_removeSaint 18 = .ok (.isub, 1) := by decide +kernel
theorem dX3_removeSaint_19 : decode cX3_removeSaint 19 = .ok (.aaload, 1) := by decide +kernel
theorem dX3_removeSaint_20 : decode cX3_removeSaint 20 = .ok (.aload_n 0, 1) := by decide +kernel
theorem dX3_removeSaint_21 : decode cX3_removeSaint 21 = .ok (.getfield 33, 3) := by decide +kernel
theorem dX3_removeSaint_24 : decode cX3_removeSaint 24 = .ok (.iload_n 2, 1) := by decide +kernel
theorem dX3_removeSaint_25 : decode cX3_removeSaint 25 = .ok (.aaload, 1) := by decide +kernel
theorem dX3_removeSaint_26 : decode cX3_removeSaint 26 = .ok (.invokevirtual 53, 3) := by decide +kernel
theorem dX3_removeSaint_29 : decode cX3_removeSaint 29 = .ok (.iinc 2 1, 3) := by decide +kernel
theorem dX3_removeSaint_32 : decode cX3_removeSaint 32 = .ok (.goto (-28), 3) := by decide +kernel
theorem dX3_removeSaint_35 : decode cX3_removeSaint 35 = .ok (.aload_n 0, 1) := by decide +kernel
theorem dX3_removeSaint_36 : decode cX3_removeSaint 36 = .ok (.dup, 1) := by decide +kernel
theorem dX3_removeSaint_37 : decode cX3_removeSaint 37 = .ok (.getfield 59, 3) := by decide +kernel
theorem dX3_removeSaint_40 : decode cX3_removeSaint 40 = .ok (.iconst 1, 1) := by decide +kernel
theorem dX3_removeSaint_41 : decode cX3_removeSaint 41 = .ok (.isub, 1) := by decide +kernel
theorem dX3_removeSaint_42 : decode cX3_removeSaint 42 = .ok (.putfield 59, 3) := by decide +kernel
theorem dX3_removeSaint_45 : decode cX3_removeSaint 45 = .ok (.return_, 1) := by decide +kernel
theorem dX3_passDay_0 : decode cX3_passDay 0 = .ok (.aload_n 0, 1) := by decide +kernel
theorem dX3_passDay_1 : decode cX3_passDay 1 = .ok (.invokevirtual 93, 3) := by decide +kernel
theorem dX3_passDay_4 : decode cX3_passDay 4 = .ok (.astore_n 2, 1) := by decide +kernel
theorem dX3_passDay_5 : decode cX3_passDay 5 = .ok (.aload_n 0, 1) := by decide +kernel
theorem dX3_passDay_6 : decode cX3_passDay 6 = .ok (.aload_n 0, 1) := by decide +kernel
theorem dX3_passDay_7 : decode cX3_passDay 7 = .ok (.getfield 65, 3) := by decide +kernel
theorem dX3_passDay_10 : decode cX3_passDay 10 = .ok (.invokevirtual 124, 3) := by decide +kernel
theorem dX3_passDay_13 : decode cX3_passDay 13 = .ok (.istore_n 3, 1) := by decide +kernel
theorem dX3_passDay_14 : decode cX3_passDay 14 = .ok (.iload_n 1, 1) := by decide +kernel
theorem dX3_passDay_15 : decode cX3_passDay 15 = .ok (.iload_n 3, 1) := by decide +kernel
theorem dX3_passDay_16 : decode cX3_passDay 16 = .ok (.isub, 1) := by decide +kernel
theorem dX3_passDay_17 : decode cX3_passDay 17 = .ok (.istore 4, 2) := by decide +kernel
theorem dX3_passDay_19 : decode cX3_passDay 19 = .ok (.aload_n 2, 1) := by decide +kernel
theorem dX3_passDay_20 : decode cX3_passDay 20 = .ok (.getfield 103, 3) := by decide +kernel
theorem dX3_passDay_23 : decode cX3_passDay 23 = .ok (.aload_n 0, 1) := by decide +kernel
theorem dX3_passDay_24 : decode cX3_passDay 24 = .ok (.getfield 65, 3) := by decide +kernel
theorem dX3_passDay_27 : decode cX3_passDay 27 = .ok (.iload_n 3, 1) := by decide +kernel
theorem dX3_passDay_28 : decode cX3_passDay 28 = .ok (.iastore, 1) := by decide +kernel
theorem dX3_passDay_29 : decode cX3_passDay 29 = .ok (.aload_n 2, 1) := by decide +kernel
theorem dX3_passDay_30 : decode cX3_passDay 30 = .ok (.getfield 97, 3) := by decide +kernel
theorem dX3_passDay_33 : decode cX3_passDay 33 = .ok (.aload_n 0, 1) := by decide +kernel
theorem dX3_passDay_34 : decode cX3_passDay 34 = .ok (.getfield 65, 3) := by decide +kernel
theorem dX3_passDay_37 : decode cX3_passDay 37 = .ok (.iload_n 1, 1) := by decide +kernel
theorem dX3_passDay_38 : decode cX3_passDay 38 = .ok (.iastore, 1) := by decide +kernel
theorem dX3_passDay_39 : decode cX3_passDay 39 = .ok (.aload_n 2, 1) := by decide +kernel
theorem dX3_passDay_40 : decode cX3_passDay 40 = .ok (.getfield 127, 3) := by decide +kernel
theorem dX3_passDay_43 : decode cX3_passDay 43 = .ok (.aload_n 0, 1) := by decide +kernel
theorem dX3_passDay_44 : decode cX3_passDay 44 = .ok (.getfield 65, 3) := by decide +kernel
theorem dX3_passDay_47 : decode cX3_passDay 47 = .ok (.iload 4, 2) := by decide +kernel
theorem dX3_passDay_49 : decode cX3_passDay 49 = .ok (.iastore, 1) := by decide +kernel
theorem dX3_passDay_50 : decode cX3_passDay 50 = .ok (.aload_n 2, 1) := by decide +kernel
theorem dX3_passDay_51 : decode cX3_passDay 51 = .ok (.dup, 1) := by decide +kernel
theorem dX3_passDay_52 : decode cX3_passDay 52 = .ok (.getfield 130, 3) := by decide +kernel
theorem dX3_passDay_55 : decode cX3_passDay 55 = .ok (.iload 4, 2) := by decide +kernel
theorem dX3_passDay_57 : decode cX3_passDay 57 = .ok (.invokestatic 131, 3) := by decide +kernel
theorem dX3_passDay_60 : decode cX3_passDay 60 = .ok (.iadd, 1) := by decide +kernel
theorem dX3_passDay_61 : decode cX3_passDay 61 = .ok (.putfield 130, 3) := by decide +kernel
theorem dX3_passDay_64 : decode cX3_passDay 64 = .ok (.aload_n 0, 1) := by decide +kernel
theorem dX3_passDay_65 : decode cX3_passDay 65 = .ok (.dup, 1) := by decide +kernel
theorem dX3_passDay_66 : decode cX3_passDay 66 = .ok (.getfield 71, 3) := by decide +kernel
theorem dX3_passDay_69 : decode cX3_passDay 69 = .ok (.iload 4, 2) := by decide +kernel
theorem dX3_passDay_71 : decode cX3_passDay 71 = .ok (.invokestatic 131, 3) := by decide +kernel
theorem dX3_passDay_74 : decode cX3_passDay 74 = .ok (.iadd, 1) := by decide +kernel
theorem dX3_passDay_75 : decode cX3_passDay 75 = .ok (.putfield 71, 3) := by decide +kernel
theorem dX3_passDay_78 : decode cX3_passDay 78 = .ok (.aload_n 0, 1) := by decide +kernel
theorem dX3_passDay_79 : decode cX3_passDay 79 = .ok (.iload_n 1, 1) := by decide +kernel
theorem dX3_passDay_80 : decode cX3_passDay 80 = .ok (.invokestatic 134, 3) := by decide +kernel
theorem dX3_passDay_83 : decode cX3_passDay 83 = .ok (.aload_n 0, 1) := by decide +kernel
theorem dX3_passDay_84 : decode cX3_passDay 84 = .ok (.iload_n 3, 1) := by decide +kernel
theorem dX3_passDay_85 : decode cX3_passDay 85 = .ok (.invokevirtual 137, 3) := by decide +kernel
theorem dX3_passDay_88 : decode cX3_passDay 88 = .ok (.invokevirtual 140, 3) := by decide +kernel
theorem dX3_passDay_91 : decode cX3_passDay 91 = .ok (.aload_n 0, 1) := by decide +kernel
theorem dX3_passDay_92 : decode cX3_passDay 92 = .ok (.iload_n 1, 1) := by decide +kernel
theorem dX3_passDay_93 : decode cX3_passDay 93 = .ok (.invokestatic 134, 3) := by decide +kernel
theorem dX3_passDay_96 : decode cX3_passDay 96 = .ok (.aload_n 0, 1) := by decide +kernel
theorem dX3_passDay_97 : decode cX3_passDay 97 = .ok (.iload_n 3, 1) := by decide +kernel
theorem dX3_passDay_98 : decode cX3_passDay 98 = .ok (.invokevirtual 137, 3) := by decide +kernel
theorem dX3_passDay_101 : decode cX3_passDay 101 = .ok (.invokevirtual 144, 3) := by decide +kernel
theorem dX3_passDay_104 : decode cX3_passDay 104 = .ok (.aload_n 0, 1) := by decide +kernel
theorem dX3_passDay_105 : decode cX3_passDay 105 = .ok (.dup, 1) := by decide +kernel
theorem dX3_passDay_106 : decode cX3_passDay 106 = .ok (.getfield 68, 3) := by decide +kernel
theorem dX3_passDay_109 : decode cX3_passDay 109 = .ok (.iconst 1, 1) := by decide +kernel
theorem dX3_passDay_110 : decode cX3_passDay 110 = .ok (.iadd, 1) := by decide +kernel
theorem dX3_passDay_111 : decode cX3_passDay 111 = .ok (.putfield 68, 3) := by decide +kernel
theorem dX3_passDay_114 : decode cX3_passDay 114 = .ok (.aload_n 0, 1) := by decide +kernel
theorem dX3_passDay_115 : decode cX3_passDay 115 = .ok (.dup, 1) := by decide +kernel
theorem dX3_passDay_116 : decode cX3_passDay 116 = .ok (.getfield 65, 3) := by decide +kernel
theorem dX3_passDay_119 : decode cX3_passDay 119 = .ok (.iconst 1, 1) := by decide +kernel
theorem dX3_passDay_120 : decode cX3_passDay 120 = .ok (.iadd, 1) := by decide +kernel
theorem dX3_passDay_121 : decode cX3_passDay 121 = .ok (.putfield 65, 3) := by decide +kernel
theorem dX3_passDay_124 : decode cX3_passDay 124 = .ok (.aload_n 0, 1) := by decide +kernel
theorem dX3_passDay_125 : decode cX3_passDay 125 = .ok (.getfield 65, 3) := by decide +kernel
theorem dX3_passDay_128 : decode cX3_passDay 128 = .ok (.bipush 20, 2) := by decide +kernel
theorem dX3_passDay_130 : decode cX3_passDay 130 = .ok (.if_icmp .ne 7, 3) := by decide +kernel
theorem dX3_passDay_133 : decode cX3_passDay 133 = .ok (.aload_n 0, 1) := by decide +kernel
theorem dX3_passDay_134 : decode cX3_passDay 134 = .ok (.invokevirtual 147, 3) := by decide +kernel
theorem dX3_passDay_137 : decode cX3_passDay 137 = .ok (.iload 4, 2) := by decide +kernel
theorem dX3_passDay_139 : decode cX3_passDay 139 = .ok (.ireturn, 1) := by decide +kernel
theorem dX3_countFrost_0 : decode cX3_countFrost 0 = .ok (.iload_n 1, 1) := by decide +kernel
theorem dX3_countFrost_1 : decode cX3_countFrost 1 = .ok (.ifCond .eq 20, 3) := by decide +kernel
theorem dX3_countFrost_4 : decode cX3_countFrost 4 = .ok (.iload_n 2, 1) := by decide +kernel
theorem dX3_countFrost_5 : decode cX3_countFrost 5 = .ok (.ifCond .eq 16, 3) := by decide +kernel
theorem dX3_countFrost_8 : decode cX3_countFrost 8 = .ok (.aload_n 0, 1) := by decide +kernel
theorem dX3_countFrost_9 : decode cX3_countFrost 9 = .ok (.dup, 1) := by decide +kernel
theorem dX3_countFrost_10 : decode cX3_countFrost 10 = .ok (.getfield 74, 3) := by decide +kernel
theorem dX3_countFrost_13 : decode cX3_countFrost 13 = .ok (.iconst 1, 1) := by decide +kernel
theorem dX3_countFrost_14 : decode cX3_countFrost 14 = .ok (.iadd, 1) := by decide +kernel
theorem dX3_countFrost_15 : decode cX3_countFrost 15 = .ok (.putfield 74, 3) := by decide +kernel
theorem dX3_countFrost_18 : decode cX3_countFrost 18 = .ok (.goto 34, 3) := by decide +kernel
theorem dX3_countFrost_21 : decode cX3_countFrost 21 = .ok (.iload_n 1, 1) := by decide +kernel
theorem dX3_countFrost_22 : decode cX3_countFrost 22 = .ok (.ifCond .eq 16, 3) := by decide +kernel
theorem dX3_countFrost_25 : decode cX3_countFrost 25 = .ok (.aload_n 0, 1) := by decide +kernel
theorem dX3_countFrost_26 : decode cX3_countFrost 26 = .ok (.dup, 1) := by decide +kernel
theorem dX3_countFrost_27 : decode cX3_countFrost 27 = .ok (.getfield 77, 3) := by decide +kernel
theorem dX3_countFrost_30 : decode cX3_countFrost 30 = .ok (.iconst 1, 1) := by decide +kernel
theorem dX3_countFrost_31 : decode cX3_countFrost 31 = .ok (.iadd, 1) := by decide +kernel
theorem dX3_countFrost_32 : decode cX3_countFrost 32 = .ok (.putfield 77, 3) := by decide +kernel
theorem dX3_countFrost_35 : decode cX3_countFrost 35 = .ok (.goto 17, 3) := by decide +kernel
theorem dX3_countFrost_38 : decode cX3_countFrost 38 = .ok (.iload_n 2, 1) := by decide +kernel
theorem dX3_countFrost_39 : decode cX3_countFrost 39 = .ok (.ifCond .eq 13, 3) := by decide +kernel
theorem dX3_countFrost_42 : decode cX3_countFrost 42 = .ok (.aload_n 0, 1) := by decide +kernel
theorem dX3_countFrost_43 : decode cX3_countFrost 43 = .ok (.dup, 1) := by decide +kernel
theorem dX3_countFrost_44 : decode cX3_countFrost 44 = .ok (.getfield 80, 3) := by decide +kernel
theorem dX3_countFrost_47 : decode cX3_countFrost 47 = .ok (.iconst 1, 1) := by decide +kernel
theorem dX3_countFrost_48 : decode cX3_countFrost 48 = .ok (.iadd, 1) := by decide +kernel
theorem dX3_countFrost_49 : decode cX3_countFrost 49 = .ok (.putfield 80, 3) := by decide +kernel
theorem dX3_countFrost_52 : decode cX3_countFrost 52 = .ok (.return_, 1) := by decide +kernel
theorem dX3_settleBets_0 : decode cX3_settleBets 0 = .ok (.iconst 0, 1) := by decide +kernel
theorem dX3_settleBets_1 : decode cX3_settleBets 1 = .ok (.istore_n 3, 1) := by decide +kernel
theorem dX3_settleBets_2 : decode cX3_settleBets 2 = .ok (.iload_n 3, 1) := by decide +kernel
theorem dX3_settleBets_3 : decode cX3_settleBets 3 = .ok (.iconst 4, 1) := by decide +kernel
theorem dX3_settleBets_4 : decode cX3_settleBets 4 = .ok (.if_icmp .ge 104, 3) := by decide +kernel
theorem dX3_settleBets_7 : decode cX3_settleBets 7 = .ok (.aload_n 0, 1) := by decide +kernel
theorem dX3_settleBets_8 : decode cX3_settleBets 8 = .ok (.getfield 40, 3) := by decide +kernel
theorem dX3_settleBets_11 : decode cX3_settleBets 11 = .ok (.iload_n 3, 1) := by decide +kernel
theorem dX3_settleBets_12 : decode cX3_settleBets 12 = .ok (.aaload, 1) := by decide +kernel
theorem dX3_settleBets_13 : decode cX3_settleBets 13 = .ok (.astore 4, 2) := by decide +kernel
theorem dX3_settleBets_15 : decode cX3_settleBets 15 = .ok (.aload 4, 2) := by decide +kernel
theorem dX3_settleBets_17 : decode cX3_settleBets 17 = .ok (.getfield 150, 3) := by decide +kernel
theorem dX3_settleBets_20 : decode cX3_settleBets 20 = .ok (.ifCond .le 82, 3) := by decide +kernel
theorem dX3_settleBets_23 : decode cX3_settleBets 23 = .ok (.aload 4, 2) := by decide +kernel
theorem dX3_settleBets_25 : decode cX3_settleBets 25 = .ok (.iload_n 1, 1) := by decide +kernel
theorem dX3_settleBets_26 : decode cX3_settleBets 26 = .ok (.iload_n 2, 1) := by decide +kernel
theorem dX3_settleBets_27 : decode cX3_settleBets 27 = .ok (.aload_n 0, 1) := by decide +kernel
theorem dX3_settleBets_28 : decode cX3_settleBets 28 = .ok (.getfield 9, 3) := by decide +kernel
theorem dX3_settleBets_31 : decode cX3_settleBets 31 = .ok (.iconst 3, 1) := by decide +kernel
theorem dX3_settleBets_32 : decode cX3_settleBets 32 = .ok (.iaload, 1) := by decide +kernel
theorem dX3_settleBets_33 : decode cX3_settleBets 33 = .ok (.invokevirtual 153, 3) := by decide +kernel
theorem dX3_settleBets_36 : decode cX3_settleBets 36 = .ok (.istore 5, 2) := by decide +kernel
theorem dX3_settleBets_38 : decode cX3_settleBets 38 = .ok (.aload_n 0, 1) := by decide +kernel
theorem dX3_settleBets_39 : decode cX3_settleBets 39 = .ok (.dup, 1) := by decide +kernel
theorem dX3_settleBets_40 : decode cX3_settleBets 40 = .ok (.getfield 83, 3) := by decide +kernel
theorem dX3_settleBets_43 : decode cX3_settleBets 43 = .ok (.iload 5, 2) := by decide +kernel
theorem dX3_settleBets_45 : decode cX3_settleBets 45 = .ok (.isub, 1) := by decide +kernel
theorem dX3_settleBets_46 : decode cX3_settleBets 46 = .ok (.putfield 83, 3) := by decide +kernel
theorem dX3_settleBets_49 : decode cX3_settleBets 49 = .ok (.aload 4, 2) := by decide +kernel
theorem dX3_settleBets_51 : decode cX3_settleBets 51 = .ok (.dup, 1) := by decide +kernel
theorem dX3_settleBets_52 : decode cX3_settleBets 52 = .ok (.getfield 45, 3) := by decide +kernel
theorem dX3_settleBets_55 : decode cX3_settleBets 55 = .ok (.aload 4, 2) := by decide +kernel
theorem dX3_settleBets_57 : decode cX3_settleBets 57 = .ok (.getfield 150, 3) := by decide +kernel
theorem dX3_settleBets_60 : decode cX3_settleBets 60 = .ok (.iload 5, 2) := by decide +kernel
theorem dX3_settleBets_62 : decode cX3_settleBets 62 = .ok (.iadd, 1) := by decide +kernel
theorem dX3_settleBets_63 : decode cX3_settleBets 63 = .ok (.iadd, 1) := by decide +kernel
theorem dX3_settleBets_64 : decode cX3_settleBets 64 = .ok (.putfield 45, 3) := by decide +kernel
theorem dX3_settleBets_67 : decode cX3_settleBets 67 = .ok (.iload 5, 2) := by decide +kernel
theorem dX3_settleBets_69 : decode cX3_settleBets 69 = .ok (.ifCond .le 17, 3) := by decide +kernel
theorem dX3_settleBets_72 : decode cX3_settleBets 72 = .ok (.aload 4, 2) := by decide +kernel
theorem dX3_settleBets_74 : decode cX3_settleBets 74 = .ok (.dup, 1) := by decide +kernel
theorem dX3_settleBets_75 : decode cX3_settleBets 75 = .ok (.getfield 157, 3) := by decide +kernel
theorem dX3_settleBets_78 : decode cX3_settleBets 78 = .ok (.iconst 1, 1) := by decide +kernel
theorem dX3_settleBets_79 : decode cX3_settleBets 79 = .ok (.iadd, 1) := by decide +kernel
theorem dX3_settleBets_80 : decode cX3_settleBets 80 = .ok (.putfield 157, 3) := by decide +kernel
theorem dX3_settleBets_83 : decode cX3_settleBets 83 = .ok (.goto 14, 3) := by decide +kernel
theorem dX3_settleBets_86 : decode cX3_settleBets 86 = .ok (.aload 4, 2) := by decide +kernel
theorem dX3_settleBets_88 : decode cX3_settleBets 88 = .ok (.dup, 1) := by decide +kernel
theorem dX3_settleBets_89 : decode cX3_settleBets 89 = .ok (.getfield 160, 3) := by decide +kernel
theorem dX3_settleBets_92 : decode cX3_settleBets 92 = .ok (.iconst 1, 1) := by decide +kernel
theorem dX3_settleBets_93 : decode cX3_settleBets 93 = .ok (.iadd, 1) := by decide +kernel
theorem dX3_settleBets_94 : decode cX3_settleBets 94 = .ok (.putfield 160, 3) := by decide +kernel
theorem dX3_settleBets_97 : decode cX3_settleBets 97 = .ok (.aload 4, 2) := by decide +kernel
theorem dX3_settleBets_99 : decode cX3_settleBets 99 = .ok (.invokevirtual 163, 3) := by decide +kernel
theorem dX3_settleBets_102 : decode cX3_settleBets 102 = .ok (.iinc 3 1, 3) := by decide +kernel
theorem dX3_settleBets_105 : decode cX3_settleBets 105 = .ok (.goto (-103), 3) := by decide +kernel
theorem dX3_settleBets_108 : decode cX3_settleBets 108 = .ok (.return_, 1) := by decide +kernel
theorem dX3_endYear_0 : decode cX3_endYear 0 = .ok (.aload_n 0, 1) := by decide +kernel
theorem dX3_endYear_1 : decode cX3_endYear 1 = .ok (.invokevirtual 93, 3) := by decide +kernel
theorem dX3_endYear_4 : decode cX3_endYear 4 = .ok (.astore_n 1, 1) := by decide +kernel
theorem dX3_endYear_5 : decode cX3_endYear 5 = .ok (.aload_n 0, 1) := by decide +kernel
theorem dX3_endYear_6 : decode cX3_endYear 6 = .ok (.dup, 1) := by decide +kernel
theorem dX3_endYear_7 : decode cX3_endYear 7 = .ok (.getfield 62, 3) := by decide +kernel
theorem dX3_endYear_10 : decode cX3_endYear 10 = .ok (.iconst 1, 1) := by decide +kernel
theorem dX3_endYear_11 : decode cX3_endYear 11 = .ok (.iadd, 1) := by decide +kernel
theorem dX3_endYear_12 : decode cX3_endYear 12 = .ok (.putfield 62, 3) := by decide +kernel
theorem dX3_endYear_15 : decode cX3_endYear 15 = .ok (.aload_n 0, 1) := by decide +kernel
theorem dX3_endYear_16 : decode cX3_endYear 16 = .ok (.iconst 0, 1) := by decide +kernel
theorem dX3_endYear_17 : decode cX3_endYear 17 = .ok (.putfield 65, 3) := by decide +kernel
theorem dX3_endYear_20 : decode cX3_endYear 20 = .ok (.aload_n 0, 1) := by decide +kernel
theorem dX3_endYear_21 : decode cX3_endYear 21 = .ok (.invokevirtual 93, 3) := by decide +kernel
theorem dX3_endYear_24 : decode cX3_endYear 24 = .ok (.aload_n 1, 1) := by decide +kernel
theorem dX3_endYear_25 : decode cX3_endYear 25 = .ok (.aload_n 0, 1) := by decide +kernel
theorem dX3_endYear_26 : decode cX3_endYear 26 = .ok (.getfield 9, 3) := by decide +kernel
theorem dX3_endYear_29 : decode cX3_endYear 29 = .ok (.iconst 0, 1) := by decide +kernel
theorem dX3_endYear_30 : decode cX3_endYear 30 = .ok (.iaload, 1) := by decide +kernel
theorem dX3_endYear_31 : decode cX3_endYear 31 = .ok (.aload_n 0, 1) := by decide +kernel
theorem dX3_endYear_32 : decode cX3_endYear 32 = .ok (.getfield 9, 3) := by decide +kernel
theorem dX3_endYear_35 : decode cX3_endYear 35 = .ok (.iconst 1, 1) := by decide +kernel
theorem dX3_endYear_36 : decode cX3_endYear 36 = .ok (.iaload, 1) := by decide +kernel
theorem dX3_endYear_37 : decode cX3_endYear 37 = .ok (.invokevirtual 166, 3) := by decide +kernel
theorem dX3_endYear_40 : decode cX3_endYear 40 = .ok (.return_, 1) := by decide +kernel
theorem dX4_init_0 : decode cX4_init 0 = .ok (.aload_n 0, 1) := by decide +kernel
theorem dX4_init_1 : decode cX4_init 1 = .ok (.invokespecial 3, 3) := by decide +kernel
theorem dX4_init_4 : decode cX4_init 4 = .ok (.aload_n 0, 1) := by decide +kernel
theorem dX4_init_5 : decode cX4_init 5 = .ok (.bipush 20, 2) := by decide +kernel
theorem dX4_init_7 : decode cX4_init 7 = .ok (.newarray .int, 2) := by decide +kernel
theorem dX4_init_9 : decode cX4_init 9 = .ok (.putfield 9, 3) := by decide +kernel
theorem dX4_init_12 : decode cX4_init 12 = .ok (.aload_n 0, 1) := by decide +kernel
theorem dX4_init_13 : decode cX4_init 13 = .ok (.bipush 20, 2) := by decide +kernel
theorem dX4_init_15 : decode cX4_init 15 = .ok (.newarray .int, 2) := by decide +kernel
theorem dX4_init_17 : decode cX4_init 17 = .ok (.putfield 15, 3) := by decide +kernel
theorem dX4_init_20 : decode cX4_init 20 = .ok (.aload_n 0, 1) := by decide +kernel
theorem dX4_init_21 : decode cX4_init 21 = .ok (.bipush 20, 2) := by decide +kernel
theorem dX4_init_23 : decode cX4_init 23 = .ok (.newarray .int, 2) := by decide +kernel
theorem dX4_init_25 : decode cX4_init 25 = .ok (.putfield 18, 3) := by decide +kernel
theorem dX4_init_28 : decode cX4_init 28 = .ok (.aload_n 0, 1) := by decide +kernel
theorem dX4_init_29 : decode cX4_init 29 = .ok (.bipush 20, 2) := by decide +kernel
theorem dX4_init_31 : decode cX4_init 31 = .ok (.newarray .int, 2) := by decide +kernel
theorem dX4_init_33 : decode cX4_init 33 = .ok (.putfield 21, 3) := by decide +kernel
theorem dX4_init_36 : decode cX4_init 36 = .ok (.aload_n 0, 1) := by decide +kernel
theorem dX4_init_37 : decode cX4_init 37 = .ok (.iconst 0, 1) := by decide +kernel
theorem dX4_init_38 : decode cX4_init 38 = .ok (.putfield 24, 3) := by decide +kernel
theorem dX4_init_41 : decode cX4_init 41 = .ok (.return_, 1) := by decide +kernel
theorem dX4_copyFrom_0 : decode cX4_copyFrom 0 = .ok (.aload_n 1, 1) := by decide +kernel
theorem dX4_copyFrom_1 : decode cX4_copyFrom 1 = .ok (.getfield 9, 3) := by decide +kernel
theorem dX4_copyFrom_4 : decode cX4_copyFrom 4 = .ok (.iconst 0, 1) := by decide +kernel
theorem dX4_copyFrom_5 : decode cX4_copyFrom 5 = .ok (.aload_n 0, 1) := by decide +kernel
theorem dX4_copyFrom_6 : decode cX4_copyFrom 6 = .ok (.getfield 9, 3) := by decide +kernel
theorem dX4_copyFrom_9 : decode cX4_copyFrom 9 = .ok (.iconst 0, 1) := by decide +kernel
theorem dX4_copyFrom_10 : decode cX4_copyFrom 10 = .ok (.bipush 20, 2) := by decide +kernel
theorem dX4_copyFrom_12 : decode cX4_copyFrom 12 = .ok (.invokestatic 28, 3) := by decide +kernel
theorem dX4_copyFrom_15 : decode cX4_copyFrom 15 = .ok (.aload_n 1, 1) := by decide +kernel
theorem dX4_copyFrom_16 : decode cX4_copyFrom 16 = .ok (.getfield 15, 3) := by decide +kernel
theorem dX4_copyFrom_19 : decode cX4_copyFrom 19 = .ok (.iconst 0, 1) := by decide +kernel
theorem dX4_copyFrom_20 : decode cX4_copyFrom 20 = .ok (.aload_n 0, 1) := by decide +kernel
theorem dX4_copyFrom_21 : decode cX4_copyFrom 21 = .ok (.getfield 15, 3) := by decide +kernel
theorem dX4_copyFrom_24 : decode cX4_copyFrom 24 = .ok (.iconst 0, 1) := by decide +kernel
theorem dX4_copyFrom_25 : decode cX4_copyFrom 25 = .ok (.bipush 20, 2) := by decide +kernel
theorem dX4_copyFrom_27 : decode cX4_copyFrom 27 = .ok (.invokestatic 28, 3) := by decide +kernel
theorem dX4_copyFrom_30 : decode cX4_copyFrom 30 = .ok (.aload_n 1, 1) := by decide +kernel
theorem dX4_copyFrom_31 : decode cX4_copyFrom 31 = .ok (.getfield 18, 3) := by decide +kernel
theorem dX4_copyFrom_34 : decode cX4_copyFrom 34 = .ok (.iconst 0, 1) := by decide +kernel
theorem dX4_copyFrom_35 : decode cX4_copyFrom 35 = .ok (.aload_n 0, 1) := by decide +kernel
theorem dX4_copyFrom_36 : decode cX4_copyFrom 36 = .ok (.getfield 18, 3) := by decide +kernel
theorem dX4_copyFrom_39 : decode cX4_copyFrom 39 = .ok (.iconst 0, 1) := by decide +kernel
theorem dX4_copyFrom_40 : decode cX4_copyFrom 40 = .ok (.bipush 20, 2) := by decide +kernel
theorem dX4_copyFrom_42 : decode cX4_copyFrom 42 = .ok (.invokestatic 28, 3) := by decide +kernel
theorem dX4_copyFrom_45 : decode cX4_copyFrom 45 = .ok (.aload_n 1, 1) := by decide +kernel
theorem dX4_copyFrom_46 : decode cX4_copyFrom 46 = .ok (.getfield 21, 3) := by decide +kernel
theorem dX4_copyFrom_49 : decode cX4_copyFrom 49 = .ok (.iconst 0, 1) := by decide +kernel
theorem dX4_copyFrom_50 : decode cX4_copyFrom 50 = .ok (.aload_n 0, 1) := by decide +kernel
theorem dX4_copyFrom_51 : decode cX4_copyFrom 51 = .ok (.getfield 21, 3) := by decide +kernel
theorem dX4_copyFrom_54 : decode cX4_copyFrom 54 = .ok (.iconst 0, 1) := by decide +kernel
theorem dX4_copyFrom_55 : decode cX4_copyFrom 55 = .ok (.bipush 20, 2) := by decide +kernel
theorem dX4_copyFrom_57 : decode cX4_copyFrom 57 = .ok (.invokestatic 28, 3) := by decide +kernel
theorem dX4_copyFrom_60 : decode cX4_copyFrom 60 = .ok (.aload_n 0, 1) := by decide +kernel
theorem dX4_copyFrom_61 : decode cX4_copyFrom 61 = .ok (.aload_n 1, 1) := by decide +kernel
theorem dX4_copyFrom_62 : decode cX4_copyFrom 62 = .ok (.getfield 24, 3) := by decide +kernel
theorem dX4_copyFrom_65 : decode cX4_copyFrom 65 = .ok (.putfield 24, 3) := by decide +kernel
theorem dX4_copyFrom_68 : decode cX4_copyFrom 68 = .ok (.return_, 1) := by decide +kernel
theorem dX4_beginBehind_0 : decode cX4_beginBehind 0 = .ok (.iconst 0, 1) := by decide +kernel
theorem dX4_beginBehind_1 : decode cX4_beginBehind 1 = .ok (.istore 4, 2) := by decide +kernel
theorem dX4_beginBehind_3 : decode cX4_beginBehind 3 = .ok (.iload 4, 2) := by decide +kernel
theorem dX4_beginBehind_5 : decode cX4_beginBehind 5 = .ok (.bipush 20, 2) := by decide +kernel
theorem dX4_beginBehind_7 : decode cX4_beginBehind 7 = .ok (.if_icmp .ge 42, 3) := by decide +kernel
theorem dX4_beginBehind_10 : decode cX4_beginBehind 10 = .ok (.aload_n 0, 1) := by decide +kernel
theorem dX4_beginBehind_11 : decode cX4_beginBehind 11 = .ok (.getfield 9, 3) := by decide +kernel
theorem dX4_beginBehind_14 : decode cX4_beginBehind 14 = .ok (.iload 4, 2) := by decide +kernel
theorem dX4_beginBehind_16 : decode cX4_beginBehind 16 = .ok (.aload_n 1, 1) := by decide +kernel
theorem dX4_beginBehind_17 : decode cX4_beginBehind 17 = .ok (.getfield 9, 3) := by decide +kernel
theorem dX4_beginBehind_20 : decode cX4_beginBehind 20 = .ok (.iload 4, 2) := by decide +kernel
theorem dX4_beginBehind_22 : decode cX4_beginBehind 22 = .ok (.iaload, 1) := by decide +kernel
theorem dX4_beginBehind_23 : decode cX4_beginBehind 23 = .ok (.aload_n 1, 1) := by decide +kernel
theorem dX4_beginBehind_24 : decode cX4_beginBehind 24 = .ok (.iload 4, 2) := by decide +kernel
theorem dX4_beginBehind_26 : decode cX4_beginBehind 26 = .ok (.iload_n 2, 1) := by decide +kernel
theorem dX4_beginBehind_27 : decode cX4_beginBehind 27 = .ok (.invokevirtual 34, 3) := by decide +kernel
theorem dX4_beginBehind_30 : decode cX4_beginBehind 30 = .ok (.iload_n 3, 1) := by decide +kernel
theorem dX4_beginBehind_31 : decode cX4_beginBehind 31 = .ok (.invokestatic 38, 3) := by decide +kernel
theorem dX4_beginBehind_34 : decode cX4_beginBehind 34 = .ok (.iastore, 1) := by decide +kernel
theorem dX4_beginBehind_35 : decode cX4_beginBehind 35 = .ok (.aload_n 0, 1) := by decide +kernel
theorem dX4_beginBehind_36 : decode cX4_beginBehind 36 = .ok (.getfield 21, 3) := by decide +kernel
theorem dX4_beginBehind_39 : decode cX4_beginBehind 39 = .ok (.iload 4, 2) := by decide +kernel
theorem dX4_beginBehind_41 : decode cX4_beginBehind 41 = .ok (.iconst 0, 1) := by decide +kernel
theorem dX4_beginBehind_42 : decode cX4_beginBehind 42 = .ok (.iastore, 1) := by decide +kernel
theorem dX4_beginBehind_43 : decode cX4_beginBehind 43 = .ok (.iinc 4 1, 3) := by decide +kernel
theorem dX4_beginBehind_46 : decode cX4_beginBehind 46 = .ok (.goto (-43), 3) := by decide +kernel
theorem dX4_beginBehind_49 : decode cX4_beginBehind 49 = .ok (.aload_n 0, 1) := by decide +kernel
theorem dX4_beginBehind_50 : decode cX4_beginBehind 50 = .ok (.iconst 0, 1) := by decide +kernel
theorem dX4_beginBehind_51 : decode cX4_beginBehind 51 = .ok (.putfield 24, 3) := by decide +kernel
theorem dX4_beginBehind_54 : decode cX4_beginBehind 54 = .ok (.return_, 1) := by decide +kernel
theorem dX4_meanByDays_0 : decode cX4_meanByDays 0 = .ok (.iconst 0, 1) := by decide +kernel
theorem dX4_meanByDays_1 : decode cX4_meanByDays 1 = .ok (.iload_n 1, 1) := by decide +kernel
theorem dX4_meanByDays_2 : decode cX4_meanByDays 2 = .ok (.iload_n 2, 1) := by decide +kernel
theorem dX4_meanByDays_3 : decode cX4_meanByDays 3 = .ok (.isub, 1) := by decide +kernel
theorem dX4_meanByDays_4 : decode cX4_meanByDays 4 = .ok (.invokestatic 42, 3) := by decide +kernel
theorem dX4_meanByDays_7 : decode cX4_meanByDays 7 = .ok (.istore_n 3, 1) := by decide +kernel
theorem dX4_meanByDays_8 : decode cX4_meanByDays 8 = .ok (.bipush 19, 2) := by decide +kernel
theorem dX4_meanByDays_10 : decode cX4_meanByDays 10 = .ok (.iload_n 1, 1) := by decide +kernel
theorem dX4_meanByDays_11 : decode cX4_meanByDays 11 = .ok (.iload_n 2, 1) := by decide +kernel
theorem dX4_meanByDays_12 : decode cX4_meanByDays 12 = .ok (.iadd, 1) := by decide +kernel
theorem dX4_meanByDays_13 : decode cX4_meanByDays 13 = .ok (.invokestatic 47, 3) := by decide +kernel
theorem dX4_meanByDays_16 : decode cX4_meanByDays 16 = .ok (.istore 4, 2) := by decide +kernel
theorem dX4_meanByDays_18 : decode cX4_meanByDays 18 = .ok (.iconst 0, 1) := by decide +kernel
theorem dX4_meanByDays_19 : decode cX4_meanByDays 19 = .ok (.istore 5, 2) := by decide +kernel
theorem dX4_meanByDays_21 : decode cX4_meanByDays 21 = .ok (.iconst 0, 1) := by decide +kernel
theorem dX4_meanByDays_22 : decode cX4_meanByDays 22 = .ok (.istore 6, 2) := by decide +kernel
theorem dX4_meanByDays_24 : decode cX4_meanByDays 24 = .ok (.iload_n 3, 1) := by decide +kernel
theorem dX4_meanByDays_25 : decode cX4_meanByDays 25 = .ok (.istore 7, 2) := by decide +kernel
theorem dX4_meanByDays_27 : decode cX4_meanByDays 27 = .ok (.iload 7, 2) := by decide +kernel
theorem dX4_meanByDays_29 : decode cX4_meanByDays 29 = .ok (.iload 4, 2) := by decide +kernel
theorem dX4_meanByDays_31 : decode cX4_meanByDays 31 = .ok (.if_icmp .gt 24, 3) := by decide +kernel
theorem dX4_meanByDays_34 : decode cX4_meanByDays 34 = .ok (.iload 5, 2) := by decide +kernel
theorem dX4_meanByDays_36 : decode cX4_meanByDays 36 = .ok (.aload_n 0, 1) := by decide +kernel
theorem dX4_meanByDays_37 : decode cX4_meanByDays 37 = .ok (.getfield 21, 3) := by decide +kernel
theorem dX4_meanByDays_40 : decode cX4_meanByDays 40 = .ok (.iload 7, 2) := by decide +kernel
theorem dX4_meanByDays_42 : decode cX4_meanByDays 42 = .ok (.iaload, 1) := by decide +kernel
theorem dX4_meanByDays_43 : decode cX4_meanByDays 43 = .ok (.iadd, 1) := by decide +kernel
theorem dX4_meanByDays_44 : decode cX4_meanByDays 44 = .ok (.istore 5, 2) := by decide +kernel
theorem dX4_meanByDays_46 : decode cX4_meanByDays 46 = .ok (.iinc 6 1, 3) := by decide +kernel
theorem dX4_meanByDays_49 : decode cX4_meanByDays 49 = .ok (.iinc 7 1, 3) := by decide +kernel
theorem dX4_meanByDays_52 : decode cX4_meanByDays 52 = .ok (.goto (-25), 3) := by decide +kernel
theorem dX4_meanByDays_55 : decode cX4_meanByDays 55 = .ok (.iload 6, 2) := by decide +kernel
theorem dX4_meanByDays_57 : decode cX4_meanByDays 57 = .ok (.ifCond .le 11, 3) := by decide +kernel
theorem dX4_meanByDays_60 : decode cX4_meanByDays 60 = .ok (.iload 5, 2) := by decide +kernel
theorem dX4_meanByDays_62 : decode cX4_meanByDays 62 = .ok (.iload 6, 2) := by decide +kernel
theorem dX4_meanByDays_64 : decode cX4_meanByDays 64 = .ok (.idiv, 1) := by decide +kernel
theorem dX4_meanByDays_65 : decode cX4_meanByDays 65 = .ok (.goto 4, 3) := by decide +kernel
theorem dX4_meanByDays_68 : decode cX4_meanByDays 68 = .ok (.iconst 0, 1) := by decide +kernel
theorem dX4_meanByDays_69 : decode cX4_meanByDays 69 = .ok (.ireturn, 1) := by decide +kernel
theorem dX4_meanBySums_0 : decode cX4_meanBySums 0 = .ok (.iconst 0, 1) := by decide +kernel
theorem dX4_meanBySums_1 : decode cX4_meanBySums 1 = .ok (.iload_n 1, 1) := by decide +kernel
theorem dX4_meanBySums_2 : decode cX4_meanBySums 2 = .ok (.iload_n 2, 1) := by decide +kernel
theorem dX4_meanBySums_3 : decode cX4_meanBySums 3 = .ok (.isub, 1) := by decide +kernel
theorem dX4_meanBySums_4 : decode cX4_meanBySums 4 = .ok (.invokestatic 42, 3) := by decide +kernel
theorem dX4_meanBySums_7 : decode cX4_meanBySums 7 = .ok (.istore_n 3, 1) := by decide +kernel
theorem dX4_meanBySums_8 : decode cX4_meanBySums 8 = .ok (.bipush 19, 2) := by decide +kernel
theorem dX4_meanBySums_10 : decode cX4_meanBySums 10 = .ok (.iload_n 1, 1) := by decide +kernel
theorem dX4_meanBySums_11 : decode cX4_meanBySums 11 = .ok (.iload_n 2, 1) := by decide +kernel
theorem dX4_meanBySums_12 : decode cX4_meanBySums 12 = .ok (.iadd, 1) := by decide +kernel
theorem dX4_meanBySums_13 : decode cX4_meanBySums 13 = .ok (.invokestatic 47, 3) := by decide +kernel
theorem dX4_meanBySums_16 : decode cX4_meanBySums 16 = .ok (.istore 4, 2) := by decide +kernel
theorem dX4_meanBySums_18 : decode cX4_meanBySums 18 = .ok (.iload 4, 2) := by decide +kernel
theorem dX4_meanBySums_20 : decode cX4_meanBySums 20 = .ok (.iload_n 3, 1) := by decide +kernel
theorem dX4_meanBySums_21 : decode cX4_meanBySums 21 = .ok (.isub, 1) := by decide +kernel
theorem dX4_meanBySums_22 : decode cX4_meanBySums 22 = .ok (.iconst 1, 1) := by decide +kernel
theorem dX4_meanBySums_23 : decode cX4_meanBySums 23 = .ok (.iadd, 1) := by decide +kernel
theorem dX4_meanBySums_24 : decode cX4_meanBySums 24 = .ok (.istore 5, 2) := by decide +kernel
theorem dX4_meanBySums_26 : decode cX4_meanBySums 26 = .ok (.aload_n 0, 1) := by decide +kernel
theorem dX4_meanBySums_27 : decode cX4_meanBySums 27 = .ok (.iload 4, 2) := by decide +kernel
theorem dX4_meanBySums_29 : decode cX4_meanBySums 29 = .ok (.iconst 1, 1) := by decide +kernel
theorem dX4_meanBySums_30 : decode cX4_meanBySums 30 = .ok (.iadd, 1) := by decide +kernel
theorem dX4_meanBySums_31 : decode cX4_meanBySums 31 = .ok (.invokevirtual 50, 3) := by decide +kernel
theorem dX4_meanBySums_34 : decode cX4_meanBySums 34 = .ok (.aload_n 0, 1) := by decide +kernel
theorem dX4_meanBySums_35 : decode cX4_meanBySums 35 = .ok (.iload_n 3, 1) := by decide +kernel
theorem dX4_meanBySums_36 : decode cX4_meanBySums 36 = .ok (.invokevirtual 50, 3) := by decide +kernel
theorem dX4_meanBySums_39 : decode cX4_meanBySums 39 = .ok (.isub, 1) := by decide +kernel
theorem dX4_meanBySums_40 : decode cX4_meanBySums 40 = .ok (.istore 6, 2) := by decide +kernel
theorem dX4_meanBySums_42 : decode cX4_meanBySums 42 = .ok (.iload 5, 2) := by decide +kernel
theorem dX4_meanBySums_44 : decode cX4_meanBySums 44 = .ok (.ifCond .le 11, 3) := by decide +kernel
theorem dX4_meanBySums_47 : decode cX4_meanBySums 47 = .ok (.iload 6, 2) := by decide +kernel
theorem dX4_meanBySums_49 : decode cX4_meanBySums 49 = .ok (.iload 5, 2) := by decide +kernel
theorem dX4_meanBySums_51 : decode cX4_meanBySums 51 = .ok (.idiv, 1) := by decide +kernel
theorem dX4_meanBySums_52 : decode cX4_meanBySums 52 = .ok (.goto 4, 3) := by decide +kernel
theorem dX4_meanBySums_55 : decode cX4_meanBySums 55 = .ok (.iconst 0, 1) := by decide +kernel
theorem dX4_meanBySums_56 : decode cX4_meanBySums 56 = .ok (.ireturn, 1) := by decide +kernel
theorem dX4_sumBefore_0 : decode cX4_sumBefore 0 = .ok (.iconst 0, 1) := by decide +kernel
theorem dX4_sumBefore_1 : decode cX4_sumBefore 1 = .ok (.istore_n 2, 1) := by decide +kernel
theorem dX4_sumBefore_2 : decode cX4_sumBefore 2 = .ok (.iconst 0, 1) := by decide +kernel
theorem dX4_sumBefore_3 : decode cX4_sumBefore 3 = .ok (.istore_n 3, 1) := by decide +kernel
theorem dX4_sumBefore_4 : decode cX4_sumBefore 4 = .ok (.iload_n 3, 1) := by decide +kernel
theorem dX4_sumBefore_5 : decode cX4_sumBefore 5 = .ok (.iload_n 1, 1) := by decide +kernel
theorem dX4_sumBefore_6 : decode cX4_sumBefore 6 = .ok (.if_icmp .ge 24, 3) := by decide +kernel
theorem dX4_sumBefore_9 : decode cX4_sumBefore 9 = .ok (.iload_n 3, 1) := by decide +kernel
theorem dX4_sumBefore_10 : decode cX4_sumBefore 10 = .ok (.bipush 20, 2) := by decide +kernel
theorem dX4_sumBefore_12 : decode cX4_sumBefore 12 = .ok (.if_icmp .ge 18, 3) := by decide +kernel
theorem dX4_sumBefore_15 : decode cX4_sumBefore 15 = .ok (.iload_n 2, 1) := by decide +kernel
theorem dX4_sumBefore_16 : decode cX4_sumBefore 16 = .ok (.aload_n 0, 1) := by decide +kernel
theorem dX4_sumBefore_17 : decode cX4_sumBefore 17 = .ok (.getfield 21, 3) := by decide +kernel
theorem dX4_sumBefore_20 : decode cX4_sumBefore 20 = .ok (.iload_n 3, 1) := by decide +kernel
theorem dX4_sumBefore_21 : decode cX4_sumBefore 21 = .ok (.iaload, 1) := by decide +kernel
theorem dX4_sumBefore_22 : decode cX4_sumBefore 22 = .ok (.iadd, 1) := by decide +kernel
theorem dX4_sumBefore_23 : decode cX4_sumBefore 23 = .ok (.istore_n 2, 1) := by decide +kernel
theorem dX4_sumBefore_24 : decode cX4_sumBefore 24 = .ok (.iinc 3 1, 3) := by decide +kernel
theorem dX4_sumBefore_27 : decode cX4_sumBefore 27 = .ok (.goto (-23), 3) := by decide +kernel
theorem dX4_sumBefore_30 : decode cX4_sumBefore 30 = .ok (.iload_n 2, 1) := by decide +kernel
theorem dX4_sumBefore_31 : decode cX4_sumBefore 31 = .ok (.ireturn, 1) := by decide +kernel
theorem dX4_wrongFrosts_0 : decode cX4_wrongFrosts 0 = .ok (.iconst 0, 1) := by decide +kernel
theorem dX4_wrongFrosts_1 : decode cX4_wrongFrosts 1 = .ok (.istore_n 2, 1) := by decide +kernel
theorem dX4_wrongFrosts_2 : decode cX4_wrongFrosts 2 = .ok (.iconst 0, 1) := by decide +kernel
theorem dX4_wrongFrosts_3 : decode cX4_wrongFrosts 3 = .ok (.istore_n 3, 1) := by decide +kernel
theorem dX4_wrongFrosts_4 : decode cX4_wrongFrosts 4 = .ok (.iload_n 3, 1) := by decide +kernel
theorem dX4_wrongFrosts_5 : decode cX4_wrongFrosts 5 = .ok (.bipush 20, 2) := by decide +kernel
theorem dX4_wrongFrosts_7 : decode cX4_wrongFrosts 7 = .ok (.if_icmp .ge 39, 3) := by decide +kernel
theorem dX4_wrongFrosts_10 : decode cX4_wrongFrosts 10 = .ok (.aload_n 0, 1) := by decide +kernel
theorem dX4_wrongFrosts_11 : decode cX4_wrongFrosts 11 = .ok (.getfield 18, 3) := by decide +kernel
theorem dX4_wrongFrosts_14 : decode cX4_wrongFrosts 14 = .ok (.iload_n 3, 1) := by decide +kernel
theorem dX4_wrongFrosts_15 : decode cX4_wrongFrosts 15 = .ok (.iaload, 1) := by decide +kernel
theorem dX4_wrongFrosts_16 : decode cX4_wrongFrosts 16 = .ok (.invokestatic 54, 3) := by decide +kernel
theorem dX4_wrongFrosts_19 : decode cX4_wrongFrosts 19 = .ok (.aload_n 0, 1) := by decide +kernel
theorem dX4_wrongFrosts_20 : decode cX4_wrongFrosts 20 = .ok (.getfield 15, 3) := by decide +kernel
theorem dX4_wrongFrosts_23 : decode cX4_wrongFrosts 23 = .ok (.iload_n 3, 1) := by decide +kernel
theorem dX4_wrongFrosts_24 : decode cX4_wrongFrosts 24 = .ok (.iaload, 1) := by decide +kernel
theorem dX4_wrongFrosts_25 : decode cX4_wrongFrosts 25 = .ok (.iload_n 1, 1) := by decide +kernel
theorem dX4_wrongFrosts_26 : decode cX4_wrongFrosts 26 = .ok (.if_icmp .gt 7, 3) := by decide +kernel
theorem dX4_wrongFrosts_29 : decode cX4_wrongFrosts 29 = .ok (.iconst 1, 1) := by decide +kernel
theorem dX4_wrongFrosts_30 : decode cX4_wrongFrosts 30 = .ok (.goto 4, 3) := by decide +kernel
theorem dX4_wrongFrosts_33 : decode cX4_wrongFrosts 33 = .ok (.iconst 0, 1) := by decide +kernel
theorem dX4_wrongFrosts_34 : decode cX4_wrongFrosts 34 = .ok (.if_icmp .eq 6, 3) := by decide +kernel
theorem dX4_wrongFrosts_37 : decode cX4_wrongFrosts 37 = .ok (.iinc 2 1, 3) := by decide +kernel
theorem dX4_wrongFrosts_40 : decode cX4_wrongFrosts 40 = .ok (.iinc 3 1, 3) := by decide +kernel
theorem dX4_wrongFrosts_43 : decode cX4_wrongFrosts 43 = .ok (.goto (-39), 3) := by decide +kernel
theorem dX4_wrongFrosts_46 : decode cX4_wrongFrosts 46 = .ok (.iload_n 2, 1) := by decide +kernel
theorem dX4_wrongFrosts_47 : decode cX4_wrongFrosts 47 = .ok (.ireturn, 1) := by decide +kernel
theorem dX5_init_0 : decode cX5_init 0 = .ok (.aload_n 0, 1) := by decide +kernel
theorem dX5_init_1 : decode cX5_init 1 = .ok (.invokespecial 3, 3) := by decide +kernel
theorem dX5_init_4 : decode cX5_init 4 = .ok (.aload_n 0, 1) := by decide +kernel
theorem dX5_init_5 : decode cX5_init 5 = .ok (.new 9, 3) := by decide +kernel
theorem dX5_init_8 : decode cX5_init 8 = .ok (.dup, 1) := by decide +kernel
theorem dX5_init_9 : decode cX5_init 9 = .ok (.invokespecial 11, 3) := by decide +kernel
theorem dX5_init_12 : decode cX5_init 12 = .ok (.putfield 12, 3) := by decide +kernel
theorem dX5_init_15 : decode cX5_init 15 = .ok (.aload_n 0, 1) := by decide +kernel
theorem dX5_init_16 : decode cX5_init 16 = .ok (.iconst 4, 1) := by decide +kernel
theorem dX5_init_17 : decode cX5_init 17 = .ok (.anewarray 16, 3) := by decide +kernel
theorem dX5_init_20 : decode cX5_init 20 = .ok (.putfield 18, 3) := by decide +kernel
theorem dX5_init_23 : decode cX5_init 23 = .ok (.iconst 0, 1) := by decide +kernel
theorem dX5_init_24 : decode cX5_init 24 = .ok (.istore_n 1, 1) := by decide +kernel
theorem dX5_init_25 : decode cX5_init 25 = .ok (.iload_n 1, 1) := by decide +kernel
theorem dX5_init_26 : decode cX5_init 26 = .ok (.iconst 4, 1) := by decide +kernel
theorem dX5_init_27 : decode cX5_init 27 = .ok (.if_icmp .ge 22, 3) := by decide +kernel
theorem dX5_init_30 : decode cX5_init 30 = .ok (.aload_n 0, 1) := by decide +kernel
theorem dX5_init_31 : decode cX5_init 31 = .ok (.getfield 18, 3) := by decide +kernel
theorem dX5_init_34 : decode cX5_init 34 = .ok (.iload_n 1, 1) := by decide +kernel
theorem dX5_init_35 : decode cX5_init 35 = .ok (.new 16, 3) := by decide +kernel
theorem dX5_init_38 : decode cX5_init 38 = .ok (.dup, 1) := by decide +kernel
theorem dX5_init_39 : decode cX5_init 39 = .ok (.invokespecial 22, 3) := by decide +kernel
theorem dX5_init_42 : decode cX5_init 42 = .ok (.aastore, 1) := by decide +kernel
theorem dX5_init_43 : decode cX5_init 43 = .ok (.iinc 1 1, 3) := by decide +kernel
theorem dX5_init_46 : decode cX5_init 46 = .ok (.goto (-21), 3) := by decide +kernel
theorem dX5_init_49 : decode cX5_init 49 = .ok (.aload_n 0, 1) := by decide +kernel
theorem dX5_init_50 : decode cX5_init 50 = .ok (.new 16, 3) := by decide +kernel
theorem dX5_init_53 : decode cX5_init 53 = .ok (.dup, 1) := by decide +kernel
theorem dX5_init_54 : decode cX5_init 54 = .ok (.invokespecial 22, 3) := by decide +kernel
theorem dX5_init_57 : decode cX5_init 57 = .ok (.putfield 23, 3) := by decide +kernel
theorem dX5_init_60 : decode cX5_init 60 = .ok (.aload_n 0, 1) := by decide +kernel
theorem dX5_init_61 : decode cX5_init 61 = .ok (.bipush 20, 2) := by decide +kernel
theorem dX5_init_63 : decode cX5_init 63 = .ok (.newarray .int, 2) := by decide +kernel
theorem dX5_init_65 : decode cX5_init 65 = .ok (.putfield 27, 3) := by decide +kernel
theorem dX5_init_68 : decode cX5_init 68 = .ok (.aload_n 0, 1) := by decide +kernel
theorem dX5_init_69 : decode cX5_init 69 = .ok (.new 16, 3) := by decide +kernel
theorem dX5_init_72 : decode cX5_init 72 = .ok (.dup, 1) := by decide +kernel
theorem dX5_init_73 : decode cX5_init 73 = .ok (.invokespecial 22, 3) := by decide +kernel
theorem dX5_init_76 : decode cX5_init 76 = .ok (.putfield 31, 3) := by decide +kernel
theorem dX5_init_79 : decode cX5_init 79 = .ok (.aload_n 0, 1) := by decide +kernel
theorem dX5_init_80 : decode cX5_init 80 = .ok (.iconst 0, 1) := by decide +kernel
theorem dX5_init_81 : decode cX5_init 81 = .ok (.putfield 34, 3) := by decide +kernel
theorem dX5_init_84 : decode cX5_init 84 = .ok (.aload_n 0, 1) := by decide +kernel
theorem dX5_init_85 : decode cX5_init 85 = .ok (.iconst 0, 1) := by decide +kernel
theorem dX5_init_86 : decode cX5_init 86 = .ok (.putfield 38, 3) := by decide +kernel
theorem dX5_init_89 : decode cX5_init 89 = .ok (.return_, 1) := by decide +kernel
theorem dX5_measure_0 : decode cX5_measure 0 = .ok (.iload_n 1, 1) := by decide +kernel
theorem dX5_measure_1 : decode cX5_measure 1 = .ok (.bipush 40, 2) := by decide +kernel
theorem dX5_measure_3 : decode cX5_measure 3 = .ok (.invokestatic 42, 3) := by decide +kernel
theorem dX5_measure_6 : decode cX5_measure 6 = .ok (.ifCond .ne 6, 3) := by decide +kernel
theorem dX5_measure_9 : decode cX5_measure 9 = .ok (.bipush (-2), 2) := by decide +kernel
theorem dX5_measure_11 : decode cX5_measure 11 = .ok (.ireturn, 1) := by decide +kernel
theorem dX5_measure_12 : decode cX5_measure 12 = .ok (.aload_n 0, 1) := by decide +kernel
theorem dX5_measure_13 : decode cX5_measure 13 = .ok (.invokevirtual 46, 3) := by decide +kernel
theorem dX5_measure_16 : decode cX5_measure 16 = .ok (.aload_n 0, 1) := by decide +kernel
theorem dX5_measure_17 : decode cX5_measure 17 = .ok (.getfield 31, 3) := by decide +kernel
theorem dX5_measure_20 : decode cX5_measure 20 = .ok (.iload_n 1, 1) := by decide +kernel
theorem dX5_measure_21 : decode cX5_measure 21 = .ok (.invokevirtual 49, 3) := by decide +kernel
theorem dX5_measure_24 : decode cX5_measure 24 = .ok (.sipush 1000, 3) := by decide +kernel
theorem dX5_measure_27 : decode cX5_measure 27 = .ok (.iadd, 1) := by decide +kernel
theorem dX5_measure_28 : decode cX5_measure 28 = .ok (.ireturn, 1) := by decide +kernel
theorem dX5_measureAll_0 : decode cX5_measureAll 0 = .ok (.aload_n 0, 1) := by decide +kernel
theorem dX5_measureAll_1 : decode cX5_measureAll 1 = .ok (.getfield 12, 3) := by decide +kernel
theorem dX5_measureAll_4 : decode cX5_measureAll 4 = .ok (.invokevirtual 53, 3) := by decide +kernel
theorem dX5_measureAll_7 : decode cX5_measureAll 7 = .ok (.istore_n 1, 1) := by decide +kernel
theorem dX5_measureAll_8 : decode cX5_measureAll 8 = .ok (.iload_n 1, 1) := by decide +kernel
theorem dX5_measureAll_9 : decode cX5_measureAll 9 = .ok (.bipush (-5), 2) := by decide +kernel
theorem dX5_measureAll_11 : decode cX5_measureAll 11 = .ok (.if_icmp .eq 8, 3) := by decide +kernel
theorem dX5_measureAll_14 : decode cX5_measureAll 14 = .ok (.bipush (-100), 2) := by decide +kernel
theorem dX5_measureAll_16 : decode cX5_measureAll 16 = .ok (.iload_n 1, 1) := by decide +kernel
theorem dX5_measureAll_17 : decode cX5_measureAll 17 = .ok (.isub, 1) := by decide +kernel
theorem dX5_measureAll_18 : decode cX5_measureAll 18 = .ok (.ireturn, 1) := by decide +kernel
theorem dX5_measureAll_19 : decode cX5_measureAll 19 = .ok (.aload_n 0, 1) := by decide +kernel
theorem dX5_measureAll_20 : decode cX5_measureAll 20 = .ok (.invokevirtual 46, 3) := by decide +kernel
theorem dX5_measureAll_23 : decode cX5_measureAll 23 = .ok (.aload_n 0, 1) := by decide +kernel
theorem dX5_measureAll_24 : decode cX5_measureAll 24 = .ok (.getfield 31, 3) := by decide +kernel
theorem dX5_measureAll_27 : decode cX5_measureAll 27 = .ok (.getfield 57, 3) := by decide +kernel
theorem dX5_measureAll_30 : decode cX5_measureAll 30 = .ok (.istore_n 2, 1) := by decide +kernel
theorem dX5_measureAll_31 : decode cX5_measureAll 31 = .ok (.aload_n 0, 1) := by decide +kernel
theorem dX5_measureAll_32 : decode cX5_measureAll 32 = .ok (.getfield 12, 3) := by decide +kernel
theorem dX5_measureAll_35 : decode cX5_measureAll 35 = .ok (.invokevirtual 60, 3) := by decide +kernel
theorem dX5_measureAll_38 : decode cX5_measureAll 38 = .ok (.iconst 0, 1) := by decide +kernel
theorem dX5_measureAll_39 : decode cX5_measureAll 39 = .ok (.istore_n 3, 1) := by decide +kernel
theorem dX5_measureAll_40 : decode cX5_measureAll 40 = .ok (.iload_n 3, 1) := by decide +kernel
theorem dX5_measureAll_41 : decode cX5_measureAll 41 = .ok (.bipush 60, 2) := by decide +kernel
theorem dX5_measureAll_43 : decode cX5_measureAll 43 = .ok (.if_icmp .ge 62, 3) := by decide +kernel
theorem dX5_measureAll_46 : decode cX5_measureAll 46 = .ok (.aload_n 0, 1) := by decide +kernel
theorem dX5_measureAll_47 : decode cX5_measureAll 47 = .ok (.getfield 12, 3) := by decide +kernel
theorem dX5_measureAll_50 : decode cX5_measureAll 50 = .ok (.invokevirtual 63, 3) := by decide +kernel
theorem dX5_measureAll_53 : decode cX5_measureAll 53 = .ok (.ifCond .eq 52, 3) := by decide +kernel
theorem dX5_measureAll_56 : decode cX5_measureAll 56 = .ok (.iconst 0, 1) := by decide +kernel
theorem dX5_measureAll_57 : decode cX5_measureAll 57 = .ok (.istore 4, 2) := by decide +kernel
theorem dX5_measureAll_59 : decode cX5_measureAll 59 = .ok (.iload 4, 2) := by decide +kernel
theorem dX5_measureAll_61 : decode cX5_measureAll 61 = .ok (.aload_n 0, 1) := by decide +kernel
theorem dX5_measureAll_62 : decode cX5_measureAll 62 = .ok (.getfield 12, 3) := by decide +kernel
theorem dX5_measureAll_65 : decode cX5_measureAll 65 = .ok (.getfield 67, 3) := by decide +kernel
theorem dX5_measureAll_68 : decode cX5_measureAll 68 = .ok (.if_icmp .ge 24, 3) := by decide +kernel
theorem dX5_measureAll_71 : decode cX5_measureAll 71 = .ok (.aload_n 0, 1) := by decide +kernel
theorem dX5_measureAll_72 : decode cX5_measureAll 72 = .ok (.getfield 31, 3) := by decide +kernel
theorem dX5_measureAll_75 : decode cX5_measureAll 75 = .ok (.aload_n 0, 1) := by decide +kernel
theorem dX5_measureAll_76 : decode cX5_measureAll 76 = .ok (.getfield 12, 3) := by decide +kernel
theorem dX5_measureAll_79 : decode cX5_measureAll 79 = .ok (.getfield 70, 3) := by decide +kernel
theorem dX5_measureAll_82 : decode cX5_measureAll 82 = .ok (.invokevirtual 49, 3) := by decide +kernel
theorem dX5_measureAll_85 : decode cX5_measureAll 85 = .ok (.pop, 1) := by decide +kernel
theorem dX5_measureAll_86 : decode cX5_measureAll 86 = .ok (.iinc 4 1, 3) := by decide +kernel
theorem dX5_measureAll_89 : decode cX5_measureAll 89 = .ok (.goto (-30), 3) := by decide +kernel
theorem dX5_measureAll_92 : decode cX5_measureAll 92 = .ok (.aload_n 0, 1) := by decide +kernel
theorem dX5_measureAll_93 : decode cX5_measureAll 93 = .ok (.getfield 12, 3) := by decide +kernel
theorem dX5_measureAll_96 : decode cX5_measureAll 96 = .ok (.invokevirtual 73, 3) := by decide +kernel
theorem dX5_measureAll_99 : decode cX5_measureAll 99 = .ok (.iinc 3 1, 3) := by decide +kernel
theorem dX5_measureAll_102 : decode cX5_measureAll 102 = .ok (.goto (-62), 3) := by decide +kernel
theorem dX5_measureAll_105 : decode cX5_measureAll 105 = .ok (.aload_n 0, 1) := by decide +kernel
theorem dX5_measureAll_106 : decode cX5_measureAll 106 = .ok (.getfield 31, 3) := by decide +kernel
theorem dX5_measureAll_109 : decode cX5_measureAll 109 = .ok (.getfield 57, 3) := by decide +kernel
theorem dX5_measureAll_112 : decode cX5_measureAll 112 = .ok (.iload_n 2, 1) := by decide +kernel
theorem dX5_measureAll_113 : decode cX5_measureAll 113 = .ok (.isub, 1) := by decide +kernel
theorem dX5_measureAll_114 : decode cX5_measureAll 114 = .ok (.ireturn, 1) := by decide +kernel
theorem dX5_base_0 : decode cX5_base 0 = .ok (.iload_n 1, 1) := by decide +kernel
theorem dX5_base_1 : decode cX5_base 1 = .ok (.bipush 20, 2) := by decide +kernel
theorem dX5_base_3 : decode cX5_base 3 = .ok (.invokestatic 76, 3) := by decide +kernel
theorem dX5_base_6 : decode cX5_base 6 = .ok (.ifCond .ne 5, 3) := by decide +kernel
theorem dX5_base_9 : decode cX5_base 9 = .ok (.iconst (-1), 1) := by decide +kernel
theorem dX5_base_10 : decode cX5_base 10 = .ok (.ireturn, 1) := by decide +kernel
theorem dX5_base_11 : decode cX5_base 11 = .ok (.iload_n 2, 1) := by decide +kernel
theorem dX5_base_12 : decode cX5_base 12 = .ok (.bipush 40, 2) := by decide +kernel
theorem dX5_base_14 : decode cX5_base 14 = .ok (.invokestatic 42, 3) := by decide +kernel
theorem dX5_base_17 : decode cX5_base 17 = .ok (.ifCond .ne 6, 3) := by decide +kernel
theorem dX5_base_20 : decode cX5_base 20 = .ok (.bipush (-2), 2) := by decide +kernel
theorem dX5_base_22 : decode cX5_base 22 = .ok (.ireturn, 1) := by decide +kernel
theorem dX5_base_23 : decode cX5_base 23 = .ok (.iload_n 1, 1) := by decide +kernel
theorem dX5_base_24 : decode cX5_base 24 = .ok (.aload_n 0, 1) := by decide +kernel
theorem dX5_base_25 : decode cX5_base 25 = .ok (.getfield 31, 3) := by decide +kernel
theorem dX5_base_28 : decode cX5_base 28 = .ok (.getfield 79, 3) := by decide +kernel
theorem dX5_base_31 : decode cX5_base 31 = .ok (.if_icmp .ge 6, 3) := by decide +kernel
theorem dX5_base_34 : decode cX5_base 34 = .ok (.bipush (-4), 2) := by decide +kernel
theorem dX5_base_36 : decode cX5_base 36 = .ok (.ireturn, 1) := by decide +kernel
theorem dX5_base_37 : decode cX5_base 37 = .ok (.aload_n 0, 1) := by decide +kernel
theorem dX5_base_38 : decode cX5_base 38 = .ok (.getfield 31, 3) := by decide +kernel
theorem dX5_base_41 : decode cX5_base 41 = .ok (.invokevirtual 82, 3) := by decide +kernel
theorem dX5_base_44 : decode cX5_base 44 = .ok (.getfield 86, 3) := by decide +kernel
theorem dX5_base_47 : decode cX5_base 47 = .ok (.iload_n 1, 1) := by decide +kernel
theorem dX5_base_48 : decode cX5_base 48 = .ok (.iaload, 1) := by decide +kernel
theorem dX5_base_49 : decode cX5_base 49 = .ok (.istore_n 3, 1) := by decide +kernel
theorem dX5_base_50 : decode cX5_base 50 = .ok (.iload_n 3, 1) := by decide +kernel
theorem dX5_base_51 : decode cX5_base 51 = .ok (.iload_n 2, 1) := by decide +kernel
theorem dX5_base_52 : decode cX5_base 52 = .ok (.if_icmp .ne 6, 3) := by decide +kernel
theorem dX5_base_55 : decode cX5_base 55 = .ok (.bipush (-5), 2) := by decide +kernel
theorem dX5_base_57 : decode cX5_base 57 = .ok (.ireturn, 1) := by decide +kernel
theorem dX5_base_58 : decode cX5_base 58 = .ok (.aload_n 0, 1) := by decide +kernel
theorem dX5_base_59 : decode cX5_base 59 = .ok (.invokevirtual 46, 3) := by decide +kernel
theorem dX5_base_62 : decode cX5_base 62 = .ok (.aload_n 0, 1) := by decide +kernel
theorem dX5_base_63 : decode cX5_base 63 = .ok (.getfield 31, 3) := by decide +kernel
theorem dX5_base_66 : decode cX5_base 66 = .ok (.invokevirtual 82, 3) := by decide +kernel
theorem dX5_base_69 : decode cX5_base 69 = .ok (.getfield 86, 3) := by decide +kernel
theorem dX5_base_72 : decode cX5_base 72 = .ok (.iload_n 1, 1) := by decide +kernel
theorem dX5_base_73 : decode cX5_base 73 = .ok (.iload_n 2, 1) := by decide +kernel
theorem dX5_base_74 : decode cX5_base 74 = .ok (.iastore, 1) := by decide +kernel
theorem dX5_base_75 : decode cX5_base 75 = .ok (.iload_n 3, 1) := by decide +kernel
theorem dX5_base_76 : decode cX5_base 76 = .ok (.sipush 1000, 3) := by decide +kernel
theorem dX5_base_79 : decode cX5_base 79 = .ok (.iadd, 1) := by decide +kernel
theorem dX5_base_80 : decode cX5_base 80 = .ok (.ireturn, 1) := by decide +kernel
theorem dX5_saint_0 : decode cX5_saint 0 = .ok (.iload_n 1, 1) := by decide +kernel
theorem dX5_saint_1 : decode cX5_saint 1 = .ok (.bipush 20, 2) := by decide +kernel
theorem dX5_saint_3 : decode cX5_saint 3 = .ok (.invokestatic 76, 3) := by decide +kernel
theorem dX5_saint_6 : decode cX5_saint 6 = .ok (.ifCond .ne 5, 3) := by decide +kernel
theorem dX5_saint_9 : decode cX5_saint 9 = .ok (.iconst (-1), 1) := by decide +kernel
theorem dX5_saint_10 : decode cX5_saint 10 = .ok (.ireturn, 1) := by decide +kernel
theorem dX5_saint_11 : decode cX5_saint 11 = .ok (.iload_n 2, 1) := by decide +kernel
theorem dX5_saint_12 : decode cX5_saint 12 = .ok (.bipush 40, 2) := by decide +kernel
theorem dX5_saint_14 : decode cX5_saint 14 = .ok (.invokestatic 42, 3) := by decide +kernel
theorem dX5_saint_17 : decode cX5_saint 17 = .ok (.ifCond .eq 25, 3) := by decide +kernel
theorem dX5_saint_20 : decode cX5_saint 20 = .ok (.iload_n 3, 1) := by decide +kernel
theorem dX5_saint_21 : decode cX5_saint 21 = .ok (.bipush 20, 2) := by decide +kernel
theorem dX5_saint_23 : decode cX5_saint 23 = .ok (.invokestatic 42, 3) := by decide +kernel
theorem dX5_saint_26 : decode cX5_saint 26 = .ok (.ifCond .eq 16, 3) := by decide +kernel
theorem dX5_saint_29 : decode cX5_saint 29 = .ok (.iload 4, 2) := by decide +kernel
theorem dX5_saint_31 : decode cX5_saint 31 = .ok (.iconst 1, 1) := by decide +kernel
theorem dX5_saint_32 : decode cX5_saint 32 = .ok (.if_icmp .lt 10, 3) := by decide +kernel
theorem dX5_saint_35 : decode cX5_saint 35 = .ok (.iload 4, 2) := by decide +kernel
theorem dX5_saint_37 : decode cX5_saint 37 = .ok (.bipush 9, 2) := by decide +kernel
theorem dX5_saint_39 : decode cX5_saint 39 = .ok (.if_icmp .le 6, 3) := by decide +kernel
theorem dX5_saint_42 : decode cX5_saint 42 = .ok (.bipush (-2), 2) := by decide +kernel
theorem dX5_saint_44 : decode cX5_saint 44 = .ok (.ireturn, 1) := by decide +kernel
theorem dX5_saint_45 : decode cX5_saint 45 = .ok (.aload_n 0, 1) := by decide +kernel
theorem dX5_saint_46 : decode cX5_saint 46 = .ok (.getfield 31, 3) := by decide +kernel
theorem dX5_saint_49 : decode cX5_saint 49 = .ok (.getfield 91, 3) := by decide +kernel
theorem dX5_saint_52 : decode cX5_saint 52 = .ok (.iconst 5, 1) := by decide +kernel
theorem dX5_saint_53 : decode cX5_saint 53 = .ok (.if_icmp .lt 6, 3) := by decide +kernel
theorem dX5_saint_56 : decode cX5_saint 56 = .ok (.bipush (-3), 2) := by decide +kernel
theorem dX5_saint_58 : decode cX5_saint 58 = .ok (.ireturn, 1) := by decide +kernel
theorem dX5_saint_59 : decode cX5_saint 59 = .ok (.aload_n 0, 1) := by decide +kernel
theorem dX5_saint_60 : decode cX5_saint 60 = .ok (.invokevirtual 46, 3) := by decide +kernel
theorem dX5_saint_63 : decode cX5_saint 63 = .ok (.aload_n 0, 1) := by decide +kernel
theorem dX5_saint_64 : decode cX5_saint 64 = .ok (.getfield 31, 3) := by decide +kernel
theorem dX5_saint_67 : decode cX5_saint 67 = .ok (.getfield 94, 3) := by decide +kernel
theorem dX5_saint_70 : decode cX5_saint 70 = .ok (.aload_n 0, 1) := by decide +kernel
theorem dX5_saint_71 : decode cX5_saint 71 = .ok (.getfield 31, 3) := by decide +kernel
theorem dX5_saint_74 : decode cX5_saint 74 = .ok (.getfield 91, 3) := by decide +kernel
theorem dX5_saint_77 : decode cX5_saint 77 = .ok (.aaload, 1) := by decide +kernel
theorem dX5_saint_78 : decode cX5_saint 78 = .ok (.astore 5, 2) := by decide +kernel
theorem dX5_saint_80 : decode cX5_saint 80 = .ok (.aload 5, 2) := by decide +kernel
theorem dX5_saint_82 : decode cX5_saint 82 = .ok (.iload_n 1, 1) := by decide +kernel
theorem dX5_saint_83 : decode cX5_saint 83 = .ok (.putfield 98, 3) := by decide +kernel
theorem dX5_saint_86 : decode cX5_saint 86 = .ok (.aload 5, 2) := by decide +kernel
theorem dX5_saint_88 : decode cX5_saint 88 = .ok (.iload_n 2, 1) := by decide +kernel
theorem dX5_saint_89 : decode cX5_saint 89 = .ok (.putfield 103, 3) := by decide +kernel
theorem dX5_saint_92 : decode cX5_saint 92 = .ok (.aload 5, 2) := by decide +kernel
theorem dX5_saint_94 : decode cX5_saint 94 = .ok (.iload_n 3, 1) := by decide +kernel
theorem dX5_saint_95 : decode cX5_saint 95 = .ok (.putfield 106, 3) := by decide +kernel
theorem dX5_saint_98 : decode cX5_saint 98 = .ok (.aload 5, 2) := by decide +kernel
theorem dX5_saint_100 : decode cX5_saint 100 = .ok (.iload 4, 2) := by decide +kernel
theorem dX5_saint_102 : decode cX5_saint 102 = .ok (.putfield 109, 3) := by decide +kernel
theorem dX5_saint_105 : decode cX5_saint 105 = .ok (.aload_n 0, 1) := by decide +kernel
theorem dX5_saint_106 : decode cX5_saint 106 = .ok (.getfield 31, 3) := by decide +kernel
theorem dX5_saint_109 : decode cX5_saint 109 = .ok (.dup, 1) := by decide +kernel
theorem dX5_saint_110 : decode cX5_saint 110 = .ok (.getfield 91, 3) := by decide +kernel
theorem dX5_saint_113 : decode cX5_saint 113 = .ok (.iconst 1, 1) := by decide +kernel
theorem dX5_saint_114 : decode cX5_saint 114 = .ok (.iadd, 1) := by decide +kernel
theorem dX5_saint_115 : decode cX5_saint 115 = .ok (.putfield 91, 3) := by decide +kernel
theorem dX5_saint_118 : decode cX5_saint 118 = .ok (.aload_n 0, 1) := by decide +kernel
theorem dX5_saint_119 : decode cX5_saint 119 = .ok (.getfield 31, 3) := by decide +kernel
theorem dX5_saint_122 : decode cX5_saint 122 = .ok (.getfield 91, 3) := by decide +kernel
theorem dX5_saint_125 : decode cX5_saint 125 = .ok (.iconst 1, 1) := by decide +kernel
theorem dX5_saint_126 : decode cX5_saint 126 = .ok (.isub, 1) := by decide +kernel
theorem dX5_saint_127 : decode cX5_saint 127 = .ok (.ireturn, 1) := by decide +kernel
theorem dX5_strike_0 : decode cX5_strike 0 = .ok (.iload_n 1, 1) := by decide +kernel
theorem dX5_strike_1 : decode cX5_strike 1 = .ok (.aload_n 0, 1) := by decide +kernel
theorem dX5_strike_2 : decode cX5_strike 2 = .ok (.getfield 31, 3) := by decide +kernel
theorem dX5_strike_5 : decode cX5_strike 5 = .ok (.getfield 91, 3) := by decide +kernel
theorem dX5_strike_8 : decode cX5_strike 8 = .ok (.invokestatic 76, 3) := by decide +kernel
theorem dX5_strike_11 : decode cX5_strike 11 = .ok (.ifCond .ne 5, 3) := by decide +kernel
theorem dX5_strike_14 : decode cX5_strike 14 = .ok (.iconst (-1), 1) := by decide +kernel
theorem dX5_strike_15 : decode cX5_strike 15 = .ok (.ireturn, 1) := by decide +kernel
theorem dX5_strike_16 : decode cX5_strike 16 = .ok (.aload_n 0, 1) := by decide +kernel
theorem dX5_strike_17 : decode cX5_strike 17 = .ok (.invokevirtual 46, 3) := by decide +kernel
theorem dX5_strike_20 : decode cX5_strike 20 = .ok (.aload_n 0, 1) := by decide +kernel
theorem dX5_strike_21 : decode cX5_strike 21 = .ok (.getfield 31, 3) := by decide +kernel
theorem dX5_strike_24 : decode cX5_strike 24 = .ok (.iload_n 1, 1) := by decide +kernel
theorem dX5_strike_25 : decode cX5_strike 25 = .ok (.invokevirtual 112, 3) := by decide +kernel
theorem dX5_strike_28 : decode cX5_strike 28 = .ok (.aload_n 0, 1) := by decide +kernel
theorem dX5_strike_29 : decode cX5_strike 29 = .ok (.getfield 31, 3) := by decide +kernel
theorem dX5_strike_32 : decode cX5_strike 32 = .ok (.getfield 91, 3) := by decide +kernel
theorem dX5_strike_35 : decode cX5_strike 35 = .ok (.ireturn, 1) := by decide +kernel
theorem dX5_set_0 : decode cX5_set 0 = .ok (.iload_n 1, 1) := by decide +kernel
theorem dX5_set_1 : decode cX5_set 1 = .ok (.iconst 4, 1) := by decide +kernel
theorem dX5_set_2 : decode cX5_set 2 = .ok (.invokestatic 76, 3) := by decide +kernel
theorem dX5_set_5 : decode cX5_set 5 = .ok (.ifCond .eq 21, 3) := by decide +kernel
theorem dX5_set_8 : decode cX5_set 8 = .ok (.iload_n 2, 1) := by decide +kernel
theorem dX5_set_9 : decode cX5_set 9 = .ok (.getstatic 116, 3) := by decide +kernel
theorem dX5_set_12 : decode cX5_set 12 = .ok (.iload_n 1, 1) := by decide +kernel
theorem dX5_set_13 : decode cX5_set 13 = .ok (.iaload, 1) := by decide +kernel
theorem dX5_set_14 : decode cX5_set 14 = .ok (.if_icmp .lt 12, 3) := by decide +kernel
theorem dX5_set_17 : decode cX5_set 17 = .ok (.iload_n 2, 1) := by decide +kernel
theorem dX5_set_18 : decode cX5_set 18 = .ok (.getstatic 119, 3) := by decide +kernel
theorem dX5_set_21 : decode cX5_set 21 = .ok (.iload_n 1, 1) := by decide +kernel
theorem dX5_set_22 : decode cX5_set 22 = .ok (.iaload, 1) := by decide +kernel
theorem dX5_set_23 : decode cX5_set 23 = .ok (.if_icmp .le 6, 3) := by decide +kernel
theorem dX5_set_26 : decode cX5_set 26 = .ok (.bipush (-2), 2) := by decide +kernel
theorem dX5_set_28 : decode cX5_set 28 = .ok (.ireturn, 1) := by decide +kernel
theorem dX5_set_29 : decode cX5_set 29 = .ok (.aload_n 0, 1) := by decide +kernel
theorem dX5_set_30 : decode cX5_set 30 = .ok (.getfield 31, 3) := by decide +kernel
theorem dX5_set_33 : decode cX5_set 33 = .ok (.getfield 122, 3) := by decide +kernel
theorem dX5_set_36 : decode cX5_set 36 = .ok (.iload_n 1, 1) := by decide +kernel
theorem dX5_set_37 : decode cX5_set 37 = .ok (.iaload, 1) := by decide +kernel
theorem dX5_set_38 : decode cX5_set 38 = .ok (.istore_n 3, 1) := by decide +kernel
theorem dX5_set_39 : decode cX5_set 39 = .ok (.iload_n 3, 1) := by decide +kernel
theorem dX5_set_40 : decode cX5_set 40 = .ok (.iload_n 2, 1) := by decide +kernel
theorem dX5_set_41 : decode cX5_set 41 = .ok (.if_icmp .ne 6, 3) := by decide +kernel
theorem dX5_set_44 : decode cX5_set 44 = .ok (.bipush (-5), 2) := by decide +kernel
theorem dX5_set_46 : decode cX5_set 46 = .ok (.ireturn, 1) := by decide +kernel
theorem dX5_set_47 : decode cX5_set 47 = .ok (.aload_n 0, 1) := by decide +kernel
theorem dX5_set_48 : decode cX5_set 48 = .ok (.invokevirtual 46, 3) := by decide +kernel
theorem dX5_set_51 : decode cX5_set 51 = .ok (.aload_n 0, 1) := by decide +kernel
theorem dX5_set_52 : decode cX5_set 52 = .ok (.getfield 31, 3) := by decide +kernel
theorem dX5_set_55 : decode cX5_set 55 = .ok (.getfield 122, 3) := by decide +kernel
theorem dX5_set_58 : decode cX5_set 58 = .ok (.iload_n 1, 1) := by decide +kernel
theorem dX5_set_59 : decode cX5_set 59 = .ok (.iload_n 2, 1) := by decide +kernel
theorem dX5_set_60 : decode cX5_set 60 = .ok (.iastore, 1) := by decide +kernel
theorem dX5_set_61 : decode cX5_set 61 = .ok (.iload_n 3, 1) := by decide +kernel
theorem dX5_set_62 : decode cX5_set 62 = .ok (.sipush 1000, 3) := by decide +kernel
theorem dX5_set_65 : decode cX5_set 65 = .ok (.iadd, 1) := by decide +kernel
theorem dX5_set_66 : decode cX5_set 66 = .ok (.ireturn, 1) := by decide +kernel
theorem dX5_bet_0 : decode cX5_bet 0 = .ok (.iload_n 1, 1) := by decide +kernel
theorem dX5_bet_1 : decode cX5_bet 1 = .ok (.iconst 4, 1) := by decide +kernel
theorem dX5_bet_2 : decode cX5_bet 2 = .ok (.invokestatic 76, 3) := by decide +kernel
theorem dX5_bet_5 : decode cX5_bet 5 = .ok (.ifCond .ne 5, 3) := by decide +kernel
theorem dX5_bet_8 : decode cX5_bet 8 = .ok (.iconst (-1), 1) := by decide +kernel
theorem dX5_bet_9 : decode cX5_bet 9 = .ok (.ireturn, 1) := by decide +kernel
theorem dX5_bet_10 : decode cX5_bet 10 = .ok (.iload_n 3, 1) := by decide +kernel
theorem dX5_bet_11 : decode cX5_bet 11 = .ok (.iconst 1, 1) := by decide +kernel
theorem dX5_bet_12 : decode cX5_bet 12 = .ok (.if_icmp .lt 10, 3) := by decide +kernel
theorem dX5_bet_15 : decode cX5_bet 15 = .ok (.iload_n 3, 1) := by decide +kernel
theorem dX5_bet_16 : decode cX5_bet 16 = .ok (.sipush 1000, 3) := by decide +kernel
theorem dX5_bet_19 : decode cX5_bet 19 = .ok (.if_icmp .le 6, 3) := by decide +kernel
theorem dX5_bet_22 : decode cX5_bet 22 = .ok (.bipush (-2), 2) := by decide +kernel
theorem dX5_bet_24 : decode cX5_bet 24 = .ok (.ireturn, 1) := by decide +kernel
theorem dX5_bet_25 : decode cX5_bet 25 = .ok (.aload_n 0, 1) := by decide +kernel
theorem dX5_bet_26 : decode cX5_bet 26 = .ok (.getfield 31, 3) := by decide +kernel
theorem dX5_bet_29 : decode cX5_bet 29 = .ok (.getfield 125, 3) := by decide +kernel
theorem dX5_bet_32 : decode cX5_bet 32 = .ok (.iload_n 1, 1) := by decide +kernel
theorem dX5_bet_33 : decode cX5_bet 33 = .ok (.aaload, 1) := by decide +kernel
theorem dX5_bet_34 : decode cX5_bet 34 = .ok (.getfield 129, 3) := by decide +kernel
theorem dX5_bet_37 : decode cX5_bet 37 = .ok (.ifCond .gt 19, 3) := by decide +kernel
theorem dX5_bet_40 : decode cX5_bet 40 = .ok (.aload_n 0, 1) := by decide +kernel
theorem dX5_bet_41 : decode cX5_bet 41 = .ok (.getfield 31, 3) := by decide +kernel
theorem dX5_bet_44 : decode cX5_bet 44 = .ok (.getfield 125, 3) := by decide +kernel
theorem dX5_bet_47 : decode cX5_bet 47 = .ok (.iload_n 1, 1) := by decide +kernel
theorem dX5_bet_48 : decode cX5_bet 48 = .ok (.aaload, 1) := by decide +kernel
theorem dX5_bet_49 : decode cX5_bet 49 = .ok (.getfield 134, 3) := by decide +kernel
theorem dX5_bet_52 : decode cX5_bet 52 = .ok (.iload_n 3, 1) := by decide +kernel
theorem dX5_bet_53 : decode cX5_bet 53 = .ok (.if_icmp .ge 6, 3) := by decide +kernel
theorem dX5_bet_56 : decode cX5_bet 56 = .ok (.bipush (-4), 2) := by decide +kernel
theorem dX5_bet_58 : decode cX5_bet 58 = .ok (.ireturn, 1) := by decide +kernel
theorem dX5_bet_59 : decode cX5_bet 59 = .ok (.aload_n 0, 1) := by decide +kernel
theorem dX5_bet_60 : decode cX5_bet 60 = .ok (.invokevirtual 46, 3) := by decide +kernel
theorem dX5_bet_63 : decode cX5_bet 63 = .ok (.aload_n 0, 1) := by decide +kernel
theorem dX5_bet_64 : decode cX5_bet 64 = .ok (.getfield 31, 3) := by decide +kernel
theorem dX5_bet_67 : decode cX5_bet 67 = .ok (.getfield 125, 3) := by decide +kernel
theorem dX5_bet_70 : decode cX5_bet 70 = .ok (.iload_n 1, 1) := by decide +kernel
theorem dX5_bet_71 : decode cX5_bet 71 = .ok (.aaload, 1) := by decide +kernel
theorem dX5_bet_72 : decode cX5_bet 72 = .ok (.astore 4, 2) := by decide +kernel
theorem dX5_bet_74 : decode cX5_bet 74 = .ok (.aload 4, 2) := by decide +kernel
theorem dX5_bet_76 : decode cX5_bet 76 = .ok (.dup, 1) := by decide +kernel
theorem dX5_bet_77 : decode cX5_bet 77 = .ok (.getfield 134, 3) := by decide +kernel
theorem dX5_bet_80 : decode cX5_bet 80 = .ok (.iload_n 3, 1) := by decide +kernel
theorem dX5_bet_81 : decode cX5_bet 81 = .ok (.isub, 1) := by decide +kernel
theorem dX5_bet_82 : decode cX5_bet 82 = .ok (.putfield 134, 3) := by decide +kernel
theorem dX5_bet_85 : decode cX5_bet 85 = .ok (.aload 4, 2) := by decide +kernel
theorem dX5_bet_87 : decode cX5_bet 87 = .ok (.iload_n 3, 1) := by decide +kernel
theorem dX5_bet_88 : decode cX5_bet 88 = .ok (.putfield 129, 3) := by decide +kernel
theorem dX5_bet_91 : decode cX5_bet 91 = .ok (.aload 4, 2) := by decide +kernel
theorem dX5_bet_93 : decode cX5_bet 93 = .ok (.iload_n 2, 1) := by decide +kernel
theorem dX5_bet_94 : decode cX5_bet 94 = .ok (.putfield 137, 3) := by decide +kernel
theorem dX5_bet_97 : decode cX5_bet 97 = .ok (.aload 4, 2) := by decide +kernel
theorem dX5_bet_99 : decode cX5_bet 99 = .ok (.getfield 134, 3) := by decide +kernel
theorem dX5_bet_102 : decode cX5_bet 102 = .ok (.ireturn, 1) := by decide +kernel
theorem dX5_takeBack_0 : decode cX5_takeBack 0 = .ok (.iload_n 1, 1) := by decide +kernel
theorem dX5_takeBack_1 : decode cX5_takeBack 1 = .ok (.iconst 4, 1) := by decide +kernel
theorem dX5_takeBack_2 : decode cX5_takeBack 2 = .ok (.invokestatic 76, 3) := by decide +kernel
theorem dX5_takeBack_5 : decode cX5_takeBack 5 = .ok (.ifCond .ne 5, 3) := by decide +kernel
theorem dX5_takeBack_8 : decode cX5_takeBack 8 = .ok (.iconst (-1), 1) := by decide +kernel
theorem dX5_takeBack_9 : decode cX5_takeBack 9 = .ok (.ireturn, 1) := by decide +kernel
theorem dX5_takeBack_10 : decode cX5_takeBack 10 = .ok (.aload_n 0, 1) := by decide +kernel
theorem dX5_takeBack_11 : decode cX5_takeBack 11 = .ok (.getfield 31, 3) := by decide +kernel
theorem dX5_takeBack_14 : decode cX5_takeBack 14 = .ok (.getfield 125, 3) := by decide +kernel
theorem dX5_takeBack_17 : decode cX5_takeBack 17 = .ok (.iload_n 1, 1) := by decide +kernel
theorem dX5_takeBack_18 : decode cX5_takeBack 18 = .ok (.aaload, 1) := by decide +kernel
theorem dX5_takeBack_19 : decode cX5_takeBack 19 = .ok (.getfield 129, 3) := by decide +kernel
theorem dX5_takeBack_22 : decode cX5_takeBack 22 = .ok (.ifCond .ne 6, 3) := by decide +kernel
theorem dX5_takeBack_25 : decode cX5_takeBack 25 = .ok (.bipush (-5), 2) := by decide +kernel
theorem dX5_takeBack_27 : decode cX5_takeBack 27 = .ok (.ireturn, 1) := by decide +kernel
theorem dX5_takeBack_28 : decode cX5_takeBack 28 = .ok (.aload_n 0, 1) := by decide +kernel
theorem dX5_takeBack_29 : decode cX5_takeBack 29 = .ok (.invokevirtual 46, 3) := by decide +kernel
theorem dX5_takeBack_32 : decode cX5_takeBack 32 = .ok (.aload_n 0, 1) := by decide +kernel
theorem dX5_takeBack_33 : decode cX5_takeBack 33 = .ok (.getfield 31, 3) := by decide +kernel
theorem dX5_takeBack_36 : decode cX5_takeBack 36 = .ok (.getfield 125, 3) := by decide +kernel
theorem dX5_takeBack_39 : decode cX5_takeBack 39 = .ok (.iload_n 1, 1) := by decide +kernel
theorem dX5_takeBack_40 : decode cX5_takeBack 40 = .ok (.aaload, 1) := by decide +kernel
theorem dX5_takeBack_41 : decode cX5_takeBack 41 = .ok (.astore_n 2, 1) := by decide +kernel
theorem dX5_takeBack_42 : decode cX5_takeBack 42 = .ok (.aload_n 2, 1) := by decide +kernel
theorem dX5_takeBack_43 : decode cX5_takeBack 43 = .ok (.dup, 1) := by decide +kernel
theorem dX5_takeBack_44 : decode cX5_takeBack 44 = .ok (.getfield 134, 3) := by decide +kernel
theorem dX5_takeBack_47 : decode cX5_takeBack 47 = .ok (.aload_n 2, 1) := by decide +kernel
theorem dX5_takeBack_48 : decode cX5_takeBack 48 = .ok (.getfield 129, 3) := by decide +kernel
theorem dX5_takeBack_51 : decode cX5_takeBack 51 = .ok (.iadd, 1) := by decide +kernel
theorem dX5_takeBack_52 : decode cX5_takeBack 52 = .ok (.putfield 134, 3) := by decide +kernel
theorem dX5_takeBack_55 : decode cX5_takeBack 55 = .ok (.aload_n 2, 1) := by decide +kernel
theorem dX5_takeBack_56 : decode cX5_takeBack 56 = .ok (.invokevirtual 140, 3) := by decide +kernel
theorem dX5_takeBack_59 : decode cX5_takeBack 59 = .ok (.aload_n 2, 1) := by decide +kernel
theorem dX5_takeBack_60 : decode cX5_takeBack 60 = .ok (.getfield 134, 3) := by decide +kernel
theorem dX5_takeBack_63 : decode cX5_takeBack 63 = .ok (.ireturn, 1) := by decide +kernel
theorem dX5_undo_0 : decode cX5_undo 0 = .ok (.aload_n 0, 1) := by decide +kernel
theorem dX5_undo_1 : decode cX5_undo 1 = .ok (.getfield 34, 3) := by decide +kernel
theorem dX5_undo_4 : decode cX5_undo 4 = .ok (.ifCond .ne 6, 3) := by decide +kernel
theorem dX5_undo_7 : decode cX5_undo 7 = .ok (.bipush (-5), 2) := by decide +kernel
theorem dX5_undo_9 : decode cX5_undo 9 = .ok (.ireturn, 1) := by decide +kernel
theorem dX5_undo_10 : decode cX5_undo 10 = .ok (.aload_n 0, 1) := by decide +kernel
theorem dX5_undo_11 : decode cX5_undo 11 = .ok (.dup, 1) := by decide +kernel
theorem dX5_undo_12 : decode cX5_undo 12 = .ok (.getfield 34, 3) := by decide +kernel
theorem dX5_undo_15 : decode cX5_undo 15 = .ok (.iconst 1, 1) := by decide +kernel
theorem dX5_undo_16 : decode cX5_undo 16 = .ok (.isub, 1) := by decide +kernel
theorem dX5_undo_17 : decode cX5_undo 17 = .ok (.putfield 34, 3) := by decide +kernel
theorem dX5_undo_20 : decode cX5_undo 20 = .ok (.aload_n 0, 1) := by decide +kernel
theorem dX5_undo_21 : decode cX5_undo 21 = .ok (.getfield 31, 3) := by decide +kernel
theorem dX5_undo_24 : decode cX5_undo 24 = .ok (.astore_n 1, 1) := by decide +kernel
theorem dX5_undo_25 : decode cX5_undo 25 = .ok (.aload_n 0, 1) := by decide +kernel
theorem dX5_undo_26 : decode cX5_undo 26 = .ok (.aload_n 0, 1) := by decide +kernel
theorem dX5_undo_27 : decode cX5_undo 27 = .ok (.getfield 18, 3) := by decide +kernel
theorem dX5_undo_30 : decode cX5_undo 30 = .ok (.aload_n 0, 1) := by decide +kernel
theorem dX5_undo_31 : decode cX5_undo 31 = .ok (.getfield 34, 3) := by decide +kernel
theorem dX5_undo_34 : decode cX5_undo 34 = .ok (.aaload, 1) := by decide +kernel
theorem dX5_undo_35 : decode cX5_undo 35 = .ok (.putfield 31, 3) := by decide +kernel
theorem dX5_undo_38 : decode cX5_undo 38 = .ok (.aload_n 0, 1) := by decide +kernel
theorem dX5_undo_39 : decode cX5_undo 39 = .ok (.getfield 18, 3) := by decide +kernel
theorem dX5_undo_42 : decode cX5_undo 42 = .ok (.aload_n 0, 1) := by decide +kernel
theorem dX5_undo_43 : decode cX5_undo 43 = .ok (.getfield 34, 3) := by decide +kernel
theorem dX5_undo_46 : decode cX5_undo 46 = .ok (.aload_n 1, 1) := by decide +kernel
theorem dX5_undo_47 : decode cX5_undo 47 = .ok (.aastore, 1) := by decide +kernel
theorem dX5_undo_48 : decode cX5_undo 48 = .ok (.aload_n 0, 1) := by decide +kernel
theorem dX5_undo_49 : decode cX5_undo 49 = .ok (.getfield 34, 3) := by decide +kernel
theorem dX5_undo_52 : decode cX5_undo 52 = .ok (.ireturn, 1) := by decide +kernel
theorem dX5_keep_0 : decode cX5_keep 0 = .ok (.aload_n 0, 1) := by decide +kernel
theorem dX5_keep_1 : decode cX5_keep 1 = .ok (.getfield 23, 3) := by decide +kernel
theorem dX5_keep_4 : decode cX5_keep 4 = .ok (.aload_n 0, 1) := by decide +kernel
theorem dX5_keep_5 : decode cX5_keep 5 = .ok (.getfield 31, 3) := by decide +kernel
theorem dX5_keep_8 : decode cX5_keep 8 = .ok (.invokevirtual 148, 3) := by decide +kernel
theorem dX5_keep_11 : decode cX5_keep 11 = .ok (.aload_n 0, 1) := by decide +kernel
theorem dX5_keep_12 : decode cX5_keep 12 = .ok (.iconst 1, 1) := by decide +kernel
theorem dX5_keep_13 : decode cX5_keep 13 = .ok (.putfield 38, 3) := by decide +kernel
theorem dX5_keep_16 : decode cX5_keep 16 = .ok (.aload_n 0, 1) := by decide +kernel
theorem dX5_keep_17 : decode cX5_keep 17 = .ok (.getfield 31, 3) := by decide +kernel
theorem dX5_keep_20 : decode cX5_keep 20 = .ok (.getfield 57, 3) := by decide +kernel
theorem dX5_keep_23 : decode cX5_keep 23 = .ok (.ireturn, 1) := by decide +kernel
theorem dX5_restore_0 : decode cX5_restore 0 = .ok (.aload_n 0, 1) := by decide +kernel
theorem dX5_restore_1 : decode cX5_restore 1 = .ok (.getfield 38, 3) := by decide +kernel
theorem dX5_restore_4 : decode cX5_restore 4 = .ok (.ifCond .ne 6, 3) := by decide +kernel
theorem dX5_restore_7 : decode cX5_restore 7 = .ok (.bipush (-5), 2) := by decide +kernel
theorem dX5_restore_9 : decode cX5_restore 9 = .ok (.ireturn, 1) := by decide +kernel
theorem dX5_restore_10 : decode cX5_restore 10 = .ok (.aload_n 0, 1) := by decide +kernel
theorem dX5_restore_11 : decode cX5_restore 11 = .ok (.invokevirtual 46, 3) := by decide +kernel
theorem dX5_restore_14 : decode cX5_restore 14 = .ok (.aload_n 0, 1) := by decide +kernel
theorem dX5_restore_15 : decode cX5_restore 15 = .ok (.getfield 31, 3) := by decide +kernel
theorem dX5_restore_18 : decode cX5_restore 18 = .ok (.aload_n 0, 1) := by decide +kernel
theorem dX5_restore_19 : decode cX5_restore 19 = .ok (.getfield 23, 3) := by decide +kernel
theorem dX5_restore_22 : decode cX5_restore 22 = .ok (.invokevirtual 148, 3) := by decide +kernel
theorem dX5_restore_25 : decode cX5_restore 25 = .ok (.aload_n 0, 1) := by decide +kernel
theorem dX5_restore_26 : decode cX5_restore 26 = .ok (.getfield 31, 3) := by decide +kernel
theorem dX5_restore_29 : decode cX5_restore 29 = .ok (.getfield 57, 3) := by decide +kernel
theorem dX5_restore_32 : decode cX5_restore 32 = .ok (.ireturn, 1) := by decide +kernel
theorem dX5_dayOf_0 : decode cX5_dayOf 0 = .ok (.iload_n 1, 1) := by decide +kernel
theorem dX5_dayOf_1 : decode cX5_dayOf 1 = .ok (.bipush 20, 2) := by decide +kernel
theorem dX5_dayOf_3 : decode cX5_dayOf 3 = .ok (.invokestatic 76, 3) := by decide +kernel
theorem dX5_dayOf_6 : decode cX5_dayOf 6 = .ok (.ifCond .ne 5, 3) := by decide +kernel
theorem dX5_dayOf_9 : decode cX5_dayOf 9 = .ok (.iconst (-1), 1) := by decide +kernel
theorem dX5_dayOf_10 : decode cX5_dayOf 10 = .ok (.ireturn, 1) := by decide +kernel
theorem dX5_dayOf_11 : decode cX5_dayOf 11 = .ok (.aload_n 0, 1) := by decide +kernel
theorem dX5_dayOf_12 : decode cX5_dayOf 12 = .ok (.getfield 31, 3) := by decide +kernel
theorem dX5_dayOf_15 : decode cX5_dayOf 15 = .ok (.invokevirtual 82, 3) := by decide +kernel
theorem dX5_dayOf_18 : decode cX5_dayOf 18 = .ok (.astore_n 3, 1) := by decide +kernel
theorem dX5_dayOf_19 : decode cX5_dayOf 19 = .ok (.iload_n 1, 1) := by decide +kernel
theorem dX5_dayOf_20 : decode cX5_dayOf 20 = .ok (.aload_n 0, 1) := by decide +kernel
theorem dX5_dayOf_21 : decode cX5_dayOf 21 = .ok (.getfield 31, 3) := by decide +kernel
theorem dX5_dayOf_24 : decode cX5_dayOf 24 = .ok (.getfield 79, 3) := by decide +kernel
theorem dX5_dayOf_27 : decode cX5_dayOf 27 = .ok (.if_icmp .ge 7, 3) := by decide +kernel
theorem dX5_dayOf_30 : decode cX5_dayOf 30 = .ok (.iconst 1, 1) := by decide +kernel
theorem dX5_dayOf_31 : decode cX5_dayOf 31 = .ok (.goto 4, 3) := by decide +kernel
theorem dX5_dayOf_34 : decode cX5_dayOf 34 = .ok (.iconst 0, 1) := by decide +kernel
theorem dX5_dayOf_35 : decode cX5_dayOf 35 = .ok (.istore 4, 2) := by decide +kernel
theorem dX5_dayOf_37 : decode cX5_dayOf 37 = .ok (.iload_n 2, 1) := by decide +kernel
theorem dX5_dayOf_38 : decode cX5_dayOf 38 = .ok (.tableswitch 119 0 4 #[34, 45, 58, 79, 100], 34) := by decide +kernel
theorem dX5_dayOf_72 : decode cX5_dayOf 72 = .ok (.aload_n 3, 1) := by decide +kernel
theorem dX5_dayOf_73 : decode cX5_dayOf 73 = .ok (.getfield 86, 3) := by decide +kernel
theorem dX5_dayOf_76 : decode cX5_dayOf 76 = .ok (.iload_n 1, 1) := by decide +kernel
theorem dX5_dayOf_77 : decode cX5_dayOf 77 = .ok (.iaload, 1) := by decide +kernel
theorem dX5_dayOf_78 : decode cX5_dayOf 78 = .ok (.sipush 1000, 3) := by decide +kernel
theorem dX5_dayOf_81 : decode cX5_dayOf 81 = .ok (.iadd, 1) := by decide +kernel
theorem dX5_dayOf_82 : decode cX5_dayOf 82 = .ok (.ireturn, 1) := by decide +kernel
theorem dX5_dayOf_83 : decode cX5_dayOf 83 = .ok (.aload_n 0, 1) := by decide +kernel
theorem dX5_dayOf_84 : decode cX5_dayOf 84 = .ok (.getfield 31, 3) := by decide +kernel
theorem dX5_dayOf_87 : decode cX5_dayOf 87 = .ok (.iload_n 1, 1) := by decide +kernel
theorem dX5_dayOf_88 : decode cX5_dayOf 88 = .ok (.invokevirtual 152, 3) := by decide +kernel
theorem dX5_dayOf_91 : decode cX5_dayOf 91 = .ok (.sipush 1000, 3) := by decide +kernel
theorem dX5_dayOf_94 : decode cX5_dayOf 94 = .ok (.iadd, 1) := by decide +kernel
theorem dX5_dayOf_95 : decode cX5_dayOf 95 = .ok (.ireturn, 1) := by decide +kernel
theorem dX5_dayOf_96 : decode cX5_dayOf 96 = .ok (.iload 4, 2) := by decide +kernel
theorem dX5_dayOf_98 : decode cX5_dayOf 98 = .ok (.ifCond .eq 16, 3) := by decide +kernel
theorem dX5_dayOf_101 : decode cX5_dayOf 101 = .ok (.aload_n 3, 1) := by decide +kernel
theorem dX5_dayOf_102 : decode cX5_dayOf 102 = .ok (.getfield 155, 3) := by decide +kernel
theorem dX5_dayOf_105 : decode cX5_dayOf 105 = .ok (.iload_n 1, 1) := by decide +kernel
theorem dX5_dayOf_106 : decode cX5_dayOf 106 = .ok (.iaload, 1) := by decide +kernel
theorem dX5_dayOf_107 : decode cX5_dayOf 107 = .ok (.sipush 1000, 3) := by decide +kernel
theorem dX5_dayOf_110 : decode cX5_dayOf 110 = .ok (.iadd, 1) := by decide +kernel
theorem dX5_dayOf_111 : decode cX5_dayOf 111 = .ok (.goto 5, 3) := by decide +kernel
theorem dX5_dayOf_114 : decode cX5_dayOf 114 = .ok (.bipush (-5), 2) := by decide +kernel
theorem dX5_dayOf_116 : decode cX5_dayOf 116 = .ok (.ireturn, 1) := by decide +kernel
theorem dX5_dayOf_117 : decode cX5_dayOf 117 = .ok (.iload 4, 2) := by decide +kernel
theorem dX5_dayOf_119 : decode cX5_dayOf 119 = .ok (.ifCond .eq 16, 3) := by decide +kernel
theorem dX5_dayOf_122 : decode cX5_dayOf 122 = .ok (.aload_n 3, 1) := by decide +kernel
theorem dX5_dayOf_123 : decode cX5_dayOf 123 = .ok (.getfield 158, 3) := by decide +kernel
theorem dX5_dayOf_126 : decode cX5_dayOf 126 = .ok (.iload_n 1, 1) := by decide +kernel
theorem dX5_dayOf_127 : decode cX5_dayOf 127 = .ok (.iaload, 1) := by decide +kernel
theorem dX5_dayOf_128 : decode cX5_dayOf 128 = .ok (.sipush 1000, 3) := by decide +kernel
theorem dX5_dayOf_131 : decode cX5_dayOf 131 = .ok (.iadd, 1) := by decide +kernel
theorem dX5_dayOf_132 : decode cX5_dayOf 132 = .ok (.goto 5, 3) := by decide +kernel
theorem dX5_dayOf_135 : decode cX5_dayOf 135 = .ok (.bipush (-5), 2) := by decide +kernel
theorem dX5_dayOf_137 : decode cX5_dayOf 137 = .ok (.ireturn, 1) := by decide +kernel
theorem dX5_dayOf_138 : decode cX5_dayOf 138 = .ok (.aload_n 0, 1) := by decide +kernel
theorem dX5_dayOf_139 : decode cX5_dayOf 139 = .ok (.getfield 31, 3) := by decide +kernel
theorem dX5_dayOf_142 : decode cX5_dayOf 142 = .ok (.aload_n 0, 1) := by decide +kernel
theorem dX5_dayOf_143 : decode cX5_dayOf 143 = .ok (.getfield 31, 3) := by decide +kernel
theorem dX5_dayOf_146 : decode cX5_dayOf 146 = .ok (.iload_n 1, 1) := by decide +kernel
theorem dX5_dayOf_147 : decode cX5_dayOf 147 = .ok (.invokevirtual 152, 3) := by decide +kernel
theorem dX5_dayOf_150 : decode cX5_dayOf 150 = .ok (.invokevirtual 161, 3) := by decide +kernel
theorem dX5_dayOf_153 : decode cX5_dayOf 153 = .ok (.invokestatic 165, 3) := by decide +kernel
theorem dX5_dayOf_156 : decode cX5_dayOf 156 = .ok (.ireturn, 1) := by decide +kernel
theorem dX5_dayOf_157 : decode cX5_dayOf 157 = .ok (.bipush (-2), 2) := by decide +kernel
theorem dX5_dayOf_159 : decode cX5_dayOf 159 = .ok (.ireturn, 1) := by decide +kernel
theorem dX5_past_0 : decode cX5_past 0 = .ok (.iload_n 1, 1) := by decide +kernel
theorem dX5_past_1 : decode cX5_past 1 = .ok (.aload_n 0, 1) := by decide +kernel
theorem dX5_past_2 : decode cX5_past 2 = .ok (.getfield 31, 3) := by decide +kernel
theorem dX5_past_5 : decode cX5_past 5 = .ok (.invokevirtual 169, 3) := by decide +kernel
theorem dX5_past_8 : decode cX5_past 8 = .ok (.invokestatic 76, 3) := by decide +kernel
theorem dX5_past_11 : decode cX5_past 11 = .ok (.ifCond .eq 12, 3) := by decide +kernel
theorem dX5_past_14 : decode cX5_past 14 = .ok (.iload_n 2, 1) := by decide +kernel
theorem dX5_past_15 : decode cX5_past 15 = .ok (.bipush 20, 2) := by decide +kernel
theorem dX5_past_17 : decode cX5_past 17 = .ok (.invokestatic 76, 3) := by decide +kernel
theorem dX5_past_20 : decode cX5_past 20 = .ok (.ifCond .ne 5, 3) := by decide +kernel
theorem dX5_past_23 : decode cX5_past 23 = .ok (.iconst (-1), 1) := by decide +kernel
theorem dX5_past_24 : decode cX5_past 24 = .ok (.ireturn, 1) := by decide +kernel
theorem dX5_past_25 : decode cX5_past 25 = .ok (.aload_n 0, 1) := by decide +kernel
theorem dX5_past_26 : decode cX5_past 26 = .ok (.getfield 31, 3) := by decide +kernel
theorem dX5_past_29 : decode cX5_past 29 = .ok (.iload_n 1, 1) := by decide +kernel
theorem dX5_past_30 : decode cX5_past 30 = .ok (.invokevirtual 172, 3) := by decide +kernel
theorem dX5_past_33 : decode cX5_past 33 = .ok (.astore 4, 2) := by decide +kernel
theorem dX5_past_35 : decode cX5_past 35 = .ok (.iload_n 3, 1) := by decide +kernel
theorem dX5_past_36 : decode cX5_past 36 = .ok (.lookupswitch 52 #[(0, 28), (1, 40)], 28) := by decide +kernel
theorem dX5_past_64 : decode cX5_past 64 = .ok (.aload 4, 2) := by decide +kernel
theorem dX5_past_66 : decode cX5_past 66 = .ok (.getfield 155, 3) := by decide +kernel
theorem dX5_past_69 : decode cX5_past 69 = .ok (.iload_n 2, 1) := by decide +kernel
theorem dX5_past_70 : decode cX5_past 70 = .ok (.iaload, 1) := by decide +kernel
theorem dX5_past_71 : decode cX5_past 71 = .ok (.sipush 1000, 3) := by decide +kernel
theorem dX5_past_74 : decode cX5_past 74 = .ok (.iadd, 1) := by decide +kernel
theorem dX5_past_75 : decode cX5_past 75 = .ok (.ireturn, 1) := by decide +kernel
theorem dX5_past_76 : decode cX5_past 76 = .ok (.aload 4, 2) := by decide +kernel
theorem dX5_past_78 : decode cX5_past 78 = .ok (.getfield 158, 3) := by decide +kernel
theorem dX5_past_81 : decode cX5_past 81 = .ok (.iload_n 2, 1) := by decide +kernel
theorem dX5_past_82 : decode cX5_past 82 = .ok (.iaload, 1) := by decide +kernel
theorem dX5_past_83 : decode cX5_past 83 = .ok (.sipush 1000, 3) := by decide +kernel
theorem dX5_past_86 : decode cX5_past 86 = .ok (.iadd, 1) := by decide +kernel
theorem dX5_past_87 : decode cX5_past 87 = .ok (.ireturn, 1) := by decide +kernel
theorem dX5_past_88 : decode cX5_past 88 = .ok (.bipush (-2), 2) := by decide +kernel
theorem dX5_past_90 : decode cX5_past 90 = .ok (.ireturn, 1) := by decide +kernel
theorem dX5_mean_0 : decode cX5_mean 0 = .ok (.iload_n 1, 1) := by decide +kernel
theorem dX5_mean_1 : decode cX5_mean 1 = .ok (.aload_n 0, 1) := by decide +kernel
theorem dX5_mean_2 : decode cX5_mean 2 = .ok (.getfield 31, 3) := by decide +kernel
theorem dX5_mean_5 : decode cX5_mean 5 = .ok (.invokevirtual 169, 3) := by decide +kernel
theorem dX5_mean_8 : decode cX5_mean 8 = .ok (.invokestatic 76, 3) := by decide +kernel
theorem dX5_mean_11 : decode cX5_mean 11 = .ok (.ifCond .eq 12, 3) := by decide +kernel
theorem dX5_mean_14 : decode cX5_mean 14 = .ok (.iload_n 2, 1) := by decide +kernel
theorem dX5_mean_15 : decode cX5_mean 15 = .ok (.bipush 20, 2) := by decide +kernel
theorem dX5_mean_17 : decode cX5_mean 17 = .ok (.invokestatic 76, 3) := by decide +kernel
theorem dX5_mean_20 : decode cX5_mean 20 = .ok (.ifCond .ne 5, 3) := by decide +kernel
theorem dX5_mean_23 : decode cX5_mean 23 = .ok (.iconst (-1), 1) := by decide +kernel
theorem dX5_mean_24 : decode cX5_mean 24 = .ok (.ireturn, 1) := by decide +kernel
theorem dX5_mean_25 : decode cX5_mean 25 = .ok (.aload_n 0, 1) := by decide +kernel
theorem dX5_mean_26 : decode cX5_mean 26 = .ok (.getfield 31, 3) := by decide +kernel
theorem dX5_mean_29 : decode cX5_mean 29 = .ok (.iload_n 1, 1) := by decide +kernel
theorem dX5_mean_30 : decode cX5_mean 30 = .ok (.invokevirtual 172, 3) := by decide +kernel
theorem dX5_mean_33 : decode cX5_mean 33 = .ok (.astore 4, 2) := by decide +kernel
theorem dX5_mean_35 : decode cX5_mean 35 = .ok (.iload_n 3, 1) := by decide +kernel
theorem dX5_mean_36 : decode cX5_mean 36 = .ok (.lookupswitch 68 #[(0, 28), (1, 48)], 28) := by decide +kernel
theorem dX5_mean_64 : decode cX5_mean 64 = .ok (.aload 4, 2) := by decide +kernel
theorem dX5_mean_66 : decode cX5_mean 66 = .ok (.iload_n 2, 1) := by decide +kernel
theorem dX5_mean_67 : decode cX5_mean 67 = .ok (.aload_n 0, 1) := by decide +kernel
theorem dX5_mean_68 : decode cX5_mean 68 = .ok (.getfield 31, 3) := by decide +kernel
theorem dX5_mean_71 : decode cX5_mean 71 = .ok (.getfield 122, 3) := by decide +kernel
theorem dX5_mean_74 : decode cX5_mean 74 = .ok (.iconst 0, 1) := by decide +kernel
theorem dX5_mean_75 : decode cX5_mean 75 = .ok (.iaload, 1) := by decide +kernel
theorem dX5_mean_76 : decode cX5_mean 76 = .ok (.invokevirtual 176, 3) := by decide +kernel
theorem dX5_mean_79 : decode cX5_mean 79 = .ok (.sipush 1000, 3) := by decide +kernel
theorem dX5_mean_82 : decode cX5_mean 82 = .ok (.iadd, 1) := by decide +kernel
theorem dX5_mean_83 : decode cX5_mean 83 = .ok (.ireturn, 1) := by decide +kernel
theorem dX5_mean_84 : decode cX5_mean 84 = .ok (.aload 4, 2) := by decide +kernel
theorem dX5_mean_86 : decode cX5_mean 86 = .ok (.iload_n 2, 1) := by decide +kernel
theorem dX5_mean_87 : decode cX5_mean 87 = .ok (.aload_n 0, 1) := by decide +kernel
theorem dX5_mean_88 : decode cX5_mean 88 = .ok (.getfield 31, 3) := by decide +kernel
theorem dX5_mean_91 : decode cX5_mean 91 = .ok (.getfield 122, 3) := by decide +kernel
theorem dX5_mean_94 : decode cX5_mean 94 = .ok (.iconst 0, 1) := by decide +kernel
theorem dX5_mean_95 : decode cX5_mean 95 = .ok (.iaload, 1) := by decide +kernel
theorem dX5_mean_96 : decode cX5_mean 96 = .ok (.invokevirtual 180, 3) := by decide +kernel
theorem dX5_mean_99 : decode cX5_mean 99 = .ok (.sipush 1000, 3) := by decide +kernel
theorem dX5_mean_102 : decode cX5_mean 102 = .ok (.iadd, 1) := by decide +kernel
theorem dX5_mean_103 : decode cX5_mean 103 = .ok (.ireturn, 1) := by decide +kernel
theorem dX5_mean_104 : decode cX5_mean 104 = .ok (.bipush (-2), 2) := by decide +kernel
theorem dX5_mean_106 : decode cX5_mean 106 = .ok (.ireturn, 1) := by decide +kernel
theorem dX5_saintOf_0 : decode cX5_saintOf 0 = .ok (.iload_n 1, 1) := by decide +kernel
theorem dX5_saintOf_1 : decode cX5_saintOf 1 = .ok (.aload_n 0, 1) := by decide +kernel
theorem dX5_saintOf_2 : decode cX5_saintOf 2 = .ok (.getfield 31, 3) := by decide +kernel
theorem dX5_saintOf_5 : decode cX5_saintOf 5 = .ok (.getfield 91, 3) := by decide +kernel
theorem dX5_saintOf_8 : decode cX5_saintOf 8 = .ok (.invokestatic 76, 3) := by decide +kernel
theorem dX5_saintOf_11 : decode cX5_saintOf 11 = .ok (.ifCond .ne 5, 3) := by decide +kernel
theorem dX5_saintOf_14 : decode cX5_saintOf 14 = .ok (.iconst (-1), 1) := by decide +kernel
theorem dX5_saintOf_15 : decode cX5_saintOf 15 = .ok (.ireturn, 1) := by decide +kernel
theorem dX5_saintOf_16 : decode cX5_saintOf 16 = .ok (.aload_n 0, 1) := by decide +kernel
theorem dX5_saintOf_17 : decode cX5_saintOf 17 = .ok (.getfield 31, 3) := by decide +kernel
theorem dX5_saintOf_20 : decode cX5_saintOf 20 = .ok (.getfield 94, 3) := by decide +kernel
theorem dX5_saintOf_23 : decode cX5_saintOf 23 = .ok (.iload_n 1, 1) := by decide +kernel
theorem dX5_saintOf_24 : decode cX5_saintOf 24 = .ok (.aaload, 1) := by decide +kernel
theorem dX5_saintOf_25 : decode cX5_saintOf 25 = .ok (.astore_n 3, 1) := by decide +kernel
theorem dX5_saintOf_26 : decode cX5_saintOf 26 = .ok (.iload_n 2, 1) := by decide +kernel
theorem dX5_saintOf_27 : decode cX5_saintOf 27 = .ok (.tableswitch 73 0 4 #[33, 38, 47, 56, 61], 33) := by decide +kernel
theorem dX5_saintOf_60 : decode cX5_saintOf 60 = .ok (.aload_n 3, 1) := by decide +kernel
theorem dX5_saintOf_61 : decode cX5_saintOf 61 = .ok (.getfield 98, 3) := by decide +kernel
theorem dX5_saintOf_64 : decode cX5_saintOf 64 = .ok (.ireturn, 1) := by decide +kernel
theorem dX5_saintOf_65 : decode cX5_saintOf 65 = .ok (.aload_n 3, 1) := by decide +kernel
theorem dX5_saintOf_66 : decode cX5_saintOf 66 = .ok (.getfield 103, 3) := by decide +kernel
theorem dX5_saintOf_69 : decode cX5_saintOf 69 = .ok (.sipush 1000, 3) := by decide +kernel
theorem dX5_saintOf_72 : decode cX5_saintOf 72 = .ok (.iadd, 1) := by decide +kernel
theorem dX5_saintOf_73 : decode cX5_saintOf 73 = .ok (.ireturn, 1) := by decide +kernel
theorem dX5_saintOf_74 : decode cX5_saintOf 74 = .ok (.aload_n 3, 1) := by decide +kernel
theorem dX5_saintOf_75 : decode cX5_saintOf 75 = .ok (.getfield 106, 3) := by decide +kernel
theorem dX5_saintOf_78 : decode cX5_saintOf 78 = .ok (.sipush 1000, 3) := by decide +kernel
theorem dX5_saintOf_81 : decode cX5_saintOf 81 = .ok (.iadd, 1) := by decide +kernel
theorem dX5_saintOf_82 : decode cX5_saintOf 82 = .ok (.ireturn, 1) := by decide +kernel
theorem dX5_saintOf_83 : decode cX5_saintOf 83 = .ok (.aload_n 3, 1) := by decide +kernel
theorem dX5_saintOf_84 : decode cX5_saintOf 84 = .ok (.getfield 109, 3) := by decide +kernel
theorem dX5_saintOf_87 : decode cX5_saintOf 87 = .ok (.ireturn, 1) := by decide +kernel
theorem dX5_saintOf_88 : decode cX5_saintOf 88 = .ok (.aload_n 0, 1) := by decide +kernel
theorem dX5_saintOf_89 : decode cX5_saintOf 89 = .ok (.getfield 31, 3) := by decide +kernel
theorem dX5_saintOf_92 : decode cX5_saintOf 92 = .ok (.aload_n 3, 1) := by decide +kernel
theorem dX5_saintOf_93 : decode cX5_saintOf 93 = .ok (.invokevirtual 183, 3) := by decide +kernel
theorem dX5_saintOf_96 : decode cX5_saintOf 96 = .ok (.invokestatic 165, 3) := by decide +kernel
theorem dX5_saintOf_99 : decode cX5_saintOf 99 = .ok (.ireturn, 1) := by decide +kernel
theorem dX5_saintOf_100 : decode cX5_saintOf 100 = .ok (.bipush (-2), 2) := by decide +kernel
theorem dX5_saintOf_102 : decode cX5_saintOf 102 = .ok (.ireturn, 1) := by decide +kernel
theorem dX5_readerOf_0 : decode cX5_readerOf 0 = .ok (.iload_n 1, 1) := by decide +kernel
theorem dX5_readerOf_1 : decode cX5_readerOf 1 = .ok (.iconst 4, 1) := by decide +kernel
theorem dX5_readerOf_2 : decode cX5_readerOf 2 = .ok (.invokestatic 76, 3) := by decide +kernel
theorem dX5_readerOf_5 : decode cX5_readerOf 5 = .ok (.ifCond .ne 5, 3) := by decide +kernel
theorem dX5_readerOf_8 : decode cX5_readerOf 8 = .ok (.iconst (-1), 1) := by decide +kernel
theorem dX5_readerOf_9 : decode cX5_readerOf 9 = .ok (.ireturn, 1) := by decide +kernel
theorem dX5_readerOf_10 : decode cX5_readerOf 10 = .ok (.aload_n 0, 1) := by decide +kernel
theorem dX5_readerOf_11 : decode cX5_readerOf 11 = .ok (.getfield 31, 3) := by decide +kernel
theorem dX5_readerOf_14 : decode cX5_readerOf 14 = .ok (.getfield 125, 3) := by decide +kernel
theorem dX5_readerOf_17 : decode cX5_readerOf 17 = .ok (.iload_n 1, 1) := by decide +kernel
theorem dX5_readerOf_18 : decode cX5_readerOf 18 = .ok (.aaload, 1) := by decide +kernel
theorem dX5_readerOf_19 : decode cX5_readerOf 19 = .ok (.astore_n 3, 1) := by decide +kernel
theorem dX5_readerOf_20 : decode cX5_readerOf 20 = .ok (.iload_n 2, 1) := by decide +kernel
theorem dX5_readerOf_21 : decode cX5_readerOf 21 = .ok (.tableswitch 63 0 4 #[35, 40, 45, 53, 58], 35) := by decide +kernel
theorem dX5_readerOf_56 : decode cX5_readerOf 56 = .ok (.aload_n 3, 1) := by decide +kernel
theorem dX5_readerOf_57 : decode cX5_readerOf 57 = .ok (.getfield 134, 3) := by decide +kernel
theorem dX5_readerOf_60 : decode cX5_readerOf 60 = .ok (.ireturn, 1) := by decide +kernel
theorem dX5_readerOf_61 : decode cX5_readerOf 61 = .ok (.aload_n 3, 1) := by decide +kernel
theorem dX5_readerOf_62 : decode cX5_readerOf 62 = .ok (.getfield 129, 3) := by decide +kernel
theorem dX5_readerOf_65 : decode cX5_readerOf 65 = .ok (.ireturn, 1) := by decide +kernel
theorem dX5_readerOf_66 : decode cX5_readerOf 66 = .ok (.aload_n 3, 1) := by decide +kernel
theorem dX5_readerOf_67 : decode cX5_readerOf 67 = .ok (.getfield 137, 3) := by decide +kernel
theorem dX5_readerOf_70 : decode cX5_readerOf 70 = .ok (.invokestatic 165, 3) := by decide +kernel
theorem dX5_readerOf_73 : decode cX5_readerOf 73 = .ok (.ireturn, 1) := by decide +kernel
theorem dX5_readerOf_74 : decode cX5_readerOf 74 = .ok (.aload_n 3, 1) := by decide +kernel
theorem dX5_readerOf_75 : decode cX5_readerOf 75 = .ok (.getfield 187, 3) := by decide +kernel
theorem dX5_readerOf_78 : decode cX5_readerOf 78 = .ok (.ireturn, 1) := by decide +kernel
theorem dX5_readerOf_79 : decode cX5_readerOf 79 = .ok (.aload_n 3, 1) := by decide +kernel
theorem dX5_readerOf_80 : decode cX5_readerOf 80 = .ok (.getfield 190, 3) := by decide +kernel
theorem dX5_readerOf_83 : decode cX5_readerOf 83 = .ok (.ireturn, 1) := by decide +kernel
theorem dX5_readerOf_84 : decode cX5_readerOf 84 = .ok (.bipush (-2), 2) := by decide +kernel
theorem dX5_readerOf_86 : decode cX5_readerOf 86 = .ok (.ireturn, 1) := by decide +kernel
theorem dX5_count_0 : decode cX5_count 0 = .ok (.iload_n 1, 1) := by decide +kernel
theorem dX5_count_1 : decode cX5_count 1 = .ok (.tableswitch 253 0 15 #[79, 87, 95, 103, 111, 119, 127, 135, 146, 173, 184, 189, 197, 211, 225, 239], 79) := by decide +kernel
theorem dX5_count_80 : decode cX5_count 80 = .ok (.aload_n 0, 1) := by decide +kernel
theorem dX5_count_81 : decode cX5_count 81 = .ok (.getfield 31, 3) := by decide +kernel
theorem dX5_count_84 : decode cX5_count 84 = .ok (.getfield 193, 3) := by decide +kernel
theorem dX5_count_87 : decode cX5_count 87 = .ok (.ireturn, 1) := by decide +kernel
theorem dX5_count_88 : decode cX5_count 88 = .ok (.aload_n 0, 1) := by decide +kernel
theorem dX5_count_89 : decode cX5_count 89 = .ok (.getfield 31, 3) := by decide +kernel
theorem dX5_count_92 : decode cX5_count 92 = .ok (.getfield 79, 3) := by decide +kernel
theorem dX5_count_95 : decode cX5_count 95 = .ok (.ireturn, 1) := by decide +kernel
theorem dX5_count_96 : decode cX5_count 96 = .ok (.aload_n 0, 1) := by decide +kernel
theorem dX5_count_97 : decode cX5_count 97 = .ok (.getfield 31, 3) := by decide +kernel
theorem dX5_count_100 : decode cX5_count 100 = .ok (.invokevirtual 169, 3) := by decide +kernel
theorem dX5_count_103 : decode cX5_count 103 = .ok (.ireturn, 1) := by decide +kernel
theorem dX5_count_104 : decode cX5_count 104 = .ok (.aload_n 0, 1) := by decide +kernel
theorem dX5_count_105 : decode cX5_count 105 = .ok (.getfield 31, 3) := by decide +kernel
theorem dX5_count_108 : decode cX5_count 108 = .ok (.getfield 91, 3) := by decide +kernel
theorem dX5_count_111 : decode cX5_count 111 = .ok (.ireturn, 1) := by decide +kernel
theorem dX5_count_112 : decode cX5_count 112 = .ok (.aload_n 0, 1) := by decide +kernel
theorem dX5_count_113 : decode cX5_count 113 = .ok (.getfield 31, 3) := by decide +kernel
theorem dX5_count_116 : decode cX5_count 116 = .ok (.getfield 196, 3) := by decide +kernel
theorem dX5_count_119 : decode cX5_count 119 = .ok (.ireturn, 1) := by decide +kernel
theorem dX5_count_120 : decode cX5_count 120 = .ok (.aload_n 0, 1) := by decide +kernel
theorem dX5_count_121 : decode cX5_count 121 = .ok (.getfield 31, 3) := by decide +kernel
theorem dX5_count_124 : decode cX5_count 124 = .ok (.getfield 199, 3) := by decide +kernel
theorem dX5_count_127 : decode cX5_count 127 = .ok (.ireturn, 1) := by decide +kernel
theorem dX5_count_128 : decode cX5_count 128 = .ok (.aload_n 0, 1) := by decide +kernel
theorem dX5_count_129 : decode cX5_count 129 = .ok (.getfield 31, 3) := by decide +kernel
theorem dX5_count_132 : decode cX5_count 132 = .ok (.getfield 202, 3) := by decide +kernel
theorem dX5_count_135 : decode cX5_count 135 = .ok (.ireturn, 1) := by decide +kernel
theorem dX5_count_136 : decode cX5_count 136 = .ok (.aload_n 0, 1) := by decide +kernel
theorem dX5_count_137 : decode cX5_count 137 = .ok (.getfield 31, 3) := by decide +kernel
theorem dX5_count_140 : decode cX5_count 140 = .ok (.invokevirtual 82, 3) := by decide +kernel
theorem dX5_count_143 : decode cX5_count 143 = .ok (.getfield 205, 3) := by decide +kernel
theorem dX5_count_146 : decode cX5_count 146 = .ok (.ireturn, 1) := by decide +kernel
theorem dX5_count_147 : decode cX5_count 147 = .ok (.aload_n 0, 1) := by decide +kernel
theorem dX5_count_148 : decode cX5_count 148 = .ok (.getfield 31, 3) := by decide +kernel
theorem dX5_count_151 : decode cX5_count 151 = .ok (.invokevirtual 169, 3) := by decide +kernel
theorem dX5_count_154 : decode cX5_count 154 = .ok (.ifCond .le 17, 3) := by decide +kernel
theorem dX5_count_157 : decode cX5_count 157 = .ok (.aload_n 0, 1) := by decide +kernel
theorem dX5_count_158 : decode cX5_count 158 = .ok (.getfield 31, 3) := by decide +kernel
theorem dX5_count_161 : decode cX5_count 161 = .ok (.iconst 0, 1) := by decide +kernel
theorem dX5_count_162 : decode cX5_count 162 = .ok (.invokevirtual 172, 3) := by decide +kernel
theorem dX5_count_165 : decode cX5_count 165 = .ok (.getfield 205, 3) := by decide +kernel
theorem dX5_count_168 : decode cX5_count 168 = .ok (.goto 5, 3) := by decide +kernel
theorem dX5_count_171 : decode cX5_count 171 = .ok (.bipush (-5), 2) := by decide +kernel
theorem dX5_count_173 : decode cX5_count 173 = .ok (.ireturn, 1) := by decide +kernel
theorem dX5_count_174 : decode cX5_count 174 = .ok (.aload_n 0, 1) := by decide +kernel
theorem dX5_count_175 : decode cX5_count 175 = .ok (.getfield 31, 3) := by decide +kernel
theorem dX5_count_178 : decode cX5_count 178 = .ok (.getfield 208, 3) := by decide +kernel
theorem dX5_count_181 : decode cX5_count 181 = .ok (.ldc 209, 2) := by decide +kernel
theorem dX5_count_183 : decode cX5_count 183 = .ok (.iadd, 1) := by decide +kernel
theorem dX5_count_184 : decode cX5_count 184 = .ok (.ireturn, 1) := by decide +kernel
theorem dX5_count_185 : decode cX5_count 185 = .ok (.aload_n 0, 1) := by decide +kernel
theorem dX5_count_186 : decode cX5_count 186 = .ok (.getfield 34, 3) := by decide +kernel
theorem dX5_count_189 : decode cX5_count 189 = .ok (.ireturn, 1) := by decide +kernel
theorem dX5_count_190 : decode cX5_count 190 = .ok (.aload_n 0, 1) := by decide +kernel
theorem dX5_count_191 : decode cX5_count 191 = .ok (.getfield 12, 3) := by decide +kernel
theorem dX5_count_194 : decode cX5_count 194 = .ok (.getfield 143, 3) := by decide +kernel
theorem dX5_count_197 : decode cX5_count 197 = .ok (.ireturn, 1) := by decide +kernel
theorem dX5_count_198 : decode cX5_count 198 = .ok (.aload_n 0, 1) := by decide +kernel
theorem dX5_count_199 : decode cX5_count 199 = .ok (.getfield 31, 3) := by decide +kernel
theorem dX5_count_202 : decode cX5_count 202 = .ok (.getfield 122, 3) := by decide +kernel
theorem dX5_count_205 : decode cX5_count 205 = .ok (.iconst 0, 1) := by decide +kernel
theorem dX5_count_206 : decode cX5_count 206 = .ok (.iaload, 1) := by decide +kernel
theorem dX5_count_207 : decode cX5_count 207 = .ok (.sipush 1000, 3) := by decide +kernel
theorem dX5_count_210 : decode cX5_count 210 = .ok (.iadd, 1) := by decide +kernel
theorem dX5_count_211 : decode cX5_count 211 = .ok (.ireturn, 1) := by decide +kernel
theorem dX5_count_212 : decode cX5_count 212 = .ok (.aload_n 0, 1) := by decide +kernel
theorem dX5_count_213 : decode cX5_count 213 = .ok (.getfield 31, 3) := by decide +kernel
theorem dX5_count_216 : decode cX5_count 216 = .ok (.getfield 122, 3) := by decide +kernel
theorem dX5_count_219 : decode cX5_count 219 = .ok (.iconst 1, 1) := by decide +kernel
theorem dX5_count_220 : decode cX5_count 220 = .ok (.iaload, 1) := by decide +kernel
theorem dX5_count_221 : decode cX5_count 221 = .ok (.sipush 1000, 3) := by decide +kernel
theorem dX5_count_224 : decode cX5_count 224 = .ok (.iadd, 1) := by decide +kernel
theorem dX5_count_225 : decode cX5_count 225 = .ok (.ireturn, 1) := by decide +kernel
theorem dX5_count_226 : decode cX5_count 226 = .ok (.aload_n 0, 1) := by decide +kernel
theorem dX5_count_227 : decode cX5_count 227 = .ok (.getfield 31, 3) := by decide +kernel
theorem dX5_count_230 : decode cX5_count 230 = .ok (.getfield 122, 3) := by decide +kernel
theorem dX5_count_233 : decode cX5_count 233 = .ok (.iconst 2, 1) := by decide +kernel
theorem dX5_count_234 : decode cX5_count 234 = .ok (.iaload, 1) := by decide +kernel
theorem dX5_count_235 : decode cX5_count 235 = .ok (.sipush 1000, 3) := by decide +kernel
theorem dX5_count_238 : decode cX5_count 238 = .ok (.iadd, 1) := by decide +kernel
theorem dX5_count_239 : decode cX5_count 239 = .ok (.ireturn, 1) := by decide +kernel
theorem dX5_count_240 : decode cX5_count 240 = .ok (.aload_n 0, 1) := by decide +kernel
theorem dX5_count_241 : decode cX5_count 241 = .ok (.getfield 31, 3) := by decide +kernel
theorem dX5_count_244 : decode cX5_count 244 = .ok (.getfield 122, 3) := by decide +kernel
theorem dX5_count_247 : decode cX5_count 247 = .ok (.iconst 3, 1) := by decide +kernel
theorem dX5_count_248 : decode cX5_count 248 = .ok (.iaload, 1) := by decide +kernel
theorem dX5_count_249 : decode cX5_count 249 = .ok (.sipush 1000, 3) := by decide +kernel
theorem dX5_count_252 : decode cX5_count 252 = .ok (.iadd, 1) := by decide +kernel
theorem dX5_count_253 : decode cX5_count 253 = .ok (.ireturn, 1) := by decide +kernel
theorem dX5_count_254 : decode cX5_count 254 = .ok (.bipush (-2), 2) := by decide +kernel
theorem dX5_count_256 : decode cX5_count 256 = .ok (.ireturn, 1) := by decide +kernel
theorem dX5_meanMistake_0 : decode cX5_meanMistake 0 = .ok (.aload_n 0, 1) := by decide +kernel
theorem dX5_meanMistake_1 : decode cX5_meanMistake 1 = .ok (.getfield 31, 3) := by decide +kernel
theorem dX5_meanMistake_4 : decode cX5_meanMistake 4 = .ok (.getfield 57, 3) := by decide +kernel
theorem dX5_meanMistake_7 : decode cX5_meanMistake 7 = .ok (.ifCond .ne 5, 3) := by decide +kernel
theorem dX5_meanMistake_10 : decode cX5_meanMistake 10 = .ok (.fconst 0, 1) := by decide +kernel
theorem dX5_meanMistake_11 : decode cX5_meanMistake 11 = .ok (.freturn, 1) := by decide +kernel
theorem dX5_meanMistake_12 : decode cX5_meanMistake 12 = .ok (.aload_n 0, 1) := by decide +kernel
theorem dX5_meanMistake_13 : decode cX5_meanMistake 13 = .ok (.getfield 31, 3) := by decide +kernel
theorem dX5_meanMistake_16 : decode cX5_meanMistake 16 = .ok (.getfield 210, 3) := by decide +kernel
theorem dX5_meanMistake_19 : decode cX5_meanMistake 19 = .ok (.i2f, 1) := by decide +kernel
theorem dX5_meanMistake_20 : decode cX5_meanMistake 20 = .ok (.aload_n 0, 1) := by decide +kernel
theorem dX5_meanMistake_21 : decode cX5_meanMistake 21 = .ok (.getfield 31, 3) := by decide +kernel
theorem dX5_meanMistake_24 : decode cX5_meanMistake 24 = .ok (.getfield 57, 3) := by decide +kernel
theorem dX5_meanMistake_27 : decode cX5_meanMistake 27 = .ok (.i2f, 1) := by decide +kernel
theorem dX5_meanMistake_28 : decode cX5_meanMistake 28 = .ok (.fdiv, 1) := by decide +kernel
theorem dX5_meanMistake_29 : decode cX5_meanMistake 29 = .ok (.freturn, 1) := by decide +kernel
theorem dX5_nextBase_0 : decode cX5_nextBase 0 = .ok (.iload_n 1, 1) := by decide +kernel
theorem dX5_nextBase_1 : decode cX5_nextBase 1 = .ok (.bipush 20, 2) := by decide +kernel
theorem dX5_nextBase_3 : decode cX5_nextBase 3 = .ok (.invokestatic 76, 3) := by decide +kernel
theorem dX5_nextBase_6 : decode cX5_nextBase 6 = .ok (.ifCond .ne 5, 3) := by decide +kernel
theorem dX5_nextBase_9 : decode cX5_nextBase 9 = .ok (.iconst (-1), 1) := by decide +kernel
theorem dX5_nextBase_10 : decode cX5_nextBase 10 = .ok (.ireturn, 1) := by decide +kernel
theorem dX5_nextBase_11 : decode cX5_nextBase 11 = .ok (.aload_n 0, 1) := by decide +kernel
theorem dX5_nextBase_12 : decode cX5_nextBase 12 = .ok (.getfield 31, 3) := by decide +kernel
theorem dX5_nextBase_15 : decode cX5_nextBase 15 = .ok (.invokevirtual 82, 3) := by decide +kernel
theorem dX5_nextBase_18 : decode cX5_nextBase 18 = .ok (.astore_n 2, 1) := by decide +kernel
theorem dX5_nextBase_19 : decode cX5_nextBase 19 = .ok (.aload_n 2, 1) := by decide +kernel
theorem dX5_nextBase_20 : decode cX5_nextBase 20 = .ok (.iload_n 1, 1) := by decide +kernel
theorem dX5_nextBase_21 : decode cX5_nextBase 21 = .ok (.aload_n 0, 1) := by decide +kernel
theorem dX5_nextBase_22 : decode cX5_nextBase 22 = .ok (.getfield 31, 3) := by decide +kernel
theorem dX5_nextBase_25 : decode cX5_nextBase 25 = .ok (.getfield 122, 3) := by decide +kernel
theorem dX5_nextBase_28 : decode cX5_nextBase 28 = .ok (.iconst 0, 1) := by decide +kernel
theorem dX5_nextBase_29 : decode cX5_nextBase 29 = .ok (.iaload, 1) := by decide +kernel
theorem dX5_nextBase_30 : decode cX5_nextBase 30 = .ok (.invokevirtual 176, 3) := by decide +kernel
theorem dX5_nextBase_33 : decode cX5_nextBase 33 = .ok (.istore_n 3, 1) := by decide +kernel
theorem dX5_nextBase_34 : decode cX5_nextBase 34 = .ok (.aload_n 2, 1) := by decide +kernel
theorem dX5_nextBase_35 : decode cX5_nextBase 35 = .ok (.getfield 86, 3) := by decide +kernel
theorem dX5_nextBase_38 : decode cX5_nextBase 38 = .ok (.iload_n 1, 1) := by decide +kernel
theorem dX5_nextBase_39 : decode cX5_nextBase 39 = .ok (.iaload, 1) := by decide +kernel
theorem dX5_nextBase_40 : decode cX5_nextBase 40 = .ok (.iload_n 3, 1) := by decide +kernel
theorem dX5_nextBase_41 : decode cX5_nextBase 41 = .ok (.aload_n 0, 1) := by decide +kernel
theorem dX5_nextBase_42 : decode cX5_nextBase 42 = .ok (.getfield 31, 3) := by decide +kernel
theorem dX5_nextBase_45 : decode cX5_nextBase 45 = .ok (.getfield 122, 3) := by decide +kernel
theorem dX5_nextBase_48 : decode cX5_nextBase 48 = .ok (.iconst 1, 1) := by decide +kernel
theorem dX5_nextBase_49 : decode cX5_nextBase 49 = .ok (.iaload, 1) := by decide +kernel
theorem dX5_nextBase_50 : decode cX5_nextBase 50 = .ok (.invokestatic 211, 3) := by decide +kernel
theorem dX5_nextBase_53 : decode cX5_nextBase 53 = .ok (.sipush 1000, 3) := by decide +kernel
theorem dX5_nextBase_56 : decode cX5_nextBase 56 = .ok (.iadd, 1) := by decide +kernel
theorem dX5_nextBase_57 : decode cX5_nextBase 57 = .ok (.ireturn, 1) := by decide +kernel
theorem dX5_bestBound_0 : decode cX5_bestBound 0 = .ok (.iload_n 1, 1) := by decide +kernel
theorem dX5_bestBound_1 : decode cX5_bestBound 1 = .ok (.ifCond .eq 11, 3) := by decide +kernel
theorem dX5_bestBound_4 : decode cX5_bestBound 4 = .ok (.iload_n 1, 1) := by decide +kernel
theorem dX5_bestBound_5 : decode cX5_bestBound 5 = .ok (.iconst 1, 1) := by decide +kernel
theorem dX5_bestBound_6 : decode cX5_bestBound 6 = .ok (.if_icmp .eq 6, 3) := by decide +kernel
theorem dX5_bestBound_9 : decode cX5_bestBound 9 = .ok (.bipush (-2), 2) := by decide +kernel
theorem dX5_bestBound_11 : decode cX5_bestBound 11 = .ok (.ireturn, 1) := by decide +kernel
theorem dX5_bestBound_12 : decode cX5_bestBound 12 = .ok (.aload_n 0, 1) := by decide +kernel
theorem dX5_bestBound_13 : decode cX5_bestBound 13 = .ok (.getfield 31, 3) := by decide +kernel
theorem dX5_bestBound_16 : decode cX5_bestBound 16 = .ok (.invokevirtual 169, 3) := by decide +kernel
theorem dX5_bestBound_19 : decode cX5_bestBound 19 = .ok (.ifCond .ne 6, 3) := by decide +kernel
theorem dX5_bestBound_22 : decode cX5_bestBound 22 = .ok (.bipush (-5), 2) := by decide +kernel
theorem dX5_bestBound_24 : decode cX5_bestBound 24 = .ok (.ireturn, 1) := by decide +kernel
theorem dX5_bestBound_25 : decode cX5_bestBound 25 = .ok (.aload_n 0, 1) := by decide +kernel
theorem dX5_bestBound_26 : decode cX5_bestBound 26 = .ok (.getfield 31, 3) := by decide +kernel
theorem dX5_bestBound_29 : decode cX5_bestBound 29 = .ok (.iconst 0, 1) := by decide +kernel
theorem dX5_bestBound_30 : decode cX5_bestBound 30 = .ok (.invokevirtual 172, 3) := by decide +kernel
theorem dX5_bestBound_33 : decode cX5_bestBound 33 = .ok (.astore_n 2, 1) := by decide +kernel
theorem dX5_bestBound_34 : decode cX5_bestBound 34 = .ok (.iconst 0, 1) := by decide +kernel
theorem dX5_bestBound_35 : decode cX5_bestBound 35 = .ok (.istore_n 3, 1) := by decide +kernel
theorem dX5_bestBound_36 : decode cX5_bestBound 36 = .ok (.aload_n 2, 1) := by decide +kernel
theorem dX5_bestBound_37 : decode cX5_bestBound 37 = .ok (.iconst 0, 1) := by decide +kernel
theorem dX5_bestBound_38 : decode cX5_bestBound 38 = .ok (.invokevirtual 215, 3) := by decide +kernel
theorem dX5_bestBound_41 : decode cX5_bestBound 41 = .ok (.istore 4, 2) := by decide +kernel
theorem dX5_bestBound_43 : decode cX5_bestBound 43 = .ok (.iconst 1, 1) := by decide +kernel
theorem dX5_bestBound_44 : decode cX5_bestBound 44 = .ok (.istore 5, 2) := by decide +kernel
theorem dX5_bestBound_46 : decode cX5_bestBound 46 = .ok (.iload 5, 2) := by decide +kernel
theorem dX5_bestBound_48 : decode cX5_bestBound 48 = .ok (.bipush 20, 2) := by decide +kernel
theorem dX5_bestBound_50 : decode cX5_bestBound 50 = .ok (.if_icmp .gt 55, 3) := by decide +kernel
theorem dX5_bestBound_53 : decode cX5_bestBound 53 = .ok (.aload_n 2, 1) := by decide +kernel
theorem dX5_bestBound_54 : decode cX5_bestBound 54 = .ok (.iload 5, 2) := by decide +kernel
theorem dX5_bestBound_56 : decode cX5_bestBound 56 = .ok (.ineg, 1) := by decide +kernel
theorem dX5_bestBound_57 : decode cX5_bestBound 57 = .ok (.invokevirtual 215, 3) := by decide +kernel
theorem dX5_bestBound_60 : decode cX5_bestBound 60 = .ok (.istore 6, 2) := by decide +kernel
theorem dX5_bestBound_62 : decode cX5_bestBound 62 = .ok (.iload 6, 2) := by decide +kernel
theorem dX5_bestBound_64 : decode cX5_bestBound 64 = .ok (.iload 4, 2) := by decide +kernel
theorem dX5_bestBound_66 : decode cX5_bestBound 66 = .ok (.if_icmp .ge 11, 3) := by decide +kernel
theorem dX5_bestBound_69 : decode cX5_bestBound 69 = .ok (.iload 6, 2) := by decide +kernel
theorem dX5_bestBound_71 : decode cX5_bestBound 71 = .ok (.istore 4, 2) := by decide +kernel
theorem dX5_bestBound_73 : decode cX5_bestBound 73 = .ok (.iload 5, 2) := by decide +kernel
theorem dX5_bestBound_75 : decode cX5_bestBound 75 = .ok (.ineg, 1) := by decide +kernel
theorem dX5_bestBound_76 : decode cX5_bestBound 76 = .ok (.istore_n 3, 1) := by decide +kernel
theorem dX5_bestBound_77 : decode cX5_bestBound 77 = .ok (.aload_n 2, 1) := by decide +kernel
theorem dX5_bestBound_78 : decode cX5_bestBound 78 = .ok (.iload 5, 2) := by decide +kernel
theorem dX5_bestBound_80 : decode cX5_bestBound 80 = .ok (.invokevirtual 215, 3) := by decide +kernel
theorem dX5_bestBound_83 : decode cX5_bestBound 83 = .ok (.istore 7, 2) := by decide +kernel
theorem dX5_bestBound_85 : decode cX5_bestBound 85 = .ok (.iload 7, 2) := by decide +kernel
theorem dX5_bestBound_87 : decode cX5_bestBound 87 = .ok (.iload 4, 2) := by decide +kernel
theorem dX5_bestBound_89 : decode cX5_bestBound 89 = .ok (.if_icmp .ge 10, 3) := by decide +kernel
theorem dX5_bestBound_92 : decode cX5_bestBound 92 = .ok (.iload 7, 2) := by decide +kernel
theorem dX5_bestBound_94 : decode cX5_bestBound 94 = .ok (.istore 4, 2) := by decide +kernel
theorem dX5_bestBound_96 : decode cX5_bestBound 96 = .ok (.iload 5, 2) := by decide +kernel
theorem dX5_bestBound_98 : decode cX5_bestBound 98 = .ok (.istore_n 3, 1) := by decide +kernel
theorem dX5_bestBound_99 : decode cX5_bestBound 99 = .ok (.iinc 5 1, 3) := by decide +kernel
theorem dX5_bestBound_102 : decode cX5_bestBound 102 = .ok (.goto (-56), 3) := by decide +kernel
theorem dX5_bestBound_105 : decode cX5_bestBound 105 = .ok (.iload_n 1, 1) := by decide +kernel
theorem dX5_bestBound_106 : decode cX5_bestBound 106 = .ok (.ifCond .ne 11, 3) := by decide +kernel
theorem dX5_bestBound_109 : decode cX5_bestBound 109 = .ok (.iload_n 3, 1) := by decide +kernel
theorem dX5_bestBound_110 : decode cX5_bestBound 110 = .ok (.sipush 1000, 3) := by decide +kernel
theorem dX5_bestBound_113 : decode cX5_bestBound 113 = .ok (.iadd, 1) := by decide +kernel
theorem dX5_bestBound_114 : decode cX5_bestBound 114 = .ok (.goto 5, 3) := by decide +kernel
theorem dX5_bestBound_117 : decode cX5_bestBound 117 = .ok (.iload 4, 2) := by decide +kernel
theorem dX5_bestBound_119 : decode cX5_bestBound 119 = .ok (.ireturn, 1) := by decide +kernel
theorem dX5_bestRate_0 : decode cX5_bestRate 0 = .ok (.iload_n 1, 1) := by decide +kernel
theorem dX5_bestRate_1 : decode cX5_bestRate 1 = .ok (.ifCond .eq 11, 3) := by decide +kernel
theorem dX5_bestRate_4 : decode cX5_bestRate 4 = .ok (.iload_n 1, 1) := by decide +kernel
theorem dX5_bestRate_5 : decode cX5_bestRate 5 = .ok (.iconst 1, 1) := by decide +kernel
theorem dX5_bestRate_6 : decode cX5_bestRate 6 = .ok (.if_icmp .eq 6, 3) := by decide +kernel
theorem dX5_bestRate_9 : decode cX5_bestRate 9 = .ok (.bipush (-2), 2) := by decide +kernel
theorem dX5_bestRate_11 : decode cX5_bestRate 11 = .ok (.ireturn, 1) := by decide +kernel
theorem dX5_bestRate_12 : decode cX5_bestRate 12 = .ok (.aload_n 0, 1) := by decide +kernel
theorem dX5_bestRate_13 : decode cX5_bestRate 13 = .ok (.getfield 31, 3) := by decide +kernel
theorem dX5_bestRate_16 : decode cX5_bestRate 16 = .ok (.invokevirtual 169, 3) := by decide +kernel
theorem dX5_bestRate_19 : decode cX5_bestRate 19 = .ok (.iconst 2, 1) := by decide +kernel
theorem dX5_bestRate_20 : decode cX5_bestRate 20 = .ok (.if_icmp .ge 6, 3) := by decide +kernel
theorem dX5_bestRate_23 : decode cX5_bestRate 23 = .ok (.bipush (-5), 2) := by decide +kernel
theorem dX5_bestRate_25 : decode cX5_bestRate 25 = .ok (.ireturn, 1) := by decide +kernel
theorem dX5_bestRate_26 : decode cX5_bestRate 26 = .ok (.aload_n 0, 1) := by decide +kernel
theorem dX5_bestRate_27 : decode cX5_bestRate 27 = .ok (.getfield 31, 3) := by decide +kernel
theorem dX5_bestRate_30 : decode cX5_bestRate 30 = .ok (.iconst 1, 1) := by decide +kernel
theorem dX5_bestRate_31 : decode cX5_bestRate 31 = .ok (.invokevirtual 172, 3) := by decide +kernel
theorem dX5_bestRate_34 : decode cX5_bestRate 34 = .ok (.astore_n 2, 1) := by decide +kernel
theorem dX5_bestRate_35 : decode cX5_bestRate 35 = .ok (.aload_n 0, 1) := by decide +kernel
theorem dX5_bestRate_36 : decode cX5_bestRate 36 = .ok (.getfield 31, 3) := by decide +kernel
theorem dX5_bestRate_39 : decode cX5_bestRate 39 = .ok (.iconst 0, 1) := by decide +kernel
theorem dX5_bestRate_40 : decode cX5_bestRate 40 = .ok (.invokevirtual 172, 3) := by decide +kernel
theorem dX5_bestRate_43 : decode cX5_bestRate 43 = .ok (.astore_n 3, 1) := by decide +kernel
theorem dX5_bestRate_44 : decode cX5_bestRate 44 = .ok (.iconst 0, 1) := by decide +kernel
theorem dX5_bestRate_45 : decode cX5_bestRate 45 = .ok (.istore 4, 2) := by decide +kernel
theorem dX5_bestRate_47 : decode cX5_bestRate 47 = .ok (.iload 4, 2) := by decide +kernel
theorem dX5_bestRate_49 : decode cX5_bestRate 49 = .ok (.bipush 20, 2) := by decide +kernel
theorem dX5_bestRate_51 : decode cX5_bestRate 51 = .ok (.if_icmp .ge 31, 3) := by decide +kernel
theorem dX5_bestRate_54 : decode cX5_bestRate 54 = .ok (.aload_n 0, 1) := by decide +kernel
theorem dX5_bestRate_55 : decode cX5_bestRate 55 = .ok (.getfield 27, 3) := by decide +kernel
theorem dX5_bestRate_58 : decode cX5_bestRate 58 = .ok (.iload 4, 2) := by decide +kernel
theorem dX5_bestRate_60 : decode cX5_bestRate 60 = .ok (.aload_n 2, 1) := by decide +kernel
theorem dX5_bestRate_61 : decode cX5_bestRate 61 = .ok (.iload 4, 2) := by decide +kernel
theorem dX5_bestRate_63 : decode cX5_bestRate 63 = .ok (.aload_n 0, 1) := by decide +kernel
theorem dX5_bestRate_64 : decode cX5_bestRate 64 = .ok (.getfield 31, 3) := by decide +kernel
theorem dX5_bestRate_67 : decode cX5_bestRate 67 = .ok (.getfield 122, 3) := by decide +kernel
theorem dX5_bestRate_70 : decode cX5_bestRate 70 = .ok (.iconst 0, 1) := by decide +kernel
theorem dX5_bestRate_71 : decode cX5_bestRate 71 = .ok (.iaload, 1) := by decide +kernel
theorem dX5_bestRate_72 : decode cX5_bestRate 72 = .ok (.invokevirtual 176, 3) := by decide +kernel
theorem dX5_bestRate_75 : decode cX5_bestRate 75 = .ok (.iastore, 1) := by decide +kernel
theorem dX5_bestRate_76 : decode cX5_bestRate 76 = .ok (.iinc 4 1, 3) := by decide +kernel
theorem dX5_bestRate_79 : decode cX5_bestRate 79 = .ok (.goto (-32), 3) := by decide +kernel
theorem dX5_bestRate_82 : decode cX5_bestRate 82 = .ok (.iconst 0, 1) := by decide +kernel
theorem dX5_bestRate_83 : decode cX5_bestRate 83 = .ok (.istore 4, 2) := by decide +kernel
theorem dX5_bestRate_85 : decode cX5_bestRate 85 = .ok (.aload_n 0, 1) := by decide +kernel
theorem dX5_bestRate_86 : decode cX5_bestRate 86 = .ok (.aload_n 2, 1) := by decide +kernel
theorem dX5_bestRate_87 : decode cX5_bestRate 87 = .ok (.aload_n 3, 1) := by decide +kernel
theorem dX5_bestRate_88 : decode cX5_bestRate 88 = .ok (.iconst 0, 1) := by decide +kernel
theorem dX5_bestRate_89 : decode cX5_bestRate 89 = .ok (.invokevirtual 218, 3) := by decide +kernel
theorem dX5_bestRate_92 : decode cX5_bestRate 92 = .ok (.istore 5, 2) := by decide +kernel
theorem dX5_bestRate_94 : decode cX5_bestRate 94 = .ok (.iconst 1, 1) := by decide +kernel
theorem dX5_bestRate_95 : decode cX5_bestRate 95 = .ok (.istore 6, 2) := by decide +kernel
theorem dX5_bestRate_97 : decode cX5_bestRate 97 = .ok (.iload 6, 2) := by decide +kernel
theorem dX5_bestRate_99 : decode cX5_bestRate 99 = .ok (.bipush 100, 2) := by decide +kernel
theorem dX5_bestRate_101 : decode cX5_bestRate 101 = .ok (.if_icmp .gt 34, 3) := by decide +kernel
theorem dX5_bestRate_104 : decode cX5_bestRate 104 = .ok (.aload_n 0, 1) := by decide +kernel
theorem dX5_bestRate_105 : decode cX5_bestRate 105 = .ok (.aload_n 2, 1) := by decide +kernel
theorem dX5_bestRate_106 : decode cX5_bestRate 106 = .ok (.aload_n 3, 1) := by decide +kernel
theorem dX5_bestRate_107 : decode cX5_bestRate 107 = .ok (.iload 6, 2) := by decide +kernel
theorem dX5_bestRate_109 : decode cX5_bestRate 109 = .ok (.invokevirtual 218, 3) := by decide +kernel
theorem dX5_bestRate_112 : decode cX5_bestRate 112 = .ok (.istore 7, 2) := by decide +kernel
theorem dX5_bestRate_114 : decode cX5_bestRate 114 = .ok (.iload 7, 2) := by decide +kernel
theorem dX5_bestRate_116 : decode cX5_bestRate 116 = .ok (.iload 5, 2) := by decide +kernel
theorem dX5_bestRate_118 : decode cX5_bestRate 118 = .ok (.if_icmp .ge 11, 3) := by decide +kernel
theorem dX5_bestRate_121 : decode cX5_bestRate 121 = .ok (.iload 7, 2) := by decide +kernel
theorem dX5_bestRate_123 : decode cX5_bestRate 123 = .ok (.istore 5, 2) := by decide +kernel
theorem dX5_bestRate_125 : decode cX5_bestRate 125 = .ok (.iload 6, 2) := by decide +kernel
theorem dX5_bestRate_127 : decode cX5_bestRate 127 = .ok (.istore 4, 2) := by decide +kernel
theorem dX5_bestRate_129 : decode cX5_bestRate 129 = .ok (.iinc 6 1, 3) := by decide +kernel
theorem dX5_bestRate_132 : decode cX5_bestRate 132 = .ok (.goto (-35), 3) := by decide +kernel
theorem dX5_bestRate_135 : decode cX5_bestRate 135 = .ok (.iload_n 1, 1) := by decide +kernel
theorem dX5_bestRate_136 : decode cX5_bestRate 136 = .ok (.ifCond .ne 8, 3) := by decide +kernel
theorem dX5_bestRate_139 : decode cX5_bestRate 139 = .ok (.iload 4, 2) := by decide +kernel
theorem dX5_bestRate_141 : decode cX5_bestRate 141 = .ok (.goto 5, 3) := by decide +kernel
theorem dX5_bestRate_144 : decode cX5_bestRate 144 = .ok (.iload 5, 2) := by decide +kernel
theorem dX5_bestRate_146 : decode cX5_bestRate 146 = .ok (.ireturn, 1) := by decide +kernel
theorem dX5_ifMeasured_0 : decode cX5_ifMeasured 0 = .ok (.iload_n 1, 1) := by decide +kernel
theorem dX5_ifMeasured_1 : decode cX5_ifMeasured 1 = .ok (.iconst 4, 1) := by decide +kernel
theorem dX5_ifMeasured_2 : decode cX5_ifMeasured 2 = .ok (.invokestatic 76, 3) := by decide +kernel
theorem dX5_ifMeasured_5 : decode cX5_ifMeasured 5 = .ok (.ifCond .ne 5, 3) := by decide +kernel
theorem dX5_ifMeasured_8 : decode cX5_ifMeasured 8 = .ok (.iconst (-1), 1) := by decide +kernel
theorem dX5_ifMeasured_9 : decode cX5_ifMeasured 9 = .ok (.ireturn, 1) := by decide +kernel
theorem dX5_ifMeasured_10 : decode cX5_ifMeasured 10 = .ok (.iload_n 2, 1) := by decide +kernel
theorem dX5_ifMeasured_11 : decode cX5_ifMeasured 11 = .ok (.bipush 40, 2) := by decide +kernel
theorem dX5_ifMeasured_13 : decode cX5_ifMeasured 13 = .ok (.invokestatic 42, 3) := by decide +kernel
theorem dX5_ifMeasured_16 : decode cX5_ifMeasured 16 = .ok (.ifCond .ne 6, 3) := by decide +kernel
theorem dX5_ifMeasured_19 : decode cX5_ifMeasured 19 = .ok (.bipush (-2), 2) := by decide +kernel
theorem dX5_ifMeasured_21 : decode cX5_ifMeasured 21 = .ok (.ireturn, 1) := by decide +kernel
theorem dX5_ifMeasured_22 : decode cX5_ifMeasured 22 = .ok (.aload_n 0, 1) := by decide +kernel
theorem dX5_ifMeasured_23 : decode cX5_ifMeasured 23 = .ok (.getfield 31, 3) := by decide +kernel
theorem dX5_ifMeasured_26 : decode cX5_ifMeasured 26 = .ok (.getfield 125, 3) := by decide +kernel
theorem dX5_ifMeasured_29 : decode cX5_ifMeasured 29 = .ok (.iload_n 1, 1) := by decide +kernel
theorem dX5_ifMeasured_30 : decode cX5_ifMeasured 30 = .ok (.aaload, 1) := by decide +kernel
theorem dX5_ifMeasured_31 : decode cX5_ifMeasured 31 = .ok (.astore_n 3, 1) := by decide +kernel
theorem dX5_ifMeasured_32 : decode cX5_ifMeasured 32 = .ok (.aload_n 0, 1) := by decide +kernel
theorem dX5_ifMeasured_33 : decode cX5_ifMeasured 33 = .ok (.getfield 31, 3) := by decide +kernel
theorem dX5_ifMeasured_36 : decode cX5_ifMeasured 36 = .ok (.aload_n 0, 1) := by decide +kernel
theorem dX5_ifMeasured_37 : decode cX5_ifMeasured 37 = .ok (.getfield 31, 3) := by decide +kernel
theorem dX5_ifMeasured_40 : decode cX5_ifMeasured 40 = .ok (.aload_n 0, 1) := by decide +kernel
theorem dX5_ifMeasured_41 : decode cX5_ifMeasured 41 = .ok (.getfield 31, 3) := by decide +kernel
theorem dX5_ifMeasured_44 : decode cX5_ifMeasured 44 = .ok (.getfield 79, 3) := by decide +kernel
theorem dX5_ifMeasured_47 : decode cX5_ifMeasured 47 = .ok (.invokevirtual 152, 3) := by decide +kernel
theorem dX5_ifMeasured_50 : decode cX5_ifMeasured 50 = .ok (.invokevirtual 161, 3) := by decide +kernel
theorem dX5_ifMeasured_53 : decode cX5_ifMeasured 53 = .ok (.istore 4, 2) := by decide +kernel
theorem dX5_ifMeasured_55 : decode cX5_ifMeasured 55 = .ok (.aload_n 3, 1) := by decide +kernel
theorem dX5_ifMeasured_56 : decode cX5_ifMeasured 56 = .ok (.getfield 134, 3) := by decide +kernel
theorem dX5_ifMeasured_59 : decode cX5_ifMeasured 59 = .ok (.aload_n 3, 1) := by decide +kernel
theorem dX5_ifMeasured_60 : decode cX5_ifMeasured 60 = .ok (.getfield 129, 3) := by decide +kernel
theorem dX5_ifMeasured_63 : decode cX5_ifMeasured 63 = .ok (.iadd, 1) := by decide +kernel
theorem dX5_ifMeasured_64 : decode cX5_ifMeasured 64 = .ok (.aload_n 3, 1) := by decide +kernel
theorem dX5_ifMeasured_65 : decode cX5_ifMeasured 65 = .ok (.iload_n 2, 1) := by decide +kernel
theorem dX5_ifMeasured_66 : decode cX5_ifMeasured 66 = .ok (.invokestatic 222, 3) := by decide +kernel
theorem dX5_ifMeasured_69 : decode cX5_ifMeasured 69 = .ok (.iload 4, 2) := by decide +kernel
theorem dX5_ifMeasured_71 : decode cX5_ifMeasured 71 = .ok (.aload_n 0, 1) := by decide +kernel
theorem dX5_ifMeasured_72 : decode cX5_ifMeasured 72 = .ok (.getfield 31, 3) := by decide +kernel
theorem dX5_ifMeasured_75 : decode cX5_ifMeasured 75 = .ok (.getfield 122, 3) := by decide +kernel
theorem dX5_ifMeasured_78 : decode cX5_ifMeasured 78 = .ok (.iconst 3, 1) := by decide +kernel
theorem dX5_ifMeasured_79 : decode cX5_ifMeasured 79 = .ok (.iaload, 1) := by decide +kernel
theorem dX5_ifMeasured_80 : decode cX5_ifMeasured 80 = .ok (.invokevirtual 225, 3) := by decide +kernel
theorem dX5_ifMeasured_83 : decode cX5_ifMeasured 83 = .ok (.iadd, 1) := by decide +kernel
theorem dX5_ifMeasured_84 : decode cX5_ifMeasured 84 = .ok (.ireturn, 1) := by decide +kernel
theorem dX5_remember_0 : decode cX5_remember 0 = .ok (.aload_n 0, 1) := by decide +kernel
theorem dX5_remember_1 : decode cX5_remember 1 = .ok (.getfield 34, 3) := by decide +kernel
theorem dX5_remember_4 : decode cX5_remember 4 = .ok (.iconst 4, 1) := by decide +kernel
theorem dX5_remember_5 : decode cX5_remember 5 = .ok (.if_icmp .ne 54, 3) := by decide +kernel
theorem dX5_remember_8 : decode cX5_remember 8 = .ok (.aload_n 0, 1) := by decide +kernel
theorem dX5_remember_9 : decode cX5_remember 9 = .ok (.getfield 18, 3) := by decide +kernel
theorem dX5_remember_12 : decode cX5_remember 12 = .ok (.iconst 0, 1) := by decide +kernel
theorem dX5_remember_13 : decode cX5_remember 13 = .ok (.aaload, 1) := by decide +kernel
theorem dX5_remember_14 : decode cX5_remember 14 = .ok (.astore_n 1, 1) := by decide +kernel
theorem dX5_remember_15 : decode cX5_remember 15 = .ok (.iconst 1, 1) := by decide +kernel
theorem dX5_remember_16 : decode cX5_remember 16 = .ok (.istore_n 2, 1) := by decide +kernel
theorem dX5_remember_17 : decode cX5_remember 17 = .ok (.iload_n 2, 1) := by decide +kernel
theorem dX5_remember_18 : decode cX5_remember 18 = .ok (.iconst 4, 1) := by decide +kernel
theorem dX5_remember_19 : decode cX5_remember 19 = .ok (.if_icmp .ge 23, 3) := by decide +kernel
theorem dX5_remember_22 : decode cX5_remember 22 = .ok (.aload_n 0, 1) := by decide +kernel
theorem dX5_remember_23 : decode cX5_remember 23 = .ok (.getfield 18, 3) := by decide +kernel
theorem dX5_remember_26 : decode cX5_remember 26 = .ok (.iload_n 2, 1) := by decide +kernel
theorem dX5_remember_27 : decode cX5_remember 27 = .ok (.iconst 1, 1) := by decide +kernel
theorem dX5_remember_28 : decode cX5_remember 28 = .ok (.isub, 1) := by decide +kernel
theorem dX5_remember_29 : decode cX5_remember 29 = .ok (.aload_n 0, 1) := by decide +kernel
theorem dX5_remember_30 : decode cX5_remember 30 = .ok (.getfield 18, 3) := by decide +kernel
theorem dX5_remember_33 : decode cX5_remember 33 = .ok (.iload_n 2, 1) := by decide +kernel
theorem dX5_remember_34 : decode cX5_remember 34 = .ok (.aaload, 1) := by decide +kernel
theorem dX5_remember_35 : decode cX5_remember 35 = .ok (.aastore, 1) := by decide +kernel
theorem dX5_remember_36 : decode cX5_remember 36 = .ok (.iinc 2 1, 3) := by decide +kernel
theorem dX5_remember_39 : decode cX5_remember 39 = .ok (.goto (-22), 3) := by decide +kernel
theorem dX5_remember_42 : decode cX5_remember 42 = .ok (.aload_n 0, 1) := by decide +kernel
theorem dX5_remember_43 : decode cX5_remember 43 = .ok (.getfield 18, 3) := by decide +kernel
theorem dX5_remember_46 : decode cX5_remember 46 = .ok (.iconst 3, 1) := by decide +kernel
theorem dX5_remember_47 : decode cX5_remember 47 = .ok (.aload_n 1, 1) := by decide +kernel
theorem dX5_remember_48 : decode cX5_remember 48 = .ok (.aastore, 1) := by decide +kernel
theorem dX5_remember_49 : decode cX5_remember 49 = .ok (.aload_n 0, 1) := by decide +kernel
theorem dX5_remember_50 : decode cX5_remember 50 = .ok (.dup, 1) := by decide +kernel
theorem dX5_remember_51 : decode cX5_remember 51 = .ok (.getfield 34, 3) := by decide +kernel
theorem dX5_remember_54 : decode cX5_remember 54 = .ok (.iconst 1, 1) := by decide +kernel
theorem dX5_remember_55 : decode cX5_remember 55 = .ok (.isub, 1) := by decide +kernel
theorem dX5_remember_56 : decode cX5_remember 56 = .ok (.putfield 34, 3) := by decide +kernel
theorem dX5_remember_59 : decode cX5_remember 59 = .ok (.aload_n 0, 1) := by decide +kernel
theorem dX5_remember_60 : decode cX5_remember 60 = .ok (.getfield 18, 3) := by decide +kernel
theorem dX5_remember_63 : decode cX5_remember 63 = .ok (.aload_n 0, 1) := by decide +kernel
theorem dX5_remember_64 : decode cX5_remember 64 = .ok (.getfield 34, 3) := by decide +kernel
theorem dX5_remember_67 : decode cX5_remember 67 = .ok (.aaload, 1) := by decide +kernel
theorem dX5_remember_68 : decode cX5_remember 68 = .ok (.aload_n 0, 1) := by decide +kernel
theorem dX5_remember_69 : decode cX5_remember 69 = .ok (.getfield 31, 3) := by decide +kernel
theorem dX5_remember_72 : decode cX5_remember 72 = .ok (.invokevirtual 148, 3) := by decide +kernel
theorem dX5_remember_75 : decode cX5_remember 75 = .ok (.aload_n 0, 1) := by decide +kernel
theorem dX5_remember_76 : decode cX5_remember 76 = .ok (.dup, 1) := by decide +kernel
theorem dX5_remember_77 : decode cX5_remember 77 = .ok (.getfield 34, 3) := by decide +kernel
theorem dX5_remember_80 : decode cX5_remember 80 = .ok (.iconst 1, 1) := by decide +kernel
theorem dX5_remember_81 : decode cX5_remember 81 = .ok (.iadd, 1) := by decide +kernel
theorem dX5_remember_82 : decode cX5_remember 82 = .ok (.putfield 34, 3) := by decide +kernel
theorem dX5_remember_85 : decode cX5_remember 85 = .ok (.return_, 1) := by decide +kernel
theorem dX5_sumWithRate_0 : decode cX5_sumWithRate 0 = .ok (.iconst 0, 1) := by decide +kernel
theorem dX5_sumWithRate_1 : decode cX5_sumWithRate 1 = .ok (.istore 4, 2) := by decide +kernel
theorem dX5_sumWithRate_3 : decode cX5_sumWithRate 3 = .ok (.iconst 0, 1) := by decide +kernel
theorem dX5_sumWithRate_4 : decode cX5_sumWithRate 4 = .ok (.istore 5, 2) := by decide +kernel
theorem dX5_sumWithRate_6 : decode cX5_sumWithRate 6 = .ok (.iload 5, 2) := by decide +kernel
theorem dX5_sumWithRate_8 : decode cX5_sumWithRate 8 = .ok (.bipush 20, 2) := by decide +kernel
theorem dX5_sumWithRate_10 : decode cX5_sumWithRate 10 = .ok (.if_icmp .ge 43, 3) := by decide +kernel
theorem dX5_sumWithRate_13 : decode cX5_sumWithRate 13 = .ok (.iload 4, 2) := by decide +kernel
theorem dX5_sumWithRate_15 : decode cX5_sumWithRate 15 = .ok (.aload_n 2, 1) := by decide +kernel
theorem dX5_sumWithRate_16 : decode cX5_sumWithRate 16 = .ok (.getfield 155, 3) := by decide +kernel
theorem dX5_sumWithRate_19 : decode cX5_sumWithRate 19 = .ok (.iload 5, 2) := by decide +kernel
theorem dX5_sumWithRate_21 : decode cX5_sumWithRate 21 = .ok (.iaload, 1) := by decide +kernel
theorem dX5_sumWithRate_22 : decode cX5_sumWithRate 22 = .ok (.aload_n 1, 1) := by decide +kernel
theorem dX5_sumWithRate_23 : decode cX5_sumWithRate 23 = .ok (.getfield 86, 3) := by decide +kernel
theorem dX5_sumWithRate_26 : decode cX5_sumWithRate 26 = .ok (.iload 5, 2) := by decide +kernel
theorem dX5_sumWithRate_28 : decode cX5_sumWithRate 28 = .ok (.iaload, 1) := by decide +kernel
theorem dX5_sumWithRate_29 : decode cX5_sumWithRate 29 = .ok (.aload_n 0, 1) := by decide +kernel
theorem dX5_sumWithRate_30 : decode cX5_sumWithRate 30 = .ok (.getfield 27, 3) := by decide +kernel
theorem dX5_sumWithRate_33 : decode cX5_sumWithRate 33 = .ok (.iload 5, 2) := by decide +kernel
theorem dX5_sumWithRate_35 : decode cX5_sumWithRate 35 = .ok (.iaload, 1) := by decide +kernel
theorem dX5_sumWithRate_36 : decode cX5_sumWithRate 36 = .ok (.iload_n 3, 1) := by decide +kernel
theorem dX5_sumWithRate_37 : decode cX5_sumWithRate 37 = .ok (.invokestatic 211, 3) := by decide +kernel
theorem dX5_sumWithRate_40 : decode cX5_sumWithRate 40 = .ok (.isub, 1) := by decide +kernel
theorem dX5_sumWithRate_41 : decode cX5_sumWithRate 41 = .ok (.invokestatic 229, 3) := by decide +kernel
theorem dX5_sumWithRate_44 : decode cX5_sumWithRate 44 = .ok (.iadd, 1) := by decide +kernel
theorem dX5_sumWithRate_45 : decode cX5_sumWithRate 45 = .ok (.istore 4, 2) := by decide +kernel
theorem dX5_sumWithRate_47 : decode cX5_sumWithRate 47 = .ok (.iinc 5 1, 3) := by decide +kernel
theorem dX5_sumWithRate_50 : decode cX5_sumWithRate 50 = .ok (.goto (-44), 3) := by decide +kernel
theorem dX5_sumWithRate_53 : decode cX5_sumWithRate 53 = .ok (.iload 4, 2) := by decide +kernel
theorem dX5_sumWithRate_55 : decode cX5_sumWithRate 55 = .ok (.ireturn, 1) := by decide +kernel
theorem dX5_isIndex_0 : decode cX5_isIndex 0 = .ok (.iload_n 0, 1) := by decide +kernel
theorem dX5_isIndex_1 : decode cX5_isIndex 1 = .ok (.ifCond .lt 12, 3) := by decide +kernel
theorem dX5_isIndex_4 : decode cX5_isIndex 4 = .ok (.iload_n 0, 1) := by decide +kernel
theorem dX5_isIndex_5 : decode cX5_isIndex 5 = .ok (.iload_n 1, 1) := by decide +kernel
theorem dX5_isIndex_6 : decode cX5_isIndex 6 = .ok (.if_icmp .ge 7, 3) := by decide +kernel
theorem dX5_isIndex_9 : decode cX5_isIndex 9 = .ok (.iconst 1, 1) := by decide +kernel
theorem dX5_isIndex_10 : decode cX5_isIndex 10 = .ok (.goto 4, 3) := by decide +kernel
theorem dX5_isIndex_13 : decode cX5_isIndex 13 = .ok (.iconst 0, 1) := by decide +kernel
theorem dX5_isIndex_14 : decode cX5_isIndex 14 = .ok (.ireturn, 1) := by decide +kernel
theorem dX5_isWithin_0 : decode cX5_isWithin 0 = .ok (.iload_n 0, 1) := by decide +kernel
theorem dX5_isWithin_1 : decode cX5_isWithin 1 = .ok (.iload_n 1, 1) := by decide +kernel
theorem dX5_isWithin_2 : decode cX5_isWithin 2 = .ok (.ineg, 1) := by decide +kernel
theorem dX5_isWithin_3 : decode cX5_isWithin 3 = .ok (.if_icmp .lt 12, 3) := by decide +kernel
theorem dX5_isWithin_6 : decode cX5_isWithin 6 = .ok (.iload_n 0, 1) := by decide +kernel
theorem dX5_isWithin_7 : decode cX5_isWithin 7 = .ok (.iload_n 1, 1) := by decide +kernel
theorem dX5_isWithin_8 : decode cX5_isWithin 8 = .ok (.if_icmp .gt 7, 3) := by decide +kernel
theorem dX5_isWithin_11 : decode cX5_isWithin 11 = .ok (.iconst 1, 1) := by decide +kernel
theorem dX5_isWithin_12 : decode cX5_isWithin 12 = .ok (.goto 4, 3) := by decide +kernel
theorem dX5_isWithin_15 : decode cX5_isWithin 15 = .ok (.iconst 0, 1) := by decide +kernel
theorem dX5_isWithin_16 : decode cX5_isWithin 16 = .ok (.ireturn, 1) := by decide +kernel
theorem dX5_isFrost_0 : decode cX5_isFrost 0 = .ok (.iload_n 0, 1) := by decide +kernel
theorem dX5_isFrost_1 : decode cX5_isFrost 1 = .ok (.ifCond .gt 7, 3) := by decide +kernel
theorem dX5_isFrost_4 : decode cX5_isFrost 4 = .ok (.iconst 1, 1) := by decide +kernel
theorem dX5_isFrost_5 : decode cX5_isFrost 5 = .ok (.goto 4, 3) := by decide +kernel
theorem dX5_isFrost_8 : decode cX5_isFrost 8 = .ok (.iconst 0, 1) := by decide +kernel
theorem dX5_isFrost_9 : decode cX5_isFrost 9 = .ok (.ireturn, 1) := by decide +kernel
theorem dX5_oneIf_0 : decode cX5_oneIf 0 = .ok (.iload_n 0, 1) := by decide +kernel
theorem dX5_oneIf_1 : decode cX5_oneIf 1 = .ok (.ifCond .eq 7, 3) := by decide +kernel
theorem dX5_oneIf_4 : decode cX5_oneIf 4 = .ok (.iconst 1, 1) := by decide +kernel
theorem dX5_oneIf_5 : decode cX5_oneIf 5 = .ok (.goto 4, 3) := by decide +kernel
theorem dX5_oneIf_8 : decode cX5_oneIf 8 = .ok (.iconst 0, 1) := by decide +kernel
theorem dX5_oneIf_9 : decode cX5_oneIf 9 = .ok (.ireturn, 1) := by decide +kernel
theorem dX5_clampWarmth_0 : decode cX5_clampWarmth 0 = .ok (.bipush (-40), 2) := by decide +kernel
theorem dX5_clampWarmth_2 : decode cX5_clampWarmth 2 = .ok (.bipush 40, 2) := by decide +kernel
theorem dX5_clampWarmth_4 : decode cX5_clampWarmth 4 = .ok (.iload_n 0, 1) := by decide +kernel
theorem dX5_clampWarmth_5 : decode cX5_clampWarmth 5 = .ok (.invokestatic 234, 3) := by decide +kernel
theorem dX5_clampWarmth_8 : decode cX5_clampWarmth 8 = .ok (.invokestatic 237, 3) := by decide +kernel
theorem dX5_clampWarmth_11 : decode cX5_clampWarmth 11 = .ok (.ireturn, 1) := by decide +kernel
theorem dX5_mended_0 : decode cX5_mended 0 = .ok (.iload_n 0, 1) := by decide +kernel
theorem dX5_mended_1 : decode cX5_mended 1 = .ok (.iload_n 1, 1) := by decide +kernel
theorem dX5_mended_2 : decode cX5_mended 2 = .ok (.iload_n 2, 1) := by decide +kernel
theorem dX5_mended_3 : decode cX5_mended 3 = .ok (.imul, 1) := by decide +kernel
theorem dX5_mended_4 : decode cX5_mended 4 = .ok (.bipush 100, 2) := by decide +kernel
theorem dX5_mended_6 : decode cX5_mended 6 = .ok (.idiv, 1) := by decide +kernel
theorem dX5_mended_7 : decode cX5_mended 7 = .ok (.iadd, 1) := by decide +kernel
theorem dX5_mended_8 : decode cX5_mended 8 = .ok (.invokestatic 240, 3) := by decide +kernel
theorem dX5_mended_11 : decode cX5_mended 11 = .ok (.ireturn, 1) := by decide +kernel
