theorem dX6_init_0 : decode cX6_init 0 = .ok (.aload_n 0, 1) := by decide +kernel
theorem dX6_init_1 : decode cX6_init 1 = .ok (.invokespecial 1, 3) := by decide +kernel
theorem dX6_init_4 : decode cX6_init 4 = .ok (.aload_n 0, 1) := by decide +kernel
theorem dX6_init_5 : decode cX6_init 5 = .ok (.sipush 708, 3) := by decide +kernel
theorem dX6_init_8 : decode cX6_init 8 = .ok (.newarray .int, 2) := by decide +kernel
theorem dX6_init_10 : decode cX6_init 10 = .ok (.putfield 7, 3) := by decide +kernel
theorem dX6_init_13 : decode cX6_init 13 = .ok (.aload_n 0, 1) := by decide +kernel
theorem dX6_init_14 : decode cX6_init 14 = .ok (.sipush 1416, 3) := by decide +kernel
theorem dX6_init_17 : decode cX6_init 17 = .ok (.newarray .int, 2) := by decide +kernel
theorem dX6_init_19 : decode cX6_init 19 = .ok (.putfield 13, 3) := by decide +kernel
theorem dX6_init_22 : decode cX6_init 22 = .ok (.aload_n 0, 1) := by decide +kernel
theorem dX6_init_23 : decode cX6_init 23 = .ok (.sipush 354, 3) := by decide +kernel
theorem dX6_init_26 : decode cX6_init 26 = .ok (.newarray .int, 2) := by decide +kernel
theorem dX6_init_28 : decode cX6_init 28 = .ok (.putfield 16, 3) := by decide +kernel
theorem dX6_init_31 : decode cX6_init 31 = .ok (.aload_n 0, 1) := by decide +kernel
theorem dX6_init_32 : decode cX6_init 32 = .ok (.bipush 60, 2) := by decide +kernel
theorem dX6_init_34 : decode cX6_init 34 = .ok (.newarray .int, 2) := by decide +kernel
theorem dX6_init_36 : decode cX6_init 36 = .ok (.putfield 19, 3) := by decide +kernel
theorem dX6_init_39 : decode cX6_init 39 = .ok (.aload_n 0, 1) := by decide +kernel
theorem dX6_init_40 : decode cX6_init 40 = .ok (.bipush 20, 2) := by decide +kernel
theorem dX6_init_42 : decode cX6_init 42 = .ok (.newarray .int, 2) := by decide +kernel
theorem dX6_init_44 : decode cX6_init 44 = .ok (.putfield 22, 3) := by decide +kernel
theorem dX6_init_47 : decode cX6_init 47 = .ok (.aload_n 0, 1) := by decide +kernel
theorem dX6_init_48 : decode cX6_init 48 = .ok (.getfield 7, 3) := by decide +kernel
theorem dX6_init_51 : decode cX6_init 51 = .ok (.sipush 303, 3) := by decide +kernel
theorem dX6_init_54 : decode cX6_init 54 = .ok (.iconst 2, 1) := by decide +kernel
theorem dX6_init_55 : decode cX6_init 55 = .ok (.iastore, 1) := by decide +kernel
theorem dX6_init_56 : decode cX6_init 56 = .ok (.aload_n 0, 1) := by decide +kernel
theorem dX6_init_57 : decode cX6_init 57 = .ok (.getfield 7, 3) := by decide +kernel
theorem dX6_init_60 : decode cX6_init 60 = .ok (.sipush 304, 3) := by decide +kernel
theorem dX6_init_63 : decode cX6_init 63 = .ok (.bipush 50, 2) := by decide +kernel
theorem dX6_init_65 : decode cX6_init 65 = .ok (.iastore, 1) := by decide +kernel
theorem dX6_init_66 : decode cX6_init 66 = .ok (.aload_n 0, 1) := by decide +kernel
theorem dX6_init_67 : decode cX6_init 67 = .ok (.getfield 7, 3) := by decide +kernel
theorem dX6_init_70 : decode cX6_init 70 = .ok (.sipush 306, 3) := by decide +kernel
theorem dX6_init_73 : decode cX6_init 73 = .ok (.iconst 2, 1) := by decide +kernel
theorem dX6_init_74 : decode cX6_init 74 = .ok (.iastore, 1) := by decide +kernel
theorem dX6_init_75 : decode cX6_init 75 = .ok (.iconst 0, 1) := by decide +kernel
theorem dX6_init_76 : decode cX6_init 76 = .ok (.istore_n 1, 1) := by decide +kernel
theorem dX6_init_77 : decode cX6_init 77 = .ok (.iload_n 1, 1) := by decide +kernel
theorem dX6_init_78 : decode cX6_init 78 = .ok (.iconst 4, 1) := by decide +kernel
theorem dX6_init_79 : decode cX6_init 79 = .ok (.if_icmp .ge 21, 3) := by decide +kernel
theorem dX6_init_82 : decode cX6_init 82 = .ok (.aload_n 0, 1) := by decide +kernel
theorem dX6_init_83 : decode cX6_init 83 = .ok (.getfield 7, 3) := by decide +kernel
theorem dX6_init_86 : decode cX6_init 86 = .ok (.iconst 0, 1) := by decide +kernel
theorem dX6_init_87 : decode cX6_init 87 = .ok (.iload_n 1, 1) := by decide +kernel
theorem dX6_init_88 : decode cX6_init 88 = .ok (.invokestatic 25, 3) := by decide +kernel
theorem dX6_init_91 : decode cX6_init 91 = .ok (.bipush 100, 2) := by decide +kernel
theorem dX6_init_93 : decode cX6_init 93 = .ok (.iastore, 1) := by decide +kernel
theorem dX6_init_94 : decode cX6_init 94 = .ok (.iinc 1 1, 3) := by decide +kernel
theorem dX6_init_97 : decode cX6_init 97 = .ok (.goto (-20), 3) := by decide +kernel
theorem dX6_init_100 : decode cX6_init 100 = .ok (.return_, 1) := by decide +kernel
theorem dX6_in_0 : decode cX6_in 0 = .ok (.iload_n 0, 1) := by decide +kernel
theorem dX6_in_1 : decode cX6_in 1 = .ok (.iload_n 1, 1) := by decide +kernel
theorem dX6_in_2 : decode cX6_in 2 = .ok (.if_icmp .lt 12, 3) := by decide +kernel
theorem dX6_in_5 : decode cX6_in 5 = .ok (.iload_n 0, 1) := by decide +kernel
theorem dX6_in_6 : decode cX6_in 6 = .ok (.iload_n 2, 1) := by decide +kernel
theorem dX6_in_7 : decode cX6_in 7 = .ok (.if_icmp .gt 7, 3) := by decide +kernel
theorem dX6_in_10 : decode cX6_in 10 = .ok (.iconst 1, 1) := by decide +kernel
theorem dX6_in_11 : decode cX6_in 11 = .ok (.goto 4, 3) := by decide +kernel
theorem dX6_in_14 : decode cX6_in 14 = .ok (.iconst 0, 1) := by decide +kernel
theorem dX6_in_15 : decode cX6_in 15 = .ok (.ireturn, 1) := by decide +kernel
theorem dX6_isDay_0 : decode cX6_isDay 0 = .ok (.iload_n 0, 1) := by decide +kernel
theorem dX6_isDay_1 : decode cX6_isDay 1 = .ok (.iconst 0, 1) := by decide +kernel
theorem dX6_isDay_2 : decode cX6_isDay 2 = .ok (.bipush 19, 2) := by decide +kernel
theorem dX6_isDay_4 : decode cX6_isDay 4 = .ok (.invokestatic 29, 3) := by decide +kernel
theorem dX6_isDay_7 : decode cX6_isDay 7 = .ok (.ireturn, 1) := by decide +kernel
theorem dX6_isReader_0 : decode cX6_isReader 0 = .ok (.iload_n 0, 1) := by decide +kernel
theorem dX6_isReader_1 : decode cX6_isReader 1 = .ok (.iconst 0, 1) := by decide +kernel
theorem dX6_isReader_2 : decode cX6_isReader 2 = .ok (.iconst 3, 1) := by decide +kernel
theorem dX6_isReader_3 : decode cX6_isReader 3 = .ok (.invokestatic 29, 3) := by decide +kernel
theorem dX6_isReader_6 : decode cX6_isReader 6 = .ok (.ireturn, 1) := by decide +kernel
theorem dX6_reader_0 : decode cX6_reader 0 = .ok (.iload_n 0, 1) := by decide +kernel
theorem dX6_reader_1 : decode cX6_reader 1 = .ok (.sipush 328, 3) := by decide +kernel
theorem dX6_reader_4 : decode cX6_reader 4 = .ok (.iadd, 1) := by decide +kernel
theorem dX6_reader_5 : decode cX6_reader 5 = .ok (.iconst 5, 1) := by decide +kernel
theorem dX6_reader_6 : decode cX6_reader 6 = .ok (.iload_n 1, 1) := by decide +kernel
theorem dX6_reader_7 : decode cX6_reader 7 = .ok (.imul, 1) := by decide +kernel
theorem dX6_reader_8 : decode cX6_reader 8 = .ok (.iadd, 1) := by decide +kernel
theorem dX6_reader_9 : decode cX6_reader 9 = .ok (.ireturn, 1) := by decide +kernel
theorem dX6_saintAt_0 : decode cX6_saintAt 0 = .ok (.iload_n 0, 1) := by decide +kernel
theorem dX6_saintAt_1 : decode cX6_saintAt 1 = .ok (.sipush 308, 3) := by decide +kernel
theorem dX6_saintAt_4 : decode cX6_saintAt 4 = .ok (.iadd, 1) := by decide +kernel
theorem dX6_saintAt_5 : decode cX6_saintAt 5 = .ok (.iconst 4, 1) := by decide +kernel
theorem dX6_saintAt_6 : decode cX6_saintAt 6 = .ok (.iload_n 1, 1) := by decide +kernel
theorem dX6_saintAt_7 : decode cX6_saintAt 7 = .ok (.imul, 1) := by decide +kernel
theorem dX6_saintAt_8 : decode cX6_saintAt 8 = .ok (.iadd, 1) := by decide +kernel
theorem dX6_saintAt_9 : decode cX6_saintAt 9 = .ok (.ireturn, 1) := by decide +kernel
theorem dX6_size_0 : decode cX6_size 0 = .ok (.iload_n 0, 1) := by decide +kernel
theorem dX6_size_1 : decode cX6_size 1 = .ok (.ifCond .ge 8, 3) := by decide +kernel
theorem dX6_size_4 : decode cX6_size 4 = .ok (.iload_n 0, 1) := by decide +kernel
theorem dX6_size_5 : decode cX6_size 5 = .ok (.ineg, 1) := by decide +kernel
theorem dX6_size_6 : decode cX6_size 6 = .ok (.goto 4, 3) := by decide +kernel
theorem dX6_size_9 : decode cX6_size 9 = .ok (.iload_n 0, 1) := by decide +kernel
theorem dX6_size_10 : decode cX6_size 10 = .ok (.ireturn, 1) := by decide +kernel
theorem dX6_bounded_0 : decode cX6_bounded 0 = .ok (.iload_n 0, 1) := by decide +kernel
theorem dX6_bounded_1 : decode cX6_bounded 1 = .ok (.bipush (-40), 2) := by decide +kernel
theorem dX6_bounded_3 : decode cX6_bounded 3 = .ok (.if_icmp .ge 8, 3) := by decide +kernel
theorem dX6_bounded_6 : decode cX6_bounded 6 = .ok (.bipush (-40), 2) := by decide +kernel
theorem dX6_bounded_8 : decode cX6_bounded 8 = .ok (.goto 15, 3) := by decide +kernel
theorem dX6_bounded_11 : decode cX6_bounded 11 = .ok (.iload_n 0, 1) := by decide +kernel
theorem dX6_bounded_12 : decode cX6_bounded 12 = .ok (.bipush 40, 2) := by decide +kernel
theorem dX6_bounded_14 : decode cX6_bounded 14 = .ok (.if_icmp .le 8, 3) := by decide +kernel
theorem dX6_bounded_17 : decode cX6_bounded 17 = .ok (.bipush 40, 2) := by decide +kernel
theorem dX6_bounded_19 : decode cX6_bounded 19 = .ok (.goto 4, 3) := by decide +kernel
theorem dX6_bounded_22 : decode cX6_bounded 22 = .ok (.iload_n 0, 1) := by decide +kernel
theorem dX6_bounded_23 : decode cX6_bounded 23 = .ok (.ireturn, 1) := by decide +kernel
theorem dX6_copies_0 : decode cX6_copies 0 = .ok (.iconst 0, 1) := by decide +kernel
theorem dX6_copies_1 : decode cX6_copies 1 = .ok (.istore_n 1, 1) := by decide +kernel
theorem dX6_copies_2 : decode cX6_copies 2 = .ok (.iload_n 1, 1) := by decide +kernel
theorem dX6_copies_3 : decode cX6_copies 3 = .ok (.sipush 354, 3) := by decide +kernel
theorem dX6_copies_6 : decode cX6_copies 6 = .ok (.if_icmp .ge 25, 3) := by decide +kernel
theorem dX6_copies_9 : decode cX6_copies 9 = .ok (.aload_n 0, 1) := by decide +kernel
theorem dX6_copies_10 : decode cX6_copies 10 = .ok (.getfield 7, 3) := by decide +kernel
theorem dX6_copies_13 : decode cX6_copies 13 = .ok (.sipush 354, 3) := by decide +kernel
theorem dX6_copies_16 : decode cX6_copies 16 = .ok (.iload_n 1, 1) := by decide +kernel
theorem dX6_copies_17 : decode cX6_copies 17 = .ok (.iadd, 1) := by decide +kernel
theorem dX6_copies_18 : decode cX6_copies 18 = .ok (.aload_n 0, 1) := by decide +kernel
theorem dX6_copies_19 : decode cX6_copies 19 = .ok (.getfield 7, 3) := by decide +kernel
theorem dX6_copies_22 : decode cX6_copies 22 = .ok (.iload_n 1, 1) := by decide +kernel
theorem dX6_copies_23 : decode cX6_copies 23 = .ok (.iaload, 1) := by decide +kernel
theorem dX6_copies_24 : decode cX6_copies 24 = .ok (.iastore, 1) := by decide +kernel
theorem dX6_copies_25 : decode cX6_copies 25 = .ok (.iinc 1 1, 3) := by decide +kernel
theorem dX6_copies_28 : decode cX6_copies 28 = .ok (.goto (-26), 3) := by decide +kernel
theorem dX6_copies_31 : decode cX6_copies 31 = .ok (.return_, 1) := by decide +kernel
theorem dX6_remembers_0 : decode cX6_remembers 0 = .ok (.aload_n 0, 1) := by decide +kernel
theorem dX6_remembers_1 : decode cX6_remembers 1 = .ok (.getfield 33, 3) := by decide +kernel
theorem dX6_remembers_4 : decode cX6_remembers 4 = .ok (.iconst 4, 1) := by decide +kernel
theorem dX6_remembers_5 : decode cX6_remembers 5 = .ok (.if_icmp .ne 44, 3) := by decide +kernel
theorem dX6_remembers_8 : decode cX6_remembers 8 = .ok (.iconst 0, 1) := by decide +kernel
theorem dX6_remembers_9 : decode cX6_remembers 9 = .ok (.istore_n 1, 1) := by decide +kernel
theorem dX6_remembers_10 : decode cX6_remembers 10 = .ok (.iload_n 1, 1) := by decide +kernel
theorem dX6_remembers_11 : decode cX6_remembers 11 = .ok (.sipush 1062, 3) := by decide +kernel
theorem dX6_remembers_14 : decode cX6_remembers 14 = .ok (.if_icmp .ge 25, 3) := by decide +kernel
theorem dX6_remembers_17 : decode cX6_remembers 17 = .ok (.aload_n 0, 1) := by decide +kernel
theorem dX6_remembers_18 : decode cX6_remembers 18 = .ok (.getfield 13, 3) := by decide +kernel
theorem dX6_remembers_21 : decode cX6_remembers 21 = .ok (.iload_n 1, 1) := by decide +kernel
theorem dX6_remembers_22 : decode cX6_remembers 22 = .ok (.aload_n 0, 1) := by decide +kernel
theorem dX6_remembers_23 : decode cX6_remembers 23 = .ok (.getfield 13, 3) := by decide +kernel
theorem dX6_remembers_26 : decode cX6_remembers 26 = .ok (.sipush 354, 3) := by decide +kernel
theorem dX6_remembers_29 : decode cX6_remembers 29 = .ok (.iload_n 1, 1) := by decide +kernel
theorem dX6_remembers_30 : decode cX6_remembers 30 = .ok (.iadd, 1) := by decide +kernel
theorem dX6_remembers_31 : decode cX6_remembers 31 = .ok (.iaload, 1) := by decide +kernel
theorem dX6_remembers_32 : decode cX6_remembers 32 = .ok (.iastore, 1) := by decide +kernel
theorem dX6_remembers_33 : decode cX6_remembers 33 = .ok (.iinc 1 1, 3) := by decide +kernel
theorem dX6_remembers_36 : decode cX6_remembers 36 = .ok (.goto (-26), 3) := by decide +kernel
theorem dX6_remembers_39 : decode cX6_remembers 39 = .ok (.aload_n 0, 1) := by decide +kernel
theorem dX6_remembers_40 : decode cX6_remembers 40 = .ok (.dup, 1) := by decide +kernel
theorem dX6_remembers_41 : decode cX6_remembers 41 = .ok (.getfield 33, 3) := by decide +kernel
theorem dX6_remembers_44 : decode cX6_remembers 44 = .ok (.iconst 1, 1) := by decide +kernel
theorem dX6_remembers_45 : decode cX6_remembers 45 = .ok (.isub, 1) := by decide +kernel
theorem dX6_remembers_46 : decode cX6_remembers 46 = .ok (.putfield 33, 3) := by decide +kernel
theorem dX6_remembers_49 : decode cX6_remembers 49 = .ok (.iconst 0, 1) := by decide +kernel
theorem dX6_remembers_50 : decode cX6_remembers 50 = .ok (.istore_n 1, 1) := by decide +kernel
theorem dX6_remembers_51 : decode cX6_remembers 51 = .ok (.iload_n 1, 1) := by decide +kernel
theorem dX6_remembers_52 : decode cX6_remembers 52 = .ok (.sipush 354, 3) := by decide +kernel
theorem dX6_remembers_55 : decode cX6_remembers 55 = .ok (.if_icmp .ge 30, 3) := by decide +kernel
theorem dX6_remembers_58 : decode cX6_remembers 58 = .ok (.aload_n 0, 1) := by decide +kernel
theorem dX6_remembers_59 : decode cX6_remembers 59 = .ok (.getfield 13, 3) := by decide +kernel
theorem dX6_remembers_62 : decode cX6_remembers 62 = .ok (.sipush 354, 3) := by decide +kernel
theorem dX6_remembers_65 : decode cX6_remembers 65 = .ok (.aload_n 0, 1) := by decide +kernel
theorem dX6_remembers_66 : decode cX6_remembers 66 = .ok (.getfield 33, 3) := by decide +kernel
theorem dX6_remembers_69 : decode cX6_remembers 69 = .ok (.imul, 1) := by decide +kernel
theorem dX6_remembers_70 : decode cX6_remembers 70 = .ok (.iload_n 1, 1) := by decide +kernel
theorem dX6_remembers_71 : decode cX6_remembers 71 = .ok (.iadd, 1) := by decide +kernel
theorem dX6_remembers_72 : decode cX6_remembers 72 = .ok (.aload_n 0, 1) := by decide +kernel
theorem dX6_remembers_73 : decode cX6_remembers 73 = .ok (.getfield 7, 3) := by decide +kernel
theorem dX6_remembers_76 : decode cX6_remembers 76 = .ok (.iload_n 1, 1) := by decide +kernel
theorem dX6_remembers_77 : decode cX6_remembers 77 = .ok (.iaload, 1) := by decide +kernel
theorem dX6_remembers_78 : decode cX6_remembers 78 = .ok (.iastore, 1) := by decide +kernel
theorem dX6_remembers_79 : decode cX6_remembers 79 = .ok (.iinc 1 1, 3) := by decide +kernel
theorem dX6_remembers_82 : decode cX6_remembers 82 = .ok (.goto (-31), 3) := by decide +kernel
theorem dX6_remembers_85 : decode cX6_remembers 85 = .ok (.aload_n 0, 1) := by decide +kernel
theorem dX6_remembers_86 : decode cX6_remembers 86 = .ok (.dup, 1) := by decide +kernel
theorem dX6_remembers_87 : decode cX6_remembers 87 = .ok (.getfield 33, 3) := by decide +kernel
theorem dX6_remembers_90 : decode cX6_remembers 90 = .ok (.iconst 1, 1) := by decide +kernel
theorem dX6_remembers_91 : decode cX6_remembers 91 = .ok (.iadd, 1) := by decide +kernel
theorem dX6_remembers_92 : decode cX6_remembers 92 = .ok (.putfield 33, 3) := by decide +kernel
theorem dX6_remembers_95 : decode cX6_remembers 95 = .ok (.return_, 1) := by decide +kernel
theorem dX6_tells_0 : decode cX6_tells 0 = .ok (.aload_n 0, 1) := by decide +kernel
theorem dX6_tells_1 : decode cX6_tells 1 = .ok (.getfield 7, 3) := by decide +kernel
theorem dX6_tells_4 : decode cX6_tells 4 = .ok (.iload_n 1, 1) := by decide +kernel
theorem dX6_tells_5 : decode cX6_tells 5 = .ok (.iload_n 2, 1) := by decide +kernel
theorem dX6_tells_6 : decode cX6_tells 6 = .ok (.invokestatic 37, 3) := by decide +kernel
theorem dX6_tells_9 : decode cX6_tells 9 = .ok (.iaload, 1) := by decide +kernel
theorem dX6_tells_10 : decode cX6_tells 10 = .ok (.istore_n 3, 1) := by decide +kernel
theorem dX6_tells_11 : decode cX6_tells 11 = .ok (.iload_n 3, 1) := by decide +kernel
theorem dX6_tells_12 : decode cX6_tells 12 = .ok (.aload_n 0, 1) := by decide +kernel
theorem dX6_tells_13 : decode cX6_tells 13 = .ok (.getfield 7, 3) := by decide +kernel
theorem dX6_tells_16 : decode cX6_tells 16 = .ok (.iload_n 1, 1) := by decide +kernel
theorem dX6_tells_17 : decode cX6_tells 17 = .ok (.sipush 300, 3) := by decide +kernel
theorem dX6_tells_20 : decode cX6_tells 20 = .ok (.iadd, 1) := by decide +kernel
theorem dX6_tells_21 : decode cX6_tells 21 = .ok (.iaload, 1) := by decide +kernel
theorem dX6_tells_22 : decode cX6_tells 22 = .ok (.if_icmp .ge 33, 3) := by decide +kernel
theorem dX6_tells_25 : decode cX6_tells 25 = .ok (.aload_n 0, 1) := by decide +kernel
theorem dX6_tells_26 : decode cX6_tells 26 = .ok (.getfield 7, 3) := by decide +kernel
theorem dX6_tells_29 : decode cX6_tells 29 = .ok (.iload_n 1, 1) := by decide +kernel
theorem dX6_tells_30 : decode cX6_tells 30 = .ok (.bipush 40, 2) := by decide +kernel
theorem dX6_tells_32 : decode cX6_tells 32 = .ok (.iadd, 1) := by decide +kernel
theorem dX6_tells_33 : decode cX6_tells 33 = .ok (.iload_n 3, 1) := by decide +kernel
theorem dX6_tells_34 : decode cX6_tells 34 = .ok (.iadd, 1) := by decide +kernel
theorem dX6_tells_35 : decode cX6_tells 35 = .ok (.iaload, 1) := by decide +kernel
theorem dX6_tells_36 : decode cX6_tells 36 = .ok (.aload_n 0, 1) := by decide +kernel
theorem dX6_tells_37 : decode cX6_tells 37 = .ok (.getfield 7, 3) := by decide +kernel
theorem dX6_tells_40 : decode cX6_tells 40 = .ok (.iload_n 1, 1) := by decide +kernel
theorem dX6_tells_41 : decode cX6_tells 41 = .ok (.iload_n 2, 1) := by decide +kernel
theorem dX6_tells_42 : decode cX6_tells 42 = .ok (.invokestatic 37, 3) := by decide +kernel
theorem dX6_tells_45 : decode cX6_tells 45 = .ok (.iconst 1, 1) := by decide +kernel
theorem dX6_tells_46 : decode cX6_tells 46 = .ok (.iadd, 1) := by decide +kernel
theorem dX6_tells_47 : decode cX6_tells 47 = .ok (.iaload, 1) := by decide +kernel
theorem dX6_tells_48 : decode cX6_tells 48 = .ok (.if_icmp .gt 7, 3) := by decide +kernel
theorem dX6_tells_51 : decode cX6_tells 51 = .ok (.iconst 1, 1) := by decide +kernel
theorem dX6_tells_52 : decode cX6_tells 52 = .ok (.goto 4, 3) := by decide +kernel
theorem dX6_tells_55 : decode cX6_tells 55 = .ok (.iconst 0, 1) := by decide +kernel
theorem dX6_tells_56 : decode cX6_tells 56 = .ok (.ireturn, 1) := by decide +kernel
theorem dX6_foretold_0 : decode cX6_foretold 0 = .ok (.aload_n 0, 1) := by decide +kernel
theorem dX6_foretold_1 : decode cX6_foretold 1 = .ok (.getfield 7, 3) := by decide +kernel
theorem dX6_foretold_4 : decode cX6_foretold 4 = .ok (.iload_n 1, 1) := by decide +kernel
theorem dX6_foretold_5 : decode cX6_foretold 5 = .ok (.iconst 0, 1) := by decide +kernel
theorem dX6_foretold_6 : decode cX6_foretold 6 = .ok (.iadd, 1) := by decide +kernel
theorem dX6_foretold_7 : decode cX6_foretold 7 = .ok (.iload_n 2, 1) := by decide +kernel
theorem dX6_foretold_8 : decode cX6_foretold 8 = .ok (.iadd, 1) := by decide +kernel
theorem dX6_foretold_9 : decode cX6_foretold 9 = .ok (.iaload, 1) := by decide +kernel
theorem dX6_foretold_10 : decode cX6_foretold 10 = .ok (.istore_n 3, 1) := by decide +kernel
theorem dX6_foretold_11 : decode cX6_foretold 11 = .ok (.iconst 0, 1) := by decide +kernel
theorem dX6_foretold_12 : decode cX6_foretold 12 = .ok (.istore 4, 2) := by decide +kernel
theorem dX6_foretold_14 : decode cX6_foretold 14 = .ok (.iload 4, 2) := by decide +kernel
theorem dX6_foretold_16 : decode cX6_foretold 16 = .ok (.aload_n 0, 1) := by decide +kernel
theorem dX6_foretold_17 : decode cX6_foretold 17 = .ok (.getfield 7, 3) := by decide +kernel
theorem dX6_foretold_20 : decode cX6_foretold 20 = .ok (.iload_n 1, 1) := by decide +kernel
theorem dX6_foretold_21 : decode cX6_foretold 21 = .ok (.sipush 307, 3) := by decide +kernel
theorem dX6_foretold_24 : decode cX6_foretold 24 = .ok (.iadd, 1) := by decide +kernel
theorem dX6_foretold_25 : decode cX6_foretold 25 = .ok (.iaload, 1) := by decide +kernel
theorem dX6_foretold_26 : decode cX6_foretold 26 = .ok (.if_icmp .ge 90, 3) := by decide +kernel
theorem dX6_foretold_29 : decode cX6_foretold 29 = .ok (.aload_n 0, 1) := by decide +kernel
theorem dX6_foretold_30 : decode cX6_foretold 30 = .ok (.getfield 7, 3) := by decide +kernel
theorem dX6_foretold_33 : decode cX6_foretold 33 = .ok (.iload_n 1, 1) := by decide +kernel
theorem dX6_foretold_34 : decode cX6_foretold 34 = .ok (.iload 4, 2) := by decide +kernel
theorem dX6_foretold_36 : decode cX6_foretold 36 = .ok (.invokestatic 37, 3) := by decide +kernel
theorem dX6_foretold_39 : decode cX6_foretold 39 = .ok (.iaload, 1) := by decide +kernel
theorem dX6_foretold_40 : decode cX6_foretold 40 = .ok (.istore 5, 2) := by decide +kernel
theorem dX6_foretold_42 : decode cX6_foretold 42 = .ok (.aload_n 0, 1) := by decide +kernel
theorem dX6_foretold_43 : decode cX6_foretold 43 = .ok (.iload_n 1, 1) := by decide +kernel
theorem dX6_foretold_44 : decode cX6_foretold 44 = .ok (.iload 4, 2) := by decide +kernel
theorem dX6_foretold_46 : decode cX6_foretold 46 = .ok (.invokevirtual 40, 3) := by decide +kernel
theorem dX6_foretold_49 : decode cX6_foretold 49 = .ok (.ifCond .eq 33, 3) := by decide +kernel
theorem dX6_foretold_52 : decode cX6_foretold 52 = .ok (.iload_n 2, 1) := by decide +kernel
theorem dX6_foretold_53 : decode cX6_foretold 53 = .ok (.iload 5, 2) := by decide +kernel
theorem dX6_foretold_55 : decode cX6_foretold 55 = .ok (.if_icmp .le 27, 3) := by decide +kernel
theorem dX6_foretold_58 : decode cX6_foretold 58 = .ok (.iload_n 2, 1) := by decide +kernel
theorem dX6_foretold_59 : decode cX6_foretold 59 = .ok (.iload 5, 2) := by decide +kernel
theorem dX6_foretold_61 : decode cX6_foretold 61 = .ok (.aload_n 0, 1) := by decide +kernel
theorem dX6_foretold_62 : decode cX6_foretold 62 = .ok (.getfield 7, 3) := by decide +kernel
theorem dX6_foretold_65 : decode cX6_foretold 65 = .ok (.iload_n 1, 1) := by decide +kernel
theorem dX6_foretold_66 : decode cX6_foretold 66 = .ok (.iload 4, 2) := by decide +kernel
theorem dX6_foretold_68 : decode cX6_foretold 68 = .ok (.invokestatic 37, 3) := by decide +kernel
theorem dX6_foretold_71 : decode cX6_foretold 71 = .ok (.iconst 3, 1) := by decide +kernel
theorem dX6_foretold_72 : decode cX6_foretold 72 = .ok (.iadd, 1) := by decide +kernel
theorem dX6_foretold_73 : decode cX6_foretold 73 = .ok (.iaload, 1) := by decide +kernel
theorem dX6_foretold_74 : decode cX6_foretold 74 = .ok (.iadd, 1) := by decide +kernel
theorem dX6_foretold_75 : decode cX6_foretold 75 = .ok (.if_icmp .gt 7, 3) := by decide +kernel
theorem dX6_foretold_78 : decode cX6_foretold 78 = .ok (.iconst 1, 1) := by decide +kernel
theorem dX6_foretold_79 : decode cX6_foretold 79 = .ok (.goto 4, 3) := by decide +kernel
theorem dX6_foretold_82 : decode cX6_foretold 82 = .ok (.iconst 0, 1) := by decide +kernel
theorem dX6_foretold_83 : decode cX6_foretold 83 = .ok (.istore 6, 2) := by decide +kernel
theorem dX6_foretold_85 : decode cX6_foretold 85 = .ok (.iload_n 3, 1) := by decide +kernel
theorem dX6_foretold_86 : decode cX6_foretold 86 = .ok (.iload 6, 2) := by decide +kernel
theorem dX6_foretold_88 : decode cX6_foretold 88 = .ok (.ifCond .eq 19, 3) := by decide +kernel
theorem dX6_foretold_91 : decode cX6_foretold 91 = .ok (.aload_n 0, 1) := by decide +kernel
theorem dX6_foretold_92 : decode cX6_foretold 92 = .ok (.getfield 7, 3) := by decide +kernel
theorem dX6_foretold_95 : decode cX6_foretold 95 = .ok (.iload_n 1, 1) := by decide +kernel
theorem dX6_foretold_96 : decode cX6_foretold 96 = .ok (.iload 4, 2) := by decide +kernel
theorem dX6_foretold_98 : decode cX6_foretold 98 = .ok (.invokestatic 37, 3) := by decide +kernel
theorem dX6_foretold_101 : decode cX6_foretold 101 = .ok (.iconst 2, 1) := by decide +kernel
theorem dX6_foretold_102 : decode cX6_foretold 102 = .ok (.iadd, 1) := by decide +kernel
theorem dX6_foretold_103 : decode cX6_foretold 103 = .ok (.iaload, 1) := by decide +kernel
theorem dX6_foretold_104 : decode cX6_foretold 104 = .ok (.goto 4, 3) := by decide +kernel
theorem dX6_foretold_107 : decode cX6_foretold 107 = .ok (.iconst 0, 1) := by decide +kernel
theorem dX6_foretold_108 : decode cX6_foretold 108 = .ok (.iadd, 1) := by decide +kernel
theorem dX6_foretold_109 : decode cX6_foretold 109 = .ok (.istore_n 3, 1) := by decide +kernel
theorem dX6_foretold_110 : decode cX6_foretold 110 = .ok (.iinc 4 1, 3) := by decide +kernel
theorem dX6_foretold_113 : decode cX6_foretold 113 = .ok (.goto (-99), 3) := by decide +kernel
theorem dX6_foretold_116 : decode cX6_foretold 116 = .ok (.iload_n 3, 1) := by decide +kernel
theorem dX6_foretold_117 : decode cX6_foretold 117 = .ok (.invokestatic 44, 3) := by decide +kernel
theorem dX6_foretold_120 : decode cX6_foretold 120 = .ok (.ireturn, 1) := by decide +kernel
theorem dX6_meanAt_0 : decode cX6_meanAt 0 = .ok (.iconst 0, 1) := by decide +kernel
theorem dX6_meanAt_1 : decode cX6_meanAt 1 = .ok (.istore_n 2, 1) := by decide +kernel
theorem dX6_meanAt_2 : decode cX6_meanAt 2 = .ok (.iconst 0, 1) := by decide +kernel
theorem dX6_meanAt_3 : decode cX6_meanAt 3 = .ok (.istore_n 3, 1) := by decide +kernel
theorem dX6_meanAt_4 : decode cX6_meanAt 4 = .ok (.iload_n 1, 1) := by decide +kernel
theorem dX6_meanAt_5 : decode cX6_meanAt 5 = .ok (.aload_n 0, 1) := by decide +kernel
theorem dX6_meanAt_6 : decode cX6_meanAt 6 = .ok (.getfield 7, 3) := by decide +kernel
theorem dX6_meanAt_9 : decode cX6_meanAt 9 = .ok (.sipush 303, 3) := by decide +kernel
theorem dX6_meanAt_12 : decode cX6_meanAt 12 = .ok (.iaload, 1) := by decide +kernel
theorem dX6_meanAt_13 : decode cX6_meanAt 13 = .ok (.isub, 1) := by decide +kernel
theorem dX6_meanAt_14 : decode cX6_meanAt 14 = .ok (.istore 4, 2) := by decide +kernel
theorem dX6_meanAt_16 : decode cX6_meanAt 16 = .ok (.iload 4, 2) := by decide +kernel
theorem dX6_meanAt_18 : decode cX6_meanAt 18 = .ok (.iload_n 1, 1) := by decide +kernel
theorem dX6_meanAt_19 : decode cX6_meanAt 19 = .ok (.aload_n 0, 1) := by decide +kernel
theorem dX6_meanAt_20 : decode cX6_meanAt 20 = .ok (.getfield 7, 3) := by decide +kernel
theorem dX6_meanAt_23 : decode cX6_meanAt 23 = .ok (.sipush 303, 3) := by decide +kernel
theorem dX6_meanAt_26 : decode cX6_meanAt 26 = .ok (.iaload, 1) := by decide +kernel
theorem dX6_meanAt_27 : decode cX6_meanAt 27 = .ok (.iadd, 1) := by decide +kernel
theorem dX6_meanAt_28 : decode cX6_meanAt 28 = .ok (.if_icmp .gt 47, 3) := by decide +kernel
theorem dX6_meanAt_31 : decode cX6_meanAt 31 = .ok (.iload_n 2, 1) := by decide +kernel
theorem dX6_meanAt_32 : decode cX6_meanAt 32 = .ok (.iload 4, 2) := by decide +kernel
theorem dX6_meanAt_34 : decode cX6_meanAt 34 = .ok (.invokestatic 48, 3) := by decide +kernel
theorem dX6_meanAt_37 : decode cX6_meanAt 37 = .ok (.ifCond .eq 13, 3) := by decide +kernel
theorem dX6_meanAt_40 : decode cX6_meanAt 40 = .ok (.aload_n 0, 1) := by decide +kernel
theorem dX6_meanAt_41 : decode cX6_meanAt 41 = .ok (.getfield 22, 3) := by decide +kernel
theorem dX6_meanAt_44 : decode cX6_meanAt 44 = .ok (.iload 4, 2) := by decide +kernel
theorem dX6_meanAt_46 : decode cX6_meanAt 46 = .ok (.iaload, 1) := by decide +kernel
theorem dX6_meanAt_47 : decode cX6_meanAt 47 = .ok (.goto 4, 3) := by decide +kernel
theorem dX6_meanAt_50 : decode cX6_meanAt 50 = .ok (.iconst 0, 1) := by decide +kernel
theorem dX6_meanAt_51 : decode cX6_meanAt 51 = .ok (.iadd, 1) := by decide +kernel
theorem dX6_meanAt_52 : decode cX6_meanAt 52 = .ok (.istore_n 2, 1) := by decide +kernel
theorem dX6_meanAt_53 : decode cX6_meanAt 53 = .ok (.iload_n 3, 1) := by decide +kernel
theorem dX6_meanAt_54 : decode cX6_meanAt 54 = .ok (.iload 4, 2) := by decide +kernel
theorem dX6_meanAt_56 : decode cX6_meanAt 56 = .ok (.invokestatic 48, 3) := by decide +kernel
theorem dX6_meanAt_59 : decode cX6_meanAt 59 = .ok (.ifCond .eq 7, 3) := by decide +kernel
theorem dX6_meanAt_62 : decode cX6_meanAt 62 = .ok (.iconst 1, 1) := by decide +kernel
theorem dX6_meanAt_63 : decode cX6_meanAt 63 = .ok (.goto 4, 3) := by decide +kernel
theorem dX6_meanAt_66 : decode cX6_meanAt 66 = .ok (.iconst 0, 1) := by decide +kernel
theorem dX6_meanAt_67 : decode cX6_meanAt 67 = .ok (.iadd, 1) := by decide +kernel
theorem dX6_meanAt_68 : decode cX6_meanAt 68 = .ok (.istore_n 3, 1) := by decide +kernel
theorem dX6_meanAt_69 : decode cX6_meanAt 69 = .ok (.iinc 4 1, 3) := by decide +kernel
theorem dX6_meanAt_72 : decode cX6_meanAt 72 = .ok (.goto (-56), 3) := by decide +kernel
theorem dX6_meanAt_75 : decode cX6_meanAt 75 = .ok (.iload_n 2, 1) := by decide +kernel
theorem dX6_meanAt_76 : decode cX6_meanAt 76 = .ok (.iload_n 3, 1) := by decide +kernel
theorem dX6_meanAt_77 : decode cX6_meanAt 77 = .ok (.idiv, 1) := by decide +kernel
theorem dX6_meanAt_78 : decode cX6_meanAt 78 = .ok (.ireturn, 1) := by decide +kernel
theorem dX6_sumUpTo_0 : decode cX6_sumUpTo 0 = .ok (.iconst 0, 1) := by decide +kernel
theorem dX6_sumUpTo_1 : decode cX6_sumUpTo 1 = .ok (.istore_n 2, 1) := by decide +kernel
theorem dX6_sumUpTo_2 : decode cX6_sumUpTo 2 = .ok (.iconst 0, 1) := by decide +kernel
theorem dX6_sumUpTo_3 : decode cX6_sumUpTo 3 = .ok (.istore_n 3, 1) := by decide +kernel
theorem dX6_sumUpTo_4 : decode cX6_sumUpTo 4 = .ok (.iload_n 3, 1) := by decide +kernel
theorem dX6_sumUpTo_5 : decode cX6_sumUpTo 5 = .ok (.iload_n 1, 1) := by decide +kernel
theorem dX6_sumUpTo_6 : decode cX6_sumUpTo 6 = .ok (.if_icmp .gt 24, 3) := by decide +kernel
theorem dX6_sumUpTo_9 : decode cX6_sumUpTo 9 = .ok (.iload_n 3, 1) := by decide +kernel
theorem dX6_sumUpTo_10 : decode cX6_sumUpTo 10 = .ok (.bipush 20, 2) := by decide +kernel
theorem dX6_sumUpTo_12 : decode cX6_sumUpTo 12 = .ok (.if_icmp .ge 18, 3) := by decide +kernel
theorem dX6_sumUpTo_15 : decode cX6_sumUpTo 15 = .ok (.iload_n 2, 1) := by decide +kernel
theorem dX6_sumUpTo_16 : decode cX6_sumUpTo 16 = .ok (.aload_n 0, 1) := by decide +kernel
theorem dX6_sumUpTo_17 : decode cX6_sumUpTo 17 = .ok (.getfield 22, 3) := by decide +kernel
theorem dX6_sumUpTo_20 : decode cX6_sumUpTo 20 = .ok (.iload_n 3, 1) := by decide +kernel
theorem dX6_sumUpTo_21 : decode cX6_sumUpTo 21 = .ok (.iaload, 1) := by decide +kernel
theorem dX6_sumUpTo_22 : decode cX6_sumUpTo 22 = .ok (.iadd, 1) := by decide +kernel
theorem dX6_sumUpTo_23 : decode cX6_sumUpTo 23 = .ok (.istore_n 2, 1) := by decide +kernel
theorem dX6_sumUpTo_24 : decode cX6_sumUpTo 24 = .ok (.iinc 3 1, 3) := by decide +kernel
theorem dX6_sumUpTo_27 : decode cX6_sumUpTo 27 = .ok (.goto (-23), 3) := by decide +kernel
theorem dX6_sumUpTo_30 : decode cX6_sumUpTo 30 = .ok (.iload_n 2, 1) := by decide +kernel
theorem dX6_sumUpTo_31 : decode cX6_sumUpTo 31 = .ok (.ireturn, 1) := by decide +kernel
theorem dX6_meanBySums_0 : decode cX6_meanBySums 0 = .ok (.iload_n 1, 1) := by decide +kernel
theorem dX6_meanBySums_1 : decode cX6_meanBySums 1 = .ok (.aload_n 0, 1) := by decide +kernel
theorem dX6_meanBySums_2 : decode cX6_meanBySums 2 = .ok (.getfield 7, 3) := by decide +kernel
theorem dX6_meanBySums_5 : decode cX6_meanBySums 5 = .ok (.sipush 303, 3) := by decide +kernel
theorem dX6_meanBySums_8 : decode cX6_meanBySums 8 = .ok (.iaload, 1) := by decide +kernel
theorem dX6_meanBySums_9 : decode cX6_meanBySums 9 = .ok (.if_icmp .ge 7, 3) := by decide +kernel
theorem dX6_meanBySums_12 : decode cX6_meanBySums 12 = .ok (.iconst 0, 1) := by decide +kernel
theorem dX6_meanBySums_13 : decode cX6_meanBySums 13 = .ok (.goto 13, 3) := by decide +kernel
theorem dX6_meanBySums_16 : decode cX6_meanBySums 16 = .ok (.iload_n 1, 1) := by decide +kernel
theorem dX6_meanBySums_17 : decode cX6_meanBySums 17 = .ok (.aload_n 0, 1) := by decide +kernel
theorem dX6_meanBySums_18 : decode cX6_meanBySums 18 = .ok (.getfield 7, 3) := by decide +kernel
theorem dX6_meanBySums_21 : decode cX6_meanBySums 21 = .ok (.sipush 303, 3) := by decide +kernel
theorem dX6_meanBySums_24 : decode cX6_meanBySums 24 = .ok (.iaload, 1) := by decide +kernel
theorem dX6_meanBySums_25 : decode cX6_meanBySums 25 = .ok (.isub, 1) := by decide +kernel
theorem dX6_meanBySums_26 : decode cX6_meanBySums 26 = .ok (.istore_n 2, 1) := by decide +kernel
theorem dX6_meanBySums_27 : decode cX6_meanBySums 27 = .ok (.iload_n 1, 1) := by decide +kernel
theorem dX6_meanBySums_28 : decode cX6_meanBySums 28 = .ok (.aload_n 0, 1) := by decide +kernel
theorem dX6_meanBySums_29 : decode cX6_meanBySums 29 = .ok (.getfield 7, 3) := by decide +kernel
theorem dX6_meanBySums_32 : decode cX6_meanBySums 32 = .ok (.sipush 303, 3) := by decide +kernel
theorem dX6_meanBySums_35 : decode cX6_meanBySums 35 = .ok (.iaload, 1) := by decide +kernel
theorem dX6_meanBySums_36 : decode cX6_meanBySums 36 = .ok (.iadd, 1) := by decide +kernel
theorem dX6_meanBySums_37 : decode cX6_meanBySums 37 = .ok (.bipush 20, 2) := by decide +kernel
theorem dX6_meanBySums_39 : decode cX6_meanBySums 39 = .ok (.if_icmp .lt 8, 3) := by decide +kernel
theorem dX6_meanBySums_42 : decode cX6_meanBySums 42 = .ok (.bipush 19, 2) := by decide +kernel
theorem dX6_meanBySums_44 : decode cX6_meanBySums 44 = .ok (.goto 13, 3) := by decide +kernel
theorem dX6_meanBySums_47 : decode cX6_meanBySums 47 = .ok (.iload_n 1, 1) := by decide +kernel
theorem dX6_meanBySums_48 : decode cX6_meanBySums 48 = .ok (.aload_n 0, 1) := by decide +kernel
theorem dX6_meanBySums_49 : decode cX6_meanBySums 49 = .ok (.getfield 7, 3) := by decide +kernel
theorem dX6_meanBySums_52 : decode cX6_meanBySums 52 = .ok (.sipush 303, 3) := by decide +kernel
theorem dX6_meanBySums_55 : decode cX6_meanBySums 55 = .ok (.iaload, 1) := by decide +kernel
theorem dX6_meanBySums_56 : decode cX6_meanBySums 56 = .ok (.iadd, 1) := by decide +kernel
theorem dX6_meanBySums_57 : decode cX6_meanBySums 57 = .ok (.istore_n 3, 1) := by decide +kernel
theorem dX6_meanBySums_58 : decode cX6_meanBySums 58 = .ok (.aload_n 0, 1) := by decide +kernel
theorem dX6_meanBySums_59 : decode cX6_meanBySums 59 = .ok (.iload_n 3, 1) := by decide +kernel
theorem dX6_meanBySums_60 : decode cX6_meanBySums 60 = .ok (.invokevirtual 52, 3) := by decide +kernel
theorem dX6_meanBySums_63 : decode cX6_meanBySums 63 = .ok (.aload_n 0, 1) := by decide +kernel
theorem dX6_meanBySums_64 : decode cX6_meanBySums 64 = .ok (.iload_n 2, 1) := by decide +kernel
theorem dX6_meanBySums_65 : decode cX6_meanBySums 65 = .ok (.iconst 1, 1) := by decide +kernel
theorem dX6_meanBySums_66 : decode cX6_meanBySums 66 = .ok (.isub, 1) := by decide +kernel
theorem dX6_meanBySums_67 : decode cX6_meanBySums 67 = .ok (.invokevirtual 52, 3) := by decide +kernel
theorem dX6_meanBySums_70 : decode cX6_meanBySums 70 = .ok (.isub, 1) := by decide +kernel
theorem dX6_meanBySums_71 : decode cX6_meanBySums 71 = .ok (.iload_n 3, 1) := by decide +kernel
theorem dX6_meanBySums_72 : decode cX6_meanBySums 72 = .ok (.iload_n 2, 1) := by decide +kernel
theorem dX6_meanBySums_73 : decode cX6_meanBySums 73 = .ok (.isub, 1) := by decide +kernel
theorem dX6_meanBySums_74 : decode cX6_meanBySums 74 = .ok (.iconst 1, 1) := by decide +kernel
theorem dX6_meanBySums_75 : decode cX6_meanBySums 75 = .ok (.iadd, 1) := by decide +kernel
theorem dX6_meanBySums_76 : decode cX6_meanBySums 76 = .ok (.idiv, 1) := by decide +kernel
theorem dX6_meanBySums_77 : decode cX6_meanBySums 77 = .ok (.ireturn, 1) := by decide +kernel
theorem dX6_looks_0 : decode cX6_looks 0 = .ok (.iconst 0, 1) := by decide +kernel
theorem dX6_looks_1 : decode cX6_looks 1 = .ok (.istore_n 2, 1) := by decide +kernel
theorem dX6_looks_2 : decode cX6_looks 2 = .ok (.iload_n 2, 1) := by decide +kernel
theorem dX6_looks_3 : decode cX6_looks 3 = .ok (.bipush 20, 2) := by decide +kernel
theorem dX6_looks_5 : decode cX6_looks 5 = .ok (.if_icmp .ge 32, 3) := by decide +kernel
theorem dX6_looks_8 : decode cX6_looks 8 = .ok (.aload_n 0, 1) := by decide +kernel
theorem dX6_looks_9 : decode cX6_looks 9 = .ok (.getfield 22, 3) := by decide +kernel
theorem dX6_looks_12 : decode cX6_looks 12 = .ok (.iload_n 2, 1) := by decide +kernel
theorem dX6_looks_13 : decode cX6_looks 13 = .ok (.aload_n 0, 1) := by decide +kernel
theorem dX6_looks_14 : decode cX6_looks 14 = .ok (.getfield 7, 3) := by decide +kernel
theorem dX6_looks_17 : decode cX6_looks 17 = .ok (.bipush 60, 2) := by decide +kernel
theorem dX6_looks_19 : decode cX6_looks 19 = .ok (.bipush 60, 2) := by decide +kernel
theorem dX6_looks_21 : decode cX6_looks 21 = .ok (.iload_n 1, 1) := by decide +kernel
theorem dX6_looks_22 : decode cX6_looks 22 = .ok (.imul, 1) := by decide +kernel
theorem dX6_looks_23 : decode cX6_looks 23 = .ok (.iadd, 1) := by decide +kernel
theorem dX6_looks_24 : decode cX6_looks 24 = .ok (.bipush 20, 2) := by decide +kernel
theorem dX6_looks_26 : decode cX6_looks 26 = .ok (.iadd, 1) := by decide +kernel
theorem dX6_looks_27 : decode cX6_looks 27 = .ok (.iload_n 2, 1) := by decide +kernel
theorem dX6_looks_28 : decode cX6_looks 28 = .ok (.iadd, 1) := by decide +kernel
theorem dX6_looks_29 : decode cX6_looks 29 = .ok (.iaload, 1) := by decide +kernel
theorem dX6_looks_30 : decode cX6_looks 30 = .ok (.iastore, 1) := by decide +kernel
theorem dX6_looks_31 : decode cX6_looks 31 = .ok (.iinc 2 1, 3) := by decide +kernel
theorem dX6_looks_34 : decode cX6_looks 34 = .ok (.goto (-32), 3) := by decide +kernel
theorem dX6_looks_37 : decode cX6_looks 37 = .ok (.return_, 1) := by decide +kernel
theorem dX6_looksNow_0 : decode cX6_looksNow 0 = .ok (.iconst 0, 1) := by decide +kernel
theorem dX6_looksNow_1 : decode cX6_looksNow 1 = .ok (.istore_n 2, 1) := by decide +kernel
theorem dX6_looksNow_2 : decode cX6_looksNow 2 = .ok (.iload_n 2, 1) := by decide +kernel
theorem dX6_looksNow_3 : decode cX6_looksNow 3 = .ok (.bipush 20, 2) := by decide +kernel
theorem dX6_looksNow_5 : decode cX6_looksNow 5 = .ok (.if_icmp .ge 56, 3) := by decide +kernel
theorem dX6_looksNow_8 : decode cX6_looksNow 8 = .ok (.aload_n 0, 1) := by decide +kernel
theorem dX6_looksNow_9 : decode cX6_looksNow 9 = .ok (.getfield 22, 3) := by decide +kernel
theorem dX6_looksNow_12 : decode cX6_looksNow 12 = .ok (.iload_n 2, 1) := by decide +kernel
theorem dX6_looksNow_13 : decode cX6_looksNow 13 = .ok (.iload_n 2, 1) := by decide +kernel
theorem dX6_looksNow_14 : decode cX6_looksNow 14 = .ok (.aload_n 0, 1) := by decide +kernel
theorem dX6_looksNow_15 : decode cX6_looksNow 15 = .ok (.getfield 7, 3) := by decide +kernel
theorem dX6_looksNow_18 : decode cX6_looksNow 18 = .ok (.iload_n 1, 1) := by decide +kernel
theorem dX6_looksNow_19 : decode cX6_looksNow 19 = .ok (.sipush 300, 3) := by decide +kernel
theorem dX6_looksNow_22 : decode cX6_looksNow 22 = .ok (.iadd, 1) := by decide +kernel
theorem dX6_looksNow_23 : decode cX6_looksNow 23 = .ok (.iaload, 1) := by decide +kernel
theorem dX6_looksNow_24 : decode cX6_looksNow 24 = .ok (.if_icmp .ge 29, 3) := by decide +kernel
theorem dX6_looksNow_27 : decode cX6_looksNow 27 = .ok (.aload_n 0, 1) := by decide +kernel
theorem dX6_looksNow_28 : decode cX6_looksNow 28 = .ok (.getfield 7, 3) := by decide +kernel
theorem dX6_looksNow_31 : decode cX6_looksNow 31 = .ok (.iload_n 1, 1) := by decide +kernel
theorem dX6_looksNow_32 : decode cX6_looksNow 32 = .ok (.bipush 40, 2) := by decide +kernel
theorem dX6_looksNow_34 : decode cX6_looksNow 34 = .ok (.iadd, 1) := by decide +kernel
theorem dX6_looksNow_35 : decode cX6_looksNow 35 = .ok (.iload_n 2, 1) := by decide +kernel
theorem dX6_looksNow_36 : decode cX6_looksNow 36 = .ok (.iadd, 1) := by decide +kernel
theorem dX6_looksNow_37 : decode cX6_looksNow 37 = .ok (.iaload, 1) := by decide +kernel
theorem dX6_looksNow_38 : decode cX6_looksNow 38 = .ok (.aload_n 0, 1) := by decide +kernel
theorem dX6_looksNow_39 : decode cX6_looksNow 39 = .ok (.getfield 7, 3) := by decide +kernel
theorem dX6_looksNow_42 : decode cX6_looksNow 42 = .ok (.iload_n 1, 1) := by decide +kernel
theorem dX6_looksNow_43 : decode cX6_looksNow 43 = .ok (.bipush 20, 2) := by decide +kernel
theorem dX6_looksNow_45 : decode cX6_looksNow 45 = .ok (.iadd, 1) := by decide +kernel
theorem dX6_looksNow_46 : decode cX6_looksNow 46 = .ok (.iload_n 2, 1) := by decide +kernel
theorem dX6_looksNow_47 : decode cX6_looksNow 47 = .ok (.iadd, 1) := by decide +kernel
theorem dX6_looksNow_48 : decode cX6_looksNow 48 = .ok (.iaload, 1) := by decide +kernel
theorem dX6_looksNow_49 : decode cX6_looksNow 49 = .ok (.isub, 1) := by decide +kernel
theorem dX6_looksNow_50 : decode cX6_looksNow 50 = .ok (.goto 4, 3) := by decide +kernel
theorem dX6_looksNow_53 : decode cX6_looksNow 53 = .ok (.iconst 0, 1) := by decide +kernel
theorem dX6_looksNow_54 : decode cX6_looksNow 54 = .ok (.iastore, 1) := by decide +kernel
theorem dX6_looksNow_55 : decode cX6_looksNow 55 = .ok (.iinc 2 1, 3) := by decide +kernel
theorem dX6_looksNow_58 : decode cX6_looksNow 58 = .ok (.goto (-56), 3) := by decide +kernel
theorem dX6_looksNow_61 : decode cX6_looksNow 61 = .ok (.return_, 1) := by decide +kernel
theorem dX6_mended_0 : decode cX6_mended 0 = .ok (.iload_n 1, 1) := by decide +kernel
theorem dX6_mended_1 : decode cX6_mended 1 = .ok (.aload_n 0, 1) := by decide +kernel
theorem dX6_mended_2 : decode cX6_mended 2 = .ok (.iload_n 2, 1) := by decide +kernel
theorem dX6_mended_3 : decode cX6_mended 3 = .ok (.invokevirtual 55, 3) := by decide +kernel
theorem dX6_mended_6 : decode cX6_mended 6 = .ok (.iload_n 3, 1) := by decide +kernel
theorem dX6_mended_7 : decode cX6_mended 7 = .ok (.imul, 1) := by decide +kernel
theorem dX6_mended_8 : decode cX6_mended 8 = .ok (.bipush 100, 2) := by decide +kernel
theorem dX6_mended_10 : decode cX6_mended 10 = .ok (.idiv, 1) := by decide +kernel
theorem dX6_mended_11 : decode cX6_mended 11 = .ok (.iadd, 1) := by decide +kernel
theorem dX6_mended_12 : decode cX6_mended 12 = .ok (.invokestatic 44, 3) := by decide +kernel
theorem dX6_mended_15 : decode cX6_mended 15 = .ok (.ireturn, 1) := by decide +kernel
theorem dX6_settles_0 : decode cX6_settles 0 = .ok (.iload_n 1, 1) := by decide +kernel
theorem dX6_settles_1 : decode cX6_settles 1 = .ok (.iload_n 2, 1) := by decide +kernel
theorem dX6_settles_2 : decode cX6_settles 2 = .ok (.invokestatic 25, 3) := by decide +kernel
theorem dX6_settles_5 : decode cX6_settles 5 = .ok (.istore 5, 2) := by decide +kernel
theorem dX6_settles_7 : decode cX6_settles 7 = .ok (.aload_n 0, 1) := by decide +kernel
theorem dX6_settles_8 : decode cX6_settles 8 = .ok (.getfield 7, 3) := by decide +kernel
theorem dX6_settles_11 : decode cX6_settles 11 = .ok (.iload 5, 2) := by decide +kernel
theorem dX6_settles_13 : decode cX6_settles 13 = .ok (.iconst 1, 1) := by decide +kernel
theorem dX6_settles_14 : decode cX6_settles 14 = .ok (.iadd, 1) := by decide +kernel
theorem dX6_settles_15 : decode cX6_settles 15 = .ok (.iaload, 1) := by decide +kernel
theorem dX6_settles_16 : decode cX6_settles 16 = .ok (.istore 6, 2) := by decide +kernel
theorem dX6_settles_18 : decode cX6_settles 18 = .ok (.aload_n 0, 1) := by decide +kernel
theorem dX6_settles_19 : decode cX6_settles 19 = .ok (.getfield 7, 3) := by decide +kernel
theorem dX6_settles_22 : decode cX6_settles 22 = .ok (.iload 5, 2) := by decide +kernel
theorem dX6_settles_24 : decode cX6_settles 24 = .ok (.iconst 2, 1) := by decide +kernel
theorem dX6_settles_25 : decode cX6_settles 25 = .ok (.iadd, 1) := by decide +kernel
theorem dX6_settles_26 : decode cX6_settles 26 = .ok (.iaload, 1) := by decide +kernel
theorem dX6_settles_27 : decode cX6_settles 27 = .ok (.iconst 1, 1) := by decide +kernel
theorem dX6_settles_28 : decode cX6_settles 28 = .ok (.if_icmp .ne 7, 3) := by decide +kernel
theorem dX6_settles_31 : decode cX6_settles 31 = .ok (.iconst 1, 1) := by decide +kernel
theorem dX6_settles_32 : decode cX6_settles 32 = .ok (.goto 4, 3) := by decide +kernel
theorem dX6_settles_35 : decode cX6_settles 35 = .ok (.iconst 0, 1) := by decide +kernel
theorem dX6_settles_36 : decode cX6_settles 36 = .ok (.istore 7, 2) := by decide +kernel
theorem dX6_settles_38 : decode cX6_settles 38 = .ok (.iload 6, 2) := by decide +kernel
theorem dX6_settles_40 : decode cX6_settles 40 = .ok (.ifCond .le 82, 3) := by decide +kernel
theorem dX6_settles_43 : decode cX6_settles 43 = .ok (.iload 7, 2) := by decide +kernel
theorem dX6_settles_45 : decode cX6_settles 45 = .ok (.iload 4, 2) := by decide +kernel
theorem dX6_settles_47 : decode cX6_settles 47 = .ok (.if_icmp .ne 75, 3) := by decide +kernel
theorem dX6_settles_50 : decode cX6_settles 50 = .ok (.iload 6, 2) := by decide +kernel
theorem dX6_settles_52 : decode cX6_settles 52 = .ok (.iload_n 3, 1) := by decide +kernel
theorem dX6_settles_53 : decode cX6_settles 53 = .ok (.iload 7, 2) := by decide +kernel
theorem dX6_settles_55 : decode cX6_settles 55 = .ok (.if_icmp .ne 7, 3) := by decide +kernel
theorem dX6_settles_58 : decode cX6_settles 58 = .ok (.iconst 1, 1) := by decide +kernel
theorem dX6_settles_59 : decode cX6_settles 59 = .ok (.goto 15, 3) := by decide +kernel
theorem dX6_settles_62 : decode cX6_settles 62 = .ok (.aload_n 0, 1) := by decide +kernel
theorem dX6_settles_63 : decode cX6_settles 63 = .ok (.getfield 7, 3) := by decide +kernel
theorem dX6_settles_66 : decode cX6_settles 66 = .ok (.iload_n 1, 1) := by decide +kernel
theorem dX6_settles_67 : decode cX6_settles 67 = .ok (.sipush 303, 3) := by decide +kernel
theorem dX6_settles_70 : decode cX6_settles 70 = .ok (.iadd, 1) := by decide +kernel
theorem dX6_settles_71 : decode cX6_settles 71 = .ok (.iconst 3, 1) := by decide +kernel
theorem dX6_settles_72 : decode cX6_settles 72 = .ok (.iadd, 1) := by decide +kernel
theorem dX6_settles_73 : decode cX6_settles 73 = .ok (.iaload, 1) := by decide +kernel
theorem dX6_settles_74 : decode cX6_settles 74 = .ok (.imul, 1) := by decide +kernel
theorem dX6_settles_75 : decode cX6_settles 75 = .ok (.istore 8, 2) := by decide +kernel
theorem dX6_settles_77 : decode cX6_settles 77 = .ok (.aload_n 0, 1) := by decide +kernel
theorem dX6_settles_78 : decode cX6_settles 78 = .ok (.getfield 7, 3) := by decide +kernel
theorem dX6_settles_81 : decode cX6_settles 81 = .ok (.iload 5, 2) := by decide +kernel
theorem dX6_settles_83 : decode cX6_settles 83 = .ok (.iconst 0, 1) := by decide +kernel
theorem dX6_settles_84 : decode cX6_settles 84 = .ok (.iadd, 1) := by decide +kernel
theorem dX6_settles_85 : decode cX6_settles 85 = .ok (.dup2, 1) := by decide +kernel
theorem dX6_settles_86 : decode cX6_settles 86 = .ok (.iaload, 1) := by decide +kernel
theorem dX6_settles_87 : decode cX6_settles 87 = .ok (.iload 6, 2) := by decide +kernel
theorem dX6_settles_89 : decode cX6_settles 89 = .ok (.iload 8, 2) := by decide +kernel
theorem dX6_settles_91 : decode cX6_settles 91 = .ok (.iadd, 1) := by decide +kernel
theorem dX6_settles_92 : decode cX6_settles 92 = .ok (.iadd, 1) := by decide +kernel
theorem dX6_settles_93 : decode cX6_settles 93 = .ok (.iastore, 1) := by decide +kernel
theorem dX6_settles_94 : decode cX6_settles 94 = .ok (.aload_n 0, 1) := by decide +kernel
theorem dX6_settles_95 : decode cX6_settles 95 = .ok (.getfield 7, 3) := by decide +kernel
theorem dX6_settles_98 : decode cX6_settles 98 = .ok (.iload_n 1, 1) := by decide +kernel
theorem dX6_settles_99 : decode cX6_settles 99 = .ok (.sipush 351, 3) := by decide +kernel
theorem dX6_settles_102 : decode cX6_settles 102 = .ok (.iadd, 1) := by decide +kernel
theorem dX6_settles_103 : decode cX6_settles 103 = .ok (.dup2, 1) := by decide +kernel
theorem dX6_settles_104 : decode cX6_settles 104 = .ok (.iaload, 1) := by decide +kernel
theorem dX6_settles_105 : decode cX6_settles 105 = .ok (.iload 8, 2) := by decide +kernel
theorem dX6_settles_107 : decode cX6_settles 107 = .ok (.isub, 1) := by decide +kernel
theorem dX6_settles_108 : decode cX6_settles 108 = .ok (.iastore, 1) := by decide +kernel
theorem dX6_settles_109 : decode cX6_settles 109 = .ok (.aload_n 0, 1) := by decide +kernel
theorem dX6_settles_110 : decode cX6_settles 110 = .ok (.getfield 7, 3) := by decide +kernel
theorem dX6_settles_113 : decode cX6_settles 113 = .ok (.iload 5, 2) := by decide +kernel
theorem dX6_settles_115 : decode cX6_settles 115 = .ok (.iconst 3, 1) := by decide +kernel
theorem dX6_settles_116 : decode cX6_settles 116 = .ok (.iadd, 1) := by decide +kernel
theorem dX6_settles_117 : decode cX6_settles 117 = .ok (.dup2, 1) := by decide +kernel
theorem dX6_settles_118 : decode cX6_settles 118 = .ok (.iaload, 1) := by decide +kernel
theorem dX6_settles_119 : decode cX6_settles 119 = .ok (.iconst 1, 1) := by decide +kernel
theorem dX6_settles_120 : decode cX6_settles 120 = .ok (.iadd, 1) := by decide +kernel
theorem dX6_settles_121 : decode cX6_settles 121 = .ok (.iastore, 1) := by decide +kernel
theorem dX6_settles_122 : decode cX6_settles 122 = .ok (.iload 6, 2) := by decide +kernel
theorem dX6_settles_124 : decode cX6_settles 124 = .ok (.ifCond .le 38, 3) := by decide +kernel
theorem dX6_settles_127 : decode cX6_settles 127 = .ok (.iload 7, 2) := by decide +kernel
theorem dX6_settles_129 : decode cX6_settles 129 = .ok (.iload 4, 2) := by decide +kernel
theorem dX6_settles_131 : decode cX6_settles 131 = .ok (.if_icmp .eq 31, 3) := by decide +kernel
theorem dX6_settles_134 : decode cX6_settles 134 = .ok (.aload_n 0, 1) := by decide +kernel
theorem dX6_settles_135 : decode cX6_settles 135 = .ok (.getfield 7, 3) := by decide +kernel
theorem dX6_settles_138 : decode cX6_settles 138 = .ok (.iload_n 1, 1) := by decide +kernel
theorem dX6_settles_139 : decode cX6_settles 139 = .ok (.sipush 351, 3) := by decide +kernel
theorem dX6_settles_142 : decode cX6_settles 142 = .ok (.iadd, 1) := by decide +kernel
theorem dX6_settles_143 : decode cX6_settles 143 = .ok (.dup2, 1) := by decide +kernel
theorem dX6_settles_144 : decode cX6_settles 144 = .ok (.iaload, 1) := by decide +kernel
theorem dX6_settles_145 : decode cX6_settles 145 = .ok (.iload 6, 2) := by decide +kernel
theorem dX6_settles_147 : decode cX6_settles 147 = .ok (.iadd, 1) := by decide +kernel
theorem dX6_settles_148 : decode cX6_settles 148 = .ok (.iastore, 1) := by decide +kernel
theorem dX6_settles_149 : decode cX6_settles 149 = .ok (.aload_n 0, 1) := by decide +kernel
theorem dX6_settles_150 : decode cX6_settles 150 = .ok (.getfield 7, 3) := by decide +kernel
theorem dX6_settles_153 : decode cX6_settles 153 = .ok (.iload 5, 2) := by decide +kernel
theorem dX6_settles_155 : decode cX6_settles 155 = .ok (.iconst 4, 1) := by decide +kernel
theorem dX6_settles_156 : decode cX6_settles 156 = .ok (.iadd, 1) := by decide +kernel
theorem dX6_settles_157 : decode cX6_settles 157 = .ok (.dup2, 1) := by decide +kernel
theorem dX6_settles_158 : decode cX6_settles 158 = .ok (.iaload, 1) := by decide +kernel
theorem dX6_settles_159 : decode cX6_settles 159 = .ok (.iconst 1, 1) := by decide +kernel
theorem dX6_settles_160 : decode cX6_settles 160 = .ok (.iadd, 1) := by decide +kernel
theorem dX6_settles_161 : decode cX6_settles 161 = .ok (.iastore, 1) := by decide +kernel
theorem dX6_settles_162 : decode cX6_settles 162 = .ok (.aload_n 0, 1) := by decide +kernel
theorem dX6_settles_163 : decode cX6_settles 163 = .ok (.getfield 7, 3) := by decide +kernel
theorem dX6_settles_166 : decode cX6_settles 166 = .ok (.iload 5, 2) := by decide +kernel
theorem dX6_settles_168 : decode cX6_settles 168 = .ok (.iconst 1, 1) := by decide +kernel
theorem dX6_settles_169 : decode cX6_settles 169 = .ok (.iadd, 1) := by decide +kernel
theorem dX6_settles_170 : decode cX6_settles 170 = .ok (.iconst 0, 1) := by decide +kernel
theorem dX6_settles_171 : decode cX6_settles 171 = .ok (.iastore, 1) := by decide +kernel
theorem dX6_settles_172 : decode cX6_settles 172 = .ok (.aload_n 0, 1) := by decide +kernel
theorem dX6_settles_173 : decode cX6_settles 173 = .ok (.getfield 7, 3) := by decide +kernel
theorem dX6_settles_176 : decode cX6_settles 176 = .ok (.iload 5, 2) := by decide +kernel
theorem dX6_settles_178 : decode cX6_settles 178 = .ok (.iconst 2, 1) := by decide +kernel
theorem dX6_settles_179 : decode cX6_settles 179 = .ok (.iadd, 1) := by decide +kernel
theorem dX6_settles_180 : decode cX6_settles 180 = .ok (.iconst 0, 1) := by decide +kernel
theorem dX6_settles_181 : decode cX6_settles 181 = .ok (.iastore, 1) := by decide +kernel
theorem dX6_settles_182 : decode cX6_settles 182 = .ok (.return_, 1) := by decide +kernel
theorem dX6_ends_0 : decode cX6_ends 0 = .ok (.aload_n 0, 1) := by decide +kernel
theorem dX6_ends_1 : decode cX6_ends 1 = .ok (.iload_n 1, 1) := by decide +kernel
theorem dX6_ends_2 : decode cX6_ends 2 = .ok (.invokevirtual 58, 3) := by decide +kernel
theorem dX6_ends_5 : decode cX6_ends 5 = .ok (.sipush 239, 3) := by decide +kernel
theorem dX6_ends_8 : decode cX6_ends 8 = .ok (.istore_n 2, 1) := by decide +kernel
theorem dX6_ends_9 : decode cX6_ends 9 = .ok (.iload_n 2, 1) := by decide +kernel
theorem dX6_ends_10 : decode cX6_ends 10 = .ok (.bipush 60, 2) := by decide +kernel
theorem dX6_ends_12 : decode cX6_ends 12 = .ok (.if_icmp .lt 34, 3) := by decide +kernel
theorem dX6_ends_15 : decode cX6_ends 15 = .ok (.aload_n 0, 1) := by decide +kernel
theorem dX6_ends_16 : decode cX6_ends 16 = .ok (.getfield 7, 3) := by decide +kernel
theorem dX6_ends_19 : decode cX6_ends 19 = .ok (.iload_n 1, 1) := by decide +kernel
theorem dX6_ends_20 : decode cX6_ends 20 = .ok (.bipush 60, 2) := by decide +kernel
theorem dX6_ends_22 : decode cX6_ends 22 = .ok (.iadd, 1) := by decide +kernel
theorem dX6_ends_23 : decode cX6_ends 23 = .ok (.iload_n 2, 1) := by decide +kernel
theorem dX6_ends_24 : decode cX6_ends 24 = .ok (.iadd, 1) := by decide +kernel
theorem dX6_ends_25 : decode cX6_ends 25 = .ok (.aload_n 0, 1) := by decide +kernel
theorem dX6_ends_26 : decode cX6_ends 26 = .ok (.getfield 7, 3) := by decide +kernel
theorem dX6_ends_29 : decode cX6_ends 29 = .ok (.iload_n 1, 1) := by decide +kernel
theorem dX6_ends_30 : decode cX6_ends 30 = .ok (.bipush 60, 2) := by decide +kernel
theorem dX6_ends_32 : decode cX6_ends 32 = .ok (.iadd, 1) := by decide +kernel
theorem dX6_ends_33 : decode cX6_ends 33 = .ok (.iload_n 2, 1) := by decide +kernel
theorem dX6_ends_34 : decode cX6_ends 34 = .ok (.iadd, 1) := by decide +kernel
theorem dX6_ends_35 : decode cX6_ends 35 = .ok (.bipush 60, 2) := by decide +kernel
theorem dX6_ends_37 : decode cX6_ends 37 = .ok (.isub, 1) := by decide +kernel
theorem dX6_ends_38 : decode cX6_ends 38 = .ok (.iaload, 1) := by decide +kernel
theorem dX6_ends_39 : decode cX6_ends 39 = .ok (.iastore, 1) := by decide +kernel
theorem dX6_ends_40 : decode cX6_ends 40 = .ok (.iinc 2 (-1), 3) := by decide +kernel
theorem dX6_ends_43 : decode cX6_ends 43 = .ok (.goto (-34), 3) := by decide +kernel
theorem dX6_ends_46 : decode cX6_ends 46 = .ok (.iconst 0, 1) := by decide +kernel
theorem dX6_ends_47 : decode cX6_ends 47 = .ok (.istore_n 2, 1) := by decide +kernel
theorem dX6_ends_48 : decode cX6_ends 48 = .ok (.iload_n 2, 1) := by decide +kernel
theorem dX6_ends_49 : decode cX6_ends 49 = .ok (.bipush 20, 2) := by decide +kernel
theorem dX6_ends_51 : decode cX6_ends 51 = .ok (.if_icmp .ge 75, 3) := by decide +kernel
theorem dX6_ends_54 : decode cX6_ends 54 = .ok (.aload_n 0, 1) := by decide +kernel
theorem dX6_ends_55 : decode cX6_ends 55 = .ok (.getfield 7, 3) := by decide +kernel
theorem dX6_ends_58 : decode cX6_ends 58 = .ok (.iload_n 1, 1) := by decide +kernel
theorem dX6_ends_59 : decode cX6_ends 59 = .ok (.bipush 60, 2) := by decide +kernel
theorem dX6_ends_61 : decode cX6_ends 61 = .ok (.iadd, 1) := by decide +kernel
theorem dX6_ends_62 : decode cX6_ends 62 = .ok (.iload_n 2, 1) := by decide +kernel
theorem dX6_ends_63 : decode cX6_ends 63 = .ok (.iadd, 1) := by decide +kernel
theorem dX6_ends_64 : decode cX6_ends 64 = .ok (.aload_n 0, 1) := by decide +kernel
theorem dX6_ends_65 : decode cX6_ends 65 = .ok (.getfield 7, 3) := by decide +kernel
theorem dX6_ends_68 : decode cX6_ends 68 = .ok (.iload_n 1, 1) := by decide +kernel
theorem dX6_ends_69 : decode cX6_ends 69 = .ok (.bipush 40, 2) := by decide +kernel
theorem dX6_ends_71 : decode cX6_ends 71 = .ok (.iadd, 1) := by decide +kernel
theorem dX6_ends_72 : decode cX6_ends 72 = .ok (.iload_n 2, 1) := by decide +kernel
theorem dX6_ends_73 : decode cX6_ends 73 = .ok (.iadd, 1) := by decide +kernel
theorem dX6_ends_74 : decode cX6_ends 74 = .ok (.iaload, 1) := by decide +kernel
theorem dX6_ends_75 : decode cX6_ends 75 = .ok (.iastore, 1) := by decide +kernel
theorem dX6_ends_76 : decode cX6_ends 76 = .ok (.aload_n 0, 1) := by decide +kernel
theorem dX6_ends_77 : decode cX6_ends 77 = .ok (.getfield 7, 3) := by decide +kernel
theorem dX6_ends_80 : decode cX6_ends 80 = .ok (.iload_n 1, 1) := by decide +kernel
theorem dX6_ends_81 : decode cX6_ends 81 = .ok (.bipush 60, 2) := by decide +kernel
theorem dX6_ends_83 : decode cX6_ends 83 = .ok (.iadd, 1) := by decide +kernel
theorem dX6_ends_84 : decode cX6_ends 84 = .ok (.bipush 20, 2) := by decide +kernel
theorem dX6_ends_86 : decode cX6_ends 86 = .ok (.iadd, 1) := by decide +kernel
theorem dX6_ends_87 : decode cX6_ends 87 = .ok (.iload_n 2, 1) := by decide +kernel
theorem dX6_ends_88 : decode cX6_ends 88 = .ok (.iadd, 1) := by decide +kernel
theorem dX6_ends_89 : decode cX6_ends 89 = .ok (.aload_n 0, 1) := by decide +kernel
theorem dX6_ends_90 : decode cX6_ends 90 = .ok (.getfield 22, 3) := by decide +kernel
theorem dX6_ends_93 : decode cX6_ends 93 = .ok (.iload_n 2, 1) := by decide +kernel
theorem dX6_ends_94 : decode cX6_ends 94 = .ok (.iaload, 1) := by decide +kernel
theorem dX6_ends_95 : decode cX6_ends 95 = .ok (.iastore, 1) := by decide +kernel
theorem dX6_ends_96 : decode cX6_ends 96 = .ok (.aload_n 0, 1) := by decide +kernel
theorem dX6_ends_97 : decode cX6_ends 97 = .ok (.getfield 7, 3) := by decide +kernel
theorem dX6_ends_100 : decode cX6_ends 100 = .ok (.iload_n 1, 1) := by decide +kernel
theorem dX6_ends_101 : decode cX6_ends 101 = .ok (.bipush 60, 2) := by decide +kernel
theorem dX6_ends_103 : decode cX6_ends 103 = .ok (.iadd, 1) := by decide +kernel
theorem dX6_ends_104 : decode cX6_ends 104 = .ok (.bipush 40, 2) := by decide +kernel
theorem dX6_ends_106 : decode cX6_ends 106 = .ok (.iadd, 1) := by decide +kernel
theorem dX6_ends_107 : decode cX6_ends 107 = .ok (.iload_n 2, 1) := by decide +kernel
theorem dX6_ends_108 : decode cX6_ends 108 = .ok (.iadd, 1) := by decide +kernel
theorem dX6_ends_109 : decode cX6_ends 109 = .ok (.aload_n 0, 1) := by decide +kernel
theorem dX6_ends_110 : decode cX6_ends 110 = .ok (.getfield 7, 3) := by decide +kernel
theorem dX6_ends_113 : decode cX6_ends 113 = .ok (.iload_n 1, 1) := by decide +kernel
theorem dX6_ends_114 : decode cX6_ends 114 = .ok (.iconst 0, 1) := by decide +kernel
theorem dX6_ends_115 : decode cX6_ends 115 = .ok (.iadd, 1) := by decide +kernel
theorem dX6_ends_116 : decode cX6_ends 116 = .ok (.iload_n 2, 1) := by decide +kernel
theorem dX6_ends_117 : decode cX6_ends 117 = .ok (.iadd, 1) := by decide +kernel
theorem dX6_ends_118 : decode cX6_ends 118 = .ok (.iaload, 1) := by decide +kernel
theorem dX6_ends_119 : decode cX6_ends 119 = .ok (.iastore, 1) := by decide +kernel
theorem dX6_ends_120 : decode cX6_ends 120 = .ok (.iinc 2 1, 3) := by decide +kernel
theorem dX6_ends_123 : decode cX6_ends 123 = .ok (.goto (-75), 3) := by decide +kernel
theorem dX6_ends_126 : decode cX6_ends 126 = .ok (.iconst 0, 1) := by decide +kernel
theorem dX6_ends_127 : decode cX6_ends 127 = .ok (.istore_n 2, 1) := by decide +kernel
theorem dX6_ends_128 : decode cX6_ends 128 = .ok (.iload_n 2, 1) := by decide +kernel
theorem dX6_ends_129 : decode cX6_ends 129 = .ok (.bipush 20, 2) := by decide +kernel
theorem dX6_ends_131 : decode cX6_ends 131 = .ok (.if_icmp .ge 46, 3) := by decide +kernel
theorem dX6_ends_134 : decode cX6_ends 134 = .ok (.aload_n 0, 1) := by decide +kernel
theorem dX6_ends_135 : decode cX6_ends 135 = .ok (.getfield 7, 3) := by decide +kernel
theorem dX6_ends_138 : decode cX6_ends 138 = .ok (.iload_n 1, 1) := by decide +kernel
theorem dX6_ends_139 : decode cX6_ends 139 = .ok (.iconst 0, 1) := by decide +kernel
theorem dX6_ends_140 : decode cX6_ends 140 = .ok (.iadd, 1) := by decide +kernel
theorem dX6_ends_141 : decode cX6_ends 141 = .ok (.iload_n 2, 1) := by decide +kernel
theorem dX6_ends_142 : decode cX6_ends 142 = .ok (.iadd, 1) := by decide +kernel
theorem dX6_ends_143 : decode cX6_ends 143 = .ok (.aload_n 0, 1) := by decide +kernel
theorem dX6_ends_144 : decode cX6_ends 144 = .ok (.aload_n 0, 1) := by decide +kernel
theorem dX6_ends_145 : decode cX6_ends 145 = .ok (.getfield 7, 3) := by decide +kernel
theorem dX6_ends_148 : decode cX6_ends 148 = .ok (.iload_n 1, 1) := by decide +kernel
theorem dX6_ends_149 : decode cX6_ends 149 = .ok (.iconst 0, 1) := by decide +kernel
theorem dX6_ends_150 : decode cX6_ends 150 = .ok (.iadd, 1) := by decide +kernel
theorem dX6_ends_151 : decode cX6_ends 151 = .ok (.iload_n 2, 1) := by decide +kernel
theorem dX6_ends_152 : decode cX6_ends 152 = .ok (.iadd, 1) := by decide +kernel
theorem dX6_ends_153 : decode cX6_ends 153 = .ok (.iaload, 1) := by decide +kernel
theorem dX6_ends_154 : decode cX6_ends 154 = .ok (.iload_n 2, 1) := by decide +kernel
theorem dX6_ends_155 : decode cX6_ends 155 = .ok (.aload_n 0, 1) := by decide +kernel
theorem dX6_ends_156 : decode cX6_ends 156 = .ok (.getfield 7, 3) := by decide +kernel
theorem dX6_ends_159 : decode cX6_ends 159 = .ok (.iload_n 1, 1) := by decide +kernel
theorem dX6_ends_160 : decode cX6_ends 160 = .ok (.sipush 303, 3) := by decide +kernel
theorem dX6_ends_163 : decode cX6_ends 163 = .ok (.iadd, 1) := by decide +kernel
theorem dX6_ends_164 : decode cX6_ends 164 = .ok (.iconst 1, 1) := by decide +kernel
theorem dX6_ends_165 : decode cX6_ends 165 = .ok (.iadd, 1) := by decide +kernel
theorem dX6_ends_166 : decode cX6_ends 166 = .ok (.iaload, 1) := by decide +kernel
theorem dX6_ends_167 : decode cX6_ends 167 = .ok (.invokevirtual 62, 3) := by decide +kernel
theorem dX6_ends_170 : decode cX6_ends 170 = .ok (.iastore, 1) := by decide +kernel
theorem dX6_ends_171 : decode cX6_ends 171 = .ok (.iinc 2 1, 3) := by decide +kernel
theorem dX6_ends_174 : decode cX6_ends 174 = .ok (.goto (-46), 3) := by decide +kernel
theorem dX6_ends_177 : decode cX6_ends 177 = .ok (.aload_n 0, 1) := by decide +kernel
theorem dX6_ends_178 : decode cX6_ends 178 = .ok (.getfield 7, 3) := by decide +kernel
theorem dX6_ends_181 : decode cX6_ends 181 = .ok (.iload_n 1, 1) := by decide +kernel
theorem dX6_ends_182 : decode cX6_ends 182 = .ok (.sipush 302, 3) := by decide +kernel
theorem dX6_ends_185 : decode cX6_ends 185 = .ok (.iadd, 1) := by decide +kernel
theorem dX6_ends_186 : decode cX6_ends 186 = .ok (.dup2, 1) := by decide +kernel
theorem dX6_ends_187 : decode cX6_ends 187 = .ok (.iaload, 1) := by decide +kernel
theorem dX6_ends_188 : decode cX6_ends 188 = .ok (.aload_n 0, 1) := by decide +kernel
theorem dX6_ends_189 : decode cX6_ends 189 = .ok (.getfield 7, 3) := by decide +kernel
theorem dX6_ends_192 : decode cX6_ends 192 = .ok (.iload_n 1, 1) := by decide +kernel
theorem dX6_ends_193 : decode cX6_ends 193 = .ok (.sipush 302, 3) := by decide +kernel
theorem dX6_ends_196 : decode cX6_ends 196 = .ok (.iadd, 1) := by decide +kernel
theorem dX6_ends_197 : decode cX6_ends 197 = .ok (.iaload, 1) := by decide +kernel
theorem dX6_ends_198 : decode cX6_ends 198 = .ok (.iconst 4, 1) := by decide +kernel
theorem dX6_ends_199 : decode cX6_ends 199 = .ok (.if_icmp .ge 7, 3) := by decide +kernel
theorem dX6_ends_202 : decode cX6_ends 202 = .ok (.iconst 1, 1) := by decide +kernel
theorem dX6_ends_203 : decode cX6_ends 203 = .ok (.goto 4, 3) := by decide +kernel
theorem dX6_ends_206 : decode cX6_ends 206 = .ok (.iconst 0, 1) := by decide +kernel
theorem dX6_ends_207 : decode cX6_ends 207 = .ok (.iadd, 1) := by decide +kernel
theorem dX6_ends_208 : decode cX6_ends 208 = .ok (.iastore, 1) := by decide +kernel
theorem dX6_ends_209 : decode cX6_ends 209 = .ok (.aload_n 0, 1) := by decide +kernel
theorem dX6_ends_210 : decode cX6_ends 210 = .ok (.getfield 7, 3) := by decide +kernel
theorem dX6_ends_213 : decode cX6_ends 213 = .ok (.iload_n 1, 1) := by decide +kernel
theorem dX6_ends_214 : decode cX6_ends 214 = .ok (.sipush 300, 3) := by decide +kernel
theorem dX6_ends_217 : decode cX6_ends 217 = .ok (.iadd, 1) := by decide +kernel
theorem dX6_ends_218 : decode cX6_ends 218 = .ok (.iconst 0, 1) := by decide +kernel
theorem dX6_ends_219 : decode cX6_ends 219 = .ok (.iastore, 1) := by decide +kernel
theorem dX6_ends_220 : decode cX6_ends 220 = .ok (.aload_n 0, 1) := by decide +kernel
theorem dX6_ends_221 : decode cX6_ends 221 = .ok (.getfield 7, 3) := by decide +kernel
theorem dX6_ends_224 : decode cX6_ends 224 = .ok (.iload_n 1, 1) := by decide +kernel
theorem dX6_ends_225 : decode cX6_ends 225 = .ok (.sipush 301, 3) := by decide +kernel
theorem dX6_ends_228 : decode cX6_ends 228 = .ok (.iadd, 1) := by decide +kernel
theorem dX6_ends_229 : decode cX6_ends 229 = .ok (.dup2, 1) := by decide +kernel
theorem dX6_ends_230 : decode cX6_ends 230 = .ok (.iaload, 1) := by decide +kernel
theorem dX6_ends_231 : decode cX6_ends 231 = .ok (.iconst 1, 1) := by decide +kernel
theorem dX6_ends_232 : decode cX6_ends 232 = .ok (.iadd, 1) := by decide +kernel
theorem dX6_ends_233 : decode cX6_ends 233 = .ok (.iastore, 1) := by decide +kernel
theorem dX6_ends_234 : decode cX6_ends 234 = .ok (.return_, 1) := by decide +kernel
theorem dX6_measures_0 : decode cX6_measures 0 = .ok (.aload_n 0, 1) := by decide +kernel
theorem dX6_measures_1 : decode cX6_measures 1 = .ok (.getfield 7, 3) := by decide +kernel
theorem dX6_measures_4 : decode cX6_measures 4 = .ok (.iload_n 1, 1) := by decide +kernel
theorem dX6_measures_5 : decode cX6_measures 5 = .ok (.sipush 300, 3) := by decide +kernel
theorem dX6_measures_8 : decode cX6_measures 8 = .ok (.iadd, 1) := by decide +kernel
theorem dX6_measures_9 : decode cX6_measures 9 = .ok (.iaload, 1) := by decide +kernel
theorem dX6_measures_10 : decode cX6_measures 10 = .ok (.istore_n 3, 1) := by decide +kernel
theorem dX6_measures_11 : decode cX6_measures 11 = .ok (.aload_n 0, 1) := by decide +kernel
theorem dX6_measures_12 : decode cX6_measures 12 = .ok (.iload_n 1, 1) := by decide +kernel
theorem dX6_measures_13 : decode cX6_measures 13 = .ok (.iload_n 3, 1) := by decide +kernel
theorem dX6_measures_14 : decode cX6_measures 14 = .ok (.invokevirtual 66, 3) := by decide +kernel
theorem dX6_measures_17 : decode cX6_measures 17 = .ok (.istore 4, 2) := by decide +kernel
theorem dX6_measures_19 : decode cX6_measures 19 = .ok (.iload 4, 2) := by decide +kernel
theorem dX6_measures_21 : decode cX6_measures 21 = .ok (.aload_n 0, 1) := by decide +kernel
theorem dX6_measures_22 : decode cX6_measures 22 = .ok (.getfield 7, 3) := by decide +kernel
theorem dX6_measures_25 : decode cX6_measures 25 = .ok (.iload_n 1, 1) := by decide +kernel
theorem dX6_measures_26 : decode cX6_measures 26 = .ok (.sipush 303, 3) := by decide +kernel
theorem dX6_measures_29 : decode cX6_measures 29 = .ok (.iadd, 1) := by decide +kernel
theorem dX6_measures_30 : decode cX6_measures 30 = .ok (.iconst 2, 1) := by decide +kernel
theorem dX6_measures_31 : decode cX6_measures 31 = .ok (.iadd, 1) := by decide +kernel
theorem dX6_measures_32 : decode cX6_measures 32 = .ok (.iaload, 1) := by decide +kernel
theorem dX6_measures_33 : decode cX6_measures 33 = .ok (.if_icmp .gt 7, 3) := by decide +kernel
theorem dX6_measures_36 : decode cX6_measures 36 = .ok (.iconst 1, 1) := by decide +kernel
theorem dX6_measures_37 : decode cX6_measures 37 = .ok (.goto 4, 3) := by decide +kernel
theorem dX6_measures_40 : decode cX6_measures 40 = .ok (.iconst 0, 1) := by decide +kernel
theorem dX6_measures_41 : decode cX6_measures 41 = .ok (.istore 5, 2) := by decide +kernel
theorem dX6_measures_43 : decode cX6_measures 43 = .ok (.iload_n 2, 1) := by decide +kernel
theorem dX6_measures_44 : decode cX6_measures 44 = .ok (.ifCond .gt 7, 3) := by decide +kernel
theorem dX6_measures_47 : decode cX6_measures 47 = .ok (.iconst 1, 1) := by decide +kernel
theorem dX6_measures_48 : decode cX6_measures 48 = .ok (.goto 4, 3) := by decide +kernel
theorem dX6_measures_51 : decode cX6_measures 51 = .ok (.iconst 0, 1) := by decide +kernel
theorem dX6_measures_52 : decode cX6_measures 52 = .ok (.istore 6, 2) := by decide +kernel
theorem dX6_measures_54 : decode cX6_measures 54 = .ok (.aload_n 0, 1) := by decide +kernel
theorem dX6_measures_55 : decode cX6_measures 55 = .ok (.getfield 7, 3) := by decide +kernel
theorem dX6_measures_58 : decode cX6_measures 58 = .ok (.iload_n 1, 1) := by decide +kernel
theorem dX6_measures_59 : decode cX6_measures 59 = .ok (.bipush 20, 2) := by decide +kernel
theorem dX6_measures_61 : decode cX6_measures 61 = .ok (.iadd, 1) := by decide +kernel
theorem dX6_measures_62 : decode cX6_measures 62 = .ok (.iload_n 3, 1) := by decide +kernel
theorem dX6_measures_63 : decode cX6_measures 63 = .ok (.iadd, 1) := by decide +kernel
theorem dX6_measures_64 : decode cX6_measures 64 = .ok (.iload 4, 2) := by decide +kernel
theorem dX6_measures_66 : decode cX6_measures 66 = .ok (.iastore, 1) := by decide +kernel
theorem dX6_measures_67 : decode cX6_measures 67 = .ok (.aload_n 0, 1) := by decide +kernel
theorem dX6_measures_68 : decode cX6_measures 68 = .ok (.getfield 7, 3) := by decide +kernel
theorem dX6_measures_71 : decode cX6_measures 71 = .ok (.iload_n 1, 1) := by decide +kernel
theorem dX6_measures_72 : decode cX6_measures 72 = .ok (.bipush 40, 2) := by decide +kernel
theorem dX6_measures_74 : decode cX6_measures 74 = .ok (.iadd, 1) := by decide +kernel
theorem dX6_measures_75 : decode cX6_measures 75 = .ok (.iload_n 3, 1) := by decide +kernel
theorem dX6_measures_76 : decode cX6_measures 76 = .ok (.iadd, 1) := by decide +kernel
theorem dX6_measures_77 : decode cX6_measures 77 = .ok (.iload_n 2, 1) := by decide +kernel
theorem dX6_measures_78 : decode cX6_measures 78 = .ok (.iastore, 1) := by decide +kernel
theorem dX6_measures_79 : decode cX6_measures 79 = .ok (.aload_n 0, 1) := by decide +kernel
theorem dX6_measures_80 : decode cX6_measures 80 = .ok (.getfield 7, 3) := by decide +kernel
theorem dX6_measures_83 : decode cX6_measures 83 = .ok (.iload_n 1, 1) := by decide +kernel
theorem dX6_measures_84 : decode cX6_measures 84 = .ok (.sipush 348, 3) := by decide +kernel
theorem dX6_measures_87 : decode cX6_measures 87 = .ok (.iadd, 1) := by decide +kernel
theorem dX6_measures_88 : decode cX6_measures 88 = .ok (.dup2, 1) := by decide +kernel
theorem dX6_measures_89 : decode cX6_measures 89 = .ok (.iaload, 1) := by decide +kernel
theorem dX6_measures_90 : decode cX6_measures 90 = .ok (.iload 6, 2) := by decide +kernel
theorem dX6_measures_92 : decode cX6_measures 92 = .ok (.ifCond .eq 12, 3) := by decide +kernel
theorem dX6_measures_95 : decode cX6_measures 95 = .ok (.iload 5, 2) := by decide +kernel
theorem dX6_measures_97 : decode cX6_measures 97 = .ok (.ifCond .eq 7, 3) := by decide +kernel
theorem dX6_measures_100 : decode cX6_measures 100 = .ok (.iconst 1, 1) := by decide +kernel
theorem dX6_measures_101 : decode cX6_measures 101 = .ok (.goto 4, 3) := by decide +kernel
theorem dX6_measures_104 : decode cX6_measures 104 = .ok (.iconst 0, 1) := by decide +kernel
theorem dX6_measures_105 : decode cX6_measures 105 = .ok (.iadd, 1) := by decide +kernel
theorem dX6_measures_106 : decode cX6_measures 106 = .ok (.iastore, 1) := by decide +kernel
theorem dX6_measures_107 : decode cX6_measures 107 = .ok (.aload_n 0, 1) := by decide +kernel
theorem dX6_measures_108 : decode cX6_measures 108 = .ok (.getfield 7, 3) := by decide +kernel
theorem dX6_measures_111 : decode cX6_measures 111 = .ok (.iload_n 1, 1) := by decide +kernel
theorem dX6_measures_112 : decode cX6_measures 112 = .ok (.sipush 348, 3) := by decide +kernel
theorem dX6_measures_115 : decode cX6_measures 115 = .ok (.iadd, 1) := by decide +kernel
theorem dX6_measures_116 : decode cX6_measures 116 = .ok (.iconst 1, 1) := by decide +kernel
theorem dX6_measures_117 : decode cX6_measures 117 = .ok (.iadd, 1) := by decide +kernel
theorem dX6_measures_118 : decode cX6_measures 118 = .ok (.dup2, 1) := by decide +kernel
theorem dX6_measures_119 : decode cX6_measures 119 = .ok (.iaload, 1) := by decide +kernel
theorem dX6_measures_120 : decode cX6_measures 120 = .ok (.iload 6, 2) := by decide +kernel
theorem dX6_measures_122 : decode cX6_measures 122 = .ok (.ifCond .eq 12, 3) := by decide +kernel
theorem dX6_measures_125 : decode cX6_measures 125 = .ok (.iload 5, 2) := by decide +kernel
theorem dX6_measures_127 : decode cX6_measures 127 = .ok (.ifCond .ne 7, 3) := by decide +kernel
theorem dX6_measures_130 : decode cX6_measures 130 = .ok (.iconst 1, 1) := by decide +kernel
theorem dX6_measures_131 : decode cX6_measures 131 = .ok (.goto 4, 3) := by decide +kernel
theorem dX6_measures_134 : decode cX6_measures 134 = .ok (.iconst 0, 1) := by decide +kernel
theorem dX6_measures_135 : decode cX6_measures 135 = .ok (.iadd, 1) := by decide +kernel
theorem dX6_measures_136 : decode cX6_measures 136 = .ok (.iastore, 1) := by decide +kernel
theorem dX6_measures_137 : decode cX6_measures 137 = .ok (.aload_n 0, 1) := by decide +kernel
theorem dX6_measures_138 : decode cX6_measures 138 = .ok (.getfield 7, 3) := by decide +kernel
theorem dX6_measures_141 : decode cX6_measures 141 = .ok (.iload_n 1, 1) := by decide +kernel
theorem dX6_measures_142 : decode cX6_measures 142 = .ok (.sipush 348, 3) := by decide +kernel
theorem dX6_measures_145 : decode cX6_measures 145 = .ok (.iadd, 1) := by decide +kernel
theorem dX6_measures_146 : decode cX6_measures 146 = .ok (.iconst 2, 1) := by decide +kernel
theorem dX6_measures_147 : decode cX6_measures 147 = .ok (.iadd, 1) := by decide +kernel
theorem dX6_measures_148 : decode cX6_measures 148 = .ok (.dup2, 1) := by decide +kernel
theorem dX6_measures_149 : decode cX6_measures 149 = .ok (.iaload, 1) := by decide +kernel
theorem dX6_measures_150 : decode cX6_measures 150 = .ok (.iload 6, 2) := by decide +kernel
theorem dX6_measures_152 : decode cX6_measures 152 = .ok (.ifCond .ne 12, 3) := by decide +kernel
theorem dX6_measures_155 : decode cX6_measures 155 = .ok (.iload 5, 2) := by decide +kernel
theorem dX6_measures_157 : decode cX6_measures 157 = .ok (.ifCond .eq 7, 3) := by decide +kernel
theorem dX6_measures_160 : decode cX6_measures 160 = .ok (.iconst 1, 1) := by decide +kernel
theorem dX6_measures_161 : decode cX6_measures 161 = .ok (.goto 4, 3) := by decide +kernel
theorem dX6_measures_164 : decode cX6_measures 164 = .ok (.iconst 0, 1) := by decide +kernel
theorem dX6_measures_165 : decode cX6_measures 165 = .ok (.iadd, 1) := by decide +kernel
theorem dX6_measures_166 : decode cX6_measures 166 = .ok (.iastore, 1) := by decide +kernel
theorem dX6_measures_167 : decode cX6_measures 167 = .ok (.iconst 0, 1) := by decide +kernel
theorem dX6_measures_168 : decode cX6_measures 168 = .ok (.istore 7, 2) := by decide +kernel
theorem dX6_measures_170 : decode cX6_measures 170 = .ok (.iload 7, 2) := by decide +kernel
theorem dX6_measures_172 : decode cX6_measures 172 = .ok (.iconst 4, 1) := by decide +kernel
theorem dX6_measures_173 : decode cX6_measures 173 = .ok (.if_icmp .ge 20, 3) := by decide +kernel
theorem dX6_measures_176 : decode cX6_measures 176 = .ok (.aload_n 0, 1) := by decide +kernel
theorem dX6_measures_177 : decode cX6_measures 177 = .ok (.iload_n 1, 1) := by decide +kernel
theorem dX6_measures_178 : decode cX6_measures 178 = .ok (.iload 7, 2) := by decide +kernel
theorem dX6_measures_180 : decode cX6_measures 180 = .ok (.iload 5, 2) := by decide +kernel
theorem dX6_measures_182 : decode cX6_measures 182 = .ok (.iload 6, 2) := by decide +kernel
theorem dX6_measures_184 : decode cX6_measures 184 = .ok (.invokevirtual 69, 3) := by decide +kernel
theorem dX6_measures_187 : decode cX6_measures 187 = .ok (.iinc 7 1, 3) := by decide +kernel
theorem dX6_measures_190 : decode cX6_measures 190 = .ok (.goto (-20), 3) := by decide +kernel
theorem dX6_measures_193 : decode cX6_measures 193 = .ok (.aload_n 0, 1) := by decide +kernel
theorem dX6_measures_194 : decode cX6_measures 194 = .ok (.getfield 7, 3) := by decide +kernel
theorem dX6_measures_197 : decode cX6_measures 197 = .ok (.iload_n 1, 1) := by decide +kernel
theorem dX6_measures_198 : decode cX6_measures 198 = .ok (.sipush 352, 3) := by decide +kernel
theorem dX6_measures_201 : decode cX6_measures 201 = .ok (.iadd, 1) := by decide +kernel
theorem dX6_measures_202 : decode cX6_measures 202 = .ok (.dup2, 1) := by decide +kernel
theorem dX6_measures_203 : decode cX6_measures 203 = .ok (.iaload, 1) := by decide +kernel
theorem dX6_measures_204 : decode cX6_measures 204 = .ok (.iload_n 2, 1) := by decide +kernel
theorem dX6_measures_205 : decode cX6_measures 205 = .ok (.iload 4, 2) := by decide +kernel
theorem dX6_measures_207 : decode cX6_measures 207 = .ok (.isub, 1) := by decide +kernel
theorem dX6_measures_208 : decode cX6_measures 208 = .ok (.invokestatic 73, 3) := by decide +kernel
theorem dX6_measures_211 : decode cX6_measures 211 = .ok (.iadd, 1) := by decide +kernel
theorem dX6_measures_212 : decode cX6_measures 212 = .ok (.iastore, 1) := by decide +kernel
theorem dX6_measures_213 : decode cX6_measures 213 = .ok (.aload_n 0, 1) := by decide +kernel
theorem dX6_measures_214 : decode cX6_measures 214 = .ok (.getfield 7, 3) := by decide +kernel
theorem dX6_measures_217 : decode cX6_measures 217 = .ok (.iload_n 1, 1) := by decide +kernel
theorem dX6_measures_218 : decode cX6_measures 218 = .ok (.sipush 353, 3) := by decide +kernel
theorem dX6_measures_221 : decode cX6_measures 221 = .ok (.iadd, 1) := by decide +kernel
theorem dX6_measures_222 : decode cX6_measures 222 = .ok (.dup2, 1) := by decide +kernel
theorem dX6_measures_223 : decode cX6_measures 223 = .ok (.iaload, 1) := by decide +kernel
theorem dX6_measures_224 : decode cX6_measures 224 = .ok (.iconst 1, 1) := by decide +kernel
theorem dX6_measures_225 : decode cX6_measures 225 = .ok (.iadd, 1) := by decide +kernel
theorem dX6_measures_226 : decode cX6_measures 226 = .ok (.iastore, 1) := by decide +kernel
theorem dX6_measures_227 : decode cX6_measures 227 = .ok (.aload_n 0, 1) := by decide +kernel
theorem dX6_measures_228 : decode cX6_measures 228 = .ok (.getfield 7, 3) := by decide +kernel
theorem dX6_measures_231 : decode cX6_measures 231 = .ok (.iload_n 1, 1) := by decide +kernel
theorem dX6_measures_232 : decode cX6_measures 232 = .ok (.sipush 300, 3) := by decide +kernel
theorem dX6_measures_235 : decode cX6_measures 235 = .ok (.iadd, 1) := by decide +kernel
theorem dX6_measures_236 : decode cX6_measures 236 = .ok (.dup2, 1) := by decide +kernel
theorem dX6_measures_237 : decode cX6_measures 237 = .ok (.iaload, 1) := by decide +kernel
theorem dX6_measures_238 : decode cX6_measures 238 = .ok (.iconst 1, 1) := by decide +kernel
theorem dX6_measures_239 : decode cX6_measures 239 = .ok (.iadd, 1) := by decide +kernel
theorem dX6_measures_240 : decode cX6_measures 240 = .ok (.iastore, 1) := by decide +kernel
theorem dX6_measures_241 : decode cX6_measures 241 = .ok (.aload_n 0, 1) := by decide +kernel
theorem dX6_measures_242 : decode cX6_measures 242 = .ok (.getfield 7, 3) := by decide +kernel
theorem dX6_measures_245 : decode cX6_measures 245 = .ok (.iload_n 1, 1) := by decide +kernel
theorem dX6_measures_246 : decode cX6_measures 246 = .ok (.sipush 300, 3) := by decide +kernel
theorem dX6_measures_249 : decode cX6_measures 249 = .ok (.iadd, 1) := by decide +kernel
theorem dX6_measures_250 : decode cX6_measures 250 = .ok (.iaload, 1) := by decide +kernel
theorem dX6_measures_251 : decode cX6_measures 251 = .ok (.bipush 20, 2) := by decide +kernel
theorem dX6_measures_253 : decode cX6_measures 253 = .ok (.if_icmp .ne 8, 3) := by decide +kernel
theorem dX6_measures_256 : decode cX6_measures 256 = .ok (.aload_n 0, 1) := by decide +kernel
theorem dX6_measures_257 : decode cX6_measures 257 = .ok (.iload_n 1, 1) := by decide +kernel
theorem dX6_measures_258 : decode cX6_measures 258 = .ok (.invokevirtual 76, 3) := by decide +kernel
theorem dX6_measures_261 : decode cX6_measures 261 = .ok (.iload_n 2, 1) := by decide +kernel
theorem dX6_measures_262 : decode cX6_measures 262 = .ok (.iload 4, 2) := by decide +kernel
theorem dX6_measures_264 : decode cX6_measures 264 = .ok (.isub, 1) := by decide +kernel
theorem dX6_measures_265 : decode cX6_measures 265 = .ok (.ireturn, 1) := by decide +kernel
theorem dX6_measure_0 : decode cX6_measure 0 = .ok (.iload_n 1, 1) := by decide +kernel
theorem dX6_measure_1 : decode cX6_measure 1 = .ok (.bipush (-40), 2) := by decide +kernel
theorem dX6_measure_3 : decode cX6_measure 3 = .ok (.bipush 40, 2) := by decide +kernel
theorem dX6_measure_5 : decode cX6_measure 5 = .ok (.invokestatic 29, 3) := by decide +kernel
theorem dX6_measure_8 : decode cX6_measure 8 = .ok (.ifCond .ne 6, 3) := by decide +kernel
theorem dX6_measure_11 : decode cX6_measure 11 = .ok (.bipush (-2), 2) := by decide +kernel
theorem dX6_measure_13 : decode cX6_measure 13 = .ok (.ireturn, 1) := by decide +kernel
theorem dX6_measure_14 : decode cX6_measure 14 = .ok (.aload_n 0, 1) := by decide +kernel
theorem dX6_measure_15 : decode cX6_measure 15 = .ok (.invokevirtual 79, 3) := by decide +kernel
theorem dX6_measure_18 : decode cX6_measure 18 = .ok (.aload_n 0, 1) := by decide +kernel
theorem dX6_measure_19 : decode cX6_measure 19 = .ok (.iconst 0, 1) := by decide +kernel
theorem dX6_measure_20 : decode cX6_measure 20 = .ok (.iload_n 1, 1) := by decide +kernel
theorem dX6_measure_21 : decode cX6_measure 21 = .ok (.invokevirtual 82, 3) := by decide +kernel
theorem dX6_measure_24 : decode cX6_measure 24 = .ok (.sipush 1000, 3) := by decide +kernel
theorem dX6_measure_27 : decode cX6_measure 27 = .ok (.iadd, 1) := by decide +kernel
theorem dX6_measure_28 : decode cX6_measure 28 = .ok (.ireturn, 1) := by decide +kernel
theorem dX6_base_0 : decode cX6_base 0 = .ok (.iload_n 1, 1) := by decide +kernel
theorem dX6_base_1 : decode cX6_base 1 = .ok (.invokestatic 48, 3) := by decide +kernel
theorem dX6_base_4 : decode cX6_base 4 = .ok (.ifCond .ne 5, 3) := by decide +kernel
theorem dX6_base_7 : decode cX6_base 7 = .ok (.iconst (-1), 1) := by decide +kernel
theorem dX6_base_8 : decode cX6_base 8 = .ok (.ireturn, 1) := by decide +kernel
theorem dX6_base_9 : decode cX6_base 9 = .ok (.iload_n 2, 1) := by decide +kernel
theorem dX6_base_10 : decode cX6_base 10 = .ok (.bipush (-40), 2) := by decide +kernel
theorem dX6_base_12 : decode cX6_base 12 = .ok (.bipush 40, 2) := by decide +kernel
theorem dX6_base_14 : decode cX6_base 14 = .ok (.invokestatic 29, 3) := by decide +kernel
theorem dX6_base_17 : decode cX6_base 17 = .ok (.ifCond .ne 6, 3) := by decide +kernel
theorem dX6_base_20 : decode cX6_base 20 = .ok (.bipush (-2), 2) := by decide +kernel
theorem dX6_base_22 : decode cX6_base 22 = .ok (.ireturn, 1) := by decide +kernel
theorem dX6_base_23 : decode cX6_base 23 = .ok (.iload_n 1, 1) := by decide +kernel
theorem dX6_base_24 : decode cX6_base 24 = .ok (.aload_n 0, 1) := by decide +kernel
theorem dX6_base_25 : decode cX6_base 25 = .ok (.getfield 7, 3) := by decide +kernel
theorem dX6_base_28 : decode cX6_base 28 = .ok (.sipush 300, 3) := by decide +kernel
theorem dX6_base_31 : decode cX6_base 31 = .ok (.iaload, 1) := by decide +kernel
theorem dX6_base_32 : decode cX6_base 32 = .ok (.if_icmp .ge 6, 3) := by decide +kernel
theorem dX6_base_35 : decode cX6_base 35 = .ok (.bipush (-4), 2) := by decide +kernel
theorem dX6_base_37 : decode cX6_base 37 = .ok (.ireturn, 1) := by decide +kernel
theorem dX6_base_38 : decode cX6_base 38 = .ok (.aload_n 0, 1) := by decide +kernel
theorem dX6_base_39 : decode cX6_base 39 = .ok (.getfield 7, 3) := by decide +kernel
theorem dX6_base_42 : decode cX6_base 42 = .ok (.iconst 0, 1) := by decide +kernel
theorem dX6_base_43 : decode cX6_base 43 = .ok (.iload_n 1, 1) := by decide +kernel
theorem dX6_base_44 : decode cX6_base 44 = .ok (.iadd, 1) := by decide +kernel
theorem dX6_base_45 : decode cX6_base 45 = .ok (.iaload, 1) := by decide +kernel
theorem dX6_base_46 : decode cX6_base 46 = .ok (.istore_n 3, 1) := by decide +kernel
theorem dX6_base_47 : decode cX6_base 47 = .ok (.iload_n 3, 1) := by decide +kernel
theorem dX6_base_48 : decode cX6_base 48 = .ok (.iload_n 2, 1) := by decide +kernel
theorem dX6_base_49 : decode cX6_base 49 = .ok (.if_icmp .ne 6, 3) := by decide +kernel
theorem dX6_base_52 : decode cX6_base 52 = .ok (.bipush (-5), 2) := by decide +kernel
theorem dX6_base_54 : decode cX6_base 54 = .ok (.ireturn, 1) := by decide +kernel
theorem dX6_base_55 : decode cX6_base 55 = .ok (.aload_n 0, 1) := by decide +kernel
theorem dX6_base_56 : decode cX6_base 56 = .ok (.invokevirtual 79, 3) := by decide +kernel
theorem dX6_base_59 : decode cX6_base 59 = .ok (.aload_n 0, 1) := by decide +kernel
theorem dX6_base_60 : decode cX6_base 60 = .ok (.getfield 7, 3) := by decide +kernel
theorem dX6_base_63 : decode cX6_base 63 = .ok (.iconst 0, 1) := by decide +kernel
theorem dX6_base_64 : decode cX6_base 64 = .ok (.iload_n 1, 1) := by decide +kernel
theorem dX6_base_65 : decode cX6_base 65 = .ok (.iadd, 1) := by decide +kernel
theorem dX6_base_66 : decode cX6_base 66 = .ok (.iload_n 2, 1) := by decide +kernel
theorem dX6_base_67 : decode cX6_base 67 = .ok (.iastore, 1) := by decide +kernel
theorem dX6_base_68 : decode cX6_base 68 = .ok (.iload_n 3, 1) := by decide +kernel
theorem dX6_base_69 : decode cX6_base 69 = .ok (.sipush 1000, 3) := by decide +kernel
theorem dX6_base_72 : decode cX6_base 72 = .ok (.iadd, 1) := by decide +kernel
theorem dX6_base_73 : decode cX6_base 73 = .ok (.ireturn, 1) := by decide +kernel
theorem dX6_saint_0 : decode cX6_saint 0 = .ok (.iload_n 1, 1) := by decide +kernel
theorem dX6_saint_1 : decode cX6_saint 1 = .ok (.invokestatic 48, 3) := by decide +kernel
theorem dX6_saint_4 : decode cX6_saint 4 = .ok (.ifCond .ne 5, 3) := by decide +kernel
theorem dX6_saint_7 : decode cX6_saint 7 = .ok (.iconst (-1), 1) := by decide +kernel
theorem dX6_saint_8 : decode cX6_saint 8 = .ok (.ireturn, 1) := by decide +kernel
theorem dX6_saint_9 : decode cX6_saint 9 = .ok (.iload_n 2, 1) := by decide +kernel
theorem dX6_saint_10 : decode cX6_saint 10 = .ok (.bipush (-40), 2) := by decide +kernel
theorem dX6_saint_12 : decode cX6_saint 12 = .ok (.bipush 40, 2) := by decide +kernel
theorem dX6_saint_14 : decode cX6_saint 14 = .ok (.invokestatic 29, 3) := by decide +kernel
theorem dX6_saint_17 : decode cX6_saint 17 = .ok (.ifCond .eq 25, 3) := by decide +kernel
theorem dX6_saint_20 : decode cX6_saint 20 = .ok (.iload_n 3, 1) := by decide +kernel
theorem dX6_saint_21 : decode cX6_saint 21 = .ok (.bipush (-20), 2) := by decide +kernel
theorem dX6_saint_23 : decode cX6_saint 23 = .ok (.bipush 20, 2) := by decide +kernel
theorem dX6_saint_25 : decode cX6_saint 25 = .ok (.invokestatic 29, 3) := by decide +kernel
theorem dX6_saint_28 : decode cX6_saint 28 = .ok (.ifCond .eq 14, 3) := by decide +kernel
theorem dX6_saint_31 : decode cX6_saint 31 = .ok (.iload 4, 2) := by decide +kernel
theorem dX6_saint_33 : decode cX6_saint 33 = .ok (.iconst 1, 1) := by decide +kernel
theorem dX6_saint_34 : decode cX6_saint 34 = .ok (.bipush 9, 2) := by decide +kernel
theorem dX6_saint_36 : decode cX6_saint 36 = .ok (.invokestatic 29, 3) := by decide +kernel
theorem dX6_saint_39 : decode cX6_saint 39 = .ok (.ifCond .ne 6, 3) := by decide +kernel
theorem dX6_saint_42 : decode cX6_saint 42 = .ok (.bipush (-2), 2) := by decide +kernel
theorem dX6_saint_44 : decode cX6_saint 44 = .ok (.ireturn, 1) := by decide +kernel
theorem dX6_saint_45 : decode cX6_saint 45 = .ok (.aload_n 0, 1) := by decide +kernel
theorem dX6_saint_46 : decode cX6_saint 46 = .ok (.getfield 7, 3) := by decide +kernel
theorem dX6_saint_49 : decode cX6_saint 49 = .ok (.sipush 307, 3) := by decide +kernel
theorem dX6_saint_52 : decode cX6_saint 52 = .ok (.iaload, 1) := by decide +kernel
theorem dX6_saint_53 : decode cX6_saint 53 = .ok (.iconst 5, 1) := by decide +kernel
theorem dX6_saint_54 : decode cX6_saint 54 = .ok (.if_icmp .ne 6, 3) := by decide +kernel
theorem dX6_saint_57 : decode cX6_saint 57 = .ok (.bipush (-3), 2) := by decide +kernel
theorem dX6_saint_59 : decode cX6_saint 59 = .ok (.ireturn, 1) := by decide +kernel
theorem dX6_saint_60 : decode cX6_saint 60 = .ok (.aload_n 0, 1) := by decide +kernel
theorem dX6_saint_61 : decode cX6_saint 61 = .ok (.invokevirtual 79, 3) := by decide +kernel
theorem dX6_saint_64 : decode cX6_saint 64 = .ok (.iconst 0, 1) := by decide +kernel
theorem dX6_saint_65 : decode cX6_saint 65 = .ok (.aload_n 0, 1) := by decide +kernel
theorem dX6_saint_66 : decode cX6_saint 66 = .ok (.getfield 7, 3) := by decide +kernel
theorem dX6_saint_69 : decode cX6_saint 69 = .ok (.sipush 307, 3) := by decide +kernel
theorem dX6_saint_72 : decode cX6_saint 72 = .ok (.iaload, 1) := by decide +kernel
theorem dX6_saint_73 : decode cX6_saint 73 = .ok (.invokestatic 37, 3) := by decide +kernel
theorem dX6_saint_76 : decode cX6_saint 76 = .ok (.istore 5, 2) := by decide +kernel
theorem dX6_saint_78 : decode cX6_saint 78 = .ok (.aload_n 0, 1) := by decide +kernel
theorem dX6_saint_79 : decode cX6_saint 79 = .ok (.getfield 7, 3) := by decide +kernel
theorem dX6_saint_82 : decode cX6_saint 82 = .ok (.iload 5, 2) := by decide +kernel
theorem dX6_saint_84 : decode cX6_saint 84 = .ok (.iload_n 1, 1) := by decide +kernel
theorem dX6_saint_85 : decode cX6_saint 85 = .ok (.iastore, 1) := by decide +kernel
theorem dX6_saint_86 : decode cX6_saint 86 = .ok (.aload_n 0, 1) := by decide +kernel
theorem dX6_saint_87 : decode cX6_saint 87 = .ok (.getfield 7, 3) := by decide +kernel
theorem dX6_saint_90 : decode cX6_saint 90 = .ok (.iload 5, 2) := by decide +kernel
theorem dX6_saint_92 : decode cX6_saint 92 = .ok (.iconst 1, 1) := by decide +kernel
theorem dX6_saint_93 : decode cX6_saint 93 = .ok (.iadd, 1) := by decide +kernel
theorem dX6_saint_94 : decode cX6_saint 94 = .ok (.iload_n 2, 1) := by decide +kernel
theorem dX6_saint_95 : decode cX6_saint 95 = .ok (.iastore, 1) := by decide +kernel
theorem dX6_saint_96 : decode cX6_saint 96 = .ok (.aload_n 0, 1) := by decide +kernel
theorem dX6_saint_97 : decode cX6_saint 97 = .ok (.getfield 7, 3) := by decide +kernel
theorem dX6_saint_100 : decode cX6_saint 100 = .ok (.iload 5, 2) := by decide +kernel
theorem dX6_saint_102 : decode cX6_saint 102 = .ok (.iconst 2, 1) := by decide +kernel
theorem dX6_saint_103 : decode cX6_saint 103 = .ok (.iadd, 1) := by decide +kernel
theorem dX6_saint_104 : decode cX6_saint 104 = .ok (.iload_n 3, 1) := by decide +kernel
theorem dX6_saint_105 : decode cX6_saint 105 = .ok (.iastore, 1) := by decide +kernel
theorem dX6_saint_106 : decode cX6_saint 106 = .ok (.aload_n 0, 1) := by decide +kernel
theorem dX6_saint_107 : decode cX6_saint 107 = .ok (.getfield 7, 3) := by decide +kernel
theorem dX6_saint_110 : decode cX6_saint 110 = .ok (.iload 5, 2) := by decide +kernel
theorem dX6_saint_112 : decode cX6_saint 112 = .ok (.iconst 3, 1) := by decide +kernel
theorem dX6_saint_113 : decode cX6_saint 113 = .ok (.iadd, 1) := by decide +kernel
theorem dX6_saint_114 : decode cX6_saint 114 = .ok (.iload 4, 2) := by decide +kernel
theorem dX6_saint_116 : decode cX6_saint 116 = .ok (.iastore, 1) := by decide +kernel
theorem dX6_saint_117 : decode cX6_saint 117 = .ok (.aload_n 0, 1) := by decide +kernel
theorem dX6_saint_118 : decode cX6_saint 118 = .ok (.getfield 7, 3) := by decide +kernel
theorem dX6_saint_121 : decode cX6_saint 121 = .ok (.sipush 307, 3) := by decide +kernel
theorem dX6_saint_124 : decode cX6_saint 124 = .ok (.dup2, 1) := by decide +kernel
theorem dX6_saint_125 : decode cX6_saint 125 = .ok (.iaload, 1) := by decide +kernel
theorem dX6_saint_126 : decode cX6_saint 126 = .ok (.iconst 1, 1) := by decide +kernel
theorem dX6_saint_127 : decode cX6_saint 127 = .ok (.iadd, 1) := by decide +kernel
theorem dX6_saint_128 : decode cX6_saint 128 = .ok (.iastore, 1) := by decide +kernel
theorem dX6_saint_129 : decode cX6_saint 129 = .ok (.aload_n 0, 1) := by decide +kernel
theorem dX6_saint_130 : decode cX6_saint 130 = .ok (.getfield 7, 3) := by decide +kernel
theorem dX6_saint_133 : decode cX6_saint 133 = .ok (.sipush 307, 3) := by decide +kernel
theorem dX6_saint_136 : decode cX6_saint 136 = .ok (.iaload, 1) := by decide +kernel
theorem dX6_saint_137 : decode cX6_saint 137 = .ok (.iconst 1, 1) := by decide +kernel
theorem dX6_saint_138 : decode cX6_saint 138 = .ok (.isub, 1) := by decide +kernel
theorem dX6_saint_139 : decode cX6_saint 139 = .ok (.ireturn, 1) := by decide +kernel
theorem dX6_isSaint_0 : decode cX6_isSaint 0 = .ok (.iload_n 1, 1) := by decide +kernel
theorem dX6_isSaint_1 : decode cX6_isSaint 1 = .ok (.iconst 0, 1) := by decide +kernel
theorem dX6_isSaint_2 : decode cX6_isSaint 2 = .ok (.aload_n 0, 1) := by decide +kernel
theorem dX6_isSaint_3 : decode cX6_isSaint 3 = .ok (.getfield 7, 3) := by decide +kernel
theorem dX6_isSaint_6 : decode cX6_isSaint 6 = .ok (.sipush 307, 3) := by decide +kernel
theorem dX6_isSaint_9 : decode cX6_isSaint 9 = .ok (.iaload, 1) := by decide +kernel
theorem dX6_isSaint_10 : decode cX6_isSaint 10 = .ok (.iconst 1, 1) := by decide +kernel
theorem dX6_isSaint_11 : decode cX6_isSaint 11 = .ok (.isub, 1) := by decide +kernel
theorem dX6_isSaint_12 : decode cX6_isSaint 12 = .ok (.invokestatic 29, 3) := by decide +kernel
theorem dX6_isSaint_15 : decode cX6_isSaint 15 = .ok (.ireturn, 1) := by decide +kernel
theorem dX6_strike_0 : decode cX6_strike 0 = .ok (.aload_n 0, 1) := by decide +kernel
theorem dX6_strike_1 : decode cX6_strike 1 = .ok (.iload_n 1, 1) := by decide +kernel
theorem dX6_strike_2 : decode cX6_strike 2 = .ok (.invokevirtual 85, 3) := by decide +kernel
theorem dX6_strike_5 : decode cX6_strike 5 = .ok (.ifCond .ne 5, 3) := by decide +kernel
theorem dX6_strike_8 : decode cX6_strike 8 = .ok (.iconst (-1), 1) := by decide +kernel
theorem dX6_strike_9 : decode cX6_strike 9 = .ok (.ireturn, 1) := by decide +kernel
theorem dX6_strike_10 : decode cX6_strike 10 = .ok (.aload_n 0, 1) := by decide +kernel
theorem dX6_strike_11 : decode cX6_strike 11 = .ok (.invokevirtual 79, 3) := by decide +kernel
theorem dX6_strike_14 : decode cX6_strike 14 = .ok (.aload_n 0, 1) := by decide +kernel
theorem dX6_strike_15 : decode cX6_strike 15 = .ok (.getfield 7, 3) := by decide +kernel
theorem dX6_strike_18 : decode cX6_strike 18 = .ok (.sipush 307, 3) := by decide +kernel
theorem dX6_strike_21 : decode cX6_strike 21 = .ok (.dup2, 1) := by decide +kernel
theorem dX6_strike_22 : decode cX6_strike 22 = .ok (.iaload, 1) := by decide +kernel
theorem dX6_strike_23 : decode cX6_strike 23 = .ok (.iconst 1, 1) := by decide +kernel
theorem dX6_strike_24 : decode cX6_strike 24 = .ok (.isub, 1) := by decide +kernel
theorem dX6_strike_25 : decode cX6_strike 25 = .ok (.iastore, 1) := by decide +kernel
theorem dX6_strike_26 : decode cX6_strike 26 = .ok (.iconst 0, 1) := by decide +kernel
theorem dX6_strike_27 : decode cX6_strike 27 = .ok (.iload_n 1, 1) := by decide +kernel
theorem dX6_strike_28 : decode cX6_strike 28 = .ok (.invokestatic 37, 3) := by decide +kernel
theorem dX6_strike_31 : decode cX6_strike 31 = .ok (.istore_n 2, 1) := by decide +kernel
theorem dX6_strike_32 : decode cX6_strike 32 = .ok (.iload_n 2, 1) := by decide +kernel
theorem dX6_strike_33 : decode cX6_strike 33 = .ok (.iconst 0, 1) := by decide +kernel
theorem dX6_strike_34 : decode cX6_strike 34 = .ok (.aload_n 0, 1) := by decide +kernel
theorem dX6_strike_35 : decode cX6_strike 35 = .ok (.getfield 7, 3) := by decide +kernel
theorem dX6_strike_38 : decode cX6_strike 38 = .ok (.sipush 307, 3) := by decide +kernel
theorem dX6_strike_41 : decode cX6_strike 41 = .ok (.iaload, 1) := by decide +kernel
theorem dX6_strike_42 : decode cX6_strike 42 = .ok (.invokestatic 37, 3) := by decide +kernel
theorem dX6_strike_45 : decode cX6_strike 45 = .ok (.if_icmp .ge 23, 3) := by decide +kernel
theorem dX6_strike_48 : decode cX6_strike 48 = .ok (.aload_n 0, 1) := by decide +kernel
theorem dX6_strike_49 : decode cX6_strike 49 = .ok (.getfield 7, 3) := by decide +kernel
theorem dX6_strike_52 : decode cX6_strike 52 = .ok (.iload_n 2, 1) := by decide +kernel
theorem dX6_strike_53 : decode cX6_strike 53 = .ok (.aload_n 0, 1) := by decide +kernel
theorem dX6_strike_54 : decode cX6_strike 54 = .ok (.getfield 7, 3) := by decide +kernel
theorem dX6_strike_57 : decode cX6_strike 57 = .ok (.iload_n 2, 1) := by decide +kernel
theorem dX6_strike_58 : decode cX6_strike 58 = .ok (.iconst 4, 1) := by decide +kernel
theorem dX6_strike_59 : decode cX6_strike 59 = .ok (.iadd, 1) := by decide +kernel
theorem dX6_strike_60 : decode cX6_strike 60 = .ok (.iaload, 1) := by decide +kernel
theorem dX6_strike_61 : decode cX6_strike 61 = .ok (.iastore, 1) := by decide +kernel
theorem dX6_strike_62 : decode cX6_strike 62 = .ok (.iinc 2 1, 3) := by decide +kernel
theorem dX6_strike_65 : decode cX6_strike 65 = .ok (.goto (-33), 3) := by decide +kernel
theorem dX6_strike_68 : decode cX6_strike 68 = .ok (.aload_n 0, 1) := by decide +kernel
theorem dX6_strike_69 : decode cX6_strike 69 = .ok (.getfield 7, 3) := by decide +kernel
theorem dX6_strike_72 : decode cX6_strike 72 = .ok (.sipush 307, 3) := by decide +kernel
theorem dX6_strike_75 : decode cX6_strike 75 = .ok (.iaload, 1) := by decide +kernel
theorem dX6_strike_76 : decode cX6_strike 76 = .ok (.ireturn, 1) := by decide +kernel
theorem dX6_canSet_0 : decode cX6_canSet 0 = .ok (.iload_n 0, 1) := by decide +kernel
theorem dX6_canSet_1 : decode cX6_canSet 1 = .ok (.tableswitch 52 0 2 #[27, 35, 43], 27) := by decide +kernel
theorem dX6_canSet_28 : decode cX6_canSet 28 = .ok (.iload_n 1, 1) := by decide +kernel
theorem dX6_canSet_29 : decode cX6_canSet 29 = .ok (.iconst 0, 1) := by decide +kernel
theorem dX6_canSet_30 : decode cX6_canSet 30 = .ok (.bipush 9, 2) := by decide +kernel
theorem dX6_canSet_32 : decode cX6_canSet 32 = .ok (.invokestatic 29, 3) := by decide +kernel
theorem dX6_canSet_35 : decode cX6_canSet 35 = .ok (.ireturn, 1) := by decide +kernel
theorem dX6_canSet_36 : decode cX6_canSet 36 = .ok (.iload_n 1, 1) := by decide +kernel
theorem dX6_canSet_37 : decode cX6_canSet 37 = .ok (.iconst 0, 1) := by decide +kernel
theorem dX6_canSet_38 : decode cX6_canSet 38 = .ok (.bipush 100, 2) := by decide +kernel
theorem dX6_canSet_40 : decode cX6_canSet 40 = .ok (.invokestatic 29, 3) := by decide +kernel
theorem dX6_canSet_43 : decode cX6_canSet 43 = .ok (.ireturn, 1) := by decide +kernel
theorem dX6_canSet_44 : decode cX6_canSet 44 = .ok (.iload_n 1, 1) := by decide +kernel
theorem dX6_canSet_45 : decode cX6_canSet 45 = .ok (.bipush (-20), 2) := by decide +kernel
theorem dX6_canSet_47 : decode cX6_canSet 47 = .ok (.bipush 20, 2) := by decide +kernel
theorem dX6_canSet_49 : decode cX6_canSet 49 = .ok (.invokestatic 29, 3) := by decide +kernel
theorem dX6_canSet_52 : decode cX6_canSet 52 = .ok (.ireturn, 1) := by decide +kernel
theorem dX6_canSet_53 : decode cX6_canSet 53 = .ok (.iload_n 0, 1) := by decide +kernel
theorem dX6_canSet_54 : decode cX6_canSet 54 = .ok (.iconst 3, 1) := by decide +kernel
theorem dX6_canSet_55 : decode cX6_canSet 55 = .ok (.if_icmp .ne 17, 3) := by decide +kernel
theorem dX6_canSet_58 : decode cX6_canSet 58 = .ok (.iload_n 1, 1) := by decide +kernel
theorem dX6_canSet_59 : decode cX6_canSet 59 = .ok (.iconst 1, 1) := by decide +kernel
theorem dX6_canSet_60 : decode cX6_canSet 60 = .ok (.bipush 9, 2) := by decide +kernel
theorem dX6_canSet_62 : decode cX6_canSet 62 = .ok (.invokestatic 29, 3) := by decide +kernel
theorem dX6_canSet_65 : decode cX6_canSet 65 = .ok (.ifCond .eq 7, 3) := by decide +kernel
theorem dX6_canSet_68 : decode cX6_canSet 68 = .ok (.iconst 1, 1) := by decide +kernel
theorem dX6_canSet_69 : decode cX6_canSet 69 = .ok (.goto 4, 3) := by decide +kernel
theorem dX6_canSet_72 : decode cX6_canSet 72 = .ok (.iconst 0, 1) := by decide +kernel
theorem dX6_canSet_73 : decode cX6_canSet 73 = .ok (.ireturn, 1) := by decide +kernel
theorem dX6_set_0 : decode cX6_set 0 = .ok (.iload_n 1, 1) := by decide +kernel
theorem dX6_set_1 : decode cX6_set 1 = .ok (.iload_n 2, 1) := by decide +kernel
theorem dX6_set_2 : decode cX6_set 2 = .ok (.invokestatic 88, 3) := by decide +kernel
theorem dX6_set_5 : decode cX6_set 5 = .ok (.ifCond .ne 6, 3) := by decide +kernel
theorem dX6_set_8 : decode cX6_set 8 = .ok (.bipush (-2), 2) := by decide +kernel
theorem dX6_set_10 : decode cX6_set 10 = .ok (.ireturn, 1) := by decide +kernel
theorem dX6_set_11 : decode cX6_set 11 = .ok (.aload_n 0, 1) := by decide +kernel
theorem dX6_set_12 : decode cX6_set 12 = .ok (.getfield 7, 3) := by decide +kernel
theorem dX6_set_15 : decode cX6_set 15 = .ok (.sipush 303, 3) := by decide +kernel
theorem dX6_set_18 : decode cX6_set 18 = .ok (.iload_n 1, 1) := by decide +kernel
theorem dX6_set_19 : decode cX6_set 19 = .ok (.iadd, 1) := by decide +kernel
theorem dX6_set_20 : decode cX6_set 20 = .ok (.iaload, 1) := by decide +kernel
theorem dX6_set_21 : decode cX6_set 21 = .ok (.istore_n 3, 1) := by decide +kernel
theorem dX6_set_22 : decode cX6_set 22 = .ok (.iload_n 3, 1) := by decide +kernel
theorem dX6_set_23 : decode cX6_set 23 = .ok (.iload_n 2, 1) := by decide +kernel
theorem dX6_set_24 : decode cX6_set 24 = .ok (.if_icmp .ne 6, 3) := by decide +kernel
theorem dX6_set_27 : decode cX6_set 27 = .ok (.bipush (-5), 2) := by decide +kernel
theorem dX6_set_29 : decode cX6_set 29 = .ok (.ireturn, 1) := by decide +kernel
theorem dX6_set_30 : decode cX6_set 30 = .ok (.aload_n 0, 1) := by decide +kernel
theorem dX6_set_31 : decode cX6_set 31 = .ok (.invokevirtual 79, 3) := by decide +kernel
theorem dX6_set_34 : decode cX6_set 34 = .ok (.aload_n 0, 1) := by decide +kernel
theorem dX6_set_35 : decode cX6_set 35 = .ok (.getfield 7, 3) := by decide +kernel
theorem dX6_set_38 : decode cX6_set 38 = .ok (.sipush 303, 3) := by decide +kernel
theorem dX6_set_41 : decode cX6_set 41 = .ok (.iload_n 1, 1) := by decide +kernel
theorem dX6_set_42 : decode cX6_set 42 = .ok (.iadd, 1) := by decide +kernel
theorem dX6_set_43 : decode cX6_set 43 = .ok (.iload_n 2, 1) := by decide +kernel
theorem dX6_set_44 : decode cX6_set 44 = .ok (.iastore, 1) := by decide +kernel
theorem dX6_set_45 : decode cX6_set 45 = .ok (.iload_n 3, 1) := by decide +kernel
theorem dX6_set_46 : decode cX6_set 46 = .ok (.sipush 1000, 3) := by decide +kernel
theorem dX6_set_49 : decode cX6_set 49 = .ok (.iadd, 1) := by decide +kernel
theorem dX6_set_50 : decode cX6_set 50 = .ok (.ireturn, 1) := by decide +kernel
theorem dX6_bet_0 : decode cX6_bet 0 = .ok (.iload_n 1, 1) := by decide +kernel
theorem dX6_bet_1 : decode cX6_bet 1 = .ok (.invokestatic 91, 3) := by decide +kernel
theorem dX6_bet_4 : decode cX6_bet 4 = .ok (.ifCond .ne 5, 3) := by decide +kernel
theorem dX6_bet_7 : decode cX6_bet 7 = .ok (.iconst (-1), 1) := by decide +kernel
theorem dX6_bet_8 : decode cX6_bet 8 = .ok (.ireturn, 1) := by decide +kernel
theorem dX6_bet_9 : decode cX6_bet 9 = .ok (.iload_n 3, 1) := by decide +kernel
theorem dX6_bet_10 : decode cX6_bet 10 = .ok (.iconst 1, 1) := by decide +kernel
theorem dX6_bet_11 : decode cX6_bet 11 = .ok (.sipush 1000, 3) := by decide +kernel
theorem dX6_bet_14 : decode cX6_bet 14 = .ok (.invokestatic 29, 3) := by decide +kernel
theorem dX6_bet_17 : decode cX6_bet 17 = .ok (.ifCond .ne 6, 3) := by decide +kernel
theorem dX6_bet_20 : decode cX6_bet 20 = .ok (.bipush (-2), 2) := by decide +kernel
theorem dX6_bet_22 : decode cX6_bet 22 = .ok (.ireturn, 1) := by decide +kernel
theorem dX6_bet_23 : decode cX6_bet 23 = .ok (.iconst 0, 1) := by decide +kernel
theorem dX6_bet_24 : decode cX6_bet 24 = .ok (.iload_n 1, 1) := by decide +kernel
theorem dX6_bet_25 : decode cX6_bet 25 = .ok (.invokestatic 25, 3) := by decide +kernel
theorem dX6_bet_28 : decode cX6_bet 28 = .ok (.istore 4, 2) := by decide +kernel
theorem dX6_bet_30 : decode cX6_bet 30 = .ok (.aload_n 0, 1) := by decide +kernel
theorem dX6_bet_31 : decode cX6_bet 31 = .ok (.getfield 7, 3) := by decide +kernel
theorem dX6_bet_34 : decode cX6_bet 34 = .ok (.iload 4, 2) := by decide +kernel
theorem dX6_bet_36 : decode cX6_bet 36 = .ok (.iconst 1, 1) := by decide +kernel
theorem dX6_bet_37 : decode cX6_bet 37 = .ok (.iadd, 1) := by decide +kernel
theorem dX6_bet_38 : decode cX6_bet 38 = .ok (.iaload, 1) := by decide +kernel
theorem dX6_bet_39 : decode cX6_bet 39 = .ok (.ifCond .gt 16, 3) := by decide +kernel
theorem dX6_bet_42 : decode cX6_bet 42 = .ok (.aload_n 0, 1) := by decide +kernel
theorem dX6_bet_43 : decode cX6_bet 43 = .ok (.getfield 7, 3) := by decide +kernel
theorem dX6_bet_46 : decode cX6_bet 46 = .ok (.iload 4, 2) := by decide +kernel
theorem dX6_bet_48 : decode cX6_bet 48 = .ok (.iconst 0, 1) := by decide +kernel
theorem dX6_bet_49 : decode cX6_bet 49 = .ok (.iadd, 1) := by decide +kernel
theorem dX6_bet_50 : decode cX6_bet 50 = .ok (.iaload, 1) := by decide +kernel
theorem dX6_bet_51 : decode cX6_bet 51 = .ok (.iload_n 3, 1) := by decide +kernel
theorem dX6_bet_52 : decode cX6_bet 52 = .ok (.if_icmp .ge 6, 3) := by decide +kernel
theorem dX6_bet_55 : decode cX6_bet 55 = .ok (.bipush (-4), 2) := by decide +kernel
theorem dX6_bet_57 : decode cX6_bet 57 = .ok (.ireturn, 1) := by decide +kernel
theorem dX6_bet_58 : decode cX6_bet 58 = .ok (.aload_n 0, 1) := by decide +kernel
theorem dX6_bet_59 : decode cX6_bet 59 = .ok (.invokevirtual 79, 3) := by decide +kernel
theorem dX6_bet_62 : decode cX6_bet 62 = .ok (.aload_n 0, 1) := by decide +kernel
theorem dX6_bet_63 : decode cX6_bet 63 = .ok (.getfield 7, 3) := by decide +kernel
theorem dX6_bet_66 : decode cX6_bet 66 = .ok (.iload 4, 2) := by decide +kernel
theorem dX6_bet_68 : decode cX6_bet 68 = .ok (.iconst 0, 1) := by decide +kernel
theorem dX6_bet_69 : decode cX6_bet 69 = .ok (.iadd, 1) := by decide +kernel
theorem dX6_bet_70 : decode cX6_bet 70 = .ok (.dup2, 1) := by decide +kernel
theorem dX6_bet_71 : decode cX6_bet 71 = .ok (.iaload, 1) := by decide +kernel
theorem dX6_bet_72 : decode cX6_bet 72 = .ok (.iload_n 3, 1) := by decide +kernel
theorem dX6_bet_73 : decode cX6_bet 73 = .ok (.isub, 1) := by decide +kernel
theorem dX6_bet_74 : decode cX6_bet 74 = .ok (.iastore, 1) := by decide +kernel
theorem dX6_bet_75 : decode cX6_bet 75 = .ok (.aload_n 0, 1) := by decide +kernel
theorem dX6_bet_76 : decode cX6_bet 76 = .ok (.getfield 7, 3) := by decide +kernel
theorem dX6_bet_79 : decode cX6_bet 79 = .ok (.iload 4, 2) := by decide +kernel
theorem dX6_bet_81 : decode cX6_bet 81 = .ok (.iconst 1, 1) := by decide +kernel
theorem dX6_bet_82 : decode cX6_bet 82 = .ok (.iadd, 1) := by decide +kernel
theorem dX6_bet_83 : decode cX6_bet 83 = .ok (.iload_n 3, 1) := by decide +kernel
theorem dX6_bet_84 : decode cX6_bet 84 = .ok (.iastore, 1) := by decide +kernel
theorem dX6_bet_85 : decode cX6_bet 85 = .ok (.aload_n 0, 1) := by decide +kernel
theorem dX6_bet_86 : decode cX6_bet 86 = .ok (.getfield 7, 3) := by decide +kernel
theorem dX6_bet_89 : decode cX6_bet 89 = .ok (.iload 4, 2) := by decide +kernel
theorem dX6_bet_91 : decode cX6_bet 91 = .ok (.iconst 2, 1) := by decide +kernel
theorem dX6_bet_92 : decode cX6_bet 92 = .ok (.iadd, 1) := by decide +kernel
theorem dX6_bet_93 : decode cX6_bet 93 = .ok (.iload_n 2, 1) := by decide +kernel
theorem dX6_bet_94 : decode cX6_bet 94 = .ok (.ifCond .eq 7, 3) := by decide +kernel
theorem dX6_bet_97 : decode cX6_bet 97 = .ok (.iconst 1, 1) := by decide +kernel
theorem dX6_bet_98 : decode cX6_bet 98 = .ok (.goto 4, 3) := by decide +kernel
theorem dX6_bet_101 : decode cX6_bet 101 = .ok (.iconst 0, 1) := by decide +kernel
theorem dX6_bet_102 : decode cX6_bet 102 = .ok (.iastore, 1) := by decide +kernel
theorem dX6_bet_103 : decode cX6_bet 103 = .ok (.aload_n 0, 1) := by decide +kernel
theorem dX6_bet_104 : decode cX6_bet 104 = .ok (.getfield 7, 3) := by decide +kernel
theorem dX6_bet_107 : decode cX6_bet 107 = .ok (.iload 4, 2) := by decide +kernel
theorem dX6_bet_109 : decode cX6_bet 109 = .ok (.iconst 0, 1) := by decide +kernel
theorem dX6_bet_110 : decode cX6_bet 110 = .ok (.iadd, 1) := by decide +kernel
theorem dX6_bet_111 : decode cX6_bet 111 = .ok (.iaload, 1) := by decide +kernel
theorem dX6_bet_112 : decode cX6_bet 112 = .ok (.ireturn, 1) := by decide +kernel
theorem dX6_takeBack_0 : decode cX6_takeBack 0 = .ok (.iload_n 1, 1) := by decide +kernel
theorem dX6_takeBack_1 : decode cX6_takeBack 1 = .ok (.invokestatic 91, 3) := by decide +kernel
theorem dX6_takeBack_4 : decode cX6_takeBack 4 = .ok (.ifCond .ne 5, 3) := by decide +kernel
theorem dX6_takeBack_7 : decode cX6_takeBack 7 = .ok (.iconst (-1), 1) := by decide +kernel
theorem dX6_takeBack_8 : decode cX6_takeBack 8 = .ok (.ireturn, 1) := by decide +kernel
theorem dX6_takeBack_9 : decode cX6_takeBack 9 = .ok (.iconst 0, 1) := by decide +kernel
theorem dX6_takeBack_10 : decode cX6_takeBack 10 = .ok (.iload_n 1, 1) := by decide +kernel
theorem dX6_takeBack_11 : decode cX6_takeBack 11 = .ok (.invokestatic 25, 3) := by decide +kernel
theorem dX6_takeBack_14 : decode cX6_takeBack 14 = .ok (.istore_n 2, 1) := by decide +kernel
theorem dX6_takeBack_15 : decode cX6_takeBack 15 = .ok (.aload_n 0, 1) := by decide +kernel
theorem dX6_takeBack_16 : decode cX6_takeBack 16 = .ok (.getfield 7, 3) := by decide +kernel
theorem dX6_takeBack_19 : decode cX6_takeBack 19 = .ok (.iload_n 2, 1) := by decide +kernel
theorem dX6_takeBack_20 : decode cX6_takeBack 20 = .ok (.iconst 1, 1) := by decide +kernel
theorem dX6_takeBack_21 : decode cX6_takeBack 21 = .ok (.iadd, 1) := by decide +kernel
theorem dX6_takeBack_22 : decode cX6_takeBack 22 = .ok (.iaload, 1) := by decide +kernel
theorem dX6_takeBack_23 : decode cX6_takeBack 23 = .ok (.ifCond .ne 6, 3) := by decide +kernel
theorem dX6_takeBack_26 : decode cX6_takeBack 26 = .ok (.bipush (-5), 2) := by decide +kernel
theorem dX6_takeBack_28 : decode cX6_takeBack 28 = .ok (.ireturn, 1) := by decide +kernel
theorem dX6_takeBack_29 : decode cX6_takeBack 29 = .ok (.aload_n 0, 1) := by decide +kernel
theorem dX6_takeBack_30 : decode cX6_takeBack 30 = .ok (.invokevirtual 79, 3) := by decide +kernel
theorem dX6_takeBack_33 : decode cX6_takeBack 33 = .ok (.aload_n 0, 1) := by decide +kernel
theorem dX6_takeBack_34 : decode cX6_takeBack 34 = .ok (.getfield 7, 3) := by decide +kernel
theorem dX6_takeBack_37 : decode cX6_takeBack 37 = .ok (.iload_n 2, 1) := by decide +kernel
theorem dX6_takeBack_38 : decode cX6_takeBack 38 = .ok (.iconst 0, 1) := by decide +kernel
theorem dX6_takeBack_39 : decode cX6_takeBack 39 = .ok (.iadd, 1) := by decide +kernel
theorem dX6_takeBack_40 : decode cX6_takeBack 40 = .ok (.dup2, 1) := by decide +kernel
theorem dX6_takeBack_41 : decode cX6_takeBack 41 = .ok (.iaload, 1) := by decide +kernel
theorem dX6_takeBack_42 : decode cX6_takeBack 42 = .ok (.aload_n 0, 1) := by decide +kernel
theorem dX6_takeBack_43 : decode cX6_takeBack 43 = .ok (.getfield 7, 3) := by decide +kernel
theorem dX6_takeBack_46 : decode cX6_takeBack 46 = .ok (.iload_n 2, 1) := by decide +kernel
theorem dX6_takeBack_47 : decode cX6_takeBack 47 = .ok (.iconst 1, 1) := by decide +kernel
theorem dX6_takeBack_48 : decode cX6_takeBack 48 = .ok (.iadd, 1) := by decide +kernel
theorem dX6_takeBack_49 : decode cX6_takeBack 49 = .ok (.iaload, 1) := by decide +kernel
theorem dX6_takeBack_50 : decode cX6_takeBack 50 = .ok (.iadd, 1) := by decide +kernel
theorem dX6_takeBack_51 : decode cX6_takeBack 51 = .ok (.iastore, 1) := by decide +kernel
theorem dX6_takeBack_52 : decode cX6_takeBack 52 = .ok (.aload_n 0, 1) := by decide +kernel
theorem dX6_takeBack_53 : decode cX6_takeBack 53 = .ok (.getfield 7, 3) := by decide +kernel
theorem dX6_takeBack_56 : decode cX6_takeBack 56 = .ok (.iload_n 2, 1) := by decide +kernel
theorem dX6_takeBack_57 : decode cX6_takeBack 57 = .ok (.iconst 1, 1) := by decide +kernel
theorem dX6_takeBack_58 : decode cX6_takeBack 58 = .ok (.iadd, 1) := by decide +kernel
theorem dX6_takeBack_59 : decode cX6_takeBack 59 = .ok (.iconst 0, 1) := by decide +kernel
theorem dX6_takeBack_60 : decode cX6_takeBack 60 = .ok (.iastore, 1) := by decide +kernel
theorem dX6_takeBack_61 : decode cX6_takeBack 61 = .ok (.aload_n 0, 1) := by decide +kernel
theorem dX6_takeBack_62 : decode cX6_takeBack 62 = .ok (.getfield 7, 3) := by decide +kernel
theorem dX6_takeBack_65 : decode cX6_takeBack 65 = .ok (.iload_n 2, 1) := by decide +kernel
theorem dX6_takeBack_66 : decode cX6_takeBack 66 = .ok (.iconst 2, 1) := by decide +kernel
theorem dX6_takeBack_67 : decode cX6_takeBack 67 = .ok (.iadd, 1) := by decide +kernel
theorem dX6_takeBack_68 : decode cX6_takeBack 68 = .ok (.iconst 0, 1) := by decide +kernel
theorem dX6_takeBack_69 : decode cX6_takeBack 69 = .ok (.iastore, 1) := by decide +kernel
theorem dX6_takeBack_70 : decode cX6_takeBack 70 = .ok (.aload_n 0, 1) := by decide +kernel
theorem dX6_takeBack_71 : decode cX6_takeBack 71 = .ok (.getfield 7, 3) := by decide +kernel
theorem dX6_takeBack_74 : decode cX6_takeBack 74 = .ok (.iload_n 2, 1) := by decide +kernel
theorem dX6_takeBack_75 : decode cX6_takeBack 75 = .ok (.iconst 0, 1) := by decide +kernel
theorem dX6_takeBack_76 : decode cX6_takeBack 76 = .ok (.iadd, 1) := by decide +kernel
theorem dX6_takeBack_77 : decode cX6_takeBack 77 = .ok (.iaload, 1) := by decide +kernel
theorem dX6_takeBack_78 : decode cX6_takeBack 78 = .ok (.ireturn, 1) := by decide +kernel
theorem dX6_type_0 : decode cX6_type 0 = .ok (.aload_n 0, 1) := by decide +kernel
theorem dX6_type_1 : decode cX6_type 1 = .ok (.getfield 94, 3) := by decide +kernel
theorem dX6_type_4 : decode cX6_type 4 = .ok (.bipush 60, 2) := by decide +kernel
theorem dX6_type_6 : decode cX6_type 6 = .ok (.if_icmp .ne 6, 3) := by decide +kernel
theorem dX6_type_9 : decode cX6_type 9 = .ok (.bipush (-3), 2) := by decide +kernel
theorem dX6_type_11 : decode cX6_type 11 = .ok (.ireturn, 1) := by decide +kernel
theorem dX6_type_12 : decode cX6_type 12 = .ok (.aload_n 0, 1) := by decide +kernel
theorem dX6_type_13 : decode cX6_type 13 = .ok (.getfield 19, 3) := by decide +kernel
theorem dX6_type_16 : decode cX6_type 16 = .ok (.aload_n 0, 1) := by decide +kernel
theorem dX6_type_17 : decode cX6_type 17 = .ok (.getfield 94, 3) := by decide +kernel
theorem dX6_type_20 : decode cX6_type 20 = .ok (.iload_n 1, 1) := by decide +kernel
theorem dX6_type_21 : decode cX6_type 21 = .ok (.iastore, 1) := by decide +kernel
theorem dX6_type_22 : decode cX6_type 22 = .ok (.aload_n 0, 1) := by decide +kernel
theorem dX6_type_23 : decode cX6_type 23 = .ok (.dup, 1) := by decide +kernel
theorem dX6_type_24 : decode cX6_type 24 = .ok (.getfield 94, 3) := by decide +kernel
theorem dX6_type_27 : decode cX6_type 27 = .ok (.iconst 1, 1) := by decide +kernel
theorem dX6_type_28 : decode cX6_type 28 = .ok (.iadd, 1) := by decide +kernel
theorem dX6_type_29 : decode cX6_type 29 = .ok (.putfield 94, 3) := by decide +kernel
theorem dX6_type_32 : decode cX6_type 32 = .ok (.aload_n 0, 1) := by decide +kernel
theorem dX6_type_33 : decode cX6_type 33 = .ok (.getfield 94, 3) := by decide +kernel
theorem dX6_type_36 : decode cX6_type 36 = .ok (.ireturn, 1) := by decide +kernel
theorem dX6_clearText_0 : decode cX6_clearText 0 = .ok (.aload_n 0, 1) := by decide +kernel
theorem dX6_clearText_1 : decode cX6_clearText 1 = .ok (.getfield 94, 3) := by decide +kernel
theorem dX6_clearText_4 : decode cX6_clearText 4 = .ok (.istore_n 1, 1) := by decide +kernel
theorem dX6_clearText_5 : decode cX6_clearText 5 = .ok (.aload_n 0, 1) := by decide +kernel
theorem dX6_clearText_6 : decode cX6_clearText 6 = .ok (.iconst 0, 1) := by decide +kernel
theorem dX6_clearText_7 : decode cX6_clearText 7 = .ok (.putfield 94, 3) := by decide +kernel
theorem dX6_clearText_10 : decode cX6_clearText 10 = .ok (.iload_n 1, 1) := by decide +kernel
theorem dX6_clearText_11 : decode cX6_clearText 11 = .ok (.ireturn, 1) := by decide +kernel
theorem dX6_sign_0 : decode cX6_sign 0 = .ok (.iload_n 1, 1) := by decide +kernel
theorem dX6_sign_1 : decode cX6_sign 1 = .ok (.aload_n 0, 1) := by decide +kernel
theorem dX6_sign_2 : decode cX6_sign 2 = .ok (.getfield 94, 3) := by decide +kernel
theorem dX6_sign_5 : decode cX6_sign 5 = .ok (.if_icmp .ge 12, 3) := by decide +kernel
theorem dX6_sign_8 : decode cX6_sign 8 = .ok (.aload_n 0, 1) := by decide +kernel
theorem dX6_sign_9 : decode cX6_sign 9 = .ok (.getfield 19, 3) := by decide +kernel
theorem dX6_sign_12 : decode cX6_sign 12 = .ok (.iload_n 1, 1) := by decide +kernel
theorem dX6_sign_13 : decode cX6_sign 13 = .ok (.iaload, 1) := by decide +kernel
theorem dX6_sign_14 : decode cX6_sign 14 = .ok (.goto 4, 3) := by decide +kernel
theorem dX6_sign_17 : decode cX6_sign 17 = .ok (.iconst (-1), 1) := by decide +kernel
theorem dX6_sign_18 : decode cX6_sign 18 = .ok (.ireturn, 1) := by decide +kernel
theorem dX6_digit_0 : decode cX6_digit 0 = .ok (.aload_n 0, 1) := by decide +kernel
theorem dX6_digit_1 : decode cX6_digit 1 = .ok (.iload_n 1, 1) := by decide +kernel
theorem dX6_digit_2 : decode cX6_digit 2 = .ok (.invokevirtual 97, 3) := by decide +kernel
theorem dX6_digit_5 : decode cX6_digit 5 = .ok (.bipush 48, 2) := by decide +kernel
theorem dX6_digit_7 : decode cX6_digit 7 = .ok (.bipush 57, 2) := by decide +kernel
theorem dX6_digit_9 : decode cX6_digit 9 = .ok (.invokestatic 29, 3) := by decide +kernel
theorem dX6_digit_12 : decode cX6_digit 12 = .ok (.ifCond .eq 14, 3) := by decide +kernel
theorem dX6_digit_15 : decode cX6_digit 15 = .ok (.aload_n 0, 1) := by decide +kernel
theorem dX6_digit_16 : decode cX6_digit 16 = .ok (.iload_n 1, 1) := by decide +kernel
theorem dX6_digit_17 : decode cX6_digit 17 = .ok (.invokevirtual 97, 3) := by decide +kernel
theorem dX6_digit_20 : decode cX6_digit 20 = .ok (.bipush 48, 2) := by decide +kernel
theorem dX6_digit_22 : decode cX6_digit 22 = .ok (.isub, 1) := by decide +kernel
theorem dX6_digit_23 : decode cX6_digit 23 = .ok (.goto 4, 3) := by decide +kernel
theorem dX6_digit_26 : decode cX6_digit 26 = .ok (.iconst (-1), 1) := by decide +kernel
theorem dX6_digit_27 : decode cX6_digit 27 = .ok (.ireturn, 1) := by decide +kernel
theorem dX6_numberEnd_0 : decode cX6_numberEnd 0 = .ok (.aload_n 0, 1) := by decide +kernel
theorem dX6_numberEnd_1 : decode cX6_numberEnd 1 = .ok (.iload_n 1, 1) := by decide +kernel
theorem dX6_numberEnd_2 : decode cX6_numberEnd 2 = .ok (.invokevirtual 100, 3) := by decide +kernel
theorem dX6_numberEnd_5 : decode cX6_numberEnd 5 = .ok (.ifCond .lt 15, 3) := by decide +kernel
theorem dX6_numberEnd_8 : decode cX6_numberEnd 8 = .ok (.aload_n 0, 1) := by decide +kernel
theorem dX6_numberEnd_9 : decode cX6_numberEnd 9 = .ok (.iload_n 1, 1) := by decide +kernel
theorem dX6_numberEnd_10 : decode cX6_numberEnd 10 = .ok (.invokevirtual 100, 3) := by decide +kernel
theorem dX6_numberEnd_13 : decode cX6_numberEnd 13 = .ok (.ifCond .ne 11, 3) := by decide +kernel
theorem dX6_numberEnd_16 : decode cX6_numberEnd 16 = .ok (.iload_n 2, 1) := by decide +kernel
theorem dX6_numberEnd_17 : decode cX6_numberEnd 17 = .ok (.ifCond .le 7, 3) := by decide +kernel
theorem dX6_numberEnd_20 : decode cX6_numberEnd 20 = .ok (.iconst (-1), 1) := by decide +kernel
theorem dX6_numberEnd_21 : decode cX6_numberEnd 21 = .ok (.iload_n 1, 1) := by decide +kernel
theorem dX6_numberEnd_22 : decode cX6_numberEnd 22 = .ok (.isub, 1) := by decide +kernel
theorem dX6_numberEnd_23 : decode cX6_numberEnd 23 = .ok (.ireturn, 1) := by decide +kernel
theorem dX6_numberEnd_24 : decode cX6_numberEnd 24 = .ok (.aload_n 0, 1) := by decide +kernel
theorem dX6_numberEnd_25 : decode cX6_numberEnd 25 = .ok (.iload_n 1, 1) := by decide +kernel
theorem dX6_numberEnd_26 : decode cX6_numberEnd 26 = .ok (.invokevirtual 100, 3) := by decide +kernel
theorem dX6_numberEnd_29 : decode cX6_numberEnd 29 = .ok (.ifCond .le 37, 3) := by decide +kernel
theorem dX6_numberEnd_32 : decode cX6_numberEnd 32 = .ok (.aload_n 0, 1) := by decide +kernel
theorem dX6_numberEnd_33 : decode cX6_numberEnd 33 = .ok (.iload_n 1, 1) := by decide +kernel
theorem dX6_numberEnd_34 : decode cX6_numberEnd 34 = .ok (.iconst 1, 1) := by decide +kernel
theorem dX6_numberEnd_35 : decode cX6_numberEnd 35 = .ok (.iadd, 1) := by decide +kernel
theorem dX6_numberEnd_36 : decode cX6_numberEnd 36 = .ok (.invokevirtual 100, 3) := by decide +kernel
theorem dX6_numberEnd_39 : decode cX6_numberEnd 39 = .ok (.ifCond .lt 27, 3) := by decide +kernel
theorem dX6_numberEnd_42 : decode cX6_numberEnd 42 = .ok (.bipush 10, 2) := by decide +kernel
theorem dX6_numberEnd_44 : decode cX6_numberEnd 44 = .ok (.aload_n 0, 1) := by decide +kernel
theorem dX6_numberEnd_45 : decode cX6_numberEnd 45 = .ok (.iload_n 1, 1) := by decide +kernel
theorem dX6_numberEnd_46 : decode cX6_numberEnd 46 = .ok (.invokevirtual 100, 3) := by decide +kernel
theorem dX6_numberEnd_49 : decode cX6_numberEnd 49 = .ok (.imul, 1) := by decide +kernel
theorem dX6_numberEnd_50 : decode cX6_numberEnd 50 = .ok (.aload_n 0, 1) := by decide +kernel
theorem dX6_numberEnd_51 : decode cX6_numberEnd 51 = .ok (.iload_n 1, 1) := by decide +kernel
theorem dX6_numberEnd_52 : decode cX6_numberEnd 52 = .ok (.iconst 1, 1) := by decide +kernel
theorem dX6_numberEnd_53 : decode cX6_numberEnd 53 = .ok (.iadd, 1) := by decide +kernel
theorem dX6_numberEnd_54 : decode cX6_numberEnd 54 = .ok (.invokevirtual 100, 3) := by decide +kernel
theorem dX6_numberEnd_57 : decode cX6_numberEnd 57 = .ok (.iadd, 1) := by decide +kernel
theorem dX6_numberEnd_58 : decode cX6_numberEnd 58 = .ok (.iload_n 3, 1) := by decide +kernel
theorem dX6_numberEnd_59 : decode cX6_numberEnd 59 = .ok (.if_icmp .gt 7, 3) := by decide +kernel
theorem dX6_numberEnd_62 : decode cX6_numberEnd 62 = .ok (.iconst 1, 1) := by decide +kernel
theorem dX6_numberEnd_63 : decode cX6_numberEnd 63 = .ok (.goto 4, 3) := by decide +kernel
theorem dX6_numberEnd_66 : decode cX6_numberEnd 66 = .ok (.iconst 0, 1) := by decide +kernel
theorem dX6_numberEnd_67 : decode cX6_numberEnd 67 = .ok (.istore 4, 2) := by decide +kernel
theorem dX6_numberEnd_69 : decode cX6_numberEnd 69 = .ok (.iload 4, 2) := by decide +kernel
theorem dX6_numberEnd_71 : decode cX6_numberEnd 71 = .ok (.ifCond .eq 9, 3) := by decide +kernel
theorem dX6_numberEnd_74 : decode cX6_numberEnd 74 = .ok (.iload_n 1, 1) := by decide +kernel
theorem dX6_numberEnd_75 : decode cX6_numberEnd 75 = .ok (.iconst 2, 1) := by decide +kernel
theorem dX6_numberEnd_76 : decode cX6_numberEnd 76 = .ok (.iadd, 1) := by decide +kernel
theorem dX6_numberEnd_77 : decode cX6_numberEnd 77 = .ok (.goto 6, 3) := by decide +kernel
theorem dX6_numberEnd_80 : decode cX6_numberEnd 80 = .ok (.iload_n 1, 1) := by decide +kernel
theorem dX6_numberEnd_81 : decode cX6_numberEnd 81 = .ok (.iconst 1, 1) := by decide +kernel
theorem dX6_numberEnd_82 : decode cX6_numberEnd 82 = .ok (.iadd, 1) := by decide +kernel
theorem dX6_numberEnd_83 : decode cX6_numberEnd 83 = .ok (.ireturn, 1) := by decide +kernel
theorem dX6_numberIn_0 : decode cX6_numberIn 0 = .ok (.iload_n 2, 1) := by decide +kernel
theorem dX6_numberIn_1 : decode cX6_numberIn 1 = .ok (.iload_n 1, 1) := by decide +kernel
theorem dX6_numberIn_2 : decode cX6_numberIn 2 = .ok (.iconst 1, 1) := by decide +kernel
theorem dX6_numberIn_3 : decode cX6_numberIn 3 = .ok (.iadd, 1) := by decide +kernel
theorem dX6_numberIn_4 : decode cX6_numberIn 4 = .ok (.if_icmp .ne 11, 3) := by decide +kernel
theorem dX6_numberIn_7 : decode cX6_numberIn 7 = .ok (.aload_n 0, 1) := by decide +kernel
theorem dX6_numberIn_8 : decode cX6_numberIn 8 = .ok (.iload_n 1, 1) := by decide +kernel
theorem dX6_numberIn_9 : decode cX6_numberIn 9 = .ok (.invokevirtual 100, 3) := by decide +kernel
theorem dX6_numberIn_12 : decode cX6_numberIn 12 = .ok (.goto 19, 3) := by decide +kernel
theorem dX6_numberIn_15 : decode cX6_numberIn 15 = .ok (.bipush 10, 2) := by decide +kernel
theorem dX6_numberIn_17 : decode cX6_numberIn 17 = .ok (.aload_n 0, 1) := by decide +kernel
theorem dX6_numberIn_18 : decode cX6_numberIn 18 = .ok (.iload_n 1, 1) := by decide +kernel
theorem dX6_numberIn_19 : decode cX6_numberIn 19 = .ok (.invokevirtual 100, 3) := by decide +kernel
theorem dX6_numberIn_22 : decode cX6_numberIn 22 = .ok (.imul, 1) := by decide +kernel
theorem dX6_numberIn_23 : decode cX6_numberIn 23 = .ok (.aload_n 0, 1) := by decide +kernel
theorem dX6_numberIn_24 : decode cX6_numberIn 24 = .ok (.iload_n 1, 1) := by decide +kernel
theorem dX6_numberIn_25 : decode cX6_numberIn 25 = .ok (.iconst 1, 1) := by decide +kernel
theorem dX6_numberIn_26 : decode cX6_numberIn 26 = .ok (.iadd, 1) := by decide +kernel
theorem dX6_numberIn_27 : decode cX6_numberIn 27 = .ok (.invokevirtual 100, 3) := by decide +kernel
theorem dX6_numberIn_30 : decode cX6_numberIn 30 = .ok (.iadd, 1) := by decide +kernel
theorem dX6_numberIn_31 : decode cX6_numberIn 31 = .ok (.ireturn, 1) := by decide +kernel
theorem dX6_warmthEnd_0 : decode cX6_warmthEnd 0 = .ok (.aload_n 0, 1) := by decide +kernel
theorem dX6_warmthEnd_1 : decode cX6_warmthEnd 1 = .ok (.iload_n 1, 1) := by decide +kernel
theorem dX6_warmthEnd_2 : decode cX6_warmthEnd 2 = .ok (.invokevirtual 97, 3) := by decide +kernel
theorem dX6_warmthEnd_5 : decode cX6_warmthEnd 5 = .ok (.bipush 45, 2) := by decide +kernel
theorem dX6_warmthEnd_7 : decode cX6_warmthEnd 7 = .ok (.if_icmp .ne 16, 3) := by decide +kernel
theorem dX6_warmthEnd_10 : decode cX6_warmthEnd 10 = .ok (.aload_n 0, 1) := by decide +kernel
theorem dX6_warmthEnd_11 : decode cX6_warmthEnd 11 = .ok (.iload_n 1, 1) := by decide +kernel
theorem dX6_warmthEnd_12 : decode cX6_warmthEnd 12 = .ok (.iconst 1, 1) := by decide +kernel
theorem dX6_warmthEnd_13 : decode cX6_warmthEnd 13 = .ok (.iadd, 1) := by decide +kernel
theorem dX6_warmthEnd_14 : decode cX6_warmthEnd 14 = .ok (.iconst 1, 1) := by decide +kernel
theorem dX6_warmthEnd_15 : decode cX6_warmthEnd 15 = .ok (.bipush 40, 2) := by decide +kernel
theorem dX6_warmthEnd_17 : decode cX6_warmthEnd 17 = .ok (.invokevirtual 103, 3) := by decide +kernel
theorem dX6_warmthEnd_20 : decode cX6_warmthEnd 20 = .ok (.goto 11, 3) := by decide +kernel
theorem dX6_warmthEnd_23 : decode cX6_warmthEnd 23 = .ok (.aload_n 0, 1) := by decide +kernel
theorem dX6_warmthEnd_24 : decode cX6_warmthEnd 24 = .ok (.iload_n 1, 1) := by decide +kernel
theorem dX6_warmthEnd_25 : decode cX6_warmthEnd 25 = .ok (.iconst 0, 1) := by decide +kernel
theorem dX6_warmthEnd_26 : decode cX6_warmthEnd 26 = .ok (.bipush 40, 2) := by decide +kernel
theorem dX6_warmthEnd_28 : decode cX6_warmthEnd 28 = .ok (.invokevirtual 103, 3) := by decide +kernel
theorem dX6_warmthEnd_31 : decode cX6_warmthEnd 31 = .ok (.ireturn, 1) := by decide +kernel
theorem dX6_dayEnd_0 : decode cX6_dayEnd 0 = .ok (.aload_n 0, 1) := by decide +kernel
theorem dX6_dayEnd_1 : decode cX6_dayEnd 1 = .ok (.iload_n 1, 1) := by decide +kernel
theorem dX6_dayEnd_2 : decode cX6_dayEnd 2 = .ok (.invokevirtual 106, 3) := by decide +kernel
theorem dX6_dayEnd_5 : decode cX6_dayEnd 5 = .ok (.istore_n 2, 1) := by decide +kernel
theorem dX6_dayEnd_6 : decode cX6_dayEnd 6 = .ok (.iload_n 2, 1) := by decide +kernel
theorem dX6_dayEnd_7 : decode cX6_dayEnd 7 = .ok (.ifCond .lt 26, 3) := by decide +kernel
theorem dX6_dayEnd_10 : decode cX6_dayEnd 10 = .ok (.aload_n 0, 1) := by decide +kernel
theorem dX6_dayEnd_11 : decode cX6_dayEnd 11 = .ok (.iload_n 2, 1) := by decide +kernel
theorem dX6_dayEnd_12 : decode cX6_dayEnd 12 = .ok (.invokevirtual 97, 3) := by decide +kernel
theorem dX6_dayEnd_15 : decode cX6_dayEnd 15 = .ok (.bipush 42, 2) := by decide +kernel
theorem dX6_dayEnd_17 : decode cX6_dayEnd 17 = .ok (.if_icmp .ne 16, 3) := by decide +kernel
theorem dX6_dayEnd_20 : decode cX6_dayEnd 20 = .ok (.aload_n 0, 1) := by decide +kernel
theorem dX6_dayEnd_21 : decode cX6_dayEnd 21 = .ok (.iload_n 2, 1) := by decide +kernel
theorem dX6_dayEnd_22 : decode cX6_dayEnd 22 = .ok (.iconst 1, 1) := by decide +kernel
theorem dX6_dayEnd_23 : decode cX6_dayEnd 23 = .ok (.iadd, 1) := by decide +kernel
theorem dX6_dayEnd_24 : decode cX6_dayEnd 24 = .ok (.iconst 1, 1) := by decide +kernel
theorem dX6_dayEnd_25 : decode cX6_dayEnd 25 = .ok (.bipush 20, 2) := by decide +kernel
theorem dX6_dayEnd_27 : decode cX6_dayEnd 27 = .ok (.invokevirtual 103, 3) := by decide +kernel
theorem dX6_dayEnd_30 : decode cX6_dayEnd 30 = .ok (.goto 4, 3) := by decide +kernel
theorem dX6_dayEnd_33 : decode cX6_dayEnd 33 = .ok (.iload_n 2, 1) := by decide +kernel
theorem dX6_dayEnd_34 : decode cX6_dayEnd 34 = .ok (.ireturn, 1) := by decide +kernel
theorem dX6_fault_0 : decode cX6_fault 0 = .ok (.iconst 0, 1) := by decide +kernel
theorem dX6_fault_1 : decode cX6_fault 1 = .ok (.istore_n 1, 1) := by decide +kernel
theorem dX6_fault_2 : decode cX6_fault 2 = .ok (.iconst 0, 1) := by decide +kernel
theorem dX6_fault_3 : decode cX6_fault 3 = .ok (.istore_n 2, 1) := by decide +kernel
theorem dX6_fault_4 : decode cX6_fault 4 = .ok (.iload_n 2, 1) := by decide +kernel
theorem dX6_fault_5 : decode cX6_fault 5 = .ok (.bipush 60, 2) := by decide +kernel
theorem dX6_fault_7 : decode cX6_fault 7 = .ok (.if_icmp .ge 50, 3) := by decide +kernel
theorem dX6_fault_10 : decode cX6_fault 10 = .ok (.aload_n 0, 1) := by decide +kernel
theorem dX6_fault_11 : decode cX6_fault 11 = .ok (.iload_n 1, 1) := by decide +kernel
theorem dX6_fault_12 : decode cX6_fault 12 = .ok (.invokevirtual 109, 3) := by decide +kernel
theorem dX6_fault_15 : decode cX6_fault 15 = .ok (.istore_n 3, 1) := by decide +kernel
theorem dX6_fault_16 : decode cX6_fault 16 = .ok (.iload_n 3, 1) := by decide +kernel
theorem dX6_fault_17 : decode cX6_fault 17 = .ok (.ifCond .ge 7, 3) := by decide +kernel
theorem dX6_fault_20 : decode cX6_fault 20 = .ok (.iconst (-1), 1) := by decide +kernel
theorem dX6_fault_21 : decode cX6_fault 21 = .ok (.iload_n 3, 1) := by decide +kernel
theorem dX6_fault_22 : decode cX6_fault 22 = .ok (.isub, 1) := by decide +kernel
theorem dX6_fault_23 : decode cX6_fault 23 = .ok (.ireturn, 1) := by decide +kernel
theorem dX6_fault_24 : decode cX6_fault 24 = .ok (.iload_n 3, 1) := by decide +kernel
theorem dX6_fault_25 : decode cX6_fault 25 = .ok (.aload_n 0, 1) := by decide +kernel
theorem dX6_fault_26 : decode cX6_fault 26 = .ok (.getfield 94, 3) := by decide +kernel
theorem dX6_fault_29 : decode cX6_fault 29 = .ok (.if_icmp .ne 6, 3) := by decide +kernel
theorem dX6_fault_32 : decode cX6_fault 32 = .ok (.bipush (-5), 2) := by decide +kernel
theorem dX6_fault_34 : decode cX6_fault 34 = .ok (.ireturn, 1) := by decide +kernel
theorem dX6_fault_35 : decode cX6_fault 35 = .ok (.aload_n 0, 1) := by decide +kernel
theorem dX6_fault_36 : decode cX6_fault 36 = .ok (.iload_n 3, 1) := by decide +kernel
theorem dX6_fault_37 : decode cX6_fault 37 = .ok (.invokevirtual 97, 3) := by decide +kernel
theorem dX6_fault_40 : decode cX6_fault 40 = .ok (.bipush 59, 2) := by decide +kernel
theorem dX6_fault_42 : decode cX6_fault 42 = .ok (.if_icmp .eq 5, 3) := by decide +kernel
theorem dX6_fault_45 : decode cX6_fault 45 = .ok (.iload_n 3, 1) := by decide +kernel
theorem dX6_fault_46 : decode cX6_fault 46 = .ok (.ireturn, 1) := by decide +kernel
theorem dX6_fault_47 : decode cX6_fault 47 = .ok (.iload_n 3, 1) := by decide +kernel
theorem dX6_fault_48 : decode cX6_fault 48 = .ok (.iconst 1, 1) := by decide +kernel
theorem dX6_fault_49 : decode cX6_fault 49 = .ok (.iadd, 1) := by decide +kernel
theorem dX6_fault_50 : decode cX6_fault 50 = .ok (.istore_n 1, 1) := by decide +kernel
theorem dX6_fault_51 : decode cX6_fault 51 = .ok (.iinc 2 1, 3) := by decide +kernel
theorem dX6_fault_54 : decode cX6_fault 54 = .ok (.goto (-50), 3) := by decide +kernel
theorem dX6_fault_57 : decode cX6_fault 57 = .ok (.bipush (-5), 2) := by decide +kernel
theorem dX6_fault_59 : decode cX6_fault 59 = .ok (.ireturn, 1) := by decide +kernel
theorem dX6_days_0 : decode cX6_days 0 = .ok (.aload_n 0, 1) := by decide +kernel
theorem dX6_days_1 : decode cX6_days 1 = .ok (.iload_n 1, 1) := by decide +kernel
theorem dX6_days_2 : decode cX6_days 2 = .ok (.invokevirtual 106, 3) := by decide +kernel
theorem dX6_days_5 : decode cX6_days 5 = .ok (.istore_n 2, 1) := by decide +kernel
theorem dX6_days_6 : decode cX6_days 6 = .ok (.aload_n 0, 1) := by decide +kernel
theorem dX6_days_7 : decode cX6_days 7 = .ok (.iload_n 1, 1) := by decide +kernel
theorem dX6_days_8 : decode cX6_days 8 = .ok (.invokevirtual 97, 3) := by decide +kernel
theorem dX6_days_11 : decode cX6_days 11 = .ok (.bipush 45, 2) := by decide +kernel
theorem dX6_days_13 : decode cX6_days 13 = .ok (.if_icmp .ne 7, 3) := by decide +kernel
theorem dX6_days_16 : decode cX6_days 16 = .ok (.iconst 1, 1) := by decide +kernel
theorem dX6_days_17 : decode cX6_days 17 = .ok (.goto 4, 3) := by decide +kernel
theorem dX6_days_20 : decode cX6_days 20 = .ok (.iconst 0, 1) := by decide +kernel
theorem dX6_days_21 : decode cX6_days 21 = .ok (.istore_n 3, 1) := by decide +kernel
theorem dX6_days_22 : decode cX6_days 22 = .ok (.iload_n 3, 1) := by decide +kernel
theorem dX6_days_23 : decode cX6_days 23 = .ok (.ifCond .eq 15, 3) := by decide +kernel
theorem dX6_days_26 : decode cX6_days 26 = .ok (.aload_n 0, 1) := by decide +kernel
theorem dX6_days_27 : decode cX6_days 27 = .ok (.iload_n 1, 1) := by decide +kernel
theorem dX6_days_28 : decode cX6_days 28 = .ok (.iconst 1, 1) := by decide +kernel
theorem dX6_days_29 : decode cX6_days 29 = .ok (.iadd, 1) := by decide +kernel
theorem dX6_days_30 : decode cX6_days 30 = .ok (.iload_n 2, 1) := by decide +kernel
theorem dX6_days_31 : decode cX6_days 31 = .ok (.invokevirtual 112, 3) := by decide +kernel
theorem dX6_days_34 : decode cX6_days 34 = .ok (.ineg, 1) := by decide +kernel
theorem dX6_days_35 : decode cX6_days 35 = .ok (.goto 9, 3) := by decide +kernel
theorem dX6_days_38 : decode cX6_days 38 = .ok (.aload_n 0, 1) := by decide +kernel
theorem dX6_days_39 : decode cX6_days 39 = .ok (.iload_n 1, 1) := by decide +kernel
theorem dX6_days_40 : decode cX6_days 40 = .ok (.iload_n 2, 1) := by decide +kernel
theorem dX6_days_41 : decode cX6_days 41 = .ok (.invokevirtual 112, 3) := by decide +kernel
theorem dX6_days_44 : decode cX6_days 44 = .ok (.istore 4, 2) := by decide +kernel
theorem dX6_days_46 : decode cX6_days 46 = .ok (.aload_n 0, 1) := by decide +kernel
theorem dX6_days_47 : decode cX6_days 47 = .ok (.iload_n 2, 1) := by decide +kernel
theorem dX6_days_48 : decode cX6_days 48 = .ok (.invokevirtual 97, 3) := by decide +kernel
theorem dX6_days_51 : decode cX6_days 51 = .ok (.bipush 42, 2) := by decide +kernel
theorem dX6_days_53 : decode cX6_days 53 = .ok (.if_icmp .ne 18, 3) := by decide +kernel
theorem dX6_days_56 : decode cX6_days 56 = .ok (.aload_n 0, 1) := by decide +kernel
theorem dX6_days_57 : decode cX6_days 57 = .ok (.iload_n 2, 1) := by decide +kernel
theorem dX6_days_58 : decode cX6_days 58 = .ok (.iconst 1, 1) := by decide +kernel
theorem dX6_days_59 : decode cX6_days 59 = .ok (.iadd, 1) := by decide +kernel
theorem dX6_days_60 : decode cX6_days 60 = .ok (.aload_n 0, 1) := by decide +kernel
theorem dX6_days_61 : decode cX6_days 61 = .ok (.iload_n 1, 1) := by decide +kernel
theorem dX6_days_62 : decode cX6_days 62 = .ok (.invokevirtual 109, 3) := by decide +kernel
theorem dX6_days_65 : decode cX6_days 65 = .ok (.invokevirtual 112, 3) := by decide +kernel
theorem dX6_days_68 : decode cX6_days 68 = .ok (.goto 4, 3) := by decide +kernel
theorem dX6_days_71 : decode cX6_days 71 = .ok (.iconst 1, 1) := by decide +kernel
theorem dX6_days_72 : decode cX6_days 72 = .ok (.istore 5, 2) := by decide +kernel
theorem dX6_days_74 : decode cX6_days 74 = .ok (.iconst 0, 1) := by decide +kernel
theorem dX6_days_75 : decode cX6_days 75 = .ok (.istore 6, 2) := by decide +kernel
theorem dX6_days_77 : decode cX6_days 77 = .ok (.iload 6, 2) := by decide +kernel
theorem dX6_days_79 : decode cX6_days 79 = .ok (.iload 5, 2) := by decide +kernel
theorem dX6_days_81 : decode cX6_days 81 = .ok (.if_icmp .ge 18, 3) := by decide +kernel
theorem dX6_days_84 : decode cX6_days 84 = .ok (.aload_n 0, 1) := by decide +kernel
theorem dX6_days_85 : decode cX6_days 85 = .ok (.iconst 0, 1) := by decide +kernel
theorem dX6_days_86 : decode cX6_days 86 = .ok (.iload 4, 2) := by decide +kernel
theorem dX6_days_88 : decode cX6_days 88 = .ok (.invokevirtual 82, 3) := by decide +kernel
theorem dX6_days_91 : decode cX6_days 91 = .ok (.istore 7, 2) := by decide +kernel
theorem dX6_days_93 : decode cX6_days 93 = .ok (.iinc 6 1, 3) := by decide +kernel
theorem dX6_days_96 : decode cX6_days 96 = .ok (.goto (-19), 3) := by decide +kernel
theorem dX6_days_99 : decode cX6_days 99 = .ok (.iload 5, 2) := by decide +kernel
theorem dX6_days_101 : decode cX6_days 101 = .ok (.ireturn, 1) := by decide +kernel
theorem dX6_measureAll_0 : decode cX6_measureAll 0 = .ok (.aload_n 0, 1) := by decide +kernel
theorem dX6_measureAll_1 : decode cX6_measureAll 1 = .ok (.invokevirtual 115, 3) := by decide +kernel
theorem dX6_measureAll_4 : decode cX6_measureAll 4 = .ok (.istore_n 1, 1) := by decide +kernel
theorem dX6_measureAll_5 : decode cX6_measureAll 5 = .ok (.iload_n 1, 1) := by decide +kernel
theorem dX6_measureAll_6 : decode cX6_measureAll 6 = .ok (.bipush (-5), 2) := by decide +kernel
theorem dX6_measureAll_8 : decode cX6_measureAll 8 = .ok (.if_icmp .eq 8, 3) := by decide +kernel
theorem dX6_measureAll_11 : decode cX6_measureAll 11 = .ok (.bipush (-100), 2) := by decide +kernel
theorem dX6_measureAll_13 : decode cX6_measureAll 13 = .ok (.iload_n 1, 1) := by decide +kernel
theorem dX6_measureAll_14 : decode cX6_measureAll 14 = .ok (.isub, 1) := by decide +kernel
theorem dX6_measureAll_15 : decode cX6_measureAll 15 = .ok (.ireturn, 1) := by decide +kernel
theorem dX6_measureAll_16 : decode cX6_measureAll 16 = .ok (.aload_n 0, 1) := by decide +kernel
theorem dX6_measureAll_17 : decode cX6_measureAll 17 = .ok (.invokevirtual 79, 3) := by decide +kernel
theorem dX6_measureAll_20 : decode cX6_measureAll 20 = .ok (.iconst 0, 1) := by decide +kernel
theorem dX6_measureAll_21 : decode cX6_measureAll 21 = .ok (.istore_n 2, 1) := by decide +kernel
theorem dX6_measureAll_22 : decode cX6_measureAll 22 = .ok (.iconst 0, 1) := by decide +kernel
theorem dX6_measureAll_23 : decode cX6_measureAll 23 = .ok (.istore_n 3, 1) := by decide +kernel
theorem dX6_measureAll_24 : decode cX6_measureAll 24 = .ok (.iload_n 3, 1) := by decide +kernel
theorem dX6_measureAll_25 : decode cX6_measureAll 25 = .ok (.aload_n 0, 1) := by decide +kernel
theorem dX6_measureAll_26 : decode cX6_measureAll 26 = .ok (.getfield 94, 3) := by decide +kernel
theorem dX6_measureAll_29 : decode cX6_measureAll 29 = .ok (.if_icmp .ge 22, 3) := by decide +kernel
theorem dX6_measureAll_32 : decode cX6_measureAll 32 = .ok (.iload_n 2, 1) := by decide +kernel
theorem dX6_measureAll_33 : decode cX6_measureAll 33 = .ok (.aload_n 0, 1) := by decide +kernel
theorem dX6_measureAll_34 : decode cX6_measureAll 34 = .ok (.iload_n 3, 1) := by decide +kernel
theorem dX6_measureAll_35 : decode cX6_measureAll 35 = .ok (.invokevirtual 119, 3) := by decide +kernel
theorem dX6_measureAll_38 : decode cX6_measureAll 38 = .ok (.iadd, 1) := by decide +kernel
theorem dX6_measureAll_39 : decode cX6_measureAll 39 = .ok (.istore_n 2, 1) := by decide +kernel
theorem dX6_measureAll_40 : decode cX6_measureAll 40 = .ok (.aload_n 0, 1) := by decide +kernel
theorem dX6_measureAll_41 : decode cX6_measureAll 41 = .ok (.iload_n 3, 1) := by decide +kernel
theorem dX6_measureAll_42 : decode cX6_measureAll 42 = .ok (.invokevirtual 109, 3) := by decide +kernel
theorem dX6_measureAll_45 : decode cX6_measureAll 45 = .ok (.iconst 1, 1) := by decide +kernel
theorem dX6_measureAll_46 : decode cX6_measureAll 46 = .ok (.iadd, 1) := by decide +kernel
theorem dX6_measureAll_47 : decode cX6_measureAll 47 = .ok (.istore_n 3, 1) := by decide +kernel
theorem dX6_measureAll_48 : decode cX6_measureAll 48 = .ok (.goto (-24), 3) := by decide +kernel
theorem dX6_measureAll_51 : decode cX6_measureAll 51 = .ok (.iload_n 2, 1) := by decide +kernel
theorem dX6_measureAll_52 : decode cX6_measureAll 52 = .ok (.ireturn, 1) := by decide +kernel
theorem dX6_undo_0 : decode cX6_undo 0 = .ok (.aload_n 0, 1) := by decide +kernel
theorem dX6_undo_1 : decode cX6_undo 1 = .ok (.getfield 33, 3) := by decide +kernel
theorem dX6_undo_4 : decode cX6_undo 4 = .ok (.ifCond .ne 6, 3) := by decide +kernel
theorem dX6_undo_7 : decode cX6_undo 7 = .ok (.bipush (-5), 2) := by decide +kernel
theorem dX6_undo_9 : decode cX6_undo 9 = .ok (.ireturn, 1) := by decide +kernel
theorem dX6_undo_10 : decode cX6_undo 10 = .ok (.aload_n 0, 1) := by decide +kernel
theorem dX6_undo_11 : decode cX6_undo 11 = .ok (.dup, 1) := by decide +kernel
theorem dX6_undo_12 : decode cX6_undo 12 = .ok (.getfield 33, 3) := by decide +kernel
theorem dX6_undo_15 : decode cX6_undo 15 = .ok (.iconst 1, 1) := by decide +kernel
theorem dX6_undo_16 : decode cX6_undo 16 = .ok (.isub, 1) := by decide +kernel
theorem dX6_undo_17 : decode cX6_undo 17 = .ok (.putfield 33, 3) := by decide +kernel
theorem dX6_undo_20 : decode cX6_undo 20 = .ok (.iconst 0, 1) := by decide +kernel
theorem dX6_undo_21 : decode cX6_undo 21 = .ok (.istore_n 1, 1) := by decide +kernel
theorem dX6_undo_22 : decode cX6_undo 22 = .ok (.iload_n 1, 1) := by decide +kernel
theorem dX6_undo_23 : decode cX6_undo 23 = .ok (.sipush 354, 3) := by decide +kernel
theorem dX6_undo_26 : decode cX6_undo 26 = .ok (.if_icmp .ge 30, 3) := by decide +kernel
theorem dX6_undo_29 : decode cX6_undo 29 = .ok (.aload_n 0, 1) := by decide +kernel
theorem dX6_undo_30 : decode cX6_undo 30 = .ok (.getfield 7, 3) := by decide +kernel
theorem dX6_undo_33 : decode cX6_undo 33 = .ok (.iload_n 1, 1) := by decide +kernel
theorem dX6_undo_34 : decode cX6_undo 34 = .ok (.aload_n 0, 1) := by decide +kernel
theorem dX6_undo_35 : decode cX6_undo 35 = .ok (.getfield 13, 3) := by decide +kernel
theorem dX6_undo_38 : decode cX6_undo 38 = .ok (.sipush 354, 3) := by decide +kernel
theorem dX6_undo_41 : decode cX6_undo 41 = .ok (.aload_n 0, 1) := by decide +kernel
theorem dX6_undo_42 : decode cX6_undo 42 = .ok (.getfield 33, 3) := by decide +kernel
theorem dX6_undo_45 : decode cX6_undo 45 = .ok (.imul, 1) := by decide +kernel
theorem dX6_undo_46 : decode cX6_undo 46 = .ok (.iload_n 1, 1) := by decide +kernel
theorem dX6_undo_47 : decode cX6_undo 47 = .ok (.iadd, 1) := by decide +kernel
theorem dX6_undo_48 : decode cX6_undo 48 = .ok (.iaload, 1) := by decide +kernel
theorem dX6_undo_49 : decode cX6_undo 49 = .ok (.iastore, 1) := by decide +kernel
theorem dX6_undo_50 : decode cX6_undo 50 = .ok (.iinc 1 1, 3) := by decide +kernel
theorem dX6_undo_53 : decode cX6_undo 53 = .ok (.goto (-31), 3) := by decide +kernel
theorem dX6_undo_56 : decode cX6_undo 56 = .ok (.aload_n 0, 1) := by decide +kernel
theorem dX6_undo_57 : decode cX6_undo 57 = .ok (.getfield 33, 3) := by decide +kernel
theorem dX6_undo_60 : decode cX6_undo 60 = .ok (.ireturn, 1) := by decide +kernel
theorem dX6_keep_0 : decode cX6_keep 0 = .ok (.iconst 0, 1) := by decide +kernel
theorem dX6_keep_1 : decode cX6_keep 1 = .ok (.istore_n 1, 1) := by decide +kernel
theorem dX6_keep_2 : decode cX6_keep 2 = .ok (.iload_n 1, 1) := by decide +kernel
theorem dX6_keep_3 : decode cX6_keep 3 = .ok (.sipush 354, 3) := by decide +kernel
theorem dX6_keep_6 : decode cX6_keep 6 = .ok (.if_icmp .ge 21, 3) := by decide +kernel
theorem dX6_keep_9 : decode cX6_keep 9 = .ok (.aload_n 0, 1) := by decide +kernel
theorem dX6_keep_10 : decode cX6_keep 10 = .ok (.getfield 16, 3) := by decide +kernel
theorem dX6_keep_13 : decode cX6_keep 13 = .ok (.iload_n 1, 1) := by decide +kernel
theorem dX6_keep_14 : decode cX6_keep 14 = .ok (.aload_n 0, 1) := by decide +kernel
theorem dX6_keep_15 : decode cX6_keep 15 = .ok (.getfield 7, 3) := by decide +kernel
theorem dX6_keep_18 : decode cX6_keep 18 = .ok (.iload_n 1, 1) := by decide +kernel
theorem dX6_keep_19 : decode cX6_keep 19 = .ok (.iaload, 1) := by decide +kernel
theorem dX6_keep_20 : decode cX6_keep 20 = .ok (.iastore, 1) := by decide +kernel
theorem dX6_keep_21 : decode cX6_keep 21 = .ok (.iinc 1 1, 3) := by decide +kernel
theorem dX6_keep_24 : decode cX6_keep 24 = .ok (.goto (-22), 3) := by decide +kernel
theorem dX6_keep_27 : decode cX6_keep 27 = .ok (.aload_n 0, 1) := by decide +kernel
theorem dX6_keep_28 : decode cX6_keep 28 = .ok (.iconst 1, 1) := by decide +kernel
theorem dX6_keep_29 : decode cX6_keep 29 = .ok (.putfield 122, 3) := by decide +kernel
theorem dX6_keep_32 : decode cX6_keep 32 = .ok (.aload_n 0, 1) := by decide +kernel
theorem dX6_keep_33 : decode cX6_keep 33 = .ok (.getfield 7, 3) := by decide +kernel
theorem dX6_keep_36 : decode cX6_keep 36 = .ok (.sipush 353, 3) := by decide +kernel
theorem dX6_keep_39 : decode cX6_keep 39 = .ok (.iaload, 1) := by decide +kernel
theorem dX6_keep_40 : decode cX6_keep 40 = .ok (.ireturn, 1) := by decide +kernel
theorem dX6_restore_0 : decode cX6_restore 0 = .ok (.aload_n 0, 1) := by decide +kernel
theorem dX6_restore_1 : decode cX6_restore 1 = .ok (.getfield 122, 3) := by decide +kernel
theorem dX6_restore_4 : decode cX6_restore 4 = .ok (.ifCond .ne 6, 3) := by decide +kernel
theorem dX6_restore_7 : decode cX6_restore 7 = .ok (.bipush (-5), 2) := by decide +kernel
theorem dX6_restore_9 : decode cX6_restore 9 = .ok (.ireturn, 1) := by decide +kernel
theorem dX6_restore_10 : decode cX6_restore 10 = .ok (.aload_n 0, 1) := by decide +kernel
theorem dX6_restore_11 : decode cX6_restore 11 = .ok (.invokevirtual 79, 3) := by decide +kernel
theorem dX6_restore_14 : decode cX6_restore 14 = .ok (.iconst 0, 1) := by decide +kernel
theorem dX6_restore_15 : decode cX6_restore 15 = .ok (.istore_n 1, 1) := by decide +kernel
theorem dX6_restore_16 : decode cX6_restore 16 = .ok (.iload_n 1, 1) := by decide +kernel
theorem dX6_restore_17 : decode cX6_restore 17 = .ok (.sipush 354, 3) := by decide +kernel
theorem dX6_restore_20 : decode cX6_restore 20 = .ok (.if_icmp .ge 21, 3) := by decide +kernel
theorem dX6_restore_23 : decode cX6_restore 23 = .ok (.aload_n 0, 1) := by decide +kernel
theorem dX6_restore_24 : decode cX6_restore 24 = .ok (.getfield 7, 3) := by decide +kernel
theorem dX6_restore_27 : decode cX6_restore 27 = .ok (.iload_n 1, 1) := by decide +kernel
theorem dX6_restore_28 : decode cX6_restore 28 = .ok (.aload_n 0, 1) := by decide +kernel
theorem dX6_restore_29 : decode cX6_restore 29 = .ok (.getfield 16, 3) := by decide +kernel
theorem dX6_restore_32 : decode cX6_restore 32 = .ok (.iload_n 1, 1) := by decide +kernel
theorem dX6_restore_33 : decode cX6_restore 33 = .ok (.iaload, 1) := by decide +kernel
theorem dX6_restore_34 : decode cX6_restore 34 = .ok (.iastore, 1) := by decide +kernel
theorem dX6_restore_35 : decode cX6_restore 35 = .ok (.iinc 1 1, 3) := by decide +kernel
theorem dX6_restore_38 : decode cX6_restore 38 = .ok (.goto (-22), 3) := by decide +kernel
theorem dX6_restore_41 : decode cX6_restore 41 = .ok (.aload_n 0, 1) := by decide +kernel
theorem dX6_restore_42 : decode cX6_restore 42 = .ok (.getfield 7, 3) := by decide +kernel
theorem dX6_restore_45 : decode cX6_restore 45 = .ok (.sipush 353, 3) := by decide +kernel
theorem dX6_restore_48 : decode cX6_restore 48 = .ok (.iaload, 1) := by decide +kernel
theorem dX6_restore_49 : decode cX6_restore 49 = .ok (.ireturn, 1) := by decide +kernel
theorem dX6_toldOf_0 : decode cX6_toldOf 0 = .ok (.iload_n 1, 1) := by decide +kernel
theorem dX6_toldOf_1 : decode cX6_toldOf 1 = .ok (.aload_n 0, 1) := by decide +kernel
theorem dX6_toldOf_2 : decode cX6_toldOf 2 = .ok (.getfield 7, 3) := by decide +kernel
theorem dX6_toldOf_5 : decode cX6_toldOf 5 = .ok (.sipush 300, 3) := by decide +kernel
theorem dX6_toldOf_8 : decode cX6_toldOf 8 = .ok (.iaload, 1) := by decide +kernel
theorem dX6_toldOf_9 : decode cX6_toldOf 9 = .ok (.if_icmp .ge 15, 3) := by decide +kernel
theorem dX6_toldOf_12 : decode cX6_toldOf 12 = .ok (.aload_n 0, 1) := by decide +kernel
theorem dX6_toldOf_13 : decode cX6_toldOf 13 = .ok (.getfield 7, 3) := by decide +kernel
theorem dX6_toldOf_16 : decode cX6_toldOf 16 = .ok (.bipush 20, 2) := by decide +kernel
theorem dX6_toldOf_18 : decode cX6_toldOf 18 = .ok (.iload_n 1, 1) := by decide +kernel
theorem dX6_toldOf_19 : decode cX6_toldOf 19 = .ok (.iadd, 1) := by decide +kernel
theorem dX6_toldOf_20 : decode cX6_toldOf 20 = .ok (.iaload, 1) := by decide +kernel
theorem dX6_toldOf_21 : decode cX6_toldOf 21 = .ok (.goto 9, 3) := by decide +kernel
theorem dX6_toldOf_24 : decode cX6_toldOf 24 = .ok (.aload_n 0, 1) := by decide +kernel
theorem dX6_toldOf_25 : decode cX6_toldOf 25 = .ok (.iconst 0, 1) := by decide +kernel
theorem dX6_toldOf_26 : decode cX6_toldOf 26 = .ok (.iload_n 1, 1) := by decide +kernel
theorem dX6_toldOf_27 : decode cX6_toldOf 27 = .ok (.invokevirtual 66, 3) := by decide +kernel
theorem dX6_toldOf_30 : decode cX6_toldOf 30 = .ok (.ireturn, 1) := by decide +kernel
theorem dX6_frostOf_0 : decode cX6_frostOf 0 = .ok (.aload_n 0, 1) := by decide +kernel
theorem dX6_frostOf_1 : decode cX6_frostOf 1 = .ok (.iload_n 1, 1) := by decide +kernel
theorem dX6_frostOf_2 : decode cX6_frostOf 2 = .ok (.invokevirtual 126, 3) := by decide +kernel
theorem dX6_frostOf_5 : decode cX6_frostOf 5 = .ok (.aload_n 0, 1) := by decide +kernel
theorem dX6_frostOf_6 : decode cX6_frostOf 6 = .ok (.getfield 7, 3) := by decide +kernel
theorem dX6_frostOf_9 : decode cX6_frostOf 9 = .ok (.sipush 305, 3) := by decide +kernel
theorem dX6_frostOf_12 : decode cX6_frostOf 12 = .ok (.iaload, 1) := by decide +kernel
theorem dX6_frostOf_13 : decode cX6_frostOf 13 = .ok (.if_icmp .gt 7, 3) := by decide +kernel
theorem dX6_frostOf_16 : decode cX6_frostOf 16 = .ok (.iconst 1, 1) := by decide +kernel
theorem dX6_frostOf_17 : decode cX6_frostOf 17 = .ok (.goto 4, 3) := by decide +kernel
theorem dX6_frostOf_20 : decode cX6_frostOf 20 = .ok (.iconst 0, 1) := by decide +kernel
theorem dX6_frostOf_21 : decode cX6_frostOf 21 = .ok (.ireturn, 1) := by decide +kernel
theorem dX6_dayOf_0 : decode cX6_dayOf 0 = .ok (.iload_n 1, 1) := by decide +kernel
theorem dX6_dayOf_1 : decode cX6_dayOf 1 = .ok (.invokestatic 48, 3) := by decide +kernel
theorem dX6_dayOf_4 : decode cX6_dayOf 4 = .ok (.ifCond .ne 5, 3) := by decide +kernel
theorem dX6_dayOf_7 : decode cX6_dayOf 7 = .ok (.iconst (-1), 1) := by decide +kernel
theorem dX6_dayOf_8 : decode cX6_dayOf 8 = .ok (.ireturn, 1) := by decide +kernel
theorem dX6_dayOf_9 : decode cX6_dayOf 9 = .ok (.iload_n 1, 1) := by decide +kernel
theorem dX6_dayOf_10 : decode cX6_dayOf 10 = .ok (.aload_n 0, 1) := by decide +kernel
theorem dX6_dayOf_11 : decode cX6_dayOf 11 = .ok (.getfield 7, 3) := by decide +kernel
theorem dX6_dayOf_14 : decode cX6_dayOf 14 = .ok (.sipush 300, 3) := by decide +kernel
theorem dX6_dayOf_17 : decode cX6_dayOf 17 = .ok (.iaload, 1) := by decide +kernel
theorem dX6_dayOf_18 : decode cX6_dayOf 18 = .ok (.if_icmp .ge 7, 3) := by decide +kernel
theorem dX6_dayOf_21 : decode cX6_dayOf 21 = .ok (.iconst 1, 1) := by decide +kernel
theorem dX6_dayOf_22 : decode cX6_dayOf 22 = .ok (.goto 4, 3) := by decide +kernel
theorem dX6_dayOf_25 : decode cX6_dayOf 25 = .ok (.iconst 0, 1) := by decide +kernel
theorem dX6_dayOf_26 : decode cX6_dayOf 26 = .ok (.istore_n 3, 1) := by decide +kernel
theorem dX6_dayOf_27 : decode cX6_dayOf 27 = .ok (.iload_n 2, 1) := by decide +kernel
theorem dX6_dayOf_28 : decode cX6_dayOf 28 = .ok (.tableswitch 121 0 4 #[36, 49, 59, 82, 115], 36) := by decide +kernel
theorem dX6_dayOf_64 : decode cX6_dayOf 64 = .ok (.aload_n 0, 1) := by decide +kernel
theorem dX6_dayOf_65 : decode cX6_dayOf 65 = .ok (.getfield 7, 3) := by decide +kernel
theorem dX6_dayOf_68 : decode cX6_dayOf 68 = .ok (.iconst 0, 1) := by decide +kernel
theorem dX6_dayOf_69 : decode cX6_dayOf 69 = .ok (.iload_n 1, 1) := by decide +kernel
theorem dX6_dayOf_70 : decode cX6_dayOf 70 = .ok (.iadd, 1) := by decide +kernel
theorem dX6_dayOf_71 : decode cX6_dayOf 71 = .ok (.iaload, 1) := by decide +kernel
theorem dX6_dayOf_72 : decode cX6_dayOf 72 = .ok (.sipush 1000, 3) := by decide +kernel
theorem dX6_dayOf_75 : decode cX6_dayOf 75 = .ok (.iadd, 1) := by decide +kernel
theorem dX6_dayOf_76 : decode cX6_dayOf 76 = .ok (.ireturn, 1) := by decide +kernel
theorem dX6_dayOf_77 : decode cX6_dayOf 77 = .ok (.aload_n 0, 1) := by decide +kernel
theorem dX6_dayOf_78 : decode cX6_dayOf 78 = .ok (.iload_n 1, 1) := by decide +kernel
theorem dX6_dayOf_79 : decode cX6_dayOf 79 = .ok (.invokevirtual 126, 3) := by decide +kernel
theorem dX6_dayOf_82 : decode cX6_dayOf 82 = .ok (.sipush 1000, 3) := by decide +kernel
theorem dX6_dayOf_85 : decode cX6_dayOf 85 = .ok (.iadd, 1) := by decide +kernel
theorem dX6_dayOf_86 : decode cX6_dayOf 86 = .ok (.ireturn, 1) := by decide +kernel
theorem dX6_dayOf_87 : decode cX6_dayOf 87 = .ok (.iload_n 3, 1) := by decide +kernel
theorem dX6_dayOf_88 : decode cX6_dayOf 88 = .ok (.ifCond .eq 19, 3) := by decide +kernel
theorem dX6_dayOf_91 : decode cX6_dayOf 91 = .ok (.aload_n 0, 1) := by decide +kernel
theorem dX6_dayOf_92 : decode cX6_dayOf 92 = .ok (.getfield 7, 3) := by decide +kernel
theorem dX6_dayOf_95 : decode cX6_dayOf 95 = .ok (.bipush 40, 2) := by decide +kernel
theorem dX6_dayOf_97 : decode cX6_dayOf 97 = .ok (.iload_n 1, 1) := by decide +kernel
theorem dX6_dayOf_98 : decode cX6_dayOf 98 = .ok (.iadd, 1) := by decide +kernel
theorem dX6_dayOf_99 : decode cX6_dayOf 99 = .ok (.iaload, 1) := by decide +kernel
theorem dX6_dayOf_100 : decode cX6_dayOf 100 = .ok (.sipush 1000, 3) := by decide +kernel
theorem dX6_dayOf_103 : decode cX6_dayOf 103 = .ok (.iadd, 1) := by decide +kernel
theorem dX6_dayOf_104 : decode cX6_dayOf 104 = .ok (.goto 5, 3) := by decide +kernel
theorem dX6_dayOf_107 : decode cX6_dayOf 107 = .ok (.bipush (-5), 2) := by decide +kernel
theorem dX6_dayOf_109 : decode cX6_dayOf 109 = .ok (.ireturn, 1) := by decide +kernel
theorem dX6_dayOf_110 : decode cX6_dayOf 110 = .ok (.iload_n 3, 1) := by decide +kernel
theorem dX6_dayOf_111 : decode cX6_dayOf 111 = .ok (.ifCond .eq 29, 3) := by decide +kernel
theorem dX6_dayOf_114 : decode cX6_dayOf 114 = .ok (.aload_n 0, 1) := by decide +kernel
theorem dX6_dayOf_115 : decode cX6_dayOf 115 = .ok (.getfield 7, 3) := by decide +kernel
theorem dX6_dayOf_118 : decode cX6_dayOf 118 = .ok (.bipush 40, 2) := by decide +kernel
theorem dX6_dayOf_120 : decode cX6_dayOf 120 = .ok (.iload_n 1, 1) := by decide +kernel
theorem dX6_dayOf_121 : decode cX6_dayOf 121 = .ok (.iadd, 1) := by decide +kernel
theorem dX6_dayOf_122 : decode cX6_dayOf 122 = .ok (.iaload, 1) := by decide +kernel
theorem dX6_dayOf_123 : decode cX6_dayOf 123 = .ok (.aload_n 0, 1) := by decide +kernel
theorem dX6_dayOf_124 : decode cX6_dayOf 124 = .ok (.getfield 7, 3) := by decide +kernel
theorem dX6_dayOf_127 : decode cX6_dayOf 127 = .ok (.bipush 20, 2) := by decide +kernel
theorem dX6_dayOf_129 : decode cX6_dayOf 129 = .ok (.iload_n 1, 1) := by decide +kernel
theorem dX6_dayOf_130 : decode cX6_dayOf 130 = .ok (.iadd, 1) := by decide +kernel
theorem dX6_dayOf_131 : decode cX6_dayOf 131 = .ok (.iaload, 1) := by decide +kernel
theorem dX6_dayOf_132 : decode cX6_dayOf 132 = .ok (.isub, 1) := by decide +kernel
theorem dX6_dayOf_133 : decode cX6_dayOf 133 = .ok (.sipush 1000, 3) := by decide +kernel
theorem dX6_dayOf_136 : decode cX6_dayOf 136 = .ok (.iadd, 1) := by decide +kernel
theorem dX6_dayOf_137 : decode cX6_dayOf 137 = .ok (.goto 5, 3) := by decide +kernel
theorem dX6_dayOf_140 : decode cX6_dayOf 140 = .ok (.bipush (-5), 2) := by decide +kernel
theorem dX6_dayOf_142 : decode cX6_dayOf 142 = .ok (.ireturn, 1) := by decide +kernel
theorem dX6_dayOf_143 : decode cX6_dayOf 143 = .ok (.aload_n 0, 1) := by decide +kernel
theorem dX6_dayOf_144 : decode cX6_dayOf 144 = .ok (.iload_n 1, 1) := by decide +kernel
theorem dX6_dayOf_145 : decode cX6_dayOf 145 = .ok (.invokevirtual 129, 3) := by decide +kernel
theorem dX6_dayOf_148 : decode cX6_dayOf 148 = .ok (.ireturn, 1) := by decide +kernel
theorem dX6_dayOf_149 : decode cX6_dayOf 149 = .ok (.bipush (-2), 2) := by decide +kernel
theorem dX6_dayOf_151 : decode cX6_dayOf 151 = .ok (.ireturn, 1) := by decide +kernel
theorem dX6_isKnown_0 : decode cX6_isKnown 0 = .ok (.iload_n 1, 1) := by decide +kernel
theorem dX6_isKnown_1 : decode cX6_isKnown 1 = .ok (.iconst 0, 1) := by decide +kernel
theorem dX6_isKnown_2 : decode cX6_isKnown 2 = .ok (.aload_n 0, 1) := by decide +kernel
theorem dX6_isKnown_3 : decode cX6_isKnown 3 = .ok (.getfield 7, 3) := by decide +kernel
theorem dX6_isKnown_6 : decode cX6_isKnown 6 = .ok (.sipush 302, 3) := by decide +kernel
theorem dX6_isKnown_9 : decode cX6_isKnown 9 = .ok (.iaload, 1) := by decide +kernel
theorem dX6_isKnown_10 : decode cX6_isKnown 10 = .ok (.iconst 1, 1) := by decide +kernel
theorem dX6_isKnown_11 : decode cX6_isKnown 11 = .ok (.isub, 1) := by decide +kernel
theorem dX6_isKnown_12 : decode cX6_isKnown 12 = .ok (.invokestatic 29, 3) := by decide +kernel
theorem dX6_isKnown_15 : decode cX6_isKnown 15 = .ok (.ifCond .eq 14, 3) := by decide +kernel
theorem dX6_isKnown_18 : decode cX6_isKnown 18 = .ok (.iload_n 2, 1) := by decide +kernel
theorem dX6_isKnown_19 : decode cX6_isKnown 19 = .ok (.invokestatic 48, 3) := by decide +kernel
theorem dX6_isKnown_22 : decode cX6_isKnown 22 = .ok (.ifCond .eq 7, 3) := by decide +kernel
theorem dX6_isKnown_25 : decode cX6_isKnown 25 = .ok (.iconst 1, 1) := by decide +kernel
theorem dX6_isKnown_26 : decode cX6_isKnown 26 = .ok (.goto 4, 3) := by decide +kernel
theorem dX6_isKnown_29 : decode cX6_isKnown 29 = .ok (.iconst 0, 1) := by decide +kernel
theorem dX6_isKnown_30 : decode cX6_isKnown 30 = .ok (.ireturn, 1) := by decide +kernel
theorem dX6_past_0 : decode cX6_past 0 = .ok (.aload_n 0, 1) := by decide +kernel
theorem dX6_past_1 : decode cX6_past 1 = .ok (.iload_n 1, 1) := by decide +kernel
theorem dX6_past_2 : decode cX6_past 2 = .ok (.iload_n 2, 1) := by decide +kernel
theorem dX6_past_3 : decode cX6_past 3 = .ok (.invokevirtual 132, 3) := by decide +kernel
theorem dX6_past_6 : decode cX6_past 6 = .ok (.ifCond .ne 5, 3) := by decide +kernel
theorem dX6_past_9 : decode cX6_past 9 = .ok (.iconst (-1), 1) := by decide +kernel
theorem dX6_past_10 : decode cX6_past 10 = .ok (.ireturn, 1) := by decide +kernel
theorem dX6_past_11 : decode cX6_past 11 = .ok (.iload_n 3, 1) := by decide +kernel
theorem dX6_past_12 : decode cX6_past 12 = .ok (.iconst 0, 1) := by decide +kernel
theorem dX6_past_13 : decode cX6_past 13 = .ok (.iconst 1, 1) := by decide +kernel
theorem dX6_past_14 : decode cX6_past 14 = .ok (.invokestatic 29, 3) := by decide +kernel
theorem dX6_past_17 : decode cX6_past 17 = .ok (.ifCond .eq 29, 3) := by decide +kernel
theorem dX6_past_20 : decode cX6_past 20 = .ok (.aload_n 0, 1) := by decide +kernel
theorem dX6_past_21 : decode cX6_past 21 = .ok (.getfield 7, 3) := by decide +kernel
theorem dX6_past_24 : decode cX6_past 24 = .ok (.bipush 60, 2) := by decide +kernel
theorem dX6_past_26 : decode cX6_past 26 = .ok (.bipush 60, 2) := by decide +kernel
theorem dX6_past_28 : decode cX6_past 28 = .ok (.iload_n 1, 1) := by decide +kernel
theorem dX6_past_29 : decode cX6_past 29 = .ok (.imul, 1) := by decide +kernel
theorem dX6_past_30 : decode cX6_past 30 = .ok (.iadd, 1) := by decide +kernel
theorem dX6_past_31 : decode cX6_past 31 = .ok (.bipush 20, 2) := by decide +kernel
theorem dX6_past_33 : decode cX6_past 33 = .ok (.iload_n 3, 1) := by decide +kernel
theorem dX6_past_34 : decode cX6_past 34 = .ok (.imul, 1) := by decide +kernel
theorem dX6_past_35 : decode cX6_past 35 = .ok (.iadd, 1) := by decide +kernel
theorem dX6_past_36 : decode cX6_past 36 = .ok (.iload_n 2, 1) := by decide +kernel
theorem dX6_past_37 : decode cX6_past 37 = .ok (.iadd, 1) := by decide +kernel
theorem dX6_past_38 : decode cX6_past 38 = .ok (.iaload, 1) := by decide +kernel
theorem dX6_past_39 : decode cX6_past 39 = .ok (.sipush 1000, 3) := by decide +kernel
theorem dX6_past_42 : decode cX6_past 42 = .ok (.iadd, 1) := by decide +kernel
theorem dX6_past_43 : decode cX6_past 43 = .ok (.goto 5, 3) := by decide +kernel
theorem dX6_past_46 : decode cX6_past 46 = .ok (.bipush (-2), 2) := by decide +kernel
theorem dX6_past_48 : decode cX6_past 48 = .ok (.ireturn, 1) := by decide +kernel
theorem dX6_mean_0 : decode cX6_mean 0 = .ok (.aload_n 0, 1) := by decide +kernel
theorem dX6_mean_1 : decode cX6_mean 1 = .ok (.iload_n 1, 1) := by decide +kernel
theorem dX6_mean_2 : decode cX6_mean 2 = .ok (.iload_n 2, 1) := by decide +kernel
theorem dX6_mean_3 : decode cX6_mean 3 = .ok (.invokevirtual 132, 3) := by decide +kernel
theorem dX6_mean_6 : decode cX6_mean 6 = .ok (.ifCond .ne 5, 3) := by decide +kernel
theorem dX6_mean_9 : decode cX6_mean 9 = .ok (.iconst (-1), 1) := by decide +kernel
theorem dX6_mean_10 : decode cX6_mean 10 = .ok (.ireturn, 1) := by decide +kernel
theorem dX6_mean_11 : decode cX6_mean 11 = .ok (.iload_n 3, 1) := by decide +kernel
theorem dX6_mean_12 : decode cX6_mean 12 = .ok (.iconst 0, 1) := by decide +kernel
theorem dX6_mean_13 : decode cX6_mean 13 = .ok (.iconst 1, 1) := by decide +kernel
theorem dX6_mean_14 : decode cX6_mean 14 = .ok (.invokestatic 29, 3) := by decide +kernel
theorem dX6_mean_17 : decode cX6_mean 17 = .ok (.ifCond .ne 6, 3) := by decide +kernel
theorem dX6_mean_20 : decode cX6_mean 20 = .ok (.bipush (-2), 2) := by decide +kernel
theorem dX6_mean_22 : decode cX6_mean 22 = .ok (.ireturn, 1) := by decide +kernel
theorem dX6_mean_23 : decode cX6_mean 23 = .ok (.aload_n 0, 1) := by decide +kernel
theorem dX6_mean_24 : decode cX6_mean 24 = .ok (.iload_n 1, 1) := by decide +kernel
theorem dX6_mean_25 : decode cX6_mean 25 = .ok (.invokevirtual 135, 3) := by decide +kernel
theorem dX6_mean_28 : decode cX6_mean 28 = .ok (.iload_n 3, 1) := by decide +kernel
theorem dX6_mean_29 : decode cX6_mean 29 = .ok (.ifCond .ne 11, 3) := by decide +kernel
theorem dX6_mean_32 : decode cX6_mean 32 = .ok (.aload_n 0, 1) := by decide +kernel
theorem dX6_mean_33 : decode cX6_mean 33 = .ok (.iload_n 2, 1) := by decide +kernel
theorem dX6_mean_34 : decode cX6_mean 34 = .ok (.invokevirtual 55, 3) := by decide +kernel
theorem dX6_mean_37 : decode cX6_mean 37 = .ok (.goto 8, 3) := by decide +kernel
theorem dX6_mean_40 : decode cX6_mean 40 = .ok (.aload_n 0, 1) := by decide +kernel
theorem dX6_mean_41 : decode cX6_mean 41 = .ok (.iload_n 2, 1) := by decide +kernel
theorem dX6_mean_42 : decode cX6_mean 42 = .ok (.invokevirtual 138, 3) := by decide +kernel
theorem dX6_mean_45 : decode cX6_mean 45 = .ok (.sipush 1000, 3) := by decide +kernel
theorem dX6_mean_48 : decode cX6_mean 48 = .ok (.iadd, 1) := by decide +kernel
theorem dX6_mean_49 : decode cX6_mean 49 = .ok (.ireturn, 1) := by decide +kernel
theorem dX6_saintOf_0 : decode cX6_saintOf 0 = .ok (.aload_n 0, 1) := by decide +kernel
theorem dX6_saintOf_1 : decode cX6_saintOf 1 = .ok (.iload_n 1, 1) := by decide +kernel
theorem dX6_saintOf_2 : decode cX6_saintOf 2 = .ok (.invokevirtual 85, 3) := by decide +kernel
theorem dX6_saintOf_5 : decode cX6_saintOf 5 = .ok (.ifCond .ne 5, 3) := by decide +kernel
theorem dX6_saintOf_8 : decode cX6_saintOf 8 = .ok (.iconst (-1), 1) := by decide +kernel
theorem dX6_saintOf_9 : decode cX6_saintOf 9 = .ok (.ireturn, 1) := by decide +kernel
theorem dX6_saintOf_10 : decode cX6_saintOf 10 = .ok (.iconst 0, 1) := by decide +kernel
theorem dX6_saintOf_11 : decode cX6_saintOf 11 = .ok (.iload_n 1, 1) := by decide +kernel
theorem dX6_saintOf_12 : decode cX6_saintOf 12 = .ok (.invokestatic 37, 3) := by decide +kernel
theorem dX6_saintOf_15 : decode cX6_saintOf 15 = .ok (.istore_n 3, 1) := by decide +kernel
theorem dX6_saintOf_16 : decode cX6_saintOf 16 = .ok (.iload_n 2, 1) := by decide +kernel
theorem dX6_saintOf_17 : decode cX6_saintOf 17 = .ok (.tableswitch 72 0 4 #[35, 44, 44, 35, 57], 35) := by decide +kernel
theorem dX6_saintOf_52 : decode cX6_saintOf 52 = .ok (.aload_n 0, 1) := by decide +kernel
theorem dX6_saintOf_53 : decode cX6_saintOf 53 = .ok (.getfield 7, 3) := by decide +kernel
theorem dX6_saintOf_56 : decode cX6_saintOf 56 = .ok (.iload_n 3, 1) := by decide +kernel
theorem dX6_saintOf_57 : decode cX6_saintOf 57 = .ok (.iload_n 2, 1) := by decide +kernel
theorem dX6_saintOf_58 : decode cX6_saintOf 58 = .ok (.iadd, 1) := by decide +kernel
theorem dX6_saintOf_59 : decode cX6_saintOf 59 = .ok (.iaload, 1) := by decide +kernel
theorem dX6_saintOf_60 : decode cX6_saintOf 60 = .ok (.ireturn, 1) := by decide +kernel
theorem dX6_saintOf_61 : decode cX6_saintOf 61 = .ok (.aload_n 0, 1) := by decide +kernel
theorem dX6_saintOf_62 : decode cX6_saintOf 62 = .ok (.getfield 7, 3) := by decide +kernel
theorem dX6_saintOf_65 : decode cX6_saintOf 65 = .ok (.iload_n 3, 1) := by decide +kernel
theorem dX6_saintOf_66 : decode cX6_saintOf 66 = .ok (.iload_n 2, 1) := by decide +kernel
theorem dX6_saintOf_67 : decode cX6_saintOf 67 = .ok (.iadd, 1) := by decide +kernel
theorem dX6_saintOf_68 : decode cX6_saintOf 68 = .ok (.iaload, 1) := by decide +kernel
theorem dX6_saintOf_69 : decode cX6_saintOf 69 = .ok (.sipush 1000, 3) := by decide +kernel
theorem dX6_saintOf_72 : decode cX6_saintOf 72 = .ok (.iadd, 1) := by decide +kernel
theorem dX6_saintOf_73 : decode cX6_saintOf 73 = .ok (.ireturn, 1) := by decide +kernel
theorem dX6_saintOf_74 : decode cX6_saintOf 74 = .ok (.aload_n 0, 1) := by decide +kernel
theorem dX6_saintOf_75 : decode cX6_saintOf 75 = .ok (.iconst 0, 1) := by decide +kernel
theorem dX6_saintOf_76 : decode cX6_saintOf 76 = .ok (.iload_n 1, 1) := by decide +kernel
theorem dX6_saintOf_77 : decode cX6_saintOf 77 = .ok (.invokevirtual 40, 3) := by decide +kernel
theorem dX6_saintOf_80 : decode cX6_saintOf 80 = .ok (.ifCond .eq 7, 3) := by decide +kernel
theorem dX6_saintOf_83 : decode cX6_saintOf 83 = .ok (.iconst 1, 1) := by decide +kernel
theorem dX6_saintOf_84 : decode cX6_saintOf 84 = .ok (.goto 4, 3) := by decide +kernel
theorem dX6_saintOf_87 : decode cX6_saintOf 87 = .ok (.iconst 0, 1) := by decide +kernel
theorem dX6_saintOf_88 : decode cX6_saintOf 88 = .ok (.ireturn, 1) := by decide +kernel
theorem dX6_saintOf_89 : decode cX6_saintOf 89 = .ok (.bipush (-2), 2) := by decide +kernel
theorem dX6_saintOf_91 : decode cX6_saintOf 91 = .ok (.ireturn, 1) := by decide +kernel
theorem dX6_readerOf_0 : decode cX6_readerOf 0 = .ok (.iload_n 1, 1) := by decide +kernel
theorem dX6_readerOf_1 : decode cX6_readerOf 1 = .ok (.invokestatic 91, 3) := by decide +kernel
theorem dX6_readerOf_4 : decode cX6_readerOf 4 = .ok (.ifCond .ne 5, 3) := by decide +kernel
theorem dX6_readerOf_7 : decode cX6_readerOf 7 = .ok (.iconst (-1), 1) := by decide +kernel
theorem dX6_readerOf_8 : decode cX6_readerOf 8 = .ok (.ireturn, 1) := by decide +kernel
theorem dX6_readerOf_9 : decode cX6_readerOf 9 = .ok (.iload_n 2, 1) := by decide +kernel
theorem dX6_readerOf_10 : decode cX6_readerOf 10 = .ok (.iconst 0, 1) := by decide +kernel
theorem dX6_readerOf_11 : decode cX6_readerOf 11 = .ok (.iconst 4, 1) := by decide +kernel
theorem dX6_readerOf_12 : decode cX6_readerOf 12 = .ok (.invokestatic 29, 3) := by decide +kernel
theorem dX6_readerOf_15 : decode cX6_readerOf 15 = .ok (.ifCond .eq 18, 3) := by decide +kernel
theorem dX6_readerOf_18 : decode cX6_readerOf 18 = .ok (.aload_n 0, 1) := by decide +kernel
theorem dX6_readerOf_19 : decode cX6_readerOf 19 = .ok (.getfield 7, 3) := by decide +kernel
theorem dX6_readerOf_22 : decode cX6_readerOf 22 = .ok (.iconst 0, 1) := by decide +kernel
theorem dX6_readerOf_23 : decode cX6_readerOf 23 = .ok (.iload_n 1, 1) := by decide +kernel
theorem dX6_readerOf_24 : decode cX6_readerOf 24 = .ok (.invokestatic 25, 3) := by decide +kernel
theorem dX6_readerOf_27 : decode cX6_readerOf 27 = .ok (.iload_n 2, 1) := by decide +kernel
theorem dX6_readerOf_28 : decode cX6_readerOf 28 = .ok (.iadd, 1) := by decide +kernel
theorem dX6_readerOf_29 : decode cX6_readerOf 29 = .ok (.iaload, 1) := by decide +kernel
theorem dX6_readerOf_30 : decode cX6_readerOf 30 = .ok (.goto 5, 3) := by decide +kernel
theorem dX6_readerOf_33 : decode cX6_readerOf 33 = .ok (.bipush (-2), 2) := by decide +kernel
theorem dX6_readerOf_35 : decode cX6_readerOf 35 = .ok (.ireturn, 1) := by decide +kernel
theorem dX6_sumOfSizes_0 : decode cX6_sumOfSizes 0 = .ok (.iconst 0, 1) := by decide +kernel
theorem dX6_sumOfSizes_1 : decode cX6_sumOfSizes 1 = .ok (.istore_n 1, 1) := by decide +kernel
theorem dX6_sumOfSizes_2 : decode cX6_sumOfSizes 2 = .ok (.iconst 0, 1) := by decide +kernel
theorem dX6_sumOfSizes_3 : decode cX6_sumOfSizes 3 = .ok (.istore_n 2, 1) := by decide +kernel
theorem dX6_sumOfSizes_4 : decode cX6_sumOfSizes 4 = .ok (.iload_n 2, 1) := by decide +kernel
theorem dX6_sumOfSizes_5 : decode cX6_sumOfSizes 5 = .ok (.bipush 20, 2) := by decide +kernel
theorem dX6_sumOfSizes_7 : decode cX6_sumOfSizes 7 = .ok (.if_icmp .ge 21, 3) := by decide +kernel
theorem dX6_sumOfSizes_10 : decode cX6_sumOfSizes 10 = .ok (.iload_n 1, 1) := by decide +kernel
theorem dX6_sumOfSizes_11 : decode cX6_sumOfSizes 11 = .ok (.aload_n 0, 1) := by decide +kernel
theorem dX6_sumOfSizes_12 : decode cX6_sumOfSizes 12 = .ok (.getfield 22, 3) := by decide +kernel
theorem dX6_sumOfSizes_15 : decode cX6_sumOfSizes 15 = .ok (.iload_n 2, 1) := by decide +kernel
theorem dX6_sumOfSizes_16 : decode cX6_sumOfSizes 16 = .ok (.iaload, 1) := by decide +kernel
theorem dX6_sumOfSizes_17 : decode cX6_sumOfSizes 17 = .ok (.invokestatic 73, 3) := by decide +kernel
theorem dX6_sumOfSizes_20 : decode cX6_sumOfSizes 20 = .ok (.iadd, 1) := by decide +kernel
theorem dX6_sumOfSizes_21 : decode cX6_sumOfSizes 21 = .ok (.istore_n 1, 1) := by decide +kernel
theorem dX6_sumOfSizes_22 : decode cX6_sumOfSizes 22 = .ok (.iinc 2 1, 3) := by decide +kernel
theorem dX6_sumOfSizes_25 : decode cX6_sumOfSizes 25 = .ok (.goto (-21), 3) := by decide +kernel
theorem dX6_sumOfSizes_28 : decode cX6_sumOfSizes 28 = .ok (.iload_n 1, 1) := by decide +kernel
theorem dX6_sumOfSizes_29 : decode cX6_sumOfSizes 29 = .ok (.ireturn, 1) := by decide +kernel
theorem dX6_sumNow_0 : decode cX6_sumNow 0 = .ok (.aload_n 0, 1) := by decide +kernel
theorem dX6_sumNow_1 : decode cX6_sumNow 1 = .ok (.iconst 0, 1) := by decide +kernel
theorem dX6_sumNow_2 : decode cX6_sumNow 2 = .ok (.invokevirtual 58, 3) := by decide +kernel
theorem dX6_sumNow_5 : decode cX6_sumNow 5 = .ok (.aload_n 0, 1) := by decide +kernel
theorem dX6_sumNow_6 : decode cX6_sumNow 6 = .ok (.invokevirtual 141, 3) := by decide +kernel
theorem dX6_sumNow_9 : decode cX6_sumNow 9 = .ok (.ireturn, 1) := by decide +kernel
theorem dX6_sumBefore_0 : decode cX6_sumBefore 0 = .ok (.aload_n 0, 1) := by decide +kernel
theorem dX6_sumBefore_1 : decode cX6_sumBefore 1 = .ok (.iconst 0, 1) := by decide +kernel
theorem dX6_sumBefore_2 : decode cX6_sumBefore 2 = .ok (.invokevirtual 135, 3) := by decide +kernel
theorem dX6_sumBefore_5 : decode cX6_sumBefore 5 = .ok (.aload_n 0, 1) := by decide +kernel
theorem dX6_sumBefore_6 : decode cX6_sumBefore 6 = .ok (.getfield 7, 3) := by decide +kernel
theorem dX6_sumBefore_9 : decode cX6_sumBefore 9 = .ok (.sipush 302, 3) := by decide +kernel
theorem dX6_sumBefore_12 : decode cX6_sumBefore 12 = .ok (.iaload, 1) := by decide +kernel
theorem dX6_sumBefore_13 : decode cX6_sumBefore 13 = .ok (.ifCond .ne 8, 3) := by decide +kernel
theorem dX6_sumBefore_16 : decode cX6_sumBefore 16 = .ok (.bipush (-5), 2) := by decide +kernel
theorem dX6_sumBefore_18 : decode cX6_sumBefore 18 = .ok (.goto 7, 3) := by decide +kernel
theorem dX6_sumBefore_21 : decode cX6_sumBefore 21 = .ok (.aload_n 0, 1) := by decide +kernel
theorem dX6_sumBefore_22 : decode cX6_sumBefore 22 = .ok (.invokevirtual 141, 3) := by decide +kernel
theorem dX6_sumBefore_25 : decode cX6_sumBefore 25 = .ok (.ireturn, 1) := by decide +kernel
theorem dX6_count_0 : decode cX6_count 0 = .ok (.iload_n 1, 1) := by decide +kernel
theorem dX6_count_1 : decode cX6_count 1 = .ok (.tableswitch 144 0 11 #[63, 72, 81, 90, 99, 99, 99, 112, 117, 122, 134, 139], 63) := by decide +kernel
theorem dX6_count_64 : decode cX6_count 64 = .ok (.aload_n 0, 1) := by decide +kernel
theorem dX6_count_65 : decode cX6_count 65 = .ok (.getfield 7, 3) := by decide +kernel
theorem dX6_count_68 : decode cX6_count 68 = .ok (.sipush 301, 3) := by decide +kernel
theorem dX6_count_71 : decode cX6_count 71 = .ok (.iaload, 1) := by decide +kernel
theorem dX6_count_72 : decode cX6_count 72 = .ok (.ireturn, 1) := by decide +kernel
theorem dX6_count_73 : decode cX6_count 73 = .ok (.aload_n 0, 1) := by decide +kernel
theorem dX6_count_74 : decode cX6_count 74 = .ok (.getfield 7, 3) := by decide +kernel
theorem dX6_count_77 : decode cX6_count 77 = .ok (.sipush 300, 3) := by decide +kernel
theorem dX6_count_80 : decode cX6_count 80 = .ok (.iaload, 1) := by decide +kernel
theorem dX6_count_81 : decode cX6_count 81 = .ok (.ireturn, 1) := by decide +kernel
theorem dX6_count_82 : decode cX6_count 82 = .ok (.aload_n 0, 1) := by decide +kernel
theorem dX6_count_83 : decode cX6_count 83 = .ok (.getfield 7, 3) := by decide +kernel
theorem dX6_count_86 : decode cX6_count 86 = .ok (.sipush 302, 3) := by decide +kernel
theorem dX6_count_89 : decode cX6_count 89 = .ok (.iaload, 1) := by decide +kernel
theorem dX6_count_90 : decode cX6_count 90 = .ok (.ireturn, 1) := by decide +kernel
theorem dX6_count_91 : decode cX6_count 91 = .ok (.aload_n 0, 1) := by decide +kernel
theorem dX6_count_92 : decode cX6_count 92 = .ok (.getfield 7, 3) := by decide +kernel
theorem dX6_count_95 : decode cX6_count 95 = .ok (.sipush 307, 3) := by decide +kernel
theorem dX6_count_98 : decode cX6_count 98 = .ok (.iaload, 1) := by decide +kernel
theorem dX6_count_99 : decode cX6_count 99 = .ok (.ireturn, 1) := by decide +kernel
theorem dX6_count_100 : decode cX6_count 100 = .ok (.aload_n 0, 1) := by decide +kernel
theorem dX6_count_101 : decode cX6_count 101 = .ok (.getfield 7, 3) := by decide +kernel
theorem dX6_count_104 : decode cX6_count 104 = .ok (.sipush 348, 3) := by decide +kernel
theorem dX6_count_107 : decode cX6_count 107 = .ok (.iload_n 1, 1) := by decide +kernel
theorem dX6_count_108 : decode cX6_count 108 = .ok (.iadd, 1) := by decide +kernel
theorem dX6_count_109 : decode cX6_count 109 = .ok (.iconst 4, 1) := by decide +kernel
theorem dX6_count_110 : decode cX6_count 110 = .ok (.isub, 1) := by decide +kernel
theorem dX6_count_111 : decode cX6_count 111 = .ok (.iaload, 1) := by decide +kernel
theorem dX6_count_112 : decode cX6_count 112 = .ok (.ireturn, 1) := by decide +kernel
theorem dX6_count_113 : decode cX6_count 113 = .ok (.aload_n 0, 1) := by decide +kernel
theorem dX6_count_114 : decode cX6_count 114 = .ok (.invokevirtual 144, 3) := by decide +kernel
theorem dX6_count_117 : decode cX6_count 117 = .ok (.ireturn, 1) := by decide +kernel
theorem dX6_count_118 : decode cX6_count 118 = .ok (.aload_n 0, 1) := by decide +kernel
theorem dX6_count_119 : decode cX6_count 119 = .ok (.invokevirtual 147, 3) := by decide +kernel
theorem dX6_count_122 : decode cX6_count 122 = .ok (.ireturn, 1) := by decide +kernel
theorem dX6_count_123 : decode cX6_count 123 = .ok (.aload_n 0, 1) := by decide +kernel
theorem dX6_count_124 : decode cX6_count 124 = .ok (.getfield 7, 3) := by decide +kernel
theorem dX6_count_127 : decode cX6_count 127 = .ok (.sipush 351, 3) := by decide +kernel
theorem dX6_count_130 : decode cX6_count 130 = .ok (.iaload, 1) := by decide +kernel
theorem dX6_count_131 : decode cX6_count 131 = .ok (.ldc 150, 2) := by decide +kernel
theorem dX6_count_133 : decode cX6_count 133 = .ok (.iadd, 1) := by decide +kernel
theorem dX6_count_134 : decode cX6_count 134 = .ok (.ireturn, 1) := by decide +kernel
theorem dX6_count_135 : decode cX6_count 135 = .ok (.aload_n 0, 1) := by decide +kernel
theorem dX6_count_136 : decode cX6_count 136 = .ok (.getfield 33, 3) := by decide +kernel
theorem dX6_count_139 : decode cX6_count 139 = .ok (.ireturn, 1) := by decide +kernel
theorem dX6_count_140 : decode cX6_count 140 = .ok (.aload_n 0, 1) := by decide +kernel
theorem dX6_count_141 : decode cX6_count 141 = .ok (.getfield 94, 3) := by decide +kernel
theorem dX6_count_144 : decode cX6_count 144 = .ok (.ireturn, 1) := by decide +kernel
theorem dX6_count_145 : decode cX6_count 145 = .ok (.iload_n 1, 1) := by decide +kernel
theorem dX6_count_146 : decode cX6_count 146 = .ok (.bipush 12, 2) := by decide +kernel
theorem dX6_count_148 : decode cX6_count 148 = .ok (.bipush 15, 2) := by decide +kernel
theorem dX6_count_150 : decode cX6_count 150 = .ok (.invokestatic 29, 3) := by decide +kernel
theorem dX6_count_153 : decode cX6_count 153 = .ok (.ifCond .eq 23, 3) := by decide +kernel
theorem dX6_count_156 : decode cX6_count 156 = .ok (.aload_n 0, 1) := by decide +kernel
theorem dX6_count_157 : decode cX6_count 157 = .ok (.getfield 7, 3) := by decide +kernel
theorem dX6_count_160 : decode cX6_count 160 = .ok (.sipush 303, 3) := by decide +kernel
theorem dX6_count_163 : decode cX6_count 163 = .ok (.iload_n 1, 1) := by decide +kernel
theorem dX6_count_164 : decode cX6_count 164 = .ok (.iadd, 1) := by decide +kernel
theorem dX6_count_165 : decode cX6_count 165 = .ok (.bipush 12, 2) := by decide +kernel
theorem dX6_count_167 : decode cX6_count 167 = .ok (.isub, 1) := by decide +kernel
theorem dX6_count_168 : decode cX6_count 168 = .ok (.iaload, 1) := by decide +kernel
theorem dX6_count_169 : decode cX6_count 169 = .ok (.sipush 1000, 3) := by decide +kernel
theorem dX6_count_172 : decode cX6_count 172 = .ok (.iadd, 1) := by decide +kernel
theorem dX6_count_173 : decode cX6_count 173 = .ok (.goto 5, 3) := by decide +kernel
theorem dX6_count_176 : decode cX6_count 176 = .ok (.bipush (-2), 2) := by decide +kernel
theorem dX6_count_178 : decode cX6_count 178 = .ok (.ireturn, 1) := by decide +kernel
theorem dX6_meanMistake_0 : decode cX6_meanMistake 0 = .ok (.aload_n 0, 1) := by decide +kernel
theorem dX6_meanMistake_1 : decode cX6_meanMistake 1 = .ok (.getfield 7, 3) := by decide +kernel
theorem dX6_meanMistake_4 : decode cX6_meanMistake 4 = .ok (.sipush 353, 3) := by decide +kernel
theorem dX6_meanMistake_7 : decode cX6_meanMistake 7 = .ok (.iaload, 1) := by decide +kernel
theorem dX6_meanMistake_8 : decode cX6_meanMistake 8 = .ok (.ifCond .ne 7, 3) := by decide +kernel
theorem dX6_meanMistake_11 : decode cX6_meanMistake 11 = .ok (.fconst 0, 1) := by decide +kernel
theorem dX6_meanMistake_12 : decode cX6_meanMistake 12 = .ok (.goto 22, 3) := by decide +kernel
theorem dX6_meanMistake_15 : decode cX6_meanMistake 15 = .ok (.aload_n 0, 1) := by decide +kernel
theorem dX6_meanMistake_16 : decode cX6_meanMistake 16 = .ok (.getfield 7, 3) := by decide +kernel
theorem dX6_meanMistake_19 : decode cX6_meanMistake 19 = .ok (.sipush 352, 3) := by decide +kernel
theorem dX6_meanMistake_22 : decode cX6_meanMistake 22 = .ok (.iaload, 1) := by decide +kernel
theorem dX6_meanMistake_23 : decode cX6_meanMistake 23 = .ok (.i2f, 1) := by decide +kernel
theorem dX6_meanMistake_24 : decode cX6_meanMistake 24 = .ok (.aload_n 0, 1) := by decide +kernel
theorem dX6_meanMistake_25 : decode cX6_meanMistake 25 = .ok (.getfield 7, 3) := by decide +kernel
theorem dX6_meanMistake_28 : decode cX6_meanMistake 28 = .ok (.sipush 353, 3) := by decide +kernel
theorem dX6_meanMistake_31 : decode cX6_meanMistake 31 = .ok (.iaload, 1) := by decide +kernel
theorem dX6_meanMistake_32 : decode cX6_meanMistake 32 = .ok (.i2f, 1) := by decide +kernel
theorem dX6_meanMistake_33 : decode cX6_meanMistake 33 = .ok (.fdiv, 1) := by decide +kernel
theorem dX6_meanMistake_34 : decode cX6_meanMistake 34 = .ok (.freturn, 1) := by decide +kernel
theorem dX6_nextBase_0 : decode cX6_nextBase 0 = .ok (.iload_n 1, 1) := by decide +kernel
theorem dX6_nextBase_1 : decode cX6_nextBase 1 = .ok (.invokestatic 48, 3) := by decide +kernel
theorem dX6_nextBase_4 : decode cX6_nextBase 4 = .ok (.ifCond .ne 5, 3) := by decide +kernel
theorem dX6_nextBase_7 : decode cX6_nextBase 7 = .ok (.iconst (-1), 1) := by decide +kernel
theorem dX6_nextBase_8 : decode cX6_nextBase 8 = .ok (.ireturn, 1) := by decide +kernel
theorem dX6_nextBase_9 : decode cX6_nextBase 9 = .ok (.aload_n 0, 1) := by decide +kernel
theorem dX6_nextBase_10 : decode cX6_nextBase 10 = .ok (.iconst 0, 1) := by decide +kernel
theorem dX6_nextBase_11 : decode cX6_nextBase 11 = .ok (.invokevirtual 58, 3) := by decide +kernel
theorem dX6_nextBase_14 : decode cX6_nextBase 14 = .ok (.aload_n 0, 1) := by decide +kernel
theorem dX6_nextBase_15 : decode cX6_nextBase 15 = .ok (.aload_n 0, 1) := by decide +kernel
theorem dX6_nextBase_16 : decode cX6_nextBase 16 = .ok (.getfield 7, 3) := by decide +kernel
theorem dX6_nextBase_19 : decode cX6_nextBase 19 = .ok (.iconst 0, 1) := by decide +kernel
theorem dX6_nextBase_20 : decode cX6_nextBase 20 = .ok (.iload_n 1, 1) := by decide +kernel
theorem dX6_nextBase_21 : decode cX6_nextBase 21 = .ok (.iadd, 1) := by decide +kernel
theorem dX6_nextBase_22 : decode cX6_nextBase 22 = .ok (.iaload, 1) := by decide +kernel
theorem dX6_nextBase_23 : decode cX6_nextBase 23 = .ok (.iload_n 1, 1) := by decide +kernel
theorem dX6_nextBase_24 : decode cX6_nextBase 24 = .ok (.aload_n 0, 1) := by decide +kernel
theorem dX6_nextBase_25 : decode cX6_nextBase 25 = .ok (.getfield 7, 3) := by decide +kernel
theorem dX6_nextBase_28 : decode cX6_nextBase 28 = .ok (.sipush 304, 3) := by decide +kernel
theorem dX6_nextBase_31 : decode cX6_nextBase 31 = .ok (.iaload, 1) := by decide +kernel
theorem dX6_nextBase_32 : decode cX6_nextBase 32 = .ok (.invokevirtual 62, 3) := by decide +kernel
theorem dX6_nextBase_35 : decode cX6_nextBase 35 = .ok (.sipush 1000, 3) := by decide +kernel
theorem dX6_nextBase_38 : decode cX6_nextBase 38 = .ok (.iadd, 1) := by decide +kernel
theorem dX6_nextBase_39 : decode cX6_nextBase 39 = .ok (.ireturn, 1) := by decide +kernel
theorem dX6_wrongs_0 : decode cX6_wrongs 0 = .ok (.iconst 0, 1) := by decide +kernel
theorem dX6_wrongs_1 : decode cX6_wrongs 1 = .ok (.istore_n 2, 1) := by decide +kernel
theorem dX6_wrongs_2 : decode cX6_wrongs 2 = .ok (.iconst 0, 1) := by decide +kernel
theorem dX6_wrongs_3 : decode cX6_wrongs 3 = .ok (.istore_n 3, 1) := by decide +kernel
theorem dX6_wrongs_4 : decode cX6_wrongs 4 = .ok (.iload_n 3, 1) := by decide +kernel
theorem dX6_wrongs_5 : decode cX6_wrongs 5 = .ok (.bipush 20, 2) := by decide +kernel
theorem dX6_wrongs_7 : decode cX6_wrongs 7 = .ok (.if_icmp .ge 66, 3) := by decide +kernel
theorem dX6_wrongs_10 : decode cX6_wrongs 10 = .ok (.aload_n 0, 1) := by decide +kernel
theorem dX6_wrongs_11 : decode cX6_wrongs 11 = .ok (.getfield 7, 3) := by decide +kernel
theorem dX6_wrongs_14 : decode cX6_wrongs 14 = .ok (.bipush 60, 2) := by decide +kernel
theorem dX6_wrongs_16 : decode cX6_wrongs 16 = .ok (.iload_n 3, 1) := by decide +kernel
theorem dX6_wrongs_17 : decode cX6_wrongs 17 = .ok (.iadd, 1) := by decide +kernel
theorem dX6_wrongs_18 : decode cX6_wrongs 18 = .ok (.iaload, 1) := by decide +kernel
theorem dX6_wrongs_19 : decode cX6_wrongs 19 = .ok (.istore 4, 2) := by decide +kernel
theorem dX6_wrongs_21 : decode cX6_wrongs 21 = .ok (.iload 4, 2) := by decide +kernel
theorem dX6_wrongs_23 : decode cX6_wrongs 23 = .ok (.aload_n 0, 1) := by decide +kernel
theorem dX6_wrongs_24 : decode cX6_wrongs 24 = .ok (.getfield 7, 3) := by decide +kernel
theorem dX6_wrongs_27 : decode cX6_wrongs 27 = .ok (.bipush 80, 2) := by decide +kernel
theorem dX6_wrongs_29 : decode cX6_wrongs 29 = .ok (.iload_n 3, 1) := by decide +kernel
theorem dX6_wrongs_30 : decode cX6_wrongs 30 = .ok (.iadd, 1) := by decide +kernel
theorem dX6_wrongs_31 : decode cX6_wrongs 31 = .ok (.iaload, 1) := by decide +kernel
theorem dX6_wrongs_32 : decode cX6_wrongs 32 = .ok (.isub, 1) := by decide +kernel
theorem dX6_wrongs_33 : decode cX6_wrongs 33 = .ok (.iload_n 1, 1) := by decide +kernel
theorem dX6_wrongs_34 : decode cX6_wrongs 34 = .ok (.if_icmp .gt 7, 3) := by decide +kernel
theorem dX6_wrongs_37 : decode cX6_wrongs 37 = .ok (.iconst 1, 1) := by decide +kernel
theorem dX6_wrongs_38 : decode cX6_wrongs 38 = .ok (.goto 4, 3) := by decide +kernel
theorem dX6_wrongs_41 : decode cX6_wrongs 41 = .ok (.iconst 0, 1) := by decide +kernel
theorem dX6_wrongs_42 : decode cX6_wrongs 42 = .ok (.istore 5, 2) := by decide +kernel
theorem dX6_wrongs_44 : decode cX6_wrongs 44 = .ok (.iload_n 2, 1) := by decide +kernel
theorem dX6_wrongs_45 : decode cX6_wrongs 45 = .ok (.iload 5, 2) := by decide +kernel
theorem dX6_wrongs_47 : decode cX6_wrongs 47 = .ok (.iload 4, 2) := by decide +kernel
theorem dX6_wrongs_49 : decode cX6_wrongs 49 = .ok (.ifCond .gt 7, 3) := by decide +kernel
theorem dX6_wrongs_52 : decode cX6_wrongs 52 = .ok (.iconst 1, 1) := by decide +kernel
theorem dX6_wrongs_53 : decode cX6_wrongs 53 = .ok (.goto 4, 3) := by decide +kernel
theorem dX6_wrongs_56 : decode cX6_wrongs 56 = .ok (.iconst 0, 1) := by decide +kernel
theorem dX6_wrongs_57 : decode cX6_wrongs 57 = .ok (.if_icmp .ne 7, 3) := by decide +kernel
theorem dX6_wrongs_60 : decode cX6_wrongs 60 = .ok (.iconst 0, 1) := by decide +kernel
theorem dX6_wrongs_61 : decode cX6_wrongs 61 = .ok (.goto 4, 3) := by decide +kernel
theorem dX6_wrongs_64 : decode cX6_wrongs 64 = .ok (.iconst 1, 1) := by decide +kernel
theorem dX6_wrongs_65 : decode cX6_wrongs 65 = .ok (.iadd, 1) := by decide +kernel
theorem dX6_wrongs_66 : decode cX6_wrongs 66 = .ok (.istore_n 2, 1) := by decide +kernel
theorem dX6_wrongs_67 : decode cX6_wrongs 67 = .ok (.iinc 3 1, 3) := by decide +kernel
theorem dX6_wrongs_70 : decode cX6_wrongs 70 = .ok (.goto (-66), 3) := by decide +kernel
theorem dX6_wrongs_73 : decode cX6_wrongs 73 = .ok (.iload_n 2, 1) := by decide +kernel
theorem dX6_wrongs_74 : decode cX6_wrongs 74 = .ok (.ireturn, 1) := by decide +kernel
theorem dX6_bestBound_0 : decode cX6_bestBound 0 = .ok (.iload_n 1, 1) := by decide +kernel
theorem dX6_bestBound_1 : decode cX6_bestBound 1 = .ok (.iconst 0, 1) := by decide +kernel
theorem dX6_bestBound_2 : decode cX6_bestBound 2 = .ok (.iconst 1, 1) := by decide +kernel
theorem dX6_bestBound_3 : decode cX6_bestBound 3 = .ok (.invokestatic 29, 3) := by decide +kernel
theorem dX6_bestBound_6 : decode cX6_bestBound 6 = .ok (.ifCond .ne 6, 3) := by decide +kernel
theorem dX6_bestBound_9 : decode cX6_bestBound 9 = .ok (.bipush (-2), 2) := by decide +kernel
theorem dX6_bestBound_11 : decode cX6_bestBound 11 = .ok (.ireturn, 1) := by decide +kernel
theorem dX6_bestBound_12 : decode cX6_bestBound 12 = .ok (.aload_n 0, 1) := by decide +kernel
theorem dX6_bestBound_13 : decode cX6_bestBound 13 = .ok (.getfield 7, 3) := by decide +kernel
theorem dX6_bestBound_16 : decode cX6_bestBound 16 = .ok (.sipush 302, 3) := by decide +kernel
theorem dX6_bestBound_19 : decode cX6_bestBound 19 = .ok (.iaload, 1) := by decide +kernel
theorem dX6_bestBound_20 : decode cX6_bestBound 20 = .ok (.ifCond .ne 6, 3) := by decide +kernel
theorem dX6_bestBound_23 : decode cX6_bestBound 23 = .ok (.bipush (-5), 2) := by decide +kernel
theorem dX6_bestBound_25 : decode cX6_bestBound 25 = .ok (.ireturn, 1) := by decide +kernel
theorem dX6_bestBound_26 : decode cX6_bestBound 26 = .ok (.iconst 0, 1) := by decide +kernel
theorem dX6_bestBound_27 : decode cX6_bestBound 27 = .ok (.istore_n 2, 1) := by decide +kernel
theorem dX6_bestBound_28 : decode cX6_bestBound 28 = .ok (.aload_n 0, 1) := by decide +kernel
theorem dX6_bestBound_29 : decode cX6_bestBound 29 = .ok (.iconst 0, 1) := by decide +kernel
theorem dX6_bestBound_30 : decode cX6_bestBound 30 = .ok (.invokevirtual 151, 3) := by decide +kernel
theorem dX6_bestBound_33 : decode cX6_bestBound 33 = .ok (.istore_n 3, 1) := by decide +kernel
theorem dX6_bestBound_34 : decode cX6_bestBound 34 = .ok (.iconst 1, 1) := by decide +kernel
theorem dX6_bestBound_35 : decode cX6_bestBound 35 = .ok (.istore 4, 2) := by decide +kernel
theorem dX6_bestBound_37 : decode cX6_bestBound 37 = .ok (.iload 4, 2) := by decide +kernel
theorem dX6_bestBound_39 : decode cX6_bestBound 39 = .ok (.bipush 20, 2) := by decide +kernel
theorem dX6_bestBound_41 : decode cX6_bestBound 41 = .ok (.if_icmp .gt 79, 3) := by decide +kernel
theorem dX6_bestBound_44 : decode cX6_bestBound 44 = .ok (.aload_n 0, 1) := by decide +kernel
theorem dX6_bestBound_45 : decode cX6_bestBound 45 = .ok (.iload 4, 2) := by decide +kernel
theorem dX6_bestBound_47 : decode cX6_bestBound 47 = .ok (.ineg, 1) := by decide +kernel
theorem dX6_bestBound_48 : decode cX6_bestBound 48 = .ok (.invokevirtual 151, 3) := by decide +kernel
theorem dX6_bestBound_51 : decode cX6_bestBound 51 = .ok (.istore 5, 2) := by decide +kernel
theorem dX6_bestBound_53 : decode cX6_bestBound 53 = .ok (.iload 5, 2) := by decide +kernel
theorem dX6_bestBound_55 : decode cX6_bestBound 55 = .ok (.iload_n 3, 1) := by decide +kernel
theorem dX6_bestBound_56 : decode cX6_bestBound 56 = .ok (.if_icmp .ge 9, 3) := by decide +kernel
theorem dX6_bestBound_59 : decode cX6_bestBound 59 = .ok (.iload 4, 2) := by decide +kernel
theorem dX6_bestBound_61 : decode cX6_bestBound 61 = .ok (.ineg, 1) := by decide +kernel
theorem dX6_bestBound_62 : decode cX6_bestBound 62 = .ok (.goto 4, 3) := by decide +kernel
theorem dX6_bestBound_65 : decode cX6_bestBound 65 = .ok (.iload_n 2, 1) := by decide +kernel
theorem dX6_bestBound_66 : decode cX6_bestBound 66 = .ok (.istore_n 2, 1) := by decide +kernel
theorem dX6_bestBound_67 : decode cX6_bestBound 67 = .ok (.iload 5, 2) := by decide +kernel
theorem dX6_bestBound_69 : decode cX6_bestBound 69 = .ok (.iload_n 3, 1) := by decide +kernel
theorem dX6_bestBound_70 : decode cX6_bestBound 70 = .ok (.if_icmp .ge 8, 3) := by decide +kernel
theorem dX6_bestBound_73 : decode cX6_bestBound 73 = .ok (.iload 5, 2) := by decide +kernel
theorem dX6_bestBound_75 : decode cX6_bestBound 75 = .ok (.goto 4, 3) := by decide +kernel
theorem dX6_bestBound_78 : decode cX6_bestBound 78 = .ok (.iload_n 3, 1) := by decide +kernel
theorem dX6_bestBound_79 : decode cX6_bestBound 79 = .ok (.istore_n 3, 1) := by decide +kernel
theorem dX6_bestBound_80 : decode cX6_bestBound 80 = .ok (.aload_n 0, 1) := by decide +kernel
theorem dX6_bestBound_81 : decode cX6_bestBound 81 = .ok (.iload 4, 2) := by decide +kernel
theorem dX6_bestBound_83 : decode cX6_bestBound 83 = .ok (.invokevirtual 151, 3) := by decide +kernel
theorem dX6_bestBound_86 : decode cX6_bestBound 86 = .ok (.istore 6, 2) := by decide +kernel
theorem dX6_bestBound_88 : decode cX6_bestBound 88 = .ok (.iload 6, 2) := by decide +kernel
theorem dX6_bestBound_90 : decode cX6_bestBound 90 = .ok (.iload_n 3, 1) := by decide +kernel
theorem dX6_bestBound_91 : decode cX6_bestBound 91 = .ok (.if_icmp .ge 8, 3) := by decide +kernel
theorem dX6_bestBound_94 : decode cX6_bestBound 94 = .ok (.iload 4, 2) := by decide +kernel
theorem dX6_bestBound_96 : decode cX6_bestBound 96 = .ok (.goto 4, 3) := by decide +kernel
theorem dX6_bestBound_99 : decode cX6_bestBound 99 = .ok (.iload_n 2, 1) := by decide +kernel
theorem dX6_bestBound_100 : decode cX6_bestBound 100 = .ok (.istore_n 2, 1) := by decide +kernel
theorem dX6_bestBound_101 : decode cX6_bestBound 101 = .ok (.iload 6, 2) := by decide +kernel
theorem dX6_bestBound_103 : decode cX6_bestBound 103 = .ok (.iload_n 3, 1) := by decide +kernel
theorem dX6_bestBound_104 : decode cX6_bestBound 104 = .ok (.if_icmp .ge 8, 3) := by decide +kernel
theorem dX6_bestBound_107 : decode cX6_bestBound 107 = .ok (.iload 6, 2) := by decide +kernel
theorem dX6_bestBound_109 : decode cX6_bestBound 109 = .ok (.goto 4, 3) := by decide +kernel
theorem dX6_bestBound_112 : decode cX6_bestBound 112 = .ok (.iload_n 3, 1) := by decide +kernel
theorem dX6_bestBound_113 : decode cX6_bestBound 113 = .ok (.istore_n 3, 1) := by decide +kernel
theorem dX6_bestBound_114 : decode cX6_bestBound 114 = .ok (.iinc 4 1, 3) := by decide +kernel
theorem dX6_bestBound_117 : decode cX6_bestBound 117 = .ok (.goto (-80), 3) := by decide +kernel
theorem dX6_bestBound_120 : decode cX6_bestBound 120 = .ok (.iload_n 1, 1) := by decide +kernel
theorem dX6_bestBound_121 : decode cX6_bestBound 121 = .ok (.ifCond .ne 11, 3) := by decide +kernel
theorem dX6_bestBound_124 : decode cX6_bestBound 124 = .ok (.iload_n 2, 1) := by decide +kernel
theorem dX6_bestBound_125 : decode cX6_bestBound 125 = .ok (.sipush 1000, 3) := by decide +kernel
theorem dX6_bestBound_128 : decode cX6_bestBound 128 = .ok (.iadd, 1) := by decide +kernel
theorem dX6_bestBound_129 : decode cX6_bestBound 129 = .ok (.goto 4, 3) := by decide +kernel
theorem dX6_bestBound_132 : decode cX6_bestBound 132 = .ok (.iload_n 3, 1) := by decide +kernel
theorem dX6_bestBound_133 : decode cX6_bestBound 133 = .ok (.ireturn, 1) := by decide +kernel
theorem dX6_sumWith_0 : decode cX6_sumWith 0 = .ok (.iconst 0, 1) := by decide +kernel
theorem dX6_sumWith_1 : decode cX6_sumWith 1 = .ok (.istore_n 2, 1) := by decide +kernel
theorem dX6_sumWith_2 : decode cX6_sumWith 2 = .ok (.iconst 0, 1) := by decide +kernel
theorem dX6_sumWith_3 : decode cX6_sumWith 3 = .ok (.istore_n 3, 1) := by decide +kernel
theorem dX6_sumWith_4 : decode cX6_sumWith 4 = .ok (.iload_n 3, 1) := by decide +kernel
theorem dX6_sumWith_5 : decode cX6_sumWith 5 = .ok (.bipush 20, 2) := by decide +kernel
theorem dX6_sumWith_7 : decode cX6_sumWith 7 = .ok (.if_icmp .ge 41, 3) := by decide +kernel
theorem dX6_sumWith_10 : decode cX6_sumWith 10 = .ok (.iload_n 2, 1) := by decide +kernel
theorem dX6_sumWith_11 : decode cX6_sumWith 11 = .ok (.aload_n 0, 1) := by decide +kernel
theorem dX6_sumWith_12 : decode cX6_sumWith 12 = .ok (.getfield 7, 3) := by decide +kernel
theorem dX6_sumWith_15 : decode cX6_sumWith 15 = .ok (.bipush 60, 2) := by decide +kernel
theorem dX6_sumWith_17 : decode cX6_sumWith 17 = .ok (.iload_n 3, 1) := by decide +kernel
theorem dX6_sumWith_18 : decode cX6_sumWith 18 = .ok (.iadd, 1) := by decide +kernel
theorem dX6_sumWith_19 : decode cX6_sumWith 19 = .ok (.iaload, 1) := by decide +kernel
theorem dX6_sumWith_20 : decode cX6_sumWith 20 = .ok (.aload_n 0, 1) := by decide +kernel
theorem dX6_sumWith_21 : decode cX6_sumWith 21 = .ok (.aload_n 0, 1) := by decide +kernel
theorem dX6_sumWith_22 : decode cX6_sumWith 22 = .ok (.getfield 7, 3) := by decide +kernel
theorem dX6_sumWith_25 : decode cX6_sumWith 25 = .ok (.sipush 160, 3) := by decide +kernel
theorem dX6_sumWith_28 : decode cX6_sumWith 28 = .ok (.iload_n 3, 1) := by decide +kernel
theorem dX6_sumWith_29 : decode cX6_sumWith 29 = .ok (.iadd, 1) := by decide +kernel
theorem dX6_sumWith_30 : decode cX6_sumWith 30 = .ok (.iaload, 1) := by decide +kernel
theorem dX6_sumWith_31 : decode cX6_sumWith 31 = .ok (.iload_n 3, 1) := by decide +kernel
theorem dX6_sumWith_32 : decode cX6_sumWith 32 = .ok (.iload_n 1, 1) := by decide +kernel
theorem dX6_sumWith_33 : decode cX6_sumWith 33 = .ok (.invokevirtual 62, 3) := by decide +kernel
theorem dX6_sumWith_36 : decode cX6_sumWith 36 = .ok (.isub, 1) := by decide +kernel
theorem dX6_sumWith_37 : decode cX6_sumWith 37 = .ok (.invokestatic 73, 3) := by decide +kernel
theorem dX6_sumWith_40 : decode cX6_sumWith 40 = .ok (.iadd, 1) := by decide +kernel
theorem dX6_sumWith_41 : decode cX6_sumWith 41 = .ok (.istore_n 2, 1) := by decide +kernel
theorem dX6_sumWith_42 : decode cX6_sumWith 42 = .ok (.iinc 3 1, 3) := by decide +kernel
theorem dX6_sumWith_45 : decode cX6_sumWith 45 = .ok (.goto (-41), 3) := by decide +kernel
theorem dX6_sumWith_48 : decode cX6_sumWith 48 = .ok (.iload_n 2, 1) := by decide +kernel
theorem dX6_sumWith_49 : decode cX6_sumWith 49 = .ok (.ireturn, 1) := by decide +kernel
theorem dX6_bestRate_0 : decode cX6_bestRate 0 = .ok (.iload_n 1, 1) := by decide +kernel
theorem dX6_bestRate_1 : decode cX6_bestRate 1 = .ok (.iconst 0, 1) := by decide +kernel
theorem dX6_bestRate_2 : decode cX6_bestRate 2 = .ok (.iconst 1, 1) := by decide +kernel
theorem dX6_bestRate_3 : decode cX6_bestRate 3 = .ok (.invokestatic 29, 3) := by decide +kernel
theorem dX6_bestRate_6 : decode cX6_bestRate 6 = .ok (.ifCond .ne 6, 3) := by decide +kernel
theorem dX6_bestRate_9 : decode cX6_bestRate 9 = .ok (.bipush (-2), 2) := by decide +kernel
theorem dX6_bestRate_11 : decode cX6_bestRate 11 = .ok (.ireturn, 1) := by decide +kernel
theorem dX6_bestRate_12 : decode cX6_bestRate 12 = .ok (.aload_n 0, 1) := by decide +kernel
theorem dX6_bestRate_13 : decode cX6_bestRate 13 = .ok (.getfield 7, 3) := by decide +kernel
theorem dX6_bestRate_16 : decode cX6_bestRate 16 = .ok (.sipush 302, 3) := by decide +kernel
theorem dX6_bestRate_19 : decode cX6_bestRate 19 = .ok (.iaload, 1) := by decide +kernel
theorem dX6_bestRate_20 : decode cX6_bestRate 20 = .ok (.iconst 2, 1) := by decide +kernel
theorem dX6_bestRate_21 : decode cX6_bestRate 21 = .ok (.if_icmp .ge 6, 3) := by decide +kernel
theorem dX6_bestRate_24 : decode cX6_bestRate 24 = .ok (.bipush (-5), 2) := by decide +kernel
theorem dX6_bestRate_26 : decode cX6_bestRate 26 = .ok (.ireturn, 1) := by decide +kernel
theorem dX6_bestRate_27 : decode cX6_bestRate 27 = .ok (.aload_n 0, 1) := by decide +kernel
theorem dX6_bestRate_28 : decode cX6_bestRate 28 = .ok (.iconst 1, 1) := by decide +kernel
theorem dX6_bestRate_29 : decode cX6_bestRate 29 = .ok (.invokevirtual 135, 3) := by decide +kernel
theorem dX6_bestRate_32 : decode cX6_bestRate 32 = .ok (.iconst 0, 1) := by decide +kernel
theorem dX6_bestRate_33 : decode cX6_bestRate 33 = .ok (.istore_n 2, 1) := by decide +kernel
theorem dX6_bestRate_34 : decode cX6_bestRate 34 = .ok (.aload_n 0, 1) := by decide +kernel
theorem dX6_bestRate_35 : decode cX6_bestRate 35 = .ok (.iconst 0, 1) := by decide +kernel
theorem dX6_bestRate_36 : decode cX6_bestRate 36 = .ok (.invokevirtual 154, 3) := by decide +kernel
theorem dX6_bestRate_39 : decode cX6_bestRate 39 = .ok (.istore_n 3, 1) := by decide +kernel
theorem dX6_bestRate_40 : decode cX6_bestRate 40 = .ok (.iconst 1, 1) := by decide +kernel
theorem dX6_bestRate_41 : decode cX6_bestRate 41 = .ok (.istore 4, 2) := by decide +kernel
theorem dX6_bestRate_43 : decode cX6_bestRate 43 = .ok (.iload 4, 2) := by decide +kernel
theorem dX6_bestRate_45 : decode cX6_bestRate 45 = .ok (.bipush 100, 2) := by decide +kernel
theorem dX6_bestRate_47 : decode cX6_bestRate 47 = .ok (.if_icmp .gt 43, 3) := by decide +kernel
theorem dX6_bestRate_50 : decode cX6_bestRate 50 = .ok (.aload_n 0, 1) := by decide +kernel
theorem dX6_bestRate_51 : decode cX6_bestRate 51 = .ok (.iload 4, 2) := by decide +kernel
theorem dX6_bestRate_53 : decode cX6_bestRate 53 = .ok (.invokevirtual 154, 3) := by decide +kernel
theorem dX6_bestRate_56 : decode cX6_bestRate 56 = .ok (.istore 5, 2) := by decide +kernel
theorem dX6_bestRate_58 : decode cX6_bestRate 58 = .ok (.iload 5, 2) := by decide +kernel
theorem dX6_bestRate_60 : decode cX6_bestRate 60 = .ok (.iload_n 3, 1) := by decide +kernel
theorem dX6_bestRate_61 : decode cX6_bestRate 61 = .ok (.if_icmp .ge 8, 3) := by decide +kernel
theorem dX6_bestRate_64 : decode cX6_bestRate 64 = .ok (.iload 4, 2) := by decide +kernel
theorem dX6_bestRate_66 : decode cX6_bestRate 66 = .ok (.goto 4, 3) := by decide +kernel
theorem dX6_bestRate_69 : decode cX6_bestRate 69 = .ok (.iload_n 2, 1) := by decide +kernel
theorem dX6_bestRate_70 : decode cX6_bestRate 70 = .ok (.istore_n 2, 1) := by decide +kernel
theorem dX6_bestRate_71 : decode cX6_bestRate 71 = .ok (.iload 5, 2) := by decide +kernel
theorem dX6_bestRate_73 : decode cX6_bestRate 73 = .ok (.iload_n 3, 1) := by decide +kernel
theorem dX6_bestRate_74 : decode cX6_bestRate 74 = .ok (.if_icmp .ge 8, 3) := by decide +kernel
theorem dX6_bestRate_77 : decode cX6_bestRate 77 = .ok (.iload 5, 2) := by decide +kernel
theorem dX6_bestRate_79 : decode cX6_bestRate 79 = .ok (.goto 4, 3) := by decide +kernel
theorem dX6_bestRate_82 : decode cX6_bestRate 82 = .ok (.iload_n 3, 1) := by decide +kernel
theorem dX6_bestRate_83 : decode cX6_bestRate 83 = .ok (.istore_n 3, 1) := by decide +kernel
theorem dX6_bestRate_84 : decode cX6_bestRate 84 = .ok (.iinc 4 1, 3) := by decide +kernel
theorem dX6_bestRate_87 : decode cX6_bestRate 87 = .ok (.goto (-44), 3) := by decide +kernel
theorem dX6_bestRate_90 : decode cX6_bestRate 90 = .ok (.iload_n 1, 1) := by decide +kernel
theorem dX6_bestRate_91 : decode cX6_bestRate 91 = .ok (.ifCond .ne 7, 3) := by decide +kernel
theorem dX6_bestRate_94 : decode cX6_bestRate 94 = .ok (.iload_n 2, 1) := by decide +kernel
theorem dX6_bestRate_95 : decode cX6_bestRate 95 = .ok (.goto 4, 3) := by decide +kernel
theorem dX6_bestRate_98 : decode cX6_bestRate 98 = .ok (.iload_n 3, 1) := by decide +kernel
theorem dX6_bestRate_99 : decode cX6_bestRate 99 = .ok (.ireturn, 1) := by decide +kernel
theorem dX6_ifMeasured_0 : decode cX6_ifMeasured 0 = .ok (.iload_n 1, 1) := by decide +kernel
theorem dX6_ifMeasured_1 : decode cX6_ifMeasured 1 = .ok (.invokestatic 91, 3) := by decide +kernel
theorem dX6_ifMeasured_4 : decode cX6_ifMeasured 4 = .ok (.ifCond .ne 5, 3) := by decide +kernel
theorem dX6_ifMeasured_7 : decode cX6_ifMeasured 7 = .ok (.iconst (-1), 1) := by decide +kernel
theorem dX6_ifMeasured_8 : decode cX6_ifMeasured 8 = .ok (.ireturn, 1) := by decide +kernel
theorem dX6_ifMeasured_9 : decode cX6_ifMeasured 9 = .ok (.iload_n 2, 1) := by decide +kernel
theorem dX6_ifMeasured_10 : decode cX6_ifMeasured 10 = .ok (.bipush (-40), 2) := by decide +kernel
theorem dX6_ifMeasured_12 : decode cX6_ifMeasured 12 = .ok (.bipush 40, 2) := by decide +kernel
theorem dX6_ifMeasured_14 : decode cX6_ifMeasured 14 = .ok (.invokestatic 29, 3) := by decide +kernel
theorem dX6_ifMeasured_17 : decode cX6_ifMeasured 17 = .ok (.ifCond .ne 6, 3) := by decide +kernel
theorem dX6_ifMeasured_20 : decode cX6_ifMeasured 20 = .ok (.bipush (-2), 2) := by decide +kernel
theorem dX6_ifMeasured_22 : decode cX6_ifMeasured 22 = .ok (.ireturn, 1) := by decide +kernel
theorem dX6_ifMeasured_23 : decode cX6_ifMeasured 23 = .ok (.aload_n 0, 1) := by decide +kernel
theorem dX6_ifMeasured_24 : decode cX6_ifMeasured 24 = .ok (.invokevirtual 157, 3) := by decide +kernel
theorem dX6_ifMeasured_27 : decode cX6_ifMeasured 27 = .ok (.aload_n 0, 1) := by decide +kernel
theorem dX6_ifMeasured_28 : decode cX6_ifMeasured 28 = .ok (.sipush 354, 3) := by decide +kernel
theorem dX6_ifMeasured_31 : decode cX6_ifMeasured 31 = .ok (.iload_n 2, 1) := by decide +kernel
theorem dX6_ifMeasured_32 : decode cX6_ifMeasured 32 = .ok (.invokevirtual 82, 3) := by decide +kernel
theorem dX6_ifMeasured_35 : decode cX6_ifMeasured 35 = .ok (.istore_n 3, 1) := by decide +kernel
theorem dX6_ifMeasured_36 : decode cX6_ifMeasured 36 = .ok (.aload_n 0, 1) := by decide +kernel
theorem dX6_ifMeasured_37 : decode cX6_ifMeasured 37 = .ok (.getfield 7, 3) := by decide +kernel
theorem dX6_ifMeasured_40 : decode cX6_ifMeasured 40 = .ok (.sipush 354, 3) := by decide +kernel
theorem dX6_ifMeasured_43 : decode cX6_ifMeasured 43 = .ok (.iload_n 1, 1) := by decide +kernel
theorem dX6_ifMeasured_44 : decode cX6_ifMeasured 44 = .ok (.invokestatic 25, 3) := by decide +kernel
theorem dX6_ifMeasured_47 : decode cX6_ifMeasured 47 = .ok (.iconst 0, 1) := by decide +kernel
theorem dX6_ifMeasured_48 : decode cX6_ifMeasured 48 = .ok (.iadd, 1) := by decide +kernel
theorem dX6_ifMeasured_49 : decode cX6_ifMeasured 49 = .ok (.iaload, 1) := by decide +kernel
theorem dX6_ifMeasured_50 : decode cX6_ifMeasured 50 = .ok (.ireturn, 1) := by decide +kernel
theorem dL_law_0 : decode cL_law 0 = .ok (.new 7, 3) := by decide +kernel
theorem dL_law_3 : decode cL_law 3 = .ok (.dup, 1) := by decide +kernel
theorem dL_law_4 : decode cL_law 4 = .ok (.invokespecial 9, 3) := by decide +kernel
theorem dL_law_7 : decode cL_law 7 = .ok (.astore_n 1, 1) := by decide +kernel
theorem dL_law_8 : decode cL_law 8 = .ok (.new 10, 3) := by decide +kernel
theorem dL_law_11 : decode cL_law 11 = .ok (.dup, 1) := by decide +kernel
theorem dL_law_12 : decode cL_law 12 = .ok (.invokespecial 12, 3) := by decide +kernel
theorem dL_law_15 : decode cL_law 15 = .ok (.astore_n 2, 1) := by decide +kernel
theorem dL_law_16 : decode cL_law 16 = .ok (.iconst 0, 1) := by decide +kernel
theorem dL_law_17 : decode cL_law 17 = .ok (.istore_n 3, 1) := by decide +kernel
theorem dL_law_18 : decode cL_law 18 = .ok (.iload_n 3, 1) := by decide +kernel
theorem dL_law_19 : decode cL_law 19 = .ok (.aload_n 0, 1) := by decide +kernel
theorem dL_law_20 : decode cL_law 20 = .ok (.arraylength, 1) := by decide +kernel
theorem dL_law_21 : decode cL_law 21 = .ok (.iconst 5, 1) := by decide +kernel
theorem dL_law_22 : decode cL_law 22 = .ok (.isub, 1) := by decide +kernel
theorem dL_law_23 : decode cL_law 23 = .ok (.if_icmp .gt 834, 3) := by decide +kernel
theorem dL_law_26 : decode cL_law 26 = .ok (.aload_n 0, 1) := by decide +kernel
theorem dL_law_27 : decode cL_law 27 = .ok (.iload_n 3, 1) := by decide +kernel
theorem dL_law_28 : decode cL_law 28 = .ok (.iaload, 1) := by decide +kernel
theorem dL_law_29 : decode cL_law 29 = .ok (.bipush 31, 2) := by decide +kernel
theorem dL_law_31 : decode cL_law 31 = .ok (.iand, 1) := by decide +kernel
theorem dL_law_32 : decode cL_law 32 = .ok (.tableswitch 819 0 24 #[116, 139, 152, 185, 238, 261, 294, 353, 376, 401, 414, 427, 440, 453, 466, 499, 542, 585, 618, 651, 674, 717, 740, 763, 786], 116) := by decide +kernel
theorem dL_law_148 : decode cL_law 148 = .ok (.aload_n 1, 1) := by decide +kernel
theorem dL_law_149 : decode cL_law 149 = .ok (.aload_n 0, 1) := by decide +kernel
theorem dL_law_150 : decode cL_law 150 = .ok (.iload_n 3, 1) := by decide +kernel
theorem dL_law_151 : decode cL_law 151 = .ok (.iconst 1, 1) := by decide +kernel
theorem dL_law_152 : decode cL_law 152 = .ok (.iadd, 1) := by decide +kernel
theorem dL_law_153 : decode cL_law 153 = .ok (.iaload, 1) := by decide +kernel
theorem dL_law_154 : decode cL_law 154 = .ok (.invokevirtual 13, 3) := by decide +kernel
theorem dL_law_157 : decode cL_law 157 = .ok (.aload_n 2, 1) := by decide +kernel
theorem dL_law_158 : decode cL_law 158 = .ok (.aload_n 0, 1) := by decide +kernel
theorem dL_law_159 : decode cL_law 159 = .ok (.iload_n 3, 1) := by decide +kernel
theorem dL_law_160 : decode cL_law 160 = .ok (.iconst 1, 1) := by decide +kernel
theorem dL_law_161 : decode cL_law 161 = .ok (.iadd, 1) := by decide +kernel
theorem dL_law_162 : decode cL_law 162 = .ok (.iaload, 1) := by decide +kernel
theorem dL_law_163 : decode cL_law 163 = .ok (.invokevirtual 17, 3) := by decide +kernel
theorem dL_law_166 : decode cL_law 166 = .ok (.if_icmp .eq 685, 3) := by decide +kernel
theorem dL_law_169 : decode cL_law 169 = .ok (.iconst 0, 1) := by decide +kernel
theorem dL_law_170 : decode cL_law 170 = .ok (.ireturn, 1) := by decide +kernel
theorem dL_law_171 : decode cL_law 171 = .ok (.aload_n 1, 1) := by decide +kernel
theorem dL_law_172 : decode cL_law 172 = .ok (.invokevirtual 18, 3) := by decide +kernel
theorem dL_law_175 : decode cL_law 175 = .ok (.aload_n 2, 1) := by decide +kernel
theorem dL_law_176 : decode cL_law 176 = .ok (.invokevirtual 22, 3) := by decide +kernel
theorem dL_law_179 : decode cL_law 179 = .ok (.if_icmp .eq 672, 3) := by decide +kernel
theorem dL_law_182 : decode cL_law 182 = .ok (.iconst 0, 1) := by decide +kernel
theorem dL_law_183 : decode cL_law 183 = .ok (.ireturn, 1) := by decide +kernel
theorem dL_law_184 : decode cL_law 184 = .ok (.aload_n 1, 1) := by decide +kernel
theorem dL_law_185 : decode cL_law 185 = .ok (.aload_n 0, 1) := by decide +kernel
theorem dL_law_186 : decode cL_law 186 = .ok (.iload_n 3, 1) := by decide +kernel
theorem dL_law_187 : decode cL_law 187 = .ok (.iconst 1, 1) := by decide +kernel
theorem dL_law_188 : decode cL_law 188 = .ok (.iadd, 1) := by decide +kernel
theorem dL_law_189 : decode cL_law 189 = .ok (.iaload, 1) := by decide +kernel
theorem dL_law_190 : decode cL_law 190 = .ok (.aload_n 0, 1) := by decide +kernel
theorem dL_law_191 : decode cL_law 191 = .ok (.iload_n 3, 1) := by decide +kernel
theorem dL_law_192 : decode cL_law 192 = .ok (.iconst 2, 1) := by decide +kernel
theorem dL_law_193 : decode cL_law 193 = .ok (.iadd, 1) := by decide +kernel
theorem dL_law_194 : decode cL_law 194 = .ok (.iaload, 1) := by decide +kernel
theorem dL_law_195 : decode cL_law 195 = .ok (.invokevirtual 23, 3) := by decide +kernel
theorem dL_law_198 : decode cL_law 198 = .ok (.aload_n 2, 1) := by decide +kernel
theorem dL_law_199 : decode cL_law 199 = .ok (.aload_n 0, 1) := by decide +kernel
theorem dL_law_200 : decode cL_law 200 = .ok (.iload_n 3, 1) := by decide +kernel
theorem dL_law_201 : decode cL_law 201 = .ok (.iconst 1, 1) := by decide +kernel
theorem dL_law_202 : decode cL_law 202 = .ok (.iadd, 1) := by decide +kernel
theorem dL_law_203 : decode cL_law 203 = .ok (.iaload, 1) := by decide +kernel
theorem dL_law_204 : decode cL_law 204 = .ok (.aload_n 0, 1) := by decide +kernel
theorem dL_law_205 : decode cL_law 205 = .ok (.iload_n 3, 1) := by decide +kernel
theorem dL_law_206 : decode cL_law 206 = .ok (.iconst 2, 1) := by decide +kernel
theorem dL_law_207 : decode cL_law 207 = .ok (.iadd, 1) := by decide +kernel
theorem dL_law_208 : decode cL_law 208 = .ok (.iaload, 1) := by decide +kernel
theorem dL_law_209 : decode cL_law 209 = .ok (.invokevirtual 27, 3) := by decide +kernel
theorem dL_law_212 : decode cL_law 212 = .ok (.if_icmp .eq 639, 3) := by decide +kernel
theorem dL_law_215 : decode cL_law 215 = .ok (.iconst 0, 1) := by decide +kernel
theorem dL_law_216 : decode cL_law 216 = .ok (.ireturn, 1) := by decide +kernel
theorem dL_law_217 : decode cL_law 217 = .ok (.aload_n 1, 1) := by decide +kernel
theorem dL_law_218 : decode cL_law 218 = .ok (.aload_n 0, 1) := by decide +kernel
theorem dL_law_219 : decode cL_law 219 = .ok (.iload_n 3, 1) := by decide +kernel
theorem dL_law_220 : decode cL_law 220 = .ok (.iconst 1, 1) := by decide +kernel
theorem dL_law_221 : decode cL_law 221 = .ok (.iadd, 1) := by decide +kernel
theorem dL_law_222 : decode cL_law 222 = .ok (.iaload, 1) := by decide +kernel
theorem dL_law_223 : decode cL_law 223 = .ok (.aload_n 0, 1) := by decide +kernel
theorem dL_law_224 : decode cL_law 224 = .ok (.iload_n 3, 1) := by decide +kernel
theorem dL_law_225 : decode cL_law 225 = .ok (.iconst 2, 1) := by decide +kernel
theorem dL_law_226 : decode cL_law 226 = .ok (.iadd, 1) := by decide +kernel
theorem dL_law_227 : decode cL_law 227 = .ok (.iaload, 1) := by decide +kernel
theorem dL_law_228 : decode cL_law 228 = .ok (.aload_n 0, 1) := by decide +kernel
theorem dL_law_229 : decode cL_law 229 = .ok (.iload_n 3, 1) := by decide +kernel
theorem dL_law_230 : decode cL_law 230 = .ok (.iconst 3, 1) := by decide +kernel
theorem dL_law_231 : decode cL_law 231 = .ok (.iadd, 1) := by decide +kernel
theorem dL_law_232 : decode cL_law 232 = .ok (.iaload, 1) := by decide +kernel
theorem dL_law_233 : decode cL_law 233 = .ok (.aload_n 0, 1) := by decide +kernel
theorem dL_law_234 : decode cL_law 234 = .ok (.iload_n 3, 1) := by decide +kernel
theorem dL_law_235 : decode cL_law 235 = .ok (.iconst 4, 1) := by decide +kernel
theorem dL_law_236 : decode cL_law 236 = .ok (.iadd, 1) := by decide +kernel
theorem dL_law_237 : decode cL_law 237 = .ok (.iaload, 1) := by decide +kernel
theorem dL_law_238 : decode cL_law 238 = .ok (.invokevirtual 28, 3) := by decide +kernel
theorem dL_law_241 : decode cL_law 241 = .ok (.aload_n 2, 1) := by decide +kernel
theorem dL_law_242 : decode cL_law 242 = .ok (.aload_n 0, 1) := by decide +kernel
theorem dL_law_243 : decode cL_law 243 = .ok (.iload_n 3, 1) := by decide +kernel
theorem dL_law_244 : decode cL_law 244 = .ok (.iconst 1, 1) := by decide +kernel
theorem dL_law_245 : decode cL_law 245 = .ok (.iadd, 1) := by decide +kernel
theorem dL_law_246 : decode cL_law 246 = .ok (.iaload, 1) := by decide +kernel
theorem dL_law_247 : decode cL_law 247 = .ok (.aload_n 0, 1) := by decide +kernel
theorem dL_law_248 : decode cL_law 248 = .ok (.iload_n 3, 1) := by decide +kernel
theorem dL_law_249 : decode cL_law 249 = .ok (.iconst 2, 1) := by decide +kernel
theorem dL_law_250 : decode cL_law 250 = .ok (.iadd, 1) := by decide +kernel
theorem dL_law_251 : decode cL_law 251 = .ok (.iaload, 1) := by decide +kernel
theorem dL_law_252 : decode cL_law 252 = .ok (.aload_n 0, 1) := by decide +kernel
theorem dL_law_253 : decode cL_law 253 = .ok (.iload_n 3, 1) := by decide +kernel
theorem dL_law_254 : decode cL_law 254 = .ok (.iconst 3, 1) := by decide +kernel
theorem dL_law_255 : decode cL_law 255 = .ok (.iadd, 1) := by decide +kernel
theorem dL_law_256 : decode cL_law 256 = .ok (.iaload, 1) := by decide +kernel
theorem dL_law_257 : decode cL_law 257 = .ok (.aload_n 0, 1) := by decide +kernel
theorem dL_law_258 : decode cL_law 258 = .ok (.iload_n 3, 1) := by decide +kernel
theorem dL_law_259 : decode cL_law 259 = .ok (.iconst 4, 1) := by decide +kernel
theorem dL_law_260 : decode cL_law 260 = .ok (.iadd, 1) := by decide +kernel
theorem dL_law_261 : decode cL_law 261 = .ok (.iaload, 1) := by decide +kernel
theorem dL_law_262 : decode cL_law 262 = .ok (.invokevirtual 32, 3) := by decide +kernel
theorem dL_law_265 : decode cL_law 265 = .ok (.if_icmp .eq 586, 3) := by decide +kernel
theorem dL_law_268 : decode cL_law 268 = .ok (.iconst 0, 1) := by decide +kernel
theorem dL_law_269 : decode cL_law 269 = .ok (.ireturn, 1) := by decide +kernel
theorem dL_law_270 : decode cL_law 270 = .ok (.aload_n 1, 1) := by decide +kernel
theorem dL_law_271 : decode cL_law 271 = .ok (.aload_n 0, 1) := by decide +kernel
theorem dL_law_272 : decode cL_law 272 = .ok (.iload_n 3, 1) := by decide +kernel
theorem dL_law_273 : decode cL_law 273 = .ok (.iconst 1, 1) := by decide +kernel
theorem dL_law_274 : decode cL_law 274 = .ok (.iadd, 1) := by decide +kernel
theorem dL_law_275 : decode cL_law 275 = .ok (.iaload, 1) := by decide +kernel
theorem dL_law_276 : decode cL_law 276 = .ok (.invokevirtual 33, 3) := by decide +kernel
theorem dL_law_279 : decode cL_law 279 = .ok (.aload_n 2, 1) := by decide +kernel
theorem dL_law_280 : decode cL_law 280 = .ok (.aload_n 0, 1) := by decide +kernel
theorem dL_law_281 : decode cL_law 281 = .ok (.iload_n 3, 1) := by decide +kernel
theorem dL_law_282 : decode cL_law 282 = .ok (.iconst 1, 1) := by decide +kernel
theorem dL_law_283 : decode cL_law 283 = .ok (.iadd, 1) := by decide +kernel
theorem dL_law_284 : decode cL_law 284 = .ok (.iaload, 1) := by decide +kernel
theorem dL_law_285 : decode cL_law 285 = .ok (.invokevirtual 36, 3) := by decide +kernel
theorem dL_law_288 : decode cL_law 288 = .ok (.if_icmp .eq 563, 3) := by decide +kernel
theorem dL_law_291 : decode cL_law 291 = .ok (.iconst 0, 1) := by decide +kernel
theorem dL_law_292 : decode cL_law 292 = .ok (.ireturn, 1) := by decide +kernel
theorem dL_law_293 : decode cL_law 293 = .ok (.aload_n 1, 1) := by decide +kernel
theorem dL_law_294 : decode cL_law 294 = .ok (.aload_n 0, 1) := by decide +kernel
theorem dL_law_295 : decode cL_law 295 = .ok (.iload_n 3, 1) := by decide +kernel
theorem dL_law_296 : decode cL_law 296 = .ok (.iconst 1, 1) := by decide +kernel
theorem dL_law_297 : decode cL_law 297 = .ok (.iadd, 1) := by decide +kernel
theorem dL_law_298 : decode cL_law 298 = .ok (.iaload, 1) := by decide +kernel
theorem dL_law_299 : decode cL_law 299 = .ok (.aload_n 0, 1) := by decide +kernel
theorem dL_law_300 : decode cL_law 300 = .ok (.iload_n 3, 1) := by decide +kernel
theorem dL_law_301 : decode cL_law 301 = .ok (.iconst 2, 1) := by decide +kernel
theorem dL_law_302 : decode cL_law 302 = .ok (.iadd, 1) := by decide +kernel
theorem dL_law_303 : decode cL_law 303 = .ok (.iaload, 1) := by decide +kernel
theorem dL_law_304 : decode cL_law 304 = .ok (.invokevirtual 37, 3) := by decide +kernel
theorem dL_law_307 : decode cL_law 307 = .ok (.aload_n 2, 1) := by decide +kernel
theorem dL_law_308 : decode cL_law 308 = .ok (.aload_n 0, 1) := by decide +kernel
theorem dL_law_309 : decode cL_law 309 = .ok (.iload_n 3, 1) := by decide +kernel
theorem dL_law_310 : decode cL_law 310 = .ok (.iconst 1, 1) := by decide +kernel
theorem dL_law_311 : decode cL_law 311 = .ok (.iadd, 1) := by decide +kernel
theorem dL_law_312 : decode cL_law 312 = .ok (.iaload, 1) := by decide +kernel
theorem dL_law_313 : decode cL_law 313 = .ok (.aload_n 0, 1) := by decide +kernel
theorem dL_law_314 : decode cL_law 314 = .ok (.iload_n 3, 1) := by decide +kernel
theorem dL_law_315 : decode cL_law 315 = .ok (.iconst 2, 1) := by decide +kernel
theorem dL_law_316 : decode cL_law 316 = .ok (.iadd, 1) := by decide +kernel
theorem dL_law_317 : decode cL_law 317 = .ok (.iaload, 1) := by decide +kernel
theorem dL_law_318 : decode cL_law 318 = .ok (.invokevirtual 40, 3) := by decide +kernel
theorem dL_law_321 : decode cL_law 321 = .ok (.if_icmp .eq 530, 3) := by decide +kernel
theorem dL_law_324 : decode cL_law 324 = .ok (.iconst 0, 1) := by decide +kernel
theorem dL_law_325 : decode cL_law 325 = .ok (.ireturn, 1) := by decide +kernel
theorem dL_law_326 : decode cL_law 326 = .ok (.aload_n 1, 1) := by decide +kernel
theorem dL_law_327 : decode cL_law 327 = .ok (.aload_n 0, 1) := by decide +kernel
theorem dL_law_328 : decode cL_law 328 = .ok (.iload_n 3, 1) := by decide +kernel
theorem dL_law_329 : decode cL_law 329 = .ok (.iconst 1, 1) := by decide +kernel
theorem dL_law_330 : decode cL_law 330 = .ok (.iadd, 1) := by decide +kernel
theorem dL_law_331 : decode cL_law 331 = .ok (.iaload, 1) := by decide +kernel
theorem dL_law_332 : decode cL_law 332 = .ok (.aload_n 0, 1) := by decide +kernel
theorem dL_law_333 : decode cL_law 333 = .ok (.iload_n 3, 1) := by decide +kernel
theorem dL_law_334 : decode cL_law 334 = .ok (.iconst 2, 1) := by decide +kernel
theorem dL_law_335 : decode cL_law 335 = .ok (.iadd, 1) := by decide +kernel
theorem dL_law_336 : decode cL_law 336 = .ok (.iaload, 1) := by decide +kernel
theorem dL_law_337 : decode cL_law 337 = .ok (.ifCond .eq 7, 3) := by decide +kernel
theorem dL_law_340 : decode cL_law 340 = .ok (.iconst 1, 1) := by decide +kernel
theorem dL_law_341 : decode cL_law 341 = .ok (.goto 4, 3) := by decide +kernel
theorem dL_law_344 : decode cL_law 344 = .ok (.iconst 0, 1) := by decide +kernel
theorem dL_law_345 : decode cL_law 345 = .ok (.aload_n 0, 1) := by decide +kernel
theorem dL_law_346 : decode cL_law 346 = .ok (.iload_n 3, 1) := by decide +kernel
theorem dL_law_347 : decode cL_law 347 = .ok (.iconst 3, 1) := by decide +kernel
theorem dL_law_348 : decode cL_law 348 = .ok (.iadd, 1) := by decide +kernel
theorem dL_law_349 : decode cL_law 349 = .ok (.iaload, 1) := by decide +kernel
theorem dL_law_350 : decode cL_law 350 = .ok (.invokevirtual 41, 3) := by decide +kernel
theorem dL_law_353 : decode cL_law 353 = .ok (.aload_n 2, 1) := by decide +kernel
theorem dL_law_354 : decode cL_law 354 = .ok (.aload_n 0, 1) := by decide +kernel
theorem dL_law_355 : decode cL_law 355 = .ok (.iload_n 3, 1) := by decide +kernel
theorem dL_law_356 : decode cL_law 356 = .ok (.iconst 1, 1) := by decide +kernel
theorem dL_law_357 : decode cL_law 357 = .ok (.iadd, 1) := by decide +kernel
theorem dL_law_358 : decode cL_law 358 = .ok (.iaload, 1) := by decide +kernel
theorem dL_law_359 : decode cL_law 359 = .ok (.aload_n 0, 1) := by decide +kernel
theorem dL_law_360 : decode cL_law 360 = .ok (.iload_n 3, 1) := by decide +kernel
theorem dL_law_361 : decode cL_law 361 = .ok (.iconst 2, 1) := by decide +kernel
theorem dL_law_362 : decode cL_law 362 = .ok (.iadd, 1) := by decide +kernel
theorem dL_law_363 : decode cL_law 363 = .ok (.iaload, 1) := by decide +kernel
theorem dL_law_364 : decode cL_law 364 = .ok (.ifCond .eq 7, 3) := by decide +kernel
theorem dL_law_367 : decode cL_law 367 = .ok (.iconst 1, 1) := by decide +kernel
theorem dL_law_368 : decode cL_law 368 = .ok (.goto 4, 3) := by decide +kernel
theorem dL_law_371 : decode cL_law 371 = .ok (.iconst 0, 1) := by decide +kernel
theorem dL_law_372 : decode cL_law 372 = .ok (.aload_n 0, 1) := by decide +kernel
theorem dL_law_373 : decode cL_law 373 = .ok (.iload_n 3, 1) := by decide +kernel
theorem dL_law_374 : decode cL_law 374 = .ok (.iconst 3, 1) := by decide +kernel
theorem dL_law_375 : decode cL_law 375 = .ok (.iadd, 1) := by decide +kernel
theorem dL_law_376 : decode cL_law 376 = .ok (.iaload, 1) := by decide +kernel
theorem dL_law_377 : decode cL_law 377 = .ok (.invokevirtual 45, 3) := by decide +kernel
theorem dL_law_380 : decode cL_law 380 = .ok (.if_icmp .eq 471, 3) := by decide +kernel
theorem dL_law_383 : decode cL_law 383 = .ok (.iconst 0, 1) := by decide +kernel
theorem dL_law_384 : decode cL_law 384 = .ok (.ireturn, 1) := by decide +kernel
theorem dL_law_385 : decode cL_law 385 = .ok (.aload_n 1, 1) := by decide +kernel
theorem dL_law_386 : decode cL_law 386 = .ok (.aload_n 0, 1) := by decide +kernel
theorem dL_law_387 : decode cL_law 387 = .ok (.iload_n 3, 1) := by decide +kernel
theorem dL_law_388 : decode cL_law 388 = .ok (.iconst 1, 1) := by decide +kernel
theorem dL_law_389 : decode cL_law 389 = .ok (.iadd, 1) := by decide +kernel
theorem dL_law_390 : decode cL_law 390 = .ok (.iaload, 1) := by decide +kernel
theorem dL_law_391 : decode cL_law 391 = .ok (.invokevirtual 46, 3) := by decide +kernel
theorem dL_law_394 : decode cL_law 394 = .ok (.aload_n 2, 1) := by decide +kernel
theorem dL_law_395 : decode cL_law 395 = .ok (.aload_n 0, 1) := by decide +kernel
theorem dL_law_396 : decode cL_law 396 = .ok (.iload_n 3, 1) := by decide +kernel
theorem dL_law_397 : decode cL_law 397 = .ok (.iconst 1, 1) := by decide +kernel
theorem dL_law_398 : decode cL_law 398 = .ok (.iadd, 1) := by decide +kernel
theorem dL_law_399 : decode cL_law 399 = .ok (.iaload, 1) := by decide +kernel
theorem dL_law_400 : decode cL_law 400 = .ok (.invokevirtual 49, 3) := by decide +kernel
theorem dL_law_403 : decode cL_law 403 = .ok (.if_icmp .eq 448, 3) := by decide +kernel
theorem dL_law_406 : decode cL_law 406 = .ok (.iconst 0, 1) := by decide +kernel
theorem dL_law_407 : decode cL_law 407 = .ok (.ireturn, 1) := by decide +kernel
theorem dL_law_408 : decode cL_law 408 = .ok (.aload_n 1, 1) := by decide +kernel
theorem dL_law_409 : decode cL_law 409 = .ok (.aload_n 0, 1) := by decide +kernel
theorem dL_law_410 : decode cL_law 410 = .ok (.iload_n 3, 1) := by decide +kernel
theorem dL_law_411 : decode cL_law 411 = .ok (.iconst 1, 1) := by decide +kernel
theorem dL_law_412 : decode cL_law 412 = .ok (.iadd, 1) := by decide +kernel
theorem dL_law_413 : decode cL_law 413 = .ok (.iaload, 1) := by decide +kernel
theorem dL_law_414 : decode cL_law 414 = .ok (.i2c, 1) := by decide +kernel
theorem dL_law_415 : decode cL_law 415 = .ok (.invokevirtual 50, 3) := by decide +kernel
theorem dL_law_418 : decode cL_law 418 = .ok (.aload_n 2, 1) := by decide +kernel
theorem dL_law_419 : decode cL_law 419 = .ok (.aload_n 0, 1) := by decide +kernel
theorem dL_law_420 : decode cL_law 420 = .ok (.iload_n 3, 1) := by decide +kernel
theorem dL_law_421 : decode cL_law 421 = .ok (.iconst 1, 1) := by decide +kernel
theorem dL_law_422 : decode cL_law 422 = .ok (.iadd, 1) := by decide +kernel
theorem dL_law_423 : decode cL_law 423 = .ok (.iaload, 1) := by decide +kernel
theorem dL_law_424 : decode cL_law 424 = .ok (.i2c, 1) := by decide +kernel
theorem dL_law_425 : decode cL_law 425 = .ok (.invokevirtual 54, 3) := by decide +kernel
theorem dL_law_428 : decode cL_law 428 = .ok (.if_icmp .eq 423, 3) := by decide +kernel
theorem dL_law_431 : decode cL_law 431 = .ok (.iconst 0, 1) := by decide +kernel
theorem dL_law_432 : decode cL_law 432 = .ok (.ireturn, 1) := by decide +kernel
theorem dL_law_433 : decode cL_law 433 = .ok (.aload_n 1, 1) := by decide +kernel
theorem dL_law_434 : decode cL_law 434 = .ok (.invokevirtual 55, 3) := by decide +kernel
theorem dL_law_437 : decode cL_law 437 = .ok (.aload_n 2, 1) := by decide +kernel
theorem dL_law_438 : decode cL_law 438 = .ok (.invokevirtual 58, 3) := by decide +kernel
theorem dL_law_441 : decode cL_law 441 = .ok (.if_icmp .eq 410, 3) := by decide +kernel
theorem dL_law_444 : decode cL_law 444 = .ok (.iconst 0, 1) := by decide +kernel
theorem dL_law_445 : decode cL_law 445 = .ok (.ireturn, 1) := by decide +kernel
theorem dL_law_446 : decode cL_law 446 = .ok (.aload_n 1, 1) := by decide +kernel
theorem dL_law_447 : decode cL_law 447 = .ok (.invokevirtual 59, 3) := by decide +kernel
theorem dL_law_450 : decode cL_law 450 = .ok (.aload_n 2, 1) := by decide +kernel
theorem dL_law_451 : decode cL_law 451 = .ok (.invokevirtual 62, 3) := by decide +kernel
theorem dL_law_454 : decode cL_law 454 = .ok (.if_icmp .eq 397, 3) := by decide +kernel
theorem dL_law_457 : decode cL_law 457 = .ok (.iconst 0, 1) := by decide +kernel
theorem dL_law_458 : decode cL_law 458 = .ok (.ireturn, 1) := by decide +kernel
theorem dL_law_459 : decode cL_law 459 = .ok (.aload_n 1, 1) := by decide +kernel
theorem dL_law_460 : decode cL_law 460 = .ok (.invokevirtual 63, 3) := by decide +kernel
theorem dL_law_463 : decode cL_law 463 = .ok (.aload_n 2, 1) := by decide +kernel
theorem dL_law_464 : decode cL_law 464 = .ok (.invokevirtual 66, 3) := by decide +kernel
theorem dL_law_467 : decode cL_law 467 = .ok (.if_icmp .eq 384, 3) := by decide +kernel
theorem dL_law_470 : decode cL_law 470 = .ok (.iconst 0, 1) := by decide +kernel
theorem dL_law_471 : decode cL_law 471 = .ok (.ireturn, 1) := by decide +kernel
theorem dL_law_472 : decode cL_law 472 = .ok (.aload_n 1, 1) := by decide +kernel
theorem dL_law_473 : decode cL_law 473 = .ok (.invokevirtual 67, 3) := by decide +kernel
theorem dL_law_476 : decode cL_law 476 = .ok (.aload_n 2, 1) := by decide +kernel
theorem dL_law_477 : decode cL_law 477 = .ok (.invokevirtual 70, 3) := by decide +kernel
theorem dL_law_480 : decode cL_law 480 = .ok (.if_icmp .eq 371, 3) := by decide +kernel
theorem dL_law_483 : decode cL_law 483 = .ok (.iconst 0, 1) := by decide +kernel
theorem dL_law_484 : decode cL_law 484 = .ok (.ireturn, 1) := by decide +kernel
theorem dL_law_485 : decode cL_law 485 = .ok (.aload_n 1, 1) := by decide +kernel
theorem dL_law_486 : decode cL_law 486 = .ok (.invokevirtual 71, 3) := by decide +kernel
theorem dL_law_489 : decode cL_law 489 = .ok (.aload_n 2, 1) := by decide +kernel
theorem dL_law_490 : decode cL_law 490 = .ok (.invokevirtual 74, 3) := by decide +kernel
theorem dL_law_493 : decode cL_law 493 = .ok (.if_icmp .eq 358, 3) := by decide +kernel
theorem dL_law_496 : decode cL_law 496 = .ok (.iconst 0, 1) := by decide +kernel
theorem dL_law_497 : decode cL_law 497 = .ok (.ireturn, 1) := by decide +kernel
theorem dL_law_498 : decode cL_law 498 = .ok (.aload_n 1, 1) := by decide +kernel
theorem dL_law_499 : decode cL_law 499 = .ok (.aload_n 0, 1) := by decide +kernel
theorem dL_law_500 : decode cL_law 500 = .ok (.iload_n 3, 1) := by decide +kernel
theorem dL_law_501 : decode cL_law 501 = .ok (.iconst 1, 1) := by decide +kernel
theorem dL_law_502 : decode cL_law 502 = .ok (.iadd, 1) := by decide +kernel
theorem dL_law_503 : decode cL_law 503 = .ok (.iaload, 1) := by decide +kernel
theorem dL_law_504 : decode cL_law 504 = .ok (.aload_n 0, 1) := by decide +kernel
theorem dL_law_505 : decode cL_law 505 = .ok (.iload_n 3, 1) := by decide +kernel
theorem dL_law_506 : decode cL_law 506 = .ok (.iconst 2, 1) := by decide +kernel
theorem dL_law_507 : decode cL_law 507 = .ok (.iadd, 1) := by decide +kernel
theorem dL_law_508 : decode cL_law 508 = .ok (.iaload, 1) := by decide +kernel
theorem dL_law_509 : decode cL_law 509 = .ok (.invokevirtual 75, 3) := by decide +kernel
theorem dL_law_512 : decode cL_law 512 = .ok (.aload_n 2, 1) := by decide +kernel
theorem dL_law_513 : decode cL_law 513 = .ok (.aload_n 0, 1) := by decide +kernel
theorem dL_law_514 : decode cL_law 514 = .ok (.iload_n 3, 1) := by decide +kernel
theorem dL_law_515 : decode cL_law 515 = .ok (.iconst 1, 1) := by decide +kernel
theorem dL_law_516 : decode cL_law 516 = .ok (.iadd, 1) := by decide +kernel
theorem dL_law_517 : decode cL_law 517 = .ok (.iaload, 1) := by decide +kernel
theorem dL_law_518 : decode cL_law 518 = .ok (.aload_n 0, 1) := by decide +kernel
theorem dL_law_519 : decode cL_law 519 = .ok (.iload_n 3, 1) := by decide +kernel
theorem dL_law_520 : decode cL_law 520 = .ok (.iconst 2, 1) := by decide +kernel
theorem dL_law_521 : decode cL_law 521 = .ok (.iadd, 1) := by decide +kernel
theorem dL_law_522 : decode cL_law 522 = .ok (.iaload, 1) := by decide +kernel
theorem dL_law_523 : decode cL_law 523 = .ok (.invokevirtual 78, 3) := by decide +kernel
theorem dL_law_526 : decode cL_law 526 = .ok (.if_icmp .eq 325, 3) := by decide +kernel
theorem dL_law_529 : decode cL_law 529 = .ok (.iconst 0, 1) := by decide +kernel
theorem dL_law_530 : decode cL_law 530 = .ok (.ireturn, 1) := by decide +kernel
theorem dL_law_531 : decode cL_law 531 = .ok (.aload_n 1, 1) := by decide +kernel
theorem dL_law_532 : decode cL_law 532 = .ok (.aload_n 0, 1) := by decide +kernel
theorem dL_law_533 : decode cL_law 533 = .ok (.iload_n 3, 1) := by decide +kernel
theorem dL_law_534 : decode cL_law 534 = .ok (.iconst 1, 1) := by decide +kernel
theorem dL_law_535 : decode cL_law 535 = .ok (.iadd, 1) := by decide +kernel
theorem dL_law_536 : decode cL_law 536 = .ok (.iaload, 1) := by decide +kernel
theorem dL_law_537 : decode cL_law 537 = .ok (.aload_n 0, 1) := by decide +kernel
theorem dL_law_538 : decode cL_law 538 = .ok (.iload_n 3, 1) := by decide +kernel
theorem dL_law_539 : decode cL_law 539 = .ok (.iconst 2, 1) := by decide +kernel
theorem dL_law_540 : decode cL_law 540 = .ok (.iadd, 1) := by decide +kernel
theorem dL_law_541 : decode cL_law 541 = .ok (.iaload, 1) := by decide +kernel
theorem dL_law_542 : decode cL_law 542 = .ok (.aload_n 0, 1) := by decide +kernel
theorem dL_law_543 : decode cL_law 543 = .ok (.iload_n 3, 1) := by decide +kernel
theorem dL_law_544 : decode cL_law 544 = .ok (.iconst 3, 1) := by decide +kernel
theorem dL_law_545 : decode cL_law 545 = .ok (.iadd, 1) := by decide +kernel
theorem dL_law_546 : decode cL_law 546 = .ok (.iaload, 1) := by decide +kernel
theorem dL_law_547 : decode cL_law 547 = .ok (.invokevirtual 79, 3) := by decide +kernel
theorem dL_law_550 : decode cL_law 550 = .ok (.aload_n 2, 1) := by decide +kernel
theorem dL_law_551 : decode cL_law 551 = .ok (.aload_n 0, 1) := by decide +kernel
theorem dL_law_552 : decode cL_law 552 = .ok (.iload_n 3, 1) := by decide +kernel
theorem dL_law_553 : decode cL_law 553 = .ok (.iconst 1, 1) := by decide +kernel
theorem dL_law_554 : decode cL_law 554 = .ok (.iadd, 1) := by decide +kernel
theorem dL_law_555 : decode cL_law 555 = .ok (.iaload, 1) := by decide +kernel
theorem dL_law_556 : decode cL_law 556 = .ok (.aload_n 0, 1) := by decide +kernel
theorem dL_law_557 : decode cL_law 557 = .ok (.iload_n 3, 1) := by decide +kernel
theorem dL_law_558 : decode cL_law 558 = .ok (.iconst 2, 1) := by decide +kernel
theorem dL_law_559 : decode cL_law 559 = .ok (.iadd, 1) := by decide +kernel
theorem dL_law_560 : decode cL_law 560 = .ok (.iaload, 1) := by decide +kernel
theorem dL_law_561 : decode cL_law 561 = .ok (.aload_n 0, 1) := by decide +kernel
theorem dL_law_562 : decode cL_law 562 = .ok (.iload_n 3, 1) := by decide +kernel
theorem dL_law_563 : decode cL_law 563 = .ok (.iconst 3, 1) := by decide +kernel
theorem dL_law_564 : decode cL_law 564 = .ok (.iadd, 1) := by decide +kernel
theorem dL_law_565 : decode cL_law 565 = .ok (.iaload, 1) := by decide +kernel
theorem dL_law_566 : decode cL_law 566 = .ok (.invokevirtual 83, 3) := by decide +kernel
theorem dL_law_569 : decode cL_law 569 = .ok (.if_icmp .eq 282, 3) := by decide +kernel
theorem dL_law_572 : decode cL_law 572 = .ok (.iconst 0, 1) := by decide +kernel
theorem dL_law_573 : decode cL_law 573 = .ok (.ireturn, 1) := by decide +kernel
theorem dL_law_574 : decode cL_law 574 = .ok (.aload_n 1, 1) := by decide +kernel
theorem dL_law_575 : decode cL_law 575 = .ok (.aload_n 0, 1) := by decide +kernel
theorem dL_law_576 : decode cL_law 576 = .ok (.iload_n 3, 1) := by decide +kernel
theorem dL_law_577 : decode cL_law 577 = .ok (.iconst 1, 1) := by decide +kernel
theorem dL_law_578 : decode cL_law 578 = .ok (.iadd, 1) := by decide +kernel
theorem dL_law_579 : decode cL_law 579 = .ok (.iaload, 1) := by decide +kernel
theorem dL_law_580 : decode cL_law 580 = .ok (.aload_n 0, 1) := by decide +kernel
theorem dL_law_581 : decode cL_law 581 = .ok (.iload_n 3, 1) := by decide +kernel
theorem dL_law_582 : decode cL_law 582 = .ok (.iconst 2, 1) := by decide +kernel
theorem dL_law_583 : decode cL_law 583 = .ok (.iadd, 1) := by decide +kernel
theorem dL_law_584 : decode cL_law 584 = .ok (.iaload, 1) := by decide +kernel
theorem dL_law_585 : decode cL_law 585 = .ok (.aload_n 0, 1) := by decide +kernel
theorem dL_law_586 : decode cL_law 586 = .ok (.iload_n 3, 1) := by decide +kernel
theorem dL_law_587 : decode cL_law 587 = .ok (.iconst 3, 1) := by decide +kernel
theorem dL_law_588 : decode cL_law 588 = .ok (.iadd, 1) := by decide +kernel
theorem dL_law_589 : decode cL_law 589 = .ok (.iaload, 1) := by decide +kernel
theorem dL_law_590 : decode cL_law 590 = .ok (.invokevirtual 84, 3) := by decide +kernel
theorem dL_law_593 : decode cL_law 593 = .ok (.aload_n 2, 1) := by decide +kernel
theorem dL_law_594 : decode cL_law 594 = .ok (.aload_n 0, 1) := by decide +kernel
theorem dL_law_595 : decode cL_law 595 = .ok (.iload_n 3, 1) := by decide +kernel
theorem dL_law_596 : decode cL_law 596 = .ok (.iconst 1, 1) := by decide +kernel
theorem dL_law_597 : decode cL_law 597 = .ok (.iadd, 1) := by decide +kernel
theorem dL_law_598 : decode cL_law 598 = .ok (.iaload, 1) := by decide +kernel
theorem dL_law_599 : decode cL_law 599 = .ok (.aload_n 0, 1) := by decide +kernel
theorem dL_law_600 : decode cL_law 600 = .ok (.iload_n 3, 1) := by decide +kernel
theorem dL_law_601 : decode cL_law 601 = .ok (.iconst 2, 1) := by decide +kernel
theorem dL_law_602 : decode cL_law 602 = .ok (.iadd, 1) := by decide +kernel
theorem dL_law_603 : decode cL_law 603 = .ok (.iaload, 1) := by decide +kernel
theorem dL_law_604 : decode cL_law 604 = .ok (.aload_n 0, 1) := by decide +kernel
theorem dL_law_605 : decode cL_law 605 = .ok (.iload_n 3, 1) := by decide +kernel
theorem dL_law_606 : decode cL_law 606 = .ok (.iconst 3, 1) := by decide +kernel
theorem dL_law_607 : decode cL_law 607 = .ok (.iadd, 1) := by decide +kernel
theorem dL_law_608 : decode cL_law 608 = .ok (.iaload, 1) := by decide +kernel
theorem dL_law_609 : decode cL_law 609 = .ok (.invokevirtual 87, 3) := by decide +kernel
theorem dL_law_612 : decode cL_law 612 = .ok (.if_icmp .eq 239, 3) := by decide +kernel
theorem dL_law_615 : decode cL_law 615 = .ok (.iconst 0, 1) := by decide +kernel
theorem dL_law_616 : decode cL_law 616 = .ok (.ireturn, 1) := by decide +kernel
theorem dL_law_617 : decode cL_law 617 = .ok (.aload_n 1, 1) := by decide +kernel
theorem dL_law_618 : decode cL_law 618 = .ok (.aload_n 0, 1) := by decide +kernel
theorem dL_law_619 : decode cL_law 619 = .ok (.iload_n 3, 1) := by decide +kernel
theorem dL_law_620 : decode cL_law 620 = .ok (.iconst 1, 1) := by decide +kernel
theorem dL_law_621 : decode cL_law 621 = .ok (.iadd, 1) := by decide +kernel
theorem dL_law_622 : decode cL_law 622 = .ok (.iaload, 1) := by decide +kernel
theorem dL_law_623 : decode cL_law 623 = .ok (.aload_n 0, 1) := by decide +kernel
theorem dL_law_624 : decode cL_law 624 = .ok (.iload_n 3, 1) := by decide +kernel
theorem dL_law_625 : decode cL_law 625 = .ok (.iconst 2, 1) := by decide +kernel
theorem dL_law_626 : decode cL_law 626 = .ok (.iadd, 1) := by decide +kernel
theorem dL_law_627 : decode cL_law 627 = .ok (.iaload, 1) := by decide +kernel
theorem dL_law_628 : decode cL_law 628 = .ok (.invokevirtual 88, 3) := by decide +kernel
theorem dL_law_631 : decode cL_law 631 = .ok (.aload_n 2, 1) := by decide +kernel
theorem dL_law_632 : decode cL_law 632 = .ok (.aload_n 0, 1) := by decide +kernel
theorem dL_law_633 : decode cL_law 633 = .ok (.iload_n 3, 1) := by decide +kernel
theorem dL_law_634 : decode cL_law 634 = .ok (.iconst 1, 1) := by decide +kernel
theorem dL_law_635 : decode cL_law 635 = .ok (.iadd, 1) := by decide +kernel
theorem dL_law_636 : decode cL_law 636 = .ok (.iaload, 1) := by decide +kernel
theorem dL_law_637 : decode cL_law 637 = .ok (.aload_n 0, 1) := by decide +kernel
theorem dL_law_638 : decode cL_law 638 = .ok (.iload_n 3, 1) := by decide +kernel
theorem dL_law_639 : decode cL_law 639 = .ok (.iconst 2, 1) := by decide +kernel
theorem dL_law_640 : decode cL_law 640 = .ok (.iadd, 1) := by decide +kernel
theorem dL_law_641 : decode cL_law 641 = .ok (.iaload, 1) := by decide +kernel
theorem dL_law_642 : decode cL_law 642 = .ok (.invokevirtual 91, 3) := by decide +kernel
theorem dL_law_645 : decode cL_law 645 = .ok (.if_icmp .eq 206, 3) := by decide +kernel
theorem dL_law_648 : decode cL_law 648 = .ok (.iconst 0, 1) := by decide +kernel
theorem dL_law_649 : decode cL_law 649 = .ok (.ireturn, 1) := by decide +kernel
theorem dL_law_650 : decode cL_law 650 = .ok (.aload_n 1, 1) := by decide +kernel
theorem dL_law_651 : decode cL_law 651 = .ok (.aload_n 0, 1) := by decide +kernel
theorem dL_law_652 : decode cL_law 652 = .ok (.iload_n 3, 1) := by decide +kernel
theorem dL_law_653 : decode cL_law 653 = .ok (.iconst 1, 1) := by decide +kernel
theorem dL_law_654 : decode cL_law 654 = .ok (.iadd, 1) := by decide +kernel
theorem dL_law_655 : decode cL_law 655 = .ok (.iaload, 1) := by decide +kernel
theorem dL_law_656 : decode cL_law 656 = .ok (.aload_n 0, 1) := by decide +kernel
theorem dL_law_657 : decode cL_law 657 = .ok (.iload_n 3, 1) := by decide +kernel
theorem dL_law_658 : decode cL_law 658 = .ok (.iconst 2, 1) := by decide +kernel
theorem dL_law_659 : decode cL_law 659 = .ok (.iadd, 1) := by decide +kernel
theorem dL_law_660 : decode cL_law 660 = .ok (.iaload, 1) := by decide +kernel
theorem dL_law_661 : decode cL_law 661 = .ok (.invokevirtual 92, 3) := by decide +kernel
theorem dL_law_664 : decode cL_law 664 = .ok (.aload_n 2, 1) := by decide +kernel
theorem dL_law_665 : decode cL_law 665 = .ok (.aload_n 0, 1) := by decide +kernel
theorem dL_law_666 : decode cL_law 666 = .ok (.iload_n 3, 1) := by decide +kernel
theorem dL_law_667 : decode cL_law 667 = .ok (.iconst 1, 1) := by decide +kernel
theorem dL_law_668 : decode cL_law 668 = .ok (.iadd, 1) := by decide +kernel
theorem dL_law_669 : decode cL_law 669 = .ok (.iaload, 1) := by decide +kernel
theorem dL_law_670 : decode cL_law 670 = .ok (.aload_n 0, 1) := by decide +kernel
theorem dL_law_671 : decode cL_law 671 = .ok (.iload_n 3, 1) := by decide +kernel
theorem dL_law_672 : decode cL_law 672 = .ok (.iconst 2, 1) := by decide +kernel
theorem dL_law_673 : decode cL_law 673 = .ok (.iadd, 1) := by decide +kernel
theorem dL_law_674 : decode cL_law 674 = .ok (.iaload, 1) := by decide +kernel
theorem dL_law_675 : decode cL_law 675 = .ok (.invokevirtual 95, 3) := by decide +kernel
theorem dL_law_678 : decode cL_law 678 = .ok (.if_icmp .eq 173, 3) := by decide +kernel
theorem dL_law_681 : decode cL_law 681 = .ok (.iconst 0, 1) := by decide +kernel
theorem dL_law_682 : decode cL_law 682 = .ok (.ireturn, 1) := by decide +kernel
theorem dL_law_683 : decode cL_law 683 = .ok (.aload_n 1, 1) := by decide +kernel
theorem dL_law_684 : decode cL_law 684 = .ok (.aload_n 0, 1) := by decide +kernel
theorem dL_law_685 : decode cL_law 685 = .ok (.iload_n 3, 1) := by decide +kernel
theorem dL_law_686 : decode cL_law 686 = .ok (.iconst 1, 1) := by decide +kernel
theorem dL_law_687 : decode cL_law 687 = .ok (.iadd, 1) := by decide +kernel
theorem dL_law_688 : decode cL_law 688 = .ok (.iaload, 1) := by decide +kernel
theorem dL_law_689 : decode cL_law 689 = .ok (.invokevirtual 96, 3) := by decide +kernel
theorem dL_law_692 : decode cL_law 692 = .ok (.aload_n 2, 1) := by decide +kernel
theorem dL_law_693 : decode cL_law 693 = .ok (.aload_n 0, 1) := by decide +kernel
theorem dL_law_694 : decode cL_law 694 = .ok (.iload_n 3, 1) := by decide +kernel
theorem dL_law_695 : decode cL_law 695 = .ok (.iconst 1, 1) := by decide +kernel
theorem dL_law_696 : decode cL_law 696 = .ok (.iadd, 1) := by decide +kernel
theorem dL_law_697 : decode cL_law 697 = .ok (.iaload, 1) := by decide +kernel
theorem dL_law_698 : decode cL_law 698 = .ok (.invokevirtual 99, 3) := by decide +kernel
theorem dL_law_701 : decode cL_law 701 = .ok (.if_icmp .eq 150, 3) := by decide +kernel
theorem dL_law_704 : decode cL_law 704 = .ok (.iconst 0, 1) := by decide +kernel
theorem dL_law_705 : decode cL_law 705 = .ok (.ireturn, 1) := by decide +kernel
theorem dL_law_706 : decode cL_law 706 = .ok (.aload_n 1, 1) := by decide +kernel
theorem dL_law_707 : decode cL_law 707 = .ok (.invokevirtual 100, 3) := by decide +kernel
theorem dL_law_710 : decode cL_law 710 = .ok (.f2d, 1) := by decide +kernel
theorem dL_law_711 : decode cL_law 711 = .ok (.dstore 4, 2) := by decide +kernel
theorem dL_law_713 : decode cL_law 713 = .ok (.aload_n 2, 1) := by decide +kernel
theorem dL_law_714 : decode cL_law 714 = .ok (.invokevirtual 104, 3) := by decide +kernel
theorem dL_law_717 : decode cL_law 717 = .ok (.f2d, 1) := by decide +kernel
theorem dL_law_718 : decode cL_law 718 = .ok (.dstore 6, 2) := by decide +kernel
theorem dL_law_720 : decode cL_law 720 = .ok (.dload 4, 2) := by decide +kernel
theorem dL_law_722 : decode cL_law 722 = .ok (.dload 6, 2) := by decide +kernel
theorem dL_law_724 : decode cL_law 724 = .ok (.dcmp .l, 1) := by decide +kernel
theorem dL_law_725 : decode cL_law 725 = .ok (.ifCond .eq 21, 3) := by decide +kernel
theorem dL_law_728 : decode cL_law 728 = .ok (.dload 4, 2) := by decide +kernel
theorem dL_law_730 : decode cL_law 730 = .ok (.dload 4, 2) := by decide +kernel
theorem dL_law_732 : decode cL_law 732 = .ok (.dcmp .l, 1) := by decide +kernel
theorem dL_law_733 : decode cL_law 733 = .ok (.ifCond .eq 11, 3) := by decide +kernel
theorem dL_law_736 : decode cL_law 736 = .ok (.dload 6, 2) := by decide +kernel
theorem dL_law_738 : decode cL_law 738 = .ok (.dload 6, 2) := by decide +kernel
theorem dL_law_740 : decode cL_law 740 = .ok (.dcmp .l, 1) := by decide +kernel
theorem dL_law_741 : decode cL_law 741 = .ok (.ifCond .ne 5, 3) := by decide +kernel
theorem dL_law_744 : decode cL_law 744 = .ok (.iconst 0, 1) := by decide +kernel
theorem dL_law_745 : decode cL_law 745 = .ok (.ireturn, 1) := by decide +kernel
theorem dL_law_746 : decode cL_law 746 = .ok (.goto 105, 3) := by decide +kernel
theorem dL_law_749 : decode cL_law 749 = .ok (.aload_n 1, 1) := by decide +kernel
theorem dL_law_750 : decode cL_law 750 = .ok (.aload_n 0, 1) := by decide +kernel
theorem dL_law_751 : decode cL_law 751 = .ok (.iload_n 3, 1) := by decide +kernel
theorem dL_law_752 : decode cL_law 752 = .ok (.iconst 1, 1) := by decide +kernel
theorem dL_law_753 : decode cL_law 753 = .ok (.iadd, 1) := by decide +kernel
theorem dL_law_754 : decode cL_law 754 = .ok (.iaload, 1) := by decide +kernel
theorem dL_law_755 : decode cL_law 755 = .ok (.invokevirtual 105, 3) := by decide +kernel
theorem dL_law_758 : decode cL_law 758 = .ok (.aload_n 2, 1) := by decide +kernel
theorem dL_law_759 : decode cL_law 759 = .ok (.aload_n 0, 1) := by decide +kernel
theorem dL_law_760 : decode cL_law 760 = .ok (.iload_n 3, 1) := by decide +kernel
theorem dL_law_761 : decode cL_law 761 = .ok (.iconst 1, 1) := by decide +kernel
theorem dL_law_762 : decode cL_law 762 = .ok (.iadd, 1) := by decide +kernel
theorem dL_law_763 : decode cL_law 763 = .ok (.iaload, 1) := by decide +kernel
theorem dL_law_764 : decode cL_law 764 = .ok (.invokevirtual 108, 3) := by decide +kernel
theorem dL_law_767 : decode cL_law 767 = .ok (.if_icmp .eq 84, 3) := by decide +kernel
theorem dL_law_770 : decode cL_law 770 = .ok (.iconst 0, 1) := by decide +kernel
theorem dL_law_771 : decode cL_law 771 = .ok (.ireturn, 1) := by decide +kernel
theorem dL_law_772 : decode cL_law 772 = .ok (.aload_n 1, 1) := by decide +kernel
theorem dL_law_773 : decode cL_law 773 = .ok (.aload_n 0, 1) := by decide +kernel
theorem dL_law_774 : decode cL_law 774 = .ok (.iload_n 3, 1) := by decide +kernel
theorem dL_law_775 : decode cL_law 775 = .ok (.iconst 1, 1) := by decide +kernel
theorem dL_law_776 : decode cL_law 776 = .ok (.iadd, 1) := by decide +kernel
theorem dL_law_777 : decode cL_law 777 = .ok (.iaload, 1) := by decide +kernel
theorem dL_law_778 : decode cL_law 778 = .ok (.invokevirtual 109, 3) := by decide +kernel
theorem dL_law_781 : decode cL_law 781 = .ok (.aload_n 2, 1) := by decide +kernel
theorem dL_law_782 : decode cL_law 782 = .ok (.aload_n 0, 1) := by decide +kernel
theorem dL_law_783 : decode cL_law 783 = .ok (.iload_n 3, 1) := by decide +kernel
theorem dL_law_784 : decode cL_law 784 = .ok (.iconst 1, 1) := by decide +kernel
theorem dL_law_785 : decode cL_law 785 = .ok (.iadd, 1) := by decide +kernel
theorem dL_law_786 : decode cL_law 786 = .ok (.iaload, 1) := by decide +kernel
theorem dL_law_787 : decode cL_law 787 = .ok (.invokevirtual 112, 3) := by decide +kernel
theorem dL_law_790 : decode cL_law 790 = .ok (.if_icmp .eq 61, 3) := by decide +kernel
theorem dL_law_793 : decode cL_law 793 = .ok (.iconst 0, 1) := by decide +kernel
theorem dL_law_794 : decode cL_law 794 = .ok (.ireturn, 1) := by decide +kernel
theorem dL_law_795 : decode cL_law 795 = .ok (.aload_n 1, 1) := by decide +kernel
theorem dL_law_796 : decode cL_law 796 = .ok (.aload_n 0, 1) := by decide +kernel
theorem dL_law_797 : decode cL_law 797 = .ok (.iload_n 3, 1) := by decide +kernel
theorem dL_law_798 : decode cL_law 798 = .ok (.iconst 1, 1) := by decide +kernel
theorem dL_law_799 : decode cL_law 799 = .ok (.iadd, 1) := by decide +kernel
theorem dL_law_800 : decode cL_law 800 = .ok (.iaload, 1) := by decide +kernel
theorem dL_law_801 : decode cL_law 801 = .ok (.invokevirtual 113, 3) := by decide +kernel
theorem dL_law_804 : decode cL_law 804 = .ok (.aload_n 2, 1) := by decide +kernel
theorem dL_law_805 : decode cL_law 805 = .ok (.aload_n 0, 1) := by decide +kernel
theorem dL_law_806 : decode cL_law 806 = .ok (.iload_n 3, 1) := by decide +kernel
theorem dL_law_807 : decode cL_law 807 = .ok (.iconst 1, 1) := by decide +kernel
theorem dL_law_808 : decode cL_law 808 = .ok (.iadd, 1) := by decide +kernel
theorem dL_law_809 : decode cL_law 809 = .ok (.iaload, 1) := by decide +kernel
theorem dL_law_810 : decode cL_law 810 = .ok (.invokevirtual 116, 3) := by decide +kernel
theorem dL_law_813 : decode cL_law 813 = .ok (.if_icmp .eq 38, 3) := by decide +kernel
theorem dL_law_816 : decode cL_law 816 = .ok (.iconst 0, 1) := by decide +kernel
theorem dL_law_817 : decode cL_law 817 = .ok (.ireturn, 1) := by decide +kernel
theorem dL_law_818 : decode cL_law 818 = .ok (.aload_n 1, 1) := by decide +kernel
theorem dL_law_819 : decode cL_law 819 = .ok (.aload_n 0, 1) := by decide +kernel
theorem dL_law_820 : decode cL_law 820 = .ok (.iload_n 3, 1) := by decide +kernel
theorem dL_law_821 : decode cL_law 821 = .ok (.iconst 1, 1) := by decide +kernel
theorem dL_law_822 : decode cL_law 822 = .ok (.iadd, 1) := by decide +kernel
theorem dL_law_823 : decode cL_law 823 = .ok (.iaload, 1) := by decide +kernel
theorem dL_law_824 : decode cL_law 824 = .ok (.aload_n 0, 1) := by decide +kernel
theorem dL_law_825 : decode cL_law 825 = .ok (.iload_n 3, 1) := by decide +kernel
theorem dL_law_826 : decode cL_law 826 = .ok (.iconst 2, 1) := by decide +kernel
theorem dL_law_827 : decode cL_law 827 = .ok (.iadd, 1) := by decide +kernel
theorem dL_law_828 : decode cL_law 828 = .ok (.iaload, 1) := by decide +kernel
theorem dL_law_829 : decode cL_law 829 = .ok (.invokevirtual 117, 3) := by decide +kernel
theorem dL_law_832 : decode cL_law 832 = .ok (.aload_n 2, 1) := by decide +kernel
theorem dL_law_833 : decode cL_law 833 = .ok (.aload_n 0, 1) := by decide +kernel
theorem dL_law_834 : decode cL_law 834 = .ok (.iload_n 3, 1) := by decide +kernel
theorem dL_law_835 : decode cL_law 835 = .ok (.iconst 1, 1) := by decide +kernel
theorem dL_law_836 : decode cL_law 836 = .ok (.iadd, 1) := by decide +kernel
theorem dL_law_837 : decode cL_law 837 = .ok (.iaload, 1) := by decide +kernel
theorem dL_law_838 : decode cL_law 838 = .ok (.aload_n 0, 1) := by decide +kernel
theorem dL_law_839 : decode cL_law 839 = .ok (.iload_n 3, 1) := by decide +kernel
theorem dL_law_840 : decode cL_law 840 = .ok (.iconst 2, 1) := by decide +kernel
theorem dL_law_841 : decode cL_law 841 = .ok (.iadd, 1) := by decide +kernel
theorem dL_law_842 : decode cL_law 842 = .ok (.iaload, 1) := by decide +kernel
theorem dL_law_843 : decode cL_law 843 = .ok (.invokevirtual 120, 3) := by decide +kernel
theorem dL_law_846 : decode cL_law 846 = .ok (.if_icmp .eq 5, 3) := by decide +kernel
theorem dL_law_849 : decode cL_law 849 = .ok (.iconst 0, 1) := by decide +kernel
theorem dL_law_850 : decode cL_law 850 = .ok (.ireturn, 1) := by decide +kernel
theorem dL_law_851 : decode cL_law 851 = .ok (.iinc 3 5, 3) := by decide +kernel
theorem dL_law_854 : decode cL_law 854 = .ok (.goto (-836), 3) := by decide +kernel
theorem dL_law_857 : decode cL_law 857 = .ok (.iconst 1, 1) := by decide +kernel
theorem dL_law_858 : decode cL_law 858 = .ok (.ireturn, 1) := by decide +kernel
