theorem dX5_init_0 : decode cX5_init 0 = .ok (.aload_n 0, 1) := by decide +kernel
theorem dX5_init_1 : decode cX5_init 1 = .ok (.invokespecial 1, 3) := by decide +kernel
theorem dX5_init_4 : decode cX5_init 4 = .ok (.aload_n 0, 1) := by decide +kernel
theorem dX5_init_5 : decode cX5_init 5 = .ok (.bipush 16, 2) := by decide +kernel
theorem dX5_init_7 : decode cX5_init 7 = .ok (.newarray .int, 2) := by decide +kernel
theorem dX5_init_9 : decode cX5_init 9 = .ok (.putfield 9, 3) := by decide +kernel
theorem dX5_init_12 : decode cX5_init 12 = .ok (.aload_n 0, 1) := by decide +kernel
theorem dX5_init_13 : decode cX5_init 13 = .ok (.iconst 4, 1) := by decide +kernel
theorem dX5_init_14 : decode cX5_init 14 = .ok (.newarray .int, 2) := by decide +kernel
theorem dX5_init_16 : decode cX5_init 16 = .ok (.putfield 13, 3) := by decide +kernel
theorem dX5_init_19 : decode cX5_init 19 = .ok (.aload_n 0, 1) := by decide +kernel
theorem dX5_init_20 : decode cX5_init 20 = .ok (.sipush 540, 3) := by decide +kernel
theorem dX5_init_23 : decode cX5_init 23 = .ok (.newarray .int, 2) := by decide +kernel
theorem dX5_init_25 : decode cX5_init 25 = .ok (.putfield 16, 3) := by decide +kernel
theorem dX5_init_28 : decode cX5_init 28 = .ok (.aload_n 0, 1) := by decide +kernel
theorem dX5_init_29 : decode cX5_init 29 = .ok (.bipush 60, 2) := by decide +kernel
theorem dX5_init_31 : decode cX5_init 31 = .ok (.anewarray 19, 3) := by decide +kernel
theorem dX5_init_34 : decode cX5_init 34 = .ok (.putfield 21, 3) := by decide +kernel
theorem dX5_init_37 : decode cX5_init 37 = .ok (.aload_n 0, 1) := by decide +kernel
theorem dX5_init_38 : decode cX5_init 38 = .ok (.bipush 60, 2) := by decide +kernel
theorem dX5_init_40 : decode cX5_init 40 = .ok (.newarray .int, 2) := by decide +kernel
theorem dX5_init_42 : decode cX5_init 42 = .ok (.putfield 25, 3) := by decide +kernel
theorem dX5_init_45 : decode cX5_init 45 = .ok (.aload_n 0, 1) := by decide +kernel
theorem dX5_init_46 : decode cX5_init 46 = .ok (.iconst 4, 1) := by decide +kernel
theorem dX5_init_47 : decode cX5_init 47 = .ok (.newarray .int, 2) := by decide +kernel
theorem dX5_init_49 : decode cX5_init 49 = .ok (.putfield 28, 3) := by decide +kernel
theorem dX5_init_52 : decode cX5_init 52 = .ok (.aload_n 0, 1) := by decide +kernel
theorem dX5_init_53 : decode cX5_init 53 = .ok (.iconst 4, 1) := by decide +kernel
theorem dX5_init_54 : decode cX5_init 54 = .ok (.newarray .int, 2) := by decide +kernel
theorem dX5_init_56 : decode cX5_init 56 = .ok (.putfield 31, 3) := by decide +kernel
theorem dX5_init_59 : decode cX5_init 59 = .ok (.aload_n 0, 1) := by decide +kernel
theorem dX5_init_60 : decode cX5_init 60 = .ok (.iconst 4, 1) := by decide +kernel
theorem dX5_init_61 : decode cX5_init 61 = .ok (.newarray .int, 2) := by decide +kernel
theorem dX5_init_63 : decode cX5_init 63 = .ok (.putfield 34, 3) := by decide +kernel
theorem dX5_init_66 : decode cX5_init 66 = .ok (.aload_n 0, 1) := by decide +kernel
theorem dX5_init_67 : decode cX5_init 67 = .ok (.bipush 20, 2) := by decide +kernel
theorem dX5_init_69 : decode cX5_init 69 = .ok (.putfield 37, 3) := by decide +kernel
theorem dX5_init_72 : decode cX5_init 72 = .ok (.aload_n 0, 1) := by decide +kernel
theorem dX5_init_73 : decode cX5_init 73 = .ok (.bipush 8, 2) := by decide +kernel
theorem dX5_init_75 : decode cX5_init 75 = .ok (.putfield 41, 3) := by decide +kernel
theorem dX5_init_78 : decode cX5_init 78 = .ok (.aload_n 0, 1) := by decide +kernel
theorem dX5_init_79 : decode cX5_init 79 = .ok (.iconst 4, 1) := by decide +kernel
theorem dX5_init_80 : decode cX5_init 80 = .ok (.putfield 44, 3) := by decide +kernel
theorem dX5_init_83 : decode cX5_init 83 = .ok (.aload_n 0, 1) := by decide +kernel
theorem dX5_init_84 : decode cX5_init 84 = .ok (.iconst 3, 1) := by decide +kernel
theorem dX5_init_85 : decode cX5_init 85 = .ok (.putfield 47, 3) := by decide +kernel
theorem dX5_init_88 : decode cX5_init 88 = .ok (.aload_n 0, 1) := by decide +kernel
theorem dX5_init_89 : decode cX5_init 89 = .ok (.iconst 2, 1) := by decide +kernel
theorem dX5_init_90 : decode cX5_init 90 = .ok (.putfield 50, 3) := by decide +kernel
theorem dX5_init_93 : decode cX5_init 93 = .ok (.aload_n 0, 1) := by decide +kernel
theorem dX5_init_94 : decode cX5_init 94 = .ok (.iconst 4, 1) := by decide +kernel
theorem dX5_init_95 : decode cX5_init 95 = .ok (.newarray .int, 2) := by decide +kernel
theorem dX5_init_97 : decode cX5_init 97 = .ok (.putfield 53, 3) := by decide +kernel
theorem dX5_init_100 : decode cX5_init 100 = .ok (.aload_n 0, 1) := by decide +kernel
theorem dX5_init_101 : decode cX5_init 101 = .ok (.iconst 4, 1) := by decide +kernel
theorem dX5_init_102 : decode cX5_init 102 = .ok (.newarray .int, 2) := by decide +kernel
theorem dX5_init_104 : decode cX5_init 104 = .ok (.putfield 56, 3) := by decide +kernel
theorem dX5_init_107 : decode cX5_init 107 = .ok (.aload_n 0, 1) := by decide +kernel
theorem dX5_init_108 : decode cX5_init 108 = .ok (.iconst 2, 1) := by decide +kernel
theorem dX5_init_109 : decode cX5_init 109 = .ok (.newarray .int, 2) := by decide +kernel
theorem dX5_init_111 : decode cX5_init 111 = .ok (.putfield 59, 3) := by decide +kernel
theorem dX5_init_114 : decode cX5_init 114 = .ok (.return_, 1) := by decide +kernel
theorem dX5_thrown_0 : decode cX5_thrown 0 = .ok (.aload_n 0, 1) := by decide +kernel
theorem dX5_thrown_1 : decode cX5_thrown 1 = .ok (.getfield 62, 3) := by decide +kernel
theorem dX5_thrown_4 : decode cX5_thrown 4 = .ok (.ireturn, 1) := by decide +kernel
theorem dX5_in_0 : decode cX5_in 0 = .ok (.lload_n 0, 1) := by decide +kernel
theorem dX5_in_1 : decode cX5_in 1 = .ok (.lload_n 2, 1) := by decide +kernel
theorem dX5_in_2 : decode cX5_in 2 = .ok (.lcmp, 1) := by decide +kernel
theorem dX5_in_3 : decode cX5_in 3 = .ok (.ifCond .lt 14, 3) := by decide +kernel
theorem dX5_in_6 : decode cX5_in 6 = .ok (.lload_n 0, 1) := by decide +kernel
theorem dX5_in_7 : decode cX5_in 7 = .ok (.lload 4, 2) := by decide +kernel
theorem dX5_in_9 : decode cX5_in 9 = .ok (.lcmp, 1) := by decide +kernel
theorem dX5_in_10 : decode cX5_in 10 = .ok (.ifCond .gt 7, 3) := by decide +kernel
theorem dX5_in_13 : decode cX5_in 13 = .ok (.iconst 1, 1) := by decide +kernel
theorem dX5_in_14 : decode cX5_in 14 = .ok (.goto 4, 3) := by decide +kernel
theorem dX5_in_17 : decode cX5_in 17 = .ok (.iconst 0, 1) := by decide +kernel
theorem dX5_in_18 : decode cX5_in 18 = .ok (.ireturn, 1) := by decide +kernel
theorem dX5_isSensor_0 : decode cX5_isSensor 0 = .ok (.iload_n 0, 1) := by decide +kernel
theorem dX5_isSensor_1 : decode cX5_isSensor 1 = .ok (.i2l, 1) := by decide +kernel
theorem dX5_isSensor_2 : decode cX5_isSensor 2 = .ok (.lconst 0, 1) := by decide +kernel
theorem dX5_isSensor_3 : decode cX5_isSensor 3 = .ok (.ldc2_w 65, 3) := by decide +kernel
theorem dX5_isSensor_6 : decode cX5_isSensor 6 = .ok (.invokestatic 67, 3) := by decide +kernel
theorem dX5_isSensor_9 : decode cX5_isSensor 9 = .ok (.ireturn, 1) := by decide +kernel
theorem dX5_isTrack_0 : decode cX5_isTrack 0 = .ok (.iload_n 1, 1) := by decide +kernel
theorem dX5_isTrack_1 : decode cX5_isTrack 1 = .ok (.i2l, 1) := by decide +kernel
theorem dX5_isTrack_2 : decode cX5_isTrack 2 = .ok (.lconst 0, 1) := by decide +kernel
theorem dX5_isTrack_3 : decode cX5_isTrack 3 = .ok (.aload_n 0, 1) := by decide +kernel
theorem dX5_isTrack_4 : decode cX5_isTrack 4 = .ok (.getfield 71, 3) := by decide +kernel
theorem dX5_isTrack_7 : decode cX5_isTrack 7 = .ok (.iconst 1, 1) := by decide +kernel
theorem dX5_isTrack_8 : decode cX5_isTrack 8 = .ok (.isub, 1) := by decide +kernel
theorem dX5_isTrack_9 : decode cX5_isTrack 9 = .ok (.i2l, 1) := by decide +kernel
theorem dX5_isTrack_10 : decode cX5_isTrack 10 = .ok (.invokestatic 67, 3) := by decide +kernel
theorem dX5_isTrack_13 : decode cX5_isTrack 13 = .ok (.ireturn, 1) := by decide +kernel
theorem dX5_of_0 : decode cX5_of 0 = .ok (.aload_n 0, 1) := by decide +kernel
theorem dX5_of_1 : decode cX5_of 1 = .ok (.getfield 16, 3) := by decide +kernel
theorem dX5_of_4 : decode cX5_of 4 = .ok (.bipush 9, 2) := by decide +kernel
theorem dX5_of_6 : decode cX5_of 6 = .ok (.iload_n 1, 1) := by decide +kernel
theorem dX5_of_7 : decode cX5_of 7 = .ok (.imul, 1) := by decide +kernel
theorem dX5_of_8 : decode cX5_of 8 = .ok (.iload_n 2, 1) := by decide +kernel
theorem dX5_of_9 : decode cX5_of 9 = .ok (.iadd, 1) := by decide +kernel
theorem dX5_of_10 : decode cX5_of 10 = .ok (.iaload, 1) := by decide +kernel
theorem dX5_of_11 : decode cX5_of 11 = .ok (.ireturn, 1) := by decide +kernel
theorem dX5_lays_0 : decode cX5_lays 0 = .ok (.aload_n 0, 1) := by decide +kernel
theorem dX5_lays_1 : decode cX5_lays 1 = .ok (.getfield 16, 3) := by decide +kernel
theorem dX5_lays_4 : decode cX5_lays 4 = .ok (.bipush 9, 2) := by decide +kernel
theorem dX5_lays_6 : decode cX5_lays 6 = .ok (.iload_n 1, 1) := by decide +kernel
theorem dX5_lays_7 : decode cX5_lays 7 = .ok (.imul, 1) := by decide +kernel
theorem dX5_lays_8 : decode cX5_lays 8 = .ok (.iload_n 2, 1) := by decide +kernel
theorem dX5_lays_9 : decode cX5_lays 9 = .ok (.iadd, 1) := by decide +kernel
theorem dX5_lays_10 : decode cX5_lays 10 = .ok (.iload_n 3, 1) := by decide +kernel
theorem dX5_lays_11 : decode cX5_lays 11 = .ok (.iastore, 1) := by decide +kernel
theorem dX5_lays_12 : decode cX5_lays 12 = .ok (.return_, 1) := by decide +kernel
theorem dX5_isLive_0 : decode cX5_isLive 0 = .ok (.aload_n 0, 1) := by decide +kernel
theorem dX5_isLive_1 : decode cX5_isLive 1 = .ok (.iload_n 1, 1) := by decide +kernel
theorem dX5_isLive_2 : decode cX5_isLive 2 = .ok (.bipush 7, 2) := by decide +kernel
theorem dX5_isLive_4 : decode cX5_isLive 4 = .ok (.invokevirtual 74, 3) := by decide +kernel
theorem dX5_isLive_7 : decode cX5_isLive 7 = .ok (.ifCond .ne 7, 3) := by decide +kernel
theorem dX5_isLive_10 : decode cX5_isLive 10 = .ok (.iconst 1, 1) := by decide +kernel
theorem dX5_isLive_11 : decode cX5_isLive 11 = .ok (.goto 4, 3) := by decide +kernel
theorem dX5_isLive_14 : decode cX5_isLive 14 = .ok (.iconst 0, 1) := by decide +kernel
theorem dX5_isLive_15 : decode cX5_isLive 15 = .ok (.ireturn, 1) := by decide +kernel
theorem dX5_isTime_0 : decode cX5_isTime 0 = .ok (.iload_n 0, 1) := by decide +kernel
theorem dX5_isTime_1 : decode cX5_isTime 1 = .ok (.i2l, 1) := by decide +kernel
theorem dX5_isTime_2 : decode cX5_isTime 2 = .ok (.lconst 0, 1) := by decide +kernel
theorem dX5_isTime_3 : decode cX5_isTime 3 = .ok (.ldc2_w 78, 3) := by decide +kernel
theorem dX5_isTime_6 : decode cX5_isTime 6 = .ok (.invokestatic 67, 3) := by decide +kernel
theorem dX5_isTime_9 : decode cX5_isTime 9 = .ok (.ireturn, 1) := by decide +kernel
theorem dX5_addPair_0 : decode cX5_addPair 0 = .ok (.iload_n 2, 1) := by decide +kernel
theorem dX5_addPair_1 : decode cX5_addPair 1 = .ok (.invokestatic 80, 3) := by decide +kernel
theorem dX5_addPair_4 : decode cX5_addPair 4 = .ok (.ifCond .eq 14, 3) := by decide +kernel
theorem dX5_addPair_7 : decode cX5_addPair 7 = .ok (.iload_n 3, 1) := by decide +kernel
theorem dX5_addPair_8 : decode cX5_addPair 8 = .ok (.invokestatic 80, 3) := by decide +kernel
theorem dX5_addPair_11 : decode cX5_addPair 11 = .ok (.ifCond .eq 7, 3) := by decide +kernel
theorem dX5_addPair_14 : decode cX5_addPair 14 = .ok (.iconst 1, 1) := by decide +kernel
theorem dX5_addPair_15 : decode cX5_addPair 15 = .ok (.goto 4, 3) := by decide +kernel
theorem dX5_addPair_18 : decode cX5_addPair 18 = .ok (.iconst 0, 1) := by decide +kernel
theorem dX5_addPair_19 : decode cX5_addPair 19 = .ok (.istore 4, 2) := by decide +kernel
theorem dX5_addPair_21 : decode cX5_addPair 21 = .ok (.iload_n 1, 1) := by decide +kernel
theorem dX5_addPair_22 : decode cX5_addPair 22 = .ok (.invokestatic 84, 3) := by decide +kernel
theorem dX5_addPair_25 : decode cX5_addPair 25 = .ok (.ifCond .eq 87, 3) := by decide +kernel
theorem dX5_addPair_28 : decode cX5_addPair 28 = .ok (.aload_n 0, 1) := by decide +kernel
theorem dX5_addPair_29 : decode cX5_addPair 29 = .ok (.getfield 13, 3) := by decide +kernel
theorem dX5_addPair_32 : decode cX5_addPair 32 = .ok (.iload_n 1, 1) := by decide +kernel
theorem dX5_addPair_33 : decode cX5_addPair 33 = .ok (.iaload, 1) := by decide +kernel
theorem dX5_addPair_34 : decode cX5_addPair 34 = .ok (.ifCond .le 78, 3) := by decide +kernel
theorem dX5_addPair_37 : decode cX5_addPair 37 = .ok (.iconst 4, 1) := by decide +kernel
theorem dX5_addPair_38 : decode cX5_addPair 38 = .ok (.iload_n 1, 1) := by decide +kernel
theorem dX5_addPair_39 : decode cX5_addPair 39 = .ok (.imul, 1) := by decide +kernel
theorem dX5_addPair_40 : decode cX5_addPair 40 = .ok (.iconst 2, 1) := by decide +kernel
theorem dX5_addPair_41 : decode cX5_addPair 41 = .ok (.aload_n 0, 1) := by decide +kernel
theorem dX5_addPair_42 : decode cX5_addPair 42 = .ok (.getfield 13, 3) := by decide +kernel
theorem dX5_addPair_45 : decode cX5_addPair 45 = .ok (.iload_n 1, 1) := by decide +kernel
theorem dX5_addPair_46 : decode cX5_addPair 46 = .ok (.iaload, 1) := by decide +kernel
theorem dX5_addPair_47 : decode cX5_addPair 47 = .ok (.iconst 1, 1) := by decide +kernel
theorem dX5_addPair_48 : decode cX5_addPair 48 = .ok (.isub, 1) := by decide +kernel
theorem dX5_addPair_49 : decode cX5_addPair 49 = .ok (.imul, 1) := by decide +kernel
theorem dX5_addPair_50 : decode cX5_addPair 50 = .ok (.iadd, 1) := by decide +kernel
theorem dX5_addPair_51 : decode cX5_addPair 51 = .ok (.istore 5, 2) := by decide +kernel
theorem dX5_addPair_53 : decode cX5_addPair 53 = .ok (.iload_n 2, 1) := by decide +kernel
theorem dX5_addPair_54 : decode cX5_addPair 54 = .ok (.aload_n 0, 1) := by decide +kernel
theorem dX5_addPair_55 : decode cX5_addPair 55 = .ok (.getfield 9, 3) := by decide +kernel
theorem dX5_addPair_58 : decode cX5_addPair 58 = .ok (.iload 5, 2) := by decide +kernel
theorem dX5_addPair_60 : decode cX5_addPair 60 = .ok (.iaload, 1) := by decide +kernel
theorem dX5_addPair_61 : decode cX5_addPair 61 = .ok (.isub, 1) := by decide +kernel
theorem dX5_addPair_62 : decode cX5_addPair 62 = .ok (.istore 6, 2) := by decide +kernel
theorem dX5_addPair_64 : decode cX5_addPair 64 = .ok (.iload_n 3, 1) := by decide +kernel
theorem dX5_addPair_65 : decode cX5_addPair 65 = .ok (.aload_n 0, 1) := by decide +kernel
theorem dX5_addPair_66 : decode cX5_addPair 66 = .ok (.getfield 9, 3) := by decide +kernel
theorem dX5_addPair_69 : decode cX5_addPair 69 = .ok (.iload 5, 2) := by decide +kernel
theorem dX5_addPair_71 : decode cX5_addPair 71 = .ok (.iconst 1, 1) := by decide +kernel
theorem dX5_addPair_72 : decode cX5_addPair 72 = .ok (.iadd, 1) := by decide +kernel
theorem dX5_addPair_73 : decode cX5_addPair 73 = .ok (.iaload, 1) := by decide +kernel
theorem dX5_addPair_74 : decode cX5_addPair 74 = .ok (.isub, 1) := by decide +kernel
theorem dX5_addPair_75 : decode cX5_addPair 75 = .ok (.istore 7, 2) := by decide +kernel
theorem dX5_addPair_77 : decode cX5_addPair 77 = .ok (.iload 4, 2) := by decide +kernel
theorem dX5_addPair_79 : decode cX5_addPair 79 = .ok (.ifCond .eq 30, 3) := by decide +kernel
theorem dX5_addPair_82 : decode cX5_addPair 82 = .ok (.iload 6, 2) := by decide +kernel
theorem dX5_addPair_84 : decode cX5_addPair 84 = .ok (.ifCond .le 25, 3) := by decide +kernel
theorem dX5_addPair_87 : decode cX5_addPair 87 = .ok (.iconst 2, 1) := by decide +kernel
theorem dX5_addPair_88 : decode cX5_addPair 88 = .ok (.iload 7, 2) := by decide +kernel
theorem dX5_addPair_90 : decode cX5_addPair 90 = .ok (.imul, 1) := by decide +kernel
theorem dX5_addPair_91 : decode cX5_addPair 91 = .ok (.iload 6, 2) := by decide +kernel
theorem dX5_addPair_93 : decode cX5_addPair 93 = .ok (.if_icmp .lt 16, 3) := by decide +kernel
theorem dX5_addPair_96 : decode cX5_addPair 96 = .ok (.iload 7, 2) := by decide +kernel
theorem dX5_addPair_98 : decode cX5_addPair 98 = .ok (.iconst 2, 1) := by decide +kernel
theorem dX5_addPair_99 : decode cX5_addPair 99 = .ok (.iload 6, 2) := by decide +kernel
theorem dX5_addPair_101 : decode cX5_addPair 101 = .ok (.imul, 1) := by decide +kernel
theorem dX5_addPair_102 : decode cX5_addPair 102 = .ok (.if_icmp .gt 7, 3) := by decide +kernel
theorem dX5_addPair_105 : decode cX5_addPair 105 = .ok (.iconst 1, 1) := by decide +kernel
theorem dX5_addPair_106 : decode cX5_addPair 106 = .ok (.goto 4, 3) := by decide +kernel
theorem dX5_addPair_109 : decode cX5_addPair 109 = .ok (.iconst 0, 1) := by decide +kernel
theorem dX5_addPair_110 : decode cX5_addPair 110 = .ok (.istore 4, 2) := by decide +kernel
theorem dX5_addPair_112 : decode cX5_addPair 112 = .ok (.aload_n 0, 1) := by decide +kernel
theorem dX5_addPair_113 : decode cX5_addPair 113 = .ok (.iload_n 1, 1) := by decide +kernel
theorem dX5_addPair_114 : decode cX5_addPair 114 = .ok (.invokestatic 84, 3) := by decide +kernel
theorem dX5_addPair_117 : decode cX5_addPair 117 = .ok (.ifCond .ne 7, 3) := by decide +kernel
theorem dX5_addPair_120 : decode cX5_addPair 120 = .ok (.iconst 1, 1) := by decide +kernel
theorem dX5_addPair_121 : decode cX5_addPair 121 = .ok (.goto 13, 3) := by decide +kernel
theorem dX5_addPair_124 : decode cX5_addPair 124 = .ok (.iload 4, 2) := by decide +kernel
theorem dX5_addPair_126 : decode cX5_addPair 126 = .ok (.ifCond .ne 7, 3) := by decide +kernel
theorem dX5_addPair_129 : decode cX5_addPair 129 = .ok (.iconst 2, 1) := by decide +kernel
theorem dX5_addPair_130 : decode cX5_addPair 130 = .ok (.goto 4, 3) := by decide +kernel
theorem dX5_addPair_133 : decode cX5_addPair 133 = .ok (.iconst 0, 1) := by decide +kernel
theorem dX5_addPair_134 : decode cX5_addPair 134 = .ok (.putfield 62, 3) := by decide +kernel
theorem dX5_addPair_137 : decode cX5_addPair 137 = .ok (.aload_n 0, 1) := by decide +kernel
theorem dX5_addPair_138 : decode cX5_addPair 138 = .ok (.getfield 62, 3) := by decide +kernel
theorem dX5_addPair_141 : decode cX5_addPair 141 = .ok (.ifCond .le 5, 3) := by decide +kernel
theorem dX5_addPair_144 : decode cX5_addPair 144 = .ok (.iconst (-1), 1) := by decide +kernel
theorem dX5_addPair_145 : decode cX5_addPair 145 = .ok (.ireturn, 1) := by decide +kernel
theorem dX5_addPair_146 : decode cX5_addPair 146 = .ok (.iconst 4, 1) := by decide +kernel
theorem dX5_addPair_147 : decode cX5_addPair 147 = .ok (.iload_n 1, 1) := by decide +kernel
theorem dX5_addPair_148 : decode cX5_addPair 148 = .ok (.imul, 1) := by decide +kernel
theorem dX5_addPair_149 : decode cX5_addPair 149 = .ok (.istore 5, 2) := by decide +kernel
theorem dX5_addPair_151 : decode cX5_addPair 151 = .ok (.aload_n 0, 1) := by decide +kernel
theorem dX5_addPair_152 : decode cX5_addPair 152 = .ok (.getfield 13, 3) := by decide +kernel
theorem dX5_addPair_155 : decode cX5_addPair 155 = .ok (.iload_n 1, 1) := by decide +kernel
theorem dX5_addPair_156 : decode cX5_addPair 156 = .ok (.iaload, 1) := by decide +kernel
theorem dX5_addPair_157 : decode cX5_addPair 157 = .ok (.iconst 2, 1) := by decide +kernel
theorem dX5_addPair_158 : decode cX5_addPair 158 = .ok (.if_icmp .ne 44, 3) := by decide +kernel
theorem dX5_addPair_161 : decode cX5_addPair 161 = .ok (.aload_n 0, 1) := by decide +kernel
theorem dX5_addPair_162 : decode cX5_addPair 162 = .ok (.getfield 9, 3) := by decide +kernel
theorem dX5_addPair_165 : decode cX5_addPair 165 = .ok (.iload 5, 2) := by decide +kernel
theorem dX5_addPair_167 : decode cX5_addPair 167 = .ok (.aload_n 0, 1) := by decide +kernel
theorem dX5_addPair_168 : decode cX5_addPair 168 = .ok (.getfield 9, 3) := by decide +kernel
theorem dX5_addPair_171 : decode cX5_addPair 171 = .ok (.iload 5, 2) := by decide +kernel
theorem dX5_addPair_173 : decode cX5_addPair 173 = .ok (.iconst 2, 1) := by decide +kernel
theorem dX5_addPair_174 : decode cX5_addPair 174 = .ok (.iadd, 1) := by decide +kernel
theorem dX5_addPair_175 : decode cX5_addPair 175 = .ok (.iaload, 1) := by decide +kernel
theorem dX5_addPair_176 : decode cX5_addPair 176 = .ok (.iastore, 1) := by decide +kernel
theorem dX5_addPair_177 : decode cX5_addPair 177 = .ok (.aload_n 0, 1) := by decide +kernel
theorem dX5_addPair_178 : decode cX5_addPair 178 = .ok (.getfield 9, 3) := by decide +kernel
theorem dX5_addPair_181 : decode cX5_addPair 181 = .ok (.iload 5, 2) := by decide +kernel
theorem dX5_addPair_183 : decode cX5_addPair 183 = .ok (.iconst 1, 1) := by decide +kernel
theorem dX5_addPair_184 : decode cX5_addPair 184 = .ok (.iadd, 1) := by decide +kernel
theorem dX5_addPair_185 : decode cX5_addPair 185 = .ok (.aload_n 0, 1) := by decide +kernel
theorem dX5_addPair_186 : decode cX5_addPair 186 = .ok (.getfield 9, 3) := by decide +kernel
theorem dX5_addPair_189 : decode cX5_addPair 189 = .ok (.iload 5, 2) := by decide +kernel
theorem dX5_addPair_191 : decode cX5_addPair 191 = .ok (.iconst 3, 1) := by decide +kernel
theorem dX5_addPair_192 : decode cX5_addPair 192 = .ok (.iadd, 1) := by decide +kernel
theorem dX5_addPair_193 : decode cX5_addPair 193 = .ok (.iaload, 1) := by decide +kernel
theorem dX5_addPair_194 : decode cX5_addPair 194 = .ok (.iastore, 1) := by decide +kernel
theorem dX5_addPair_195 : decode cX5_addPair 195 = .ok (.aload_n 0, 1) := by decide +kernel
theorem dX5_addPair_196 : decode cX5_addPair 196 = .ok (.getfield 13, 3) := by decide +kernel
theorem dX5_addPair_199 : decode cX5_addPair 199 = .ok (.iload_n 1, 1) := by decide +kernel
theorem dX5_addPair_200 : decode cX5_addPair 200 = .ok (.iconst 1, 1) := by decide +kernel
theorem dX5_addPair_201 : decode cX5_addPair 201 = .ok (.iastore, 1) := by decide +kernel
theorem dX5_addPair_202 : decode cX5_addPair 202 = .ok (.aload_n 0, 1) := by decide +kernel
theorem dX5_addPair_203 : decode cX5_addPair 203 = .ok (.getfield 9, 3) := by decide +kernel
theorem dX5_addPair_206 : decode cX5_addPair 206 = .ok (.iload 5, 2) := by decide +kernel
theorem dX5_addPair_208 : decode cX5_addPair 208 = .ok (.iconst 2, 1) := by decide +kernel
theorem dX5_addPair_209 : decode cX5_addPair 209 = .ok (.aload_n 0, 1) := by decide +kernel
theorem dX5_addPair_210 : decode cX5_addPair 210 = .ok (.getfield 13, 3) := by decide +kernel
theorem dX5_addPair_213 : decode cX5_addPair 213 = .ok (.iload_n 1, 1) := by decide +kernel
theorem dX5_addPair_214 : decode cX5_addPair 214 = .ok (.iaload, 1) := by decide +kernel
theorem dX5_addPair_215 : decode cX5_addPair 215 = .ok (.imul, 1) := by decide +kernel
theorem dX5_addPair_216 : decode cX5_addPair 216 = .ok (.iadd, 1) := by decide +kernel
theorem dX5_addPair_217 : decode cX5_addPair 217 = .ok (.iload_n 2, 1) := by decide +kernel
theorem dX5_addPair_218 : decode cX5_addPair 218 = .ok (.iastore, 1) := by decide +kernel
theorem dX5_addPair_219 : decode cX5_addPair 219 = .ok (.aload_n 0, 1) := by decide +kernel
theorem dX5_addPair_220 : decode cX5_addPair 220 = .ok (.getfield 9, 3) := by decide +kernel
theorem dX5_addPair_223 : decode cX5_addPair 223 = .ok (.iload 5, 2) := by decide +kernel
theorem dX5_addPair_225 : decode cX5_addPair 225 = .ok (.iconst 2, 1) := by decide +kernel
theorem dX5_addPair_226 : decode cX5_addPair 226 = .ok (.aload_n 0, 1) := by decide +kernel
theorem dX5_addPair_227 : decode cX5_addPair 227 = .ok (.getfield 13, 3) := by decide +kernel
theorem dX5_addPair_230 : decode cX5_addPair 230 = .ok (.iload_n 1, 1) := by decide +kernel
theorem dX5_addPair_231 : decode cX5_addPair 231 = .ok (.iaload, 1) := by decide +kernel
theorem dX5_addPair_232 : decode cX5_addPair 232 = .ok (.imul, 1) := by decide +kernel
theorem dX5_addPair_233 : decode cX5_addPair 233 = .ok (.iadd, 1) := by decide +kernel
theorem dX5_addPair_234 : decode cX5_addPair 234 = .ok (.iconst 1, 1) := by decide +kernel
theorem dX5_addPair_235 : decode cX5_addPair 235 = .ok (.iadd, 1) := by decide +kernel
theorem dX5_addPair_236 : decode cX5_addPair 236 = .ok (.iload_n 3, 1) := by decide +kernel
theorem dX5_addPair_237 : decode cX5_addPair 237 = .ok (.iastore, 1) := by decide +kernel
theorem dX5_addPair_238 : decode cX5_addPair 238 = .ok (.aload_n 0, 1) := by decide +kernel
theorem dX5_addPair_239 : decode cX5_addPair 239 = .ok (.getfield 13, 3) := by decide +kernel
theorem dX5_addPair_242 : decode cX5_addPair 242 = .ok (.iload_n 1, 1) := by decide +kernel
theorem dX5_addPair_243 : decode cX5_addPair 243 = .ok (.dup2, 1) := by decide +kernel
theorem dX5_addPair_244 : decode cX5_addPair 244 = .ok (.iaload, 1) := by decide +kernel
theorem dX5_addPair_245 : decode cX5_addPair 245 = .ok (.iconst 1, 1) := by decide +kernel
theorem dX5_addPair_246 : decode cX5_addPair 246 = .ok (.iadd, 1) := by decide +kernel
theorem dX5_addPair_247 : decode cX5_addPair 247 = .ok (.iastore, 1) := by decide +kernel
theorem dX5_addPair_248 : decode cX5_addPair 248 = .ok (.aload_n 0, 1) := by decide +kernel
theorem dX5_addPair_249 : decode cX5_addPair 249 = .ok (.getfield 13, 3) := by decide +kernel
theorem dX5_addPair_252 : decode cX5_addPair 252 = .ok (.iload_n 1, 1) := by decide +kernel
theorem dX5_addPair_253 : decode cX5_addPair 253 = .ok (.iaload, 1) := by decide +kernel
theorem dX5_addPair_254 : decode cX5_addPair 254 = .ok (.ireturn, 1) := by decide +kernel
theorem dX5_forgetPairs_0 : decode cX5_forgetPairs 0 = .ok (.aload_n 0, 1) := by decide +kernel
theorem dX5_forgetPairs_1 : decode cX5_forgetPairs 1 = .ok (.iload_n 1, 1) := by decide +kernel
theorem dX5_forgetPairs_2 : decode cX5_forgetPairs 2 = .ok (.invokestatic 84, 3) := by decide +kernel
theorem dX5_forgetPairs_5 : decode cX5_forgetPairs 5 = .ok (.ifCond .eq 7, 3) := by decide +kernel
theorem dX5_forgetPairs_8 : decode cX5_forgetPairs 8 = .ok (.iconst 0, 1) := by decide +kernel
theorem dX5_forgetPairs_9 : decode cX5_forgetPairs 9 = .ok (.goto 4, 3) := by decide +kernel
theorem dX5_forgetPairs_12 : decode cX5_forgetPairs 12 = .ok (.iconst 1, 1) := by decide +kernel
theorem dX5_forgetPairs_13 : decode cX5_forgetPairs 13 = .ok (.putfield 62, 3) := by decide +kernel
theorem dX5_forgetPairs_16 : decode cX5_forgetPairs 16 = .ok (.aload_n 0, 1) := by decide +kernel
theorem dX5_forgetPairs_17 : decode cX5_forgetPairs 17 = .ok (.getfield 62, 3) := by decide +kernel
theorem dX5_forgetPairs_20 : decode cX5_forgetPairs 20 = .ok (.ifCond .le 5, 3) := by decide +kernel
theorem dX5_forgetPairs_23 : decode cX5_forgetPairs 23 = .ok (.iconst (-1), 1) := by decide +kernel
theorem dX5_forgetPairs_24 : decode cX5_forgetPairs 24 = .ok (.ireturn, 1) := by decide +kernel
theorem dX5_forgetPairs_25 : decode cX5_forgetPairs 25 = .ok (.aload_n 0, 1) := by decide +kernel
theorem dX5_forgetPairs_26 : decode cX5_forgetPairs 26 = .ok (.getfield 13, 3) := by decide +kernel
theorem dX5_forgetPairs_29 : decode cX5_forgetPairs 29 = .ok (.iload_n 1, 1) := by decide +kernel
theorem dX5_forgetPairs_30 : decode cX5_forgetPairs 30 = .ok (.iaload, 1) := by decide +kernel
theorem dX5_forgetPairs_31 : decode cX5_forgetPairs 31 = .ok (.istore_n 2, 1) := by decide +kernel
theorem dX5_forgetPairs_32 : decode cX5_forgetPairs 32 = .ok (.aload_n 0, 1) := by decide +kernel
theorem dX5_forgetPairs_33 : decode cX5_forgetPairs 33 = .ok (.getfield 13, 3) := by decide +kernel
theorem dX5_forgetPairs_36 : decode cX5_forgetPairs 36 = .ok (.iload_n 1, 1) := by decide +kernel
theorem dX5_forgetPairs_37 : decode cX5_forgetPairs 37 = .ok (.iconst 0, 1) := by decide +kernel
theorem dX5_forgetPairs_38 : decode cX5_forgetPairs 38 = .ok (.iastore, 1) := by decide +kernel
theorem dX5_forgetPairs_39 : decode cX5_forgetPairs 39 = .ok (.iload_n 2, 1) := by decide +kernel
theorem dX5_forgetPairs_40 : decode cX5_forgetPairs 40 = .ok (.ireturn, 1) := by decide +kernel
theorem dX5_corrected_0 : decode cX5_corrected 0 = .ok (.iconst 4, 1) := by decide +kernel
theorem dX5_corrected_1 : decode cX5_corrected 1 = .ok (.iload_n 1, 1) := by decide +kernel
theorem dX5_corrected_2 : decode cX5_corrected 2 = .ok (.imul, 1) := by decide +kernel
theorem dX5_corrected_3 : decode cX5_corrected 3 = .ok (.istore_n 3, 1) := by decide +kernel
theorem dX5_corrected_4 : decode cX5_corrected 4 = .ok (.aload_n 0, 1) := by decide +kernel
theorem dX5_corrected_5 : decode cX5_corrected 5 = .ok (.getfield 13, 3) := by decide +kernel
theorem dX5_corrected_8 : decode cX5_corrected 8 = .ok (.iload_n 1, 1) := by decide +kernel
theorem dX5_corrected_9 : decode cX5_corrected 9 = .ok (.iaload, 1) := by decide +kernel
theorem dX5_corrected_10 : decode cX5_corrected 10 = .ok (.ifCond .ne 5, 3) := by decide +kernel
theorem dX5_corrected_13 : decode cX5_corrected 13 = .ok (.iload_n 2, 1) := by decide +kernel
theorem dX5_corrected_14 : decode cX5_corrected 14 = .ok (.ireturn, 1) := by decide +kernel
theorem dX5_corrected_15 : decode cX5_corrected 15 = .ok (.aload_n 0, 1) := by decide +kernel
theorem dX5_corrected_16 : decode cX5_corrected 16 = .ok (.getfield 13, 3) := by decide +kernel
theorem dX5_corrected_19 : decode cX5_corrected 19 = .ok (.iload_n 1, 1) := by decide +kernel
theorem dX5_corrected_20 : decode cX5_corrected 20 = .ok (.iaload, 1) := by decide +kernel
theorem dX5_corrected_21 : decode cX5_corrected 21 = .ok (.iconst 1, 1) := by decide +kernel
theorem dX5_corrected_22 : decode cX5_corrected 22 = .ok (.if_icmp .ne 21, 3) := by decide +kernel
theorem dX5_corrected_25 : decode cX5_corrected 25 = .ok (.iload_n 2, 1) := by decide +kernel
theorem dX5_corrected_26 : decode cX5_corrected 26 = .ok (.aload_n 0, 1) := by decide +kernel
theorem dX5_corrected_27 : decode cX5_corrected 27 = .ok (.getfield 9, 3) := by decide +kernel
theorem dX5_corrected_30 : decode cX5_corrected 30 = .ok (.iload_n 3, 1) := by decide +kernel
theorem dX5_corrected_31 : decode cX5_corrected 31 = .ok (.iconst 1, 1) := by decide +kernel
theorem dX5_corrected_32 : decode cX5_corrected 32 = .ok (.iadd, 1) := by decide +kernel
theorem dX5_corrected_33 : decode cX5_corrected 33 = .ok (.iaload, 1) := by decide +kernel
theorem dX5_corrected_34 : decode cX5_corrected 34 = .ok (.iadd, 1) := by decide +kernel
theorem dX5_corrected_35 : decode cX5_corrected 35 = .ok (.aload_n 0, 1) := by decide +kernel
theorem dX5_corrected_36 : decode cX5_corrected 36 = .ok (.getfield 9, 3) := by decide +kernel
theorem dX5_corrected_39 : decode cX5_corrected 39 = .ok (.iload_n 3, 1) := by decide +kernel
theorem dX5_corrected_40 : decode cX5_corrected 40 = .ok (.iaload, 1) := by decide +kernel
theorem dX5_corrected_41 : decode cX5_corrected 41 = .ok (.isub, 1) := by decide +kernel
theorem dX5_corrected_42 : decode cX5_corrected 42 = .ok (.ireturn, 1) := by decide +kernel
theorem dX5_corrected_43 : decode cX5_corrected 43 = .ok (.iload_n 2, 1) := by decide +kernel
theorem dX5_corrected_44 : decode cX5_corrected 44 = .ok (.aload_n 0, 1) := by decide +kernel
theorem dX5_corrected_45 : decode cX5_corrected 45 = .ok (.getfield 9, 3) := by decide +kernel
theorem dX5_corrected_48 : decode cX5_corrected 48 = .ok (.iload_n 3, 1) := by decide +kernel
theorem dX5_corrected_49 : decode cX5_corrected 49 = .ok (.iconst 2, 1) := by decide +kernel
theorem dX5_corrected_50 : decode cX5_corrected 50 = .ok (.iadd, 1) := by decide +kernel
theorem dX5_corrected_51 : decode cX5_corrected 51 = .ok (.iaload, 1) := by decide +kernel
theorem dX5_corrected_52 : decode cX5_corrected 52 = .ok (.isub, 1) := by decide +kernel
theorem dX5_corrected_53 : decode cX5_corrected 53 = .ok (.aload_n 0, 1) := by decide +kernel
theorem dX5_corrected_54 : decode cX5_corrected 54 = .ok (.getfield 9, 3) := by decide +kernel
theorem dX5_corrected_57 : decode cX5_corrected 57 = .ok (.iload_n 3, 1) := by decide +kernel
theorem dX5_corrected_58 : decode cX5_corrected 58 = .ok (.iconst 3, 1) := by decide +kernel
theorem dX5_corrected_59 : decode cX5_corrected 59 = .ok (.iadd, 1) := by decide +kernel
theorem dX5_corrected_60 : decode cX5_corrected 60 = .ok (.iaload, 1) := by decide +kernel
theorem dX5_corrected_61 : decode cX5_corrected 61 = .ok (.aload_n 0, 1) := by decide +kernel
theorem dX5_corrected_62 : decode cX5_corrected 62 = .ok (.getfield 9, 3) := by decide +kernel
theorem dX5_corrected_65 : decode cX5_corrected 65 = .ok (.iload_n 3, 1) := by decide +kernel
theorem dX5_corrected_66 : decode cX5_corrected 66 = .ok (.iconst 1, 1) := by decide +kernel
theorem dX5_corrected_67 : decode cX5_corrected 67 = .ok (.iadd, 1) := by decide +kernel
theorem dX5_corrected_68 : decode cX5_corrected 68 = .ok (.iaload, 1) := by decide +kernel
theorem dX5_corrected_69 : decode cX5_corrected 69 = .ok (.isub, 1) := by decide +kernel
theorem dX5_corrected_70 : decode cX5_corrected 70 = .ok (.imul, 1) := by decide +kernel
theorem dX5_corrected_71 : decode cX5_corrected 71 = .ok (.istore 4, 2) := by decide +kernel
theorem dX5_corrected_73 : decode cX5_corrected 73 = .ok (.aload_n 0, 1) := by decide +kernel
theorem dX5_corrected_74 : decode cX5_corrected 74 = .ok (.getfield 9, 3) := by decide +kernel
theorem dX5_corrected_77 : decode cX5_corrected 77 = .ok (.iload_n 3, 1) := by decide +kernel
theorem dX5_corrected_78 : decode cX5_corrected 78 = .ok (.iconst 3, 1) := by decide +kernel
theorem dX5_corrected_79 : decode cX5_corrected 79 = .ok (.iadd, 1) := by decide +kernel
theorem dX5_corrected_80 : decode cX5_corrected 80 = .ok (.iaload, 1) := by decide +kernel
theorem dX5_corrected_81 : decode cX5_corrected 81 = .ok (.iload 4, 2) := by decide +kernel
theorem dX5_corrected_83 : decode cX5_corrected 83 = .ok (.aload_n 0, 1) := by decide +kernel
theorem dX5_corrected_84 : decode cX5_corrected 84 = .ok (.getfield 9, 3) := by decide +kernel
theorem dX5_corrected_87 : decode cX5_corrected 87 = .ok (.iload_n 3, 1) := by decide +kernel
theorem dX5_corrected_88 : decode cX5_corrected 88 = .ok (.iconst 2, 1) := by decide +kernel
theorem dX5_corrected_89 : decode cX5_corrected 89 = .ok (.iadd, 1) := by decide +kernel
theorem dX5_corrected_90 : decode cX5_corrected 90 = .ok (.iaload, 1) := by decide +kernel
theorem dX5_corrected_91 : decode cX5_corrected 91 = .ok (.aload_n 0, 1) := by decide +kernel
theorem dX5_corrected_92 : decode cX5_corrected 92 = .ok (.getfield 9, 3) := by decide +kernel
theorem dX5_corrected_95 : decode cX5_corrected 95 = .ok (.iload_n 3, 1) := by decide +kernel
theorem dX5_corrected_96 : decode cX5_corrected 96 = .ok (.iaload, 1) := by decide +kernel
theorem dX5_corrected_97 : decode cX5_corrected 97 = .ok (.isub, 1) := by decide +kernel
theorem dX5_corrected_98 : decode cX5_corrected 98 = .ok (.invokestatic 87, 3) := by decide +kernel
theorem dX5_corrected_101 : decode cX5_corrected 101 = .ok (.iadd, 1) := by decide +kernel
theorem dX5_corrected_102 : decode cX5_corrected 102 = .ok (.ireturn, 1) := by decide +kernel
theorem dX5_correctedTime_0 : decode cX5_correctedTime 0 = .ok (.aload_n 0, 1) := by decide +kernel
theorem dX5_correctedTime_1 : decode cX5_correctedTime 1 = .ok (.iload_n 1, 1) := by decide +kernel
theorem dX5_correctedTime_2 : decode cX5_correctedTime 2 = .ok (.invokestatic 84, 3) := by decide +kernel
theorem dX5_correctedTime_5 : decode cX5_correctedTime 5 = .ok (.ifCond .ne 7, 3) := by decide +kernel
theorem dX5_correctedTime_8 : decode cX5_correctedTime 8 = .ok (.iconst 1, 1) := by decide +kernel
theorem dX5_correctedTime_9 : decode cX5_correctedTime 9 = .ok (.goto 15, 3) := by decide +kernel
theorem dX5_correctedTime_12 : decode cX5_correctedTime 12 = .ok (.iload_n 2, 1) := by decide +kernel
theorem dX5_correctedTime_13 : decode cX5_correctedTime 13 = .ok (.invokestatic 80, 3) := by decide +kernel
theorem dX5_correctedTime_16 : decode cX5_correctedTime 16 = .ok (.ifCond .ne 7, 3) := by decide +kernel
theorem dX5_correctedTime_19 : decode cX5_correctedTime 19 = .ok (.iconst 2, 1) := by decide +kernel
theorem dX5_correctedTime_20 : decode cX5_correctedTime 20 = .ok (.goto 4, 3) := by decide +kernel
theorem dX5_correctedTime_23 : decode cX5_correctedTime 23 = .ok (.iconst 0, 1) := by decide +kernel
theorem dX5_correctedTime_24 : decode cX5_correctedTime 24 = .ok (.putfield 62, 3) := by decide +kernel
theorem dX5_correctedTime_27 : decode cX5_correctedTime 27 = .ok (.aload_n 0, 1) := by decide +kernel
theorem dX5_correctedTime_28 : decode cX5_correctedTime 28 = .ok (.getfield 62, 3) := by decide +kernel
theorem dX5_correctedTime_31 : decode cX5_correctedTime 31 = .ok (.ifCond .ne 12, 3) := by decide +kernel
theorem dX5_correctedTime_34 : decode cX5_correctedTime 34 = .ok (.aload_n 0, 1) := by decide +kernel
theorem dX5_correctedTime_35 : decode cX5_correctedTime 35 = .ok (.iload_n 1, 1) := by decide +kernel
theorem dX5_correctedTime_36 : decode cX5_correctedTime 36 = .ok (.iload_n 2, 1) := by decide +kernel
theorem dX5_correctedTime_37 : decode cX5_correctedTime 37 = .ok (.invokevirtual 92, 3) := by decide +kernel
theorem dX5_correctedTime_40 : decode cX5_correctedTime 40 = .ok (.goto 4, 3) := by decide +kernel
theorem dX5_correctedTime_43 : decode cX5_correctedTime 43 = .ok (.iconst (-1), 1) := by decide +kernel
theorem dX5_correctedTime_44 : decode cX5_correctedTime 44 = .ok (.ireturn, 1) := by decide +kernel
theorem dX5_setGate_0 : decode cX5_setGate 0 = .ok (.aload_n 0, 1) := by decide +kernel
theorem dX5_setGate_1 : decode cX5_setGate 1 = .ok (.iload_n 1, 1) := by decide +kernel
theorem dX5_setGate_2 : decode cX5_setGate 2 = .ok (.i2l, 1) := by decide +kernel
theorem dX5_setGate_3 : decode cX5_setGate 3 = .ok (.lconst 1, 1) := by decide +kernel
theorem dX5_setGate_4 : decode cX5_setGate 4 = .ok (.ldc2_w 95, 3) := by decide +kernel
theorem dX5_setGate_7 : decode cX5_setGate 7 = .ok (.invokestatic 67, 3) := by decide +kernel
theorem dX5_setGate_10 : decode cX5_setGate 10 = .ok (.ifCond .eq 7, 3) := by decide +kernel
theorem dX5_setGate_13 : decode cX5_setGate 13 = .ok (.iconst 0, 1) := by decide +kernel
theorem dX5_setGate_14 : decode cX5_setGate 14 = .ok (.goto 4, 3) := by decide +kernel
theorem dX5_setGate_17 : decode cX5_setGate 17 = .ok (.iconst 1, 1) := by decide +kernel
theorem dX5_setGate_18 : decode cX5_setGate 18 = .ok (.putfield 62, 3) := by decide +kernel
theorem dX5_setGate_21 : decode cX5_setGate 21 = .ok (.aload_n 0, 1) := by decide +kernel
theorem dX5_setGate_22 : decode cX5_setGate 22 = .ok (.getfield 37, 3) := by decide +kernel
theorem dX5_setGate_25 : decode cX5_setGate 25 = .ok (.istore_n 2, 1) := by decide +kernel
theorem dX5_setGate_26 : decode cX5_setGate 26 = .ok (.aload_n 0, 1) := by decide +kernel
theorem dX5_setGate_27 : decode cX5_setGate 27 = .ok (.aload_n 0, 1) := by decide +kernel
theorem dX5_setGate_28 : decode cX5_setGate 28 = .ok (.getfield 62, 3) := by decide +kernel
theorem dX5_setGate_31 : decode cX5_setGate 31 = .ok (.ifCond .ne 7, 3) := by decide +kernel
theorem dX5_setGate_34 : decode cX5_setGate 34 = .ok (.iload_n 1, 1) := by decide +kernel
theorem dX5_setGate_35 : decode cX5_setGate 35 = .ok (.goto 4, 3) := by decide +kernel
theorem dX5_setGate_38 : decode cX5_setGate 38 = .ok (.iload_n 2, 1) := by decide +kernel
theorem dX5_setGate_39 : decode cX5_setGate 39 = .ok (.putfield 37, 3) := by decide +kernel
theorem dX5_setGate_42 : decode cX5_setGate 42 = .ok (.aload_n 0, 1) := by decide +kernel
theorem dX5_setGate_43 : decode cX5_setGate 43 = .ok (.getfield 62, 3) := by decide +kernel
theorem dX5_setGate_46 : decode cX5_setGate 46 = .ok (.ifCond .ne 7, 3) := by decide +kernel
theorem dX5_setGate_49 : decode cX5_setGate 49 = .ok (.iload_n 2, 1) := by decide +kernel
theorem dX5_setGate_50 : decode cX5_setGate 50 = .ok (.goto 4, 3) := by decide +kernel
theorem dX5_setGate_53 : decode cX5_setGate 53 = .ok (.iconst (-1), 1) := by decide +kernel
theorem dX5_setGate_54 : decode cX5_setGate 54 = .ok (.ireturn, 1) := by decide +kernel
theorem dX5_setFilter_0 : decode cX5_setFilter 0 = .ok (.aload_n 0, 1) := by decide +kernel
theorem dX5_setFilter_1 : decode cX5_setFilter 1 = .ok (.iload_n 1, 1) := by decide +kernel
theorem dX5_setFilter_2 : decode cX5_setFilter 2 = .ok (.i2l, 1) := by decide +kernel
theorem dX5_setFilter_3 : decode cX5_setFilter 3 = .ok (.lconst 1, 1) := by decide +kernel
theorem dX5_setFilter_4 : decode cX5_setFilter 4 = .ok (.ldc2_w 97, 3) := by decide +kernel
theorem dX5_setFilter_7 : decode cX5_setFilter 7 = .ok (.invokestatic 67, 3) := by decide +kernel
theorem dX5_setFilter_10 : decode cX5_setFilter 10 = .ok (.ifCond .eq 19, 3) := by decide +kernel
theorem dX5_setFilter_13 : decode cX5_setFilter 13 = .ok (.iload_n 2, 1) := by decide +kernel
theorem dX5_setFilter_14 : decode cX5_setFilter 14 = .ok (.i2l, 1) := by decide +kernel
theorem dX5_setFilter_15 : decode cX5_setFilter 15 = .ok (.lconst 0, 1) := by decide +kernel
theorem dX5_setFilter_16 : decode cX5_setFilter 16 = .ok (.ldc2_w 97, 3) := by decide +kernel
theorem dX5_setFilter_19 : decode cX5_setFilter 19 = .ok (.invokestatic 67, 3) := by decide +kernel
theorem dX5_setFilter_22 : decode cX5_setFilter 22 = .ok (.ifCond .eq 7, 3) := by decide +kernel
theorem dX5_setFilter_25 : decode cX5_setFilter 25 = .ok (.iconst 0, 1) := by decide +kernel
theorem dX5_setFilter_26 : decode cX5_setFilter 26 = .ok (.goto 4, 3) := by decide +kernel
theorem dX5_setFilter_29 : decode cX5_setFilter 29 = .ok (.iconst 1, 1) := by decide +kernel
theorem dX5_setFilter_30 : decode cX5_setFilter 30 = .ok (.putfield 62, 3) := by decide +kernel
theorem dX5_setFilter_33 : decode cX5_setFilter 33 = .ok (.aload_n 0, 1) := by decide +kernel
theorem dX5_setFilter_34 : decode cX5_setFilter 34 = .ok (.getfield 62, 3) := by decide +kernel
theorem dX5_setFilter_37 : decode cX5_setFilter 37 = .ok (.ifCond .le 5, 3) := by decide +kernel
theorem dX5_setFilter_40 : decode cX5_setFilter 40 = .ok (.iconst (-1), 1) := by decide +kernel
theorem dX5_setFilter_41 : decode cX5_setFilter 41 = .ok (.ireturn, 1) := by decide +kernel
theorem dX5_setFilter_42 : decode cX5_setFilter 42 = .ok (.bipush 100, 2) := by decide +kernel
theorem dX5_setFilter_44 : decode cX5_setFilter 44 = .ok (.aload_n 0, 1) := by decide +kernel
theorem dX5_setFilter_45 : decode cX5_setFilter 45 = .ok (.getfield 41, 3) := by decide +kernel
theorem dX5_setFilter_48 : decode cX5_setFilter 48 = .ok (.imul, 1) := by decide +kernel
theorem dX5_setFilter_49 : decode cX5_setFilter 49 = .ok (.aload_n 0, 1) := by decide +kernel
theorem dX5_setFilter_50 : decode cX5_setFilter 50 = .ok (.getfield 44, 3) := by decide +kernel
theorem dX5_setFilter_53 : decode cX5_setFilter 53 = .ok (.iadd, 1) := by decide +kernel
theorem dX5_setFilter_54 : decode cX5_setFilter 54 = .ok (.istore_n 3, 1) := by decide +kernel
theorem dX5_setFilter_55 : decode cX5_setFilter 55 = .ok (.aload_n 0, 1) := by decide +kernel
theorem dX5_setFilter_56 : decode cX5_setFilter 56 = .ok (.iload_n 1, 1) := by decide +kernel
theorem dX5_setFilter_57 : decode cX5_setFilter 57 = .ok (.putfield 41, 3) := by decide +kernel
theorem dX5_setFilter_60 : decode cX5_setFilter 60 = .ok (.aload_n 0, 1) := by decide +kernel
theorem dX5_setFilter_61 : decode cX5_setFilter 61 = .ok (.iload_n 2, 1) := by decide +kernel
theorem dX5_setFilter_62 : decode cX5_setFilter 62 = .ok (.putfield 44, 3) := by decide +kernel
theorem dX5_setFilter_65 : decode cX5_setFilter 65 = .ok (.iload_n 3, 1) := by decide +kernel
theorem dX5_setFilter_66 : decode cX5_setFilter 66 = .ok (.ireturn, 1) := by decide +kernel
theorem dX5_setLimit_0 : decode cX5_setLimit 0 = .ok (.aload_n 0, 1) := by decide +kernel
theorem dX5_setLimit_1 : decode cX5_setLimit 1 = .ok (.iload_n 1, 1) := by decide +kernel
theorem dX5_setLimit_2 : decode cX5_setLimit 2 = .ok (.i2l, 1) := by decide +kernel
theorem dX5_setLimit_3 : decode cX5_setLimit 3 = .ok (.lconst 1, 1) := by decide +kernel
theorem dX5_setLimit_4 : decode cX5_setLimit 4 = .ok (.ldc2_w 99, 3) := by decide +kernel
theorem dX5_setLimit_7 : decode cX5_setLimit 7 = .ok (.invokestatic 67, 3) := by decide +kernel
theorem dX5_setLimit_10 : decode cX5_setLimit 10 = .ok (.ifCond .eq 7, 3) := by decide +kernel
theorem dX5_setLimit_13 : decode cX5_setLimit 13 = .ok (.iconst 0, 1) := by decide +kernel
theorem dX5_setLimit_14 : decode cX5_setLimit 14 = .ok (.goto 4, 3) := by decide +kernel
theorem dX5_setLimit_17 : decode cX5_setLimit 17 = .ok (.iconst 1, 1) := by decide +kernel
theorem dX5_setLimit_18 : decode cX5_setLimit 18 = .ok (.putfield 62, 3) := by decide +kernel
theorem dX5_setLimit_21 : decode cX5_setLimit 21 = .ok (.aload_n 0, 1) := by decide +kernel
theorem dX5_setLimit_22 : decode cX5_setLimit 22 = .ok (.getfield 47, 3) := by decide +kernel
theorem dX5_setLimit_25 : decode cX5_setLimit 25 = .ok (.istore_n 2, 1) := by decide +kernel
theorem dX5_setLimit_26 : decode cX5_setLimit 26 = .ok (.aload_n 0, 1) := by decide +kernel
theorem dX5_setLimit_27 : decode cX5_setLimit 27 = .ok (.aload_n 0, 1) := by decide +kernel
theorem dX5_setLimit_28 : decode cX5_setLimit 28 = .ok (.getfield 62, 3) := by decide +kernel
theorem dX5_setLimit_31 : decode cX5_setLimit 31 = .ok (.ifCond .ne 7, 3) := by decide +kernel
theorem dX5_setLimit_34 : decode cX5_setLimit 34 = .ok (.iload_n 1, 1) := by decide +kernel
theorem dX5_setLimit_35 : decode cX5_setLimit 35 = .ok (.goto 4, 3) := by decide +kernel
theorem dX5_setLimit_38 : decode cX5_setLimit 38 = .ok (.iload_n 2, 1) := by decide +kernel
theorem dX5_setLimit_39 : decode cX5_setLimit 39 = .ok (.putfield 47, 3) := by decide +kernel
theorem dX5_setLimit_42 : decode cX5_setLimit 42 = .ok (.aload_n 0, 1) := by decide +kernel
theorem dX5_setLimit_43 : decode cX5_setLimit 43 = .ok (.getfield 62, 3) := by decide +kernel
theorem dX5_setLimit_46 : decode cX5_setLimit 46 = .ok (.ifCond .ne 7, 3) := by decide +kernel
theorem dX5_setLimit_49 : decode cX5_setLimit 49 = .ok (.iload_n 2, 1) := by decide +kernel
theorem dX5_setLimit_50 : decode cX5_setLimit 50 = .ok (.goto 4, 3) := by decide +kernel
theorem dX5_setLimit_53 : decode cX5_setLimit 53 = .ok (.iconst (-1), 1) := by decide +kernel
theorem dX5_setLimit_54 : decode cX5_setLimit 54 = .ok (.ireturn, 1) := by decide +kernel
theorem dX5_setNearness_0 : decode cX5_setNearness 0 = .ok (.aload_n 0, 1) := by decide +kernel
theorem dX5_setNearness_1 : decode cX5_setNearness 1 = .ok (.iload_n 1, 1) := by decide +kernel
theorem dX5_setNearness_2 : decode cX5_setNearness 2 = .ok (.i2l, 1) := by decide +kernel
theorem dX5_setNearness_3 : decode cX5_setNearness 3 = .ok (.lconst 0, 1) := by decide +kernel
theorem dX5_setNearness_4 : decode cX5_setNearness 4 = .ok (.ldc2_w 101, 3) := by decide +kernel
theorem dX5_setNearness_7 : decode cX5_setNearness 7 = .ok (.invokestatic 67, 3) := by decide +kernel
theorem dX5_setNearness_10 : decode cX5_setNearness 10 = .ok (.ifCond .eq 7, 3) := by decide +kernel
theorem dX5_setNearness_13 : decode cX5_setNearness 13 = .ok (.iconst 0, 1) := by decide +kernel
theorem dX5_setNearness_14 : decode cX5_setNearness 14 = .ok (.goto 4, 3) := by decide +kernel
theorem dX5_setNearness_17 : decode cX5_setNearness 17 = .ok (.iconst 1, 1) := by decide +kernel
theorem dX5_setNearness_18 : decode cX5_setNearness 18 = .ok (.putfield 62, 3) := by decide +kernel
theorem dX5_setNearness_21 : decode cX5_setNearness 21 = .ok (.aload_n 0, 1) := by decide +kernel
theorem dX5_setNearness_22 : decode cX5_setNearness 22 = .ok (.getfield 50, 3) := by decide +kernel
theorem dX5_setNearness_25 : decode cX5_setNearness 25 = .ok (.istore_n 2, 1) := by decide +kernel
theorem dX5_setNearness_26 : decode cX5_setNearness 26 = .ok (.aload_n 0, 1) := by decide +kernel
theorem dX5_setNearness_27 : decode cX5_setNearness 27 = .ok (.aload_n 0, 1) := by decide +kernel
theorem dX5_setNearness_28 : decode cX5_setNearness 28 = .ok (.getfield 62, 3) := by decide +kernel
theorem dX5_setNearness_31 : decode cX5_setNearness 31 = .ok (.ifCond .ne 7, 3) := by decide +kernel
theorem dX5_setNearness_34 : decode cX5_setNearness 34 = .ok (.iload_n 1, 1) := by decide +kernel
theorem dX5_setNearness_35 : decode cX5_setNearness 35 = .ok (.goto 4, 3) := by decide +kernel
theorem dX5_setNearness_38 : decode cX5_setNearness 38 = .ok (.iload_n 2, 1) := by decide +kernel
theorem dX5_setNearness_39 : decode cX5_setNearness 39 = .ok (.putfield 50, 3) := by decide +kernel
theorem dX5_setNearness_42 : decode cX5_setNearness 42 = .ok (.aload_n 0, 1) := by decide +kernel
theorem dX5_setNearness_43 : decode cX5_setNearness 43 = .ok (.getfield 62, 3) := by decide +kernel
theorem dX5_setNearness_46 : decode cX5_setNearness 46 = .ok (.ifCond .ne 7, 3) := by decide +kernel
theorem dX5_setNearness_49 : decode cX5_setNearness 49 = .ok (.iload_n 2, 1) := by decide +kernel
theorem dX5_setNearness_50 : decode cX5_setNearness 50 = .ok (.goto 4, 3) := by decide +kernel
theorem dX5_setNearness_53 : decode cX5_setNearness 53 = .ok (.iconst (-1), 1) := by decide +kernel
theorem dX5_setNearness_54 : decode cX5_setNearness 54 = .ok (.ireturn, 1) := by decide +kernel
theorem dX5_isPlace_0 : decode cX5_isPlace 0 = .ok (.iload_n 0, 1) := by decide +kernel
theorem dX5_isPlace_1 : decode cX5_isPlace 1 = .ok (.i2l, 1) := by decide +kernel
theorem dX5_isPlace_2 : decode cX5_isPlace 2 = .ok (.ldc2_w 103, 3) := by decide +kernel
theorem dX5_isPlace_5 : decode cX5_isPlace 5 = .ok (.ldc2_w 105, 3) := by decide +kernel
theorem dX5_isPlace_8 : decode cX5_isPlace 8 = .ok (.invokestatic 67, 3) := by decide +kernel
theorem dX5_isPlace_11 : decode cX5_isPlace 11 = .ok (.ifCond .eq 21, 3) := by decide +kernel
theorem dX5_isPlace_14 : decode cX5_isPlace 14 = .ok (.iload_n 1, 1) := by decide +kernel
theorem dX5_isPlace_15 : decode cX5_isPlace 15 = .ok (.i2l, 1) := by decide +kernel
theorem dX5_isPlace_16 : decode cX5_isPlace 16 = .ok (.ldc2_w 103, 3) := by decide +kernel
theorem dX5_isPlace_19 : decode cX5_isPlace 19 = .ok (.ldc2_w 105, 3) := by decide +kernel
theorem dX5_isPlace_22 : decode cX5_isPlace 22 = .ok (.invokestatic 67, 3) := by decide +kernel
theorem dX5_isPlace_25 : decode cX5_isPlace 25 = .ok (.ifCond .eq 7, 3) := by decide +kernel
theorem dX5_isPlace_28 : decode cX5_isPlace 28 = .ok (.iconst 1, 1) := by decide +kernel
theorem dX5_isPlace_29 : decode cX5_isPlace 29 = .ok (.goto 4, 3) := by decide +kernel
theorem dX5_isPlace_32 : decode cX5_isPlace 32 = .ok (.iconst 0, 1) := by decide +kernel
theorem dX5_isPlace_33 : decode cX5_isPlace 33 = .ok (.ireturn, 1) := by decide +kernel
theorem dX5_report_0 : decode cX5_report 0 = .ok (.aload_n 0, 1) := by decide +kernel
theorem dX5_report_1 : decode cX5_report 1 = .ok (.iload_n 1, 1) := by decide +kernel
theorem dX5_report_2 : decode cX5_report 2 = .ok (.invokestatic 84, 3) := by decide +kernel
theorem dX5_report_5 : decode cX5_report 5 = .ok (.ifCond .ne 7, 3) := by decide +kernel
theorem dX5_report_8 : decode cX5_report 8 = .ok (.iconst 1, 1) := by decide +kernel
theorem dX5_report_9 : decode cX5_report 9 = .ok (.goto 36, 3) := by decide +kernel
theorem dX5_report_12 : decode cX5_report 12 = .ok (.iload_n 2, 1) := by decide +kernel
theorem dX5_report_13 : decode cX5_report 13 = .ok (.invokestatic 80, 3) := by decide +kernel
theorem dX5_report_16 : decode cX5_report 16 = .ok (.ifCond .eq 12, 3) := by decide +kernel
theorem dX5_report_19 : decode cX5_report 19 = .ok (.iload_n 3, 1) := by decide +kernel
theorem dX5_report_20 : decode cX5_report 20 = .ok (.iload 4, 2) := by decide +kernel
theorem dX5_report_22 : decode cX5_report 22 = .ok (.invokestatic 107, 3) := by decide +kernel
theorem dX5_report_25 : decode cX5_report 25 = .ok (.ifCond .ne 7, 3) := by decide +kernel
theorem dX5_report_28 : decode cX5_report 28 = .ok (.iconst 2, 1) := by decide +kernel
theorem dX5_report_29 : decode cX5_report 29 = .ok (.goto 16, 3) := by decide +kernel
theorem dX5_report_32 : decode cX5_report 32 = .ok (.aload_n 0, 1) := by decide +kernel
theorem dX5_report_33 : decode cX5_report 33 = .ok (.getfield 111, 3) := by decide +kernel
theorem dX5_report_36 : decode cX5_report 36 = .ok (.iconst 4, 1) := by decide +kernel
theorem dX5_report_37 : decode cX5_report 37 = .ok (.if_icmp .ne 7, 3) := by decide +kernel
theorem dX5_report_40 : decode cX5_report 40 = .ok (.iconst 3, 1) := by decide +kernel
theorem dX5_report_41 : decode cX5_report 41 = .ok (.goto 4, 3) := by decide +kernel
theorem dX5_report_44 : decode cX5_report 44 = .ok (.iconst 0, 1) := by decide +kernel
theorem dX5_report_45 : decode cX5_report 45 = .ok (.putfield 62, 3) := by decide +kernel
theorem dX5_report_48 : decode cX5_report 48 = .ok (.aload_n 0, 1) := by decide +kernel
theorem dX5_report_49 : decode cX5_report 49 = .ok (.getfield 62, 3) := by decide +kernel
theorem dX5_report_52 : decode cX5_report 52 = .ok (.ifCond .le 5, 3) := by decide +kernel
theorem dX5_report_55 : decode cX5_report 55 = .ok (.iconst (-1), 1) := by decide +kernel
theorem dX5_report_56 : decode cX5_report 56 = .ok (.ireturn, 1) := by decide +kernel
theorem dX5_report_57 : decode cX5_report 57 = .ok (.aload_n 0, 1) := by decide +kernel
theorem dX5_report_58 : decode cX5_report 58 = .ok (.getfield 28, 3) := by decide +kernel
theorem dX5_report_61 : decode cX5_report 61 = .ok (.aload_n 0, 1) := by decide +kernel
theorem dX5_report_62 : decode cX5_report 62 = .ok (.getfield 111, 3) := by decide +kernel
theorem dX5_report_65 : decode cX5_report 65 = .ok (.aload_n 0, 1) := by decide +kernel
theorem dX5_report_66 : decode cX5_report 66 = .ok (.iload_n 1, 1) := by decide +kernel
theorem dX5_report_67 : decode cX5_report 67 = .ok (.iload_n 2, 1) := by decide +kernel
theorem dX5_report_68 : decode cX5_report 68 = .ok (.invokevirtual 92, 3) := by decide +kernel
theorem dX5_report_71 : decode cX5_report 71 = .ok (.iastore, 1) := by decide +kernel
theorem dX5_report_72 : decode cX5_report 72 = .ok (.aload_n 0, 1) := by decide +kernel
theorem dX5_report_73 : decode cX5_report 73 = .ok (.getfield 31, 3) := by decide +kernel
theorem dX5_report_76 : decode cX5_report 76 = .ok (.aload_n 0, 1) := by decide +kernel
theorem dX5_report_77 : decode cX5_report 77 = .ok (.getfield 111, 3) := by decide +kernel
theorem dX5_report_80 : decode cX5_report 80 = .ok (.iload_n 3, 1) := by decide +kernel
theorem dX5_report_81 : decode cX5_report 81 = .ok (.iastore, 1) := by decide +kernel
theorem dX5_report_82 : decode cX5_report 82 = .ok (.aload_n 0, 1) := by decide +kernel
theorem dX5_report_83 : decode cX5_report 83 = .ok (.getfield 34, 3) := by decide +kernel
theorem dX5_report_86 : decode cX5_report 86 = .ok (.aload_n 0, 1) := by decide +kernel
theorem dX5_report_87 : decode cX5_report 87 = .ok (.getfield 111, 3) := by decide +kernel
theorem dX5_report_90 : decode cX5_report 90 = .ok (.iload 4, 2) := by decide +kernel
theorem dX5_report_92 : decode cX5_report 92 = .ok (.iastore, 1) := by decide +kernel
theorem dX5_report_93 : decode cX5_report 93 = .ok (.aload_n 0, 1) := by decide +kernel
theorem dX5_report_94 : decode cX5_report 94 = .ok (.dup, 1) := by decide +kernel
theorem dX5_report_95 : decode cX5_report 95 = .ok (.getfield 111, 3) := by decide +kernel
theorem dX5_report_98 : decode cX5_report 98 = .ok (.iconst 1, 1) := by decide +kernel
theorem dX5_report_99 : decode cX5_report 99 = .ok (.iadd, 1) := by decide +kernel
theorem dX5_report_100 : decode cX5_report 100 = .ok (.putfield 111, 3) := by decide +kernel
theorem dX5_report_103 : decode cX5_report 103 = .ok (.aload_n 0, 1) := by decide +kernel
theorem dX5_report_104 : decode cX5_report 104 = .ok (.getfield 111, 3) := by decide +kernel
theorem dX5_report_107 : decode cX5_report 107 = .ok (.iconst 1, 1) := by decide +kernel
theorem dX5_report_108 : decode cX5_report 108 = .ok (.isub, 1) := by decide +kernel
theorem dX5_report_109 : decode cX5_report 109 = .ok (.ireturn, 1) := by decide +kernel
theorem dX5_clearBatch_0 : decode cX5_clearBatch 0 = .ok (.aload_n 0, 1) := by decide +kernel
theorem dX5_clearBatch_1 : decode cX5_clearBatch 1 = .ok (.iconst 0, 1) := by decide +kernel
theorem dX5_clearBatch_2 : decode cX5_clearBatch 2 = .ok (.putfield 62, 3) := by decide +kernel
theorem dX5_clearBatch_5 : decode cX5_clearBatch 5 = .ok (.aload_n 0, 1) := by decide +kernel
theorem dX5_clearBatch_6 : decode cX5_clearBatch 6 = .ok (.getfield 111, 3) := by decide +kernel
theorem dX5_clearBatch_9 : decode cX5_clearBatch 9 = .ok (.istore_n 1, 1) := by decide +kernel
theorem dX5_clearBatch_10 : decode cX5_clearBatch 10 = .ok (.aload_n 0, 1) := by decide +kernel
theorem dX5_clearBatch_11 : decode cX5_clearBatch 11 = .ok (.iconst 0, 1) := by decide +kernel
theorem dX5_clearBatch_12 : decode cX5_clearBatch 12 = .ok (.putfield 111, 3) := by decide +kernel
theorem dX5_clearBatch_15 : decode cX5_clearBatch 15 = .ok (.iload_n 1, 1) := by decide +kernel
theorem dX5_clearBatch_16 : decode cX5_clearBatch 16 = .ok (.ireturn, 1) := by decide +kernel
theorem dX5_ahead_0 : decode cX5_ahead 0 = .ok (.aload_n 0, 1) := by decide +kernel
theorem dX5_ahead_1 : decode cX5_ahead 1 = .ok (.iload_n 1, 1) := by decide +kernel
theorem dX5_ahead_2 : decode cX5_ahead 2 = .ok (.iconst 1, 1) := by decide +kernel
theorem dX5_ahead_3 : decode cX5_ahead 3 = .ok (.iload_n 3, 1) := by decide +kernel
theorem dX5_ahead_4 : decode cX5_ahead 4 = .ok (.iadd, 1) := by decide +kernel
theorem dX5_ahead_5 : decode cX5_ahead 5 = .ok (.invokevirtual 74, 3) := by decide +kernel
theorem dX5_ahead_8 : decode cX5_ahead 8 = .ok (.i2l, 1) := by decide +kernel
theorem dX5_ahead_9 : decode cX5_ahead 9 = .ok (.aload_n 0, 1) := by decide +kernel
theorem dX5_ahead_10 : decode cX5_ahead 10 = .ok (.iload_n 1, 1) := by decide +kernel
theorem dX5_ahead_11 : decode cX5_ahead 11 = .ok (.iconst 3, 1) := by decide +kernel
theorem dX5_ahead_12 : decode cX5_ahead 12 = .ok (.iload_n 3, 1) := by decide +kernel
theorem dX5_ahead_13 : decode cX5_ahead 13 = .ok (.iadd, 1) := by decide +kernel
theorem dX5_ahead_14 : decode cX5_ahead 14 = .ok (.invokevirtual 74, 3) := by decide +kernel
theorem dX5_ahead_17 : decode cX5_ahead 17 = .ok (.i2l, 1) := by decide +kernel
theorem dX5_ahead_18 : decode cX5_ahead 18 = .ok (.iload_n 2, 1) := by decide +kernel
theorem dX5_ahead_19 : decode cX5_ahead 19 = .ok (.aload_n 0, 1) := by decide +kernel
theorem dX5_ahead_20 : decode cX5_ahead 20 = .ok (.iload_n 1, 1) := by decide +kernel
theorem dX5_ahead_21 : decode cX5_ahead 21 = .ok (.iconst 0, 1) := by decide +kernel
theorem dX5_ahead_22 : decode cX5_ahead 22 = .ok (.invokevirtual 74, 3) := by decide +kernel
theorem dX5_ahead_25 : decode cX5_ahead 25 = .ok (.isub, 1) := by decide +kernel
theorem dX5_ahead_26 : decode cX5_ahead 26 = .ok (.i2l, 1) := by decide +kernel
theorem dX5_ahead_27 : decode cX5_ahead 27 = .ok (.lmul, 1) := by decide +kernel
theorem dX5_ahead_28 : decode cX5_ahead 28 = .ok (.ladd, 1) := by decide +kernel
theorem dX5_ahead_29 : decode cX5_ahead 29 = .ok (.lreturn, 1) := by decide +kernel
theorem dX5_residual_0 : decode cX5_residual 0 = .ok (.ldc2_w 97, 3) := by decide +kernel
theorem dX5_residual_3 : decode cX5_residual 3 = .ok (.iload_n 3, 1) := by decide +kernel
theorem dX5_residual_4 : decode cX5_residual 4 = .ok (.ifCond .ne 12, 3) := by decide +kernel
theorem dX5_residual_7 : decode cX5_residual 7 = .ok (.aload_n 0, 1) := by decide +kernel
theorem dX5_residual_8 : decode cX5_residual 8 = .ok (.getfield 31, 3) := by decide +kernel
theorem dX5_residual_11 : decode cX5_residual 11 = .ok (.iload_n 1, 1) := by decide +kernel
theorem dX5_residual_12 : decode cX5_residual 12 = .ok (.iaload, 1) := by decide +kernel
theorem dX5_residual_13 : decode cX5_residual 13 = .ok (.goto 9, 3) := by decide +kernel
theorem dX5_residual_16 : decode cX5_residual 16 = .ok (.aload_n 0, 1) := by decide +kernel
theorem dX5_residual_17 : decode cX5_residual 17 = .ok (.getfield 34, 3) := by decide +kernel
theorem dX5_residual_20 : decode cX5_residual 20 = .ok (.iload_n 1, 1) := by decide +kernel
theorem dX5_residual_21 : decode cX5_residual 21 = .ok (.iaload, 1) := by decide +kernel
theorem dX5_residual_22 : decode cX5_residual 22 = .ok (.i2l, 1) := by decide +kernel
theorem dX5_residual_23 : decode cX5_residual 23 = .ok (.lmul, 1) := by decide +kernel
theorem dX5_residual_24 : decode cX5_residual 24 = .ok (.aload_n 0, 1) := by decide +kernel
theorem dX5_residual_25 : decode cX5_residual 25 = .ok (.iload_n 2, 1) := by decide +kernel
theorem dX5_residual_26 : decode cX5_residual 26 = .ok (.aload_n 0, 1) := by decide +kernel
theorem dX5_residual_27 : decode cX5_residual 27 = .ok (.getfield 28, 3) := by decide +kernel
theorem dX5_residual_30 : decode cX5_residual 30 = .ok (.iload_n 1, 1) := by decide +kernel
theorem dX5_residual_31 : decode cX5_residual 31 = .ok (.iaload, 1) := by decide +kernel
theorem dX5_residual_32 : decode cX5_residual 32 = .ok (.iload_n 3, 1) := by decide +kernel
theorem dX5_residual_33 : decode cX5_residual 33 = .ok (.invokevirtual 114, 3) := by decide +kernel
theorem dX5_residual_36 : decode cX5_residual 36 = .ok (.lsub, 1) := by decide +kernel
theorem dX5_residual_37 : decode cX5_residual 37 = .ok (.lreturn, 1) := by decide +kernel
theorem dX5_distanceOf_0 : decode cX5_distanceOf 0 = .ok (.aload_n 0, 1) := by decide +kernel
theorem dX5_distanceOf_1 : decode cX5_distanceOf 1 = .ok (.iload_n 1, 1) := by decide +kernel
theorem dX5_distanceOf_2 : decode cX5_distanceOf 2 = .ok (.iload_n 2, 1) := by decide +kernel
theorem dX5_distanceOf_3 : decode cX5_distanceOf 3 = .ok (.iconst 0, 1) := by decide +kernel
theorem dX5_distanceOf_4 : decode cX5_distanceOf 4 = .ok (.invokevirtual 118, 3) := by decide +kernel
theorem dX5_distanceOf_7 : decode cX5_distanceOf 7 = .ok (.aload_n 0, 1) := by decide +kernel
theorem dX5_distanceOf_8 : decode cX5_distanceOf 8 = .ok (.iload_n 1, 1) := by decide +kernel
theorem dX5_distanceOf_9 : decode cX5_distanceOf 9 = .ok (.iload_n 2, 1) := by decide +kernel
theorem dX5_distanceOf_10 : decode cX5_distanceOf 10 = .ok (.iconst 0, 1) := by decide +kernel
theorem dX5_distanceOf_11 : decode cX5_distanceOf 11 = .ok (.invokevirtual 118, 3) := by decide +kernel
theorem dX5_distanceOf_14 : decode cX5_distanceOf 14 = .ok (.lmul, 1) := by decide +kernel
theorem dX5_distanceOf_15 : decode cX5_distanceOf 15 = .ok (.aload_n 0, 1) := by decide +kernel
theorem dX5_distanceOf_16 : decode cX5_distanceOf 16 = .ok (.iload_n 1, 1) := by decide +kernel
theorem dX5_distanceOf_17 : decode cX5_distanceOf 17 = .ok (.iload_n 2, 1) := by decide +kernel
theorem dX5_distanceOf_18 : decode cX5_distanceOf 18 = .ok (.iconst 1, 1) := by decide +kernel
theorem dX5_distanceOf_19 : decode cX5_distanceOf 19 = .ok (.invokevirtual 118, 3) := by decide +kernel
theorem dX5_distanceOf_22 : decode cX5_distanceOf 22 = .ok (.aload_n 0, 1) := by decide +kernel
theorem dX5_distanceOf_23 : decode cX5_distanceOf 23 = .ok (.iload_n 1, 1) := by decide +kernel
theorem dX5_distanceOf_24 : decode cX5_distanceOf 24 = .ok (.iload_n 2, 1) := by decide +kernel
theorem dX5_distanceOf_25 : decode cX5_distanceOf 25 = .ok (.iconst 1, 1) := by decide +kernel
theorem dX5_distanceOf_26 : decode cX5_distanceOf 26 = .ok (.invokevirtual 118, 3) := by decide +kernel
theorem dX5_distanceOf_29 : decode cX5_distanceOf 29 = .ok (.lmul, 1) := by decide +kernel
theorem dX5_distanceOf_30 : decode cX5_distanceOf 30 = .ok (.ladd, 1) := by decide +kernel
theorem dX5_distanceOf_31 : decode cX5_distanceOf 31 = .ok (.lreturn, 1) := by decide +kernel
theorem dX5_gateSquare_0 : decode cX5_gateSquare 0 = .ok (.ldc2_w 121, 3) := by decide +kernel
theorem dX5_gateSquare_3 : decode cX5_gateSquare 3 = .ok (.aload_n 0, 1) := by decide +kernel
theorem dX5_gateSquare_4 : decode cX5_gateSquare 4 = .ok (.getfield 37, 3) := by decide +kernel
theorem dX5_gateSquare_7 : decode cX5_gateSquare 7 = .ok (.i2l, 1) := by decide +kernel
theorem dX5_gateSquare_8 : decode cX5_gateSquare 8 = .ok (.lmul, 1) := by decide +kernel
theorem dX5_gateSquare_9 : decode cX5_gateSquare 9 = .ok (.aload_n 0, 1) := by decide +kernel
theorem dX5_gateSquare_10 : decode cX5_gateSquare 10 = .ok (.getfield 37, 3) := by decide +kernel
theorem dX5_gateSquare_13 : decode cX5_gateSquare 13 = .ok (.i2l, 1) := by decide +kernel
theorem dX5_gateSquare_14 : decode cX5_gateSquare 14 = .ok (.lmul, 1) := by decide +kernel
theorem dX5_gateSquare_15 : decode cX5_gateSquare 15 = .ok (.lreturn, 1) := by decide +kernel
theorem dX5_takes_0 : decode cX5_takes 0 = .ok (.aload_n 0, 1) := by decide +kernel
theorem dX5_takes_1 : decode cX5_takes 1 = .ok (.iload_n 2, 1) := by decide +kernel
theorem dX5_takes_2 : decode cX5_takes 2 = .ok (.invokevirtual 123, 3) := by decide +kernel
theorem dX5_takes_5 : decode cX5_takes 5 = .ok (.ifCond .eq 36, 3) := by decide +kernel
theorem dX5_takes_8 : decode cX5_takes 8 = .ok (.aload_n 0, 1) := by decide +kernel
theorem dX5_takes_9 : decode cX5_takes 9 = .ok (.getfield 28, 3) := by decide +kernel
theorem dX5_takes_12 : decode cX5_takes 12 = .ok (.iload_n 1, 1) := by decide +kernel
theorem dX5_takes_13 : decode cX5_takes 13 = .ok (.iaload, 1) := by decide +kernel
theorem dX5_takes_14 : decode cX5_takes 14 = .ok (.aload_n 0, 1) := by decide +kernel
theorem dX5_takes_15 : decode cX5_takes 15 = .ok (.iload_n 2, 1) := by decide +kernel
theorem dX5_takes_16 : decode cX5_takes 16 = .ok (.iconst 0, 1) := by decide +kernel
theorem dX5_takes_17 : decode cX5_takes 17 = .ok (.invokevirtual 74, 3) := by decide +kernel
theorem dX5_takes_20 : decode cX5_takes 20 = .ok (.if_icmp .lt 21, 3) := by decide +kernel
theorem dX5_takes_23 : decode cX5_takes 23 = .ok (.aload_n 0, 1) := by decide +kernel
theorem dX5_takes_24 : decode cX5_takes 24 = .ok (.iload_n 1, 1) := by decide +kernel
theorem dX5_takes_25 : decode cX5_takes 25 = .ok (.iload_n 2, 1) := by decide +kernel
theorem dX5_takes_26 : decode cX5_takes 26 = .ok (.invokevirtual 126, 3) := by decide +kernel
theorem dX5_takes_29 : decode cX5_takes 29 = .ok (.aload_n 0, 1) := by decide +kernel
theorem dX5_takes_30 : decode cX5_takes 30 = .ok (.invokevirtual 130, 3) := by decide +kernel
theorem dX5_takes_33 : decode cX5_takes 33 = .ok (.lcmp, 1) := by decide +kernel
theorem dX5_takes_34 : decode cX5_takes 34 = .ok (.ifCond .gt 7, 3) := by decide +kernel
theorem dX5_takes_37 : decode cX5_takes 37 = .ok (.iconst 1, 1) := by decide +kernel
theorem dX5_takes_38 : decode cX5_takes 38 = .ok (.goto 4, 3) := by decide +kernel
theorem dX5_takes_41 : decode cX5_takes 41 = .ok (.iconst 0, 1) := by decide +kernel
theorem dX5_takes_42 : decode cX5_takes 42 = .ok (.ireturn, 1) := by decide +kernel
theorem dX5_tries_0 : decode cX5_tries 0 = .ok (.iload_n 1, 1) := by decide +kernel
theorem dX5_tries_1 : decode cX5_tries 1 = .ok (.aload_n 0, 1) := by decide +kernel
theorem dX5_tries_2 : decode cX5_tries 2 = .ok (.getfield 111, 3) := by decide +kernel
theorem dX5_tries_5 : decode cX5_tries 5 = .ok (.if_icmp .ne 61, 3) := by decide +kernel
theorem dX5_tries_8 : decode cX5_tries 8 = .ok (.aload_n 0, 1) := by decide +kernel
theorem dX5_tries_9 : decode cX5_tries 9 = .ok (.getfield 134, 3) := by decide +kernel
theorem dX5_tries_12 : decode cX5_tries 12 = .ok (.ldc2_w 138, 3) := by decide +kernel
theorem dX5_tries_15 : decode cX5_tries 15 = .ok (.lcmp, 1) := by decide +kernel
theorem dX5_tries_16 : decode cX5_tries 16 = .ok (.ifCond .eq 12, 3) := by decide +kernel
theorem dX5_tries_19 : decode cX5_tries 19 = .ok (.lload_n 2, 1) := by decide +kernel
theorem dX5_tries_20 : decode cX5_tries 20 = .ok (.aload_n 0, 1) := by decide +kernel
theorem dX5_tries_21 : decode cX5_tries 21 = .ok (.getfield 134, 3) := by decide +kernel
theorem dX5_tries_24 : decode cX5_tries 24 = .ok (.lcmp, 1) := by decide +kernel
theorem dX5_tries_25 : decode cX5_tries 25 = .ok (.ifCond .ge 40, 3) := by decide +kernel
theorem dX5_tries_28 : decode cX5_tries 28 = .ok (.aload_n 0, 1) := by decide +kernel
theorem dX5_tries_29 : decode cX5_tries 29 = .ok (.lload_n 2, 1) := by decide +kernel
theorem dX5_tries_30 : decode cX5_tries 30 = .ok (.putfield 134, 3) := by decide +kernel
theorem dX5_tries_33 : decode cX5_tries 33 = .ok (.iconst 0, 1) := by decide +kernel
theorem dX5_tries_34 : decode cX5_tries 34 = .ok (.istore 4, 2) := by decide +kernel
theorem dX5_tries_36 : decode cX5_tries 36 = .ok (.iload 4, 2) := by decide +kernel
theorem dX5_tries_38 : decode cX5_tries 38 = .ok (.aload_n 0, 1) := by decide +kernel
theorem dX5_tries_39 : decode cX5_tries 39 = .ok (.getfield 111, 3) := by decide +kernel
theorem dX5_tries_42 : decode cX5_tries 42 = .ok (.if_icmp .ge 23, 3) := by decide +kernel
theorem dX5_tries_45 : decode cX5_tries 45 = .ok (.aload_n 0, 1) := by decide +kernel
theorem dX5_tries_46 : decode cX5_tries 46 = .ok (.getfield 56, 3) := by decide +kernel
theorem dX5_tries_49 : decode cX5_tries 49 = .ok (.iload 4, 2) := by decide +kernel
theorem dX5_tries_51 : decode cX5_tries 51 = .ok (.aload_n 0, 1) := by decide +kernel
theorem dX5_tries_52 : decode cX5_tries 52 = .ok (.getfield 53, 3) := by decide +kernel
theorem dX5_tries_55 : decode cX5_tries 55 = .ok (.iload 4, 2) := by decide +kernel
theorem dX5_tries_57 : decode cX5_tries 57 = .ok (.iaload, 1) := by decide +kernel
theorem dX5_tries_58 : decode cX5_tries 58 = .ok (.iastore, 1) := by decide +kernel
theorem dX5_tries_59 : decode cX5_tries 59 = .ok (.iinc 4 1, 3) := by decide +kernel
theorem dX5_tries_62 : decode cX5_tries 62 = .ok (.goto (-26), 3) := by decide +kernel
theorem dX5_tries_65 : decode cX5_tries 65 = .ok (.return_, 1) := by decide +kernel
theorem dX5_tries_66 : decode cX5_tries 66 = .ok (.iconst 0, 1) := by decide +kernel
theorem dX5_tries_67 : decode cX5_tries 67 = .ok (.istore 4, 2) := by decide +kernel
theorem dX5_tries_69 : decode cX5_tries 69 = .ok (.iload 4, 2) := by decide +kernel
theorem dX5_tries_71 : decode cX5_tries 71 = .ok (.aload_n 0, 1) := by decide +kernel
theorem dX5_tries_72 : decode cX5_tries 72 = .ok (.getfield 71, 3) := by decide +kernel
theorem dX5_tries_75 : decode cX5_tries 75 = .ok (.if_icmp .ge 86, 3) := by decide +kernel
theorem dX5_tries_78 : decode cX5_tries 78 = .ok (.aload_n 0, 1) := by decide +kernel
theorem dX5_tries_79 : decode cX5_tries 79 = .ok (.iload_n 1, 1) := by decide +kernel
theorem dX5_tries_80 : decode cX5_tries 80 = .ok (.iload 4, 2) := by decide +kernel
theorem dX5_tries_82 : decode cX5_tries 82 = .ok (.invokevirtual 140, 3) := by decide +kernel
theorem dX5_tries_85 : decode cX5_tries 85 = .ok (.istore 5, 2) := by decide +kernel
theorem dX5_tries_87 : decode cX5_tries 87 = .ok (.iconst 0, 1) := by decide +kernel
theorem dX5_tries_88 : decode cX5_tries 88 = .ok (.istore 6, 2) := by decide +kernel
theorem dX5_tries_90 : decode cX5_tries 90 = .ok (.iload 6, 2) := by decide +kernel
theorem dX5_tries_92 : decode cX5_tries 92 = .ok (.iload_n 1, 1) := by decide +kernel
theorem dX5_tries_93 : decode cX5_tries 93 = .ok (.if_icmp .ge 33, 3) := by decide +kernel
theorem dX5_tries_96 : decode cX5_tries 96 = .ok (.iload 5, 2) := by decide +kernel
theorem dX5_tries_98 : decode cX5_tries 98 = .ok (.ifCond .eq 28, 3) := by decide +kernel
theorem dX5_tries_101 : decode cX5_tries 101 = .ok (.aload_n 0, 1) := by decide +kernel
theorem dX5_tries_102 : decode cX5_tries 102 = .ok (.getfield 53, 3) := by decide +kernel
theorem dX5_tries_105 : decode cX5_tries 105 = .ok (.iload 6, 2) := by decide +kernel
theorem dX5_tries_107 : decode cX5_tries 107 = .ok (.iaload, 1) := by decide +kernel
theorem dX5_tries_108 : decode cX5_tries 108 = .ok (.iload 4, 2) := by decide +kernel
theorem dX5_tries_110 : decode cX5_tries 110 = .ok (.if_icmp .eq 7, 3) := by decide +kernel
theorem dX5_tries_113 : decode cX5_tries 113 = .ok (.iconst 1, 1) := by decide +kernel
theorem dX5_tries_114 : decode cX5_tries 114 = .ok (.goto 4, 3) := by decide +kernel
theorem dX5_tries_117 : decode cX5_tries 117 = .ok (.iconst 0, 1) := by decide +kernel
theorem dX5_tries_118 : decode cX5_tries 118 = .ok (.istore 5, 2) := by decide +kernel
theorem dX5_tries_120 : decode cX5_tries 120 = .ok (.iinc 6 1, 3) := by decide +kernel
theorem dX5_tries_123 : decode cX5_tries 123 = .ok (.goto (-33), 3) := by decide +kernel
theorem dX5_tries_126 : decode cX5_tries 126 = .ok (.iload 5, 2) := by decide +kernel
theorem dX5_tries_128 : decode cX5_tries 128 = .ok (.ifCond .eq 27, 3) := by decide +kernel
theorem dX5_tries_131 : decode cX5_tries 131 = .ok (.aload_n 0, 1) := by decide +kernel
theorem dX5_tries_132 : decode cX5_tries 132 = .ok (.getfield 53, 3) := by decide +kernel
theorem dX5_tries_135 : decode cX5_tries 135 = .ok (.iload_n 1, 1) := by decide +kernel
theorem dX5_tries_136 : decode cX5_tries 136 = .ok (.iload 4, 2) := by decide +kernel
theorem dX5_tries_138 : decode cX5_tries 138 = .ok (.iastore, 1) := by decide +kernel
theorem dX5_tries_139 : decode cX5_tries 139 = .ok (.aload_n 0, 1) := by decide +kernel
theorem dX5_tries_140 : decode cX5_tries 140 = .ok (.iload_n 1, 1) := by decide +kernel
theorem dX5_tries_141 : decode cX5_tries 141 = .ok (.iconst 1, 1) := by decide +kernel
theorem dX5_tries_142 : decode cX5_tries 142 = .ok (.iadd, 1) := by decide +kernel
theorem dX5_tries_143 : decode cX5_tries 143 = .ok (.lload_n 2, 1) := by decide +kernel
theorem dX5_tries_144 : decode cX5_tries 144 = .ok (.aload_n 0, 1) := by decide +kernel
theorem dX5_tries_145 : decode cX5_tries 145 = .ok (.iload_n 1, 1) := by decide +kernel
theorem dX5_tries_146 : decode cX5_tries 146 = .ok (.iload 4, 2) := by decide +kernel
theorem dX5_tries_148 : decode cX5_tries 148 = .ok (.invokevirtual 126, 3) := by decide +kernel
theorem dX5_tries_151 : decode cX5_tries 151 = .ok (.ladd, 1) := by decide +kernel
theorem dX5_tries_152 : decode cX5_tries 152 = .ok (.invokevirtual 143, 3) := by decide +kernel
theorem dX5_tries_155 : decode cX5_tries 155 = .ok (.iinc 4 1, 3) := by decide +kernel
theorem dX5_tries_158 : decode cX5_tries 158 = .ok (.goto (-89), 3) := by decide +kernel
theorem dX5_tries_161 : decode cX5_tries 161 = .ok (.aload_n 0, 1) := by decide +kernel
theorem dX5_tries_162 : decode cX5_tries 162 = .ok (.getfield 53, 3) := by decide +kernel
theorem dX5_tries_165 : decode cX5_tries 165 = .ok (.iload_n 1, 1) := by decide +kernel
theorem dX5_tries_166 : decode cX5_tries 166 = .ok (.iconst (-1), 1) := by decide +kernel
theorem dX5_tries_167 : decode cX5_tries 167 = .ok (.iastore, 1) := by decide +kernel
theorem dX5_tries_168 : decode cX5_tries 168 = .ok (.aload_n 0, 1) := by decide +kernel
theorem dX5_tries_169 : decode cX5_tries 169 = .ok (.iload_n 1, 1) := by decide +kernel
theorem dX5_tries_170 : decode cX5_tries 170 = .ok (.iconst 1, 1) := by decide +kernel
theorem dX5_tries_171 : decode cX5_tries 171 = .ok (.iadd, 1) := by decide +kernel
theorem dX5_tries_172 : decode cX5_tries 172 = .ok (.lload_n 2, 1) := by decide +kernel
theorem dX5_tries_173 : decode cX5_tries 173 = .ok (.aload_n 0, 1) := by decide +kernel
theorem dX5_tries_174 : decode cX5_tries 174 = .ok (.invokevirtual 130, 3) := by decide +kernel
theorem dX5_tries_177 : decode cX5_tries 177 = .ok (.ladd, 1) := by decide +kernel
theorem dX5_tries_178 : decode cX5_tries 178 = .ok (.invokevirtual 143, 3) := by decide +kernel
theorem dX5_tries_181 : decode cX5_tries 181 = .ok (.return_, 1) := by decide +kernel
theorem dX5_looks_0 : decode cX5_looks 0 = .ok (.aload_n 0, 1) := by decide +kernel
theorem dX5_looks_1 : decode cX5_looks 1 = .ok (.ldc2_w 138, 3) := by decide +kernel
theorem dX5_looks_4 : decode cX5_looks 4 = .ok (.putfield 134, 3) := by decide +kernel
theorem dX5_looks_7 : decode cX5_looks 7 = .ok (.aload_n 0, 1) := by decide +kernel
theorem dX5_looks_8 : decode cX5_looks 8 = .ok (.iconst 0, 1) := by decide +kernel
theorem dX5_looks_9 : decode cX5_looks 9 = .ok (.lconst 0, 1) := by decide +kernel
theorem dX5_looks_10 : decode cX5_looks 10 = .ok (.invokevirtual 143, 3) := by decide +kernel
theorem dX5_looks_13 : decode cX5_looks 13 = .ok (.return_, 1) := by decide +kernel
theorem dX5_notes_0 : decode cX5_notes 0 = .ok (.aload_n 0, 1) := by decide +kernel
theorem dX5_notes_1 : decode cX5_notes 1 = .ok (.getfield 25, 3) := by decide +kernel
theorem dX5_notes_4 : decode cX5_notes 4 = .ok (.iload_n 1, 1) := by decide +kernel
theorem dX5_notes_5 : decode cX5_notes 5 = .ok (.iaload, 1) := by decide +kernel
theorem dX5_notes_6 : decode cX5_notes 6 = .ok (.aload_n 0, 1) := by decide +kernel
theorem dX5_notes_7 : decode cX5_notes 7 = .ok (.getfield 21, 3) := by decide +kernel
theorem dX5_notes_10 : decode cX5_notes 10 = .ok (.iload_n 1, 1) := by decide +kernel
theorem dX5_notes_11 : decode cX5_notes 11 = .ok (.aaload, 1) := by decide +kernel
theorem dX5_notes_12 : decode cX5_notes 12 = .ok (.arraylength, 1) := by decide +kernel
theorem dX5_notes_13 : decode cX5_notes 13 = .ok (.if_icmp .ne 54, 3) := by decide +kernel
theorem dX5_notes_16 : decode cX5_notes 16 = .ok (.iconst 2, 1) := by decide +kernel
theorem dX5_notes_17 : decode cX5_notes 17 = .ok (.aload_n 0, 1) := by decide +kernel
theorem dX5_notes_18 : decode cX5_notes 18 = .ok (.getfield 25, 3) := by decide +kernel
theorem dX5_notes_21 : decode cX5_notes 21 = .ok (.iload_n 1, 1) := by decide +kernel
theorem dX5_notes_22 : decode cX5_notes 22 = .ok (.iaload, 1) := by decide +kernel
theorem dX5_notes_23 : decode cX5_notes 23 = .ok (.imul, 1) := by decide +kernel
theorem dX5_notes_24 : decode cX5_notes 24 = .ok (.newarray .char, 2) := by decide +kernel
theorem dX5_notes_26 : decode cX5_notes 26 = .ok (.astore_n 3, 1) := by decide +kernel
theorem dX5_notes_27 : decode cX5_notes 27 = .ok (.iconst 0, 1) := by decide +kernel
theorem dX5_notes_28 : decode cX5_notes 28 = .ok (.istore 4, 2) := by decide +kernel
theorem dX5_notes_30 : decode cX5_notes 30 = .ok (.iload 4, 2) := by decide +kernel
theorem dX5_notes_32 : decode cX5_notes 32 = .ok (.aload_n 0, 1) := by decide +kernel
theorem dX5_notes_33 : decode cX5_notes 33 = .ok (.getfield 25, 3) := by decide +kernel
theorem dX5_notes_36 : decode cX5_notes 36 = .ok (.iload_n 1, 1) := by decide +kernel
theorem dX5_notes_37 : decode cX5_notes 37 = .ok (.iaload, 1) := by decide +kernel
theorem dX5_notes_38 : decode cX5_notes 38 = .ok (.if_icmp .ge 22, 3) := by decide +kernel
theorem dX5_notes_41 : decode cX5_notes 41 = .ok (.aload_n 3, 1) := by decide +kernel
theorem dX5_notes_42 : decode cX5_notes 42 = .ok (.iload 4, 2) := by decide +kernel
theorem dX5_notes_44 : decode cX5_notes 44 = .ok (.aload_n 0, 1) := by decide +kernel
theorem dX5_notes_45 : decode cX5_notes 45 = .ok (.getfield 21, 3) := by decide +kernel
theorem dX5_notes_48 : decode cX5_notes 48 = .ok (.iload_n 1, 1) := by decide +kernel
theorem dX5_notes_49 : decode cX5_notes 49 = .ok (.aaload, 1) := by decide +kernel
theorem dX5_notes_50 : decode cX5_notes 50 = .ok (.iload 4, 2) := by decide +kernel
theorem dX5_notes_52 : decode cX5_notes 52 = .ok (.caload, 1) := by decide +kernel
theorem dX5_notes_53 : decode cX5_notes 53 = .ok (.castore, 1) := by decide +kernel
theorem dX5_notes_54 : decode cX5_notes 54 = .ok (.iinc 4 1, 3) := by decide +kernel
theorem dX5_notes_57 : decode cX5_notes 57 = .ok (.goto (-27), 3) := by decide +kernel
theorem dX5_notes_60 : decode cX5_notes 60 = .ok (.aload_n 0, 1) := by decide +kernel
theorem dX5_notes_61 : decode cX5_notes 61 = .ok (.getfield 21, 3) := by decide +kernel
theorem dX5_notes_64 : decode cX5_notes 64 = .ok (.iload_n 1, 1) := by decide +kernel
theorem dX5_notes_65 : decode cX5_notes 65 = .ok (.aload_n 3, 1) := by decide +kernel
theorem dX5_notes_66 : decode cX5_notes 66 = .ok (.aastore, 1) := by decide +kernel
theorem dX5_notes_67 : decode cX5_notes 67 = .ok (.aload_n 0, 1) := by decide +kernel
theorem dX5_notes_68 : decode cX5_notes 68 = .ok (.getfield 21, 3) := by decide +kernel
theorem dX5_notes_71 : decode cX5_notes 71 = .ok (.iload_n 1, 1) := by decide +kernel
theorem dX5_notes_72 : decode cX5_notes 72 = .ok (.aaload, 1) := by decide +kernel
theorem dX5_notes_73 : decode cX5_notes 73 = .ok (.aload_n 0, 1) := by decide +kernel
theorem dX5_notes_74 : decode cX5_notes 74 = .ok (.getfield 25, 3) := by decide +kernel
theorem dX5_notes_77 : decode cX5_notes 77 = .ok (.iload_n 1, 1) := by decide +kernel
theorem dX5_notes_78 : decode cX5_notes 78 = .ok (.iaload, 1) := by decide +kernel
theorem dX5_notes_79 : decode cX5_notes 79 = .ok (.iload_n 2, 1) := by decide +kernel
theorem dX5_notes_80 : decode cX5_notes 80 = .ok (.castore, 1) := by decide +kernel
theorem dX5_notes_81 : decode cX5_notes 81 = .ok (.aload_n 0, 1) := by decide +kernel
theorem dX5_notes_82 : decode cX5_notes 82 = .ok (.getfield 25, 3) := by decide +kernel
theorem dX5_notes_85 : decode cX5_notes 85 = .ok (.iload_n 1, 1) := by decide +kernel
theorem dX5_notes_86 : decode cX5_notes 86 = .ok (.dup2, 1) := by decide +kernel
theorem dX5_notes_87 : decode cX5_notes 87 = .ok (.iaload, 1) := by decide +kernel
theorem dX5_notes_88 : decode cX5_notes 88 = .ok (.iconst 1, 1) := by decide +kernel
theorem dX5_notes_89 : decode cX5_notes 89 = .ok (.iadd, 1) := by decide +kernel
theorem dX5_notes_90 : decode cX5_notes 90 = .ok (.iastore, 1) := by decide +kernel
theorem dX5_notes_91 : decode cX5_notes 91 = .ok (.return_, 1) := by decide +kernel
theorem dX5_changes_0 : decode cX5_changes 0 = .ok (.aload_n 0, 1) := by decide +kernel
theorem dX5_changes_1 : decode cX5_changes 1 = .ok (.getfield 28, 3) := by decide +kernel
theorem dX5_changes_4 : decode cX5_changes 4 = .ok (.iload_n 2, 1) := by decide +kernel
theorem dX5_changes_5 : decode cX5_changes 5 = .ok (.iaload, 1) := by decide +kernel
theorem dX5_changes_6 : decode cX5_changes 6 = .ok (.aload_n 0, 1) := by decide +kernel
theorem dX5_changes_7 : decode cX5_changes 7 = .ok (.iload_n 1, 1) := by decide +kernel
theorem dX5_changes_8 : decode cX5_changes 8 = .ok (.iconst 0, 1) := by decide +kernel
theorem dX5_changes_9 : decode cX5_changes 9 = .ok (.invokevirtual 74, 3) := by decide +kernel
theorem dX5_changes_12 : decode cX5_changes 12 = .ok (.isub, 1) := by decide +kernel
theorem dX5_changes_13 : decode cX5_changes 13 = .ok (.istore_n 3, 1) := by decide +kernel
theorem dX5_changes_14 : decode cX5_changes 14 = .ok (.iconst 0, 1) := by decide +kernel
theorem dX5_changes_15 : decode cX5_changes 15 = .ok (.istore 4, 2) := by decide +kernel
theorem dX5_changes_17 : decode cX5_changes 17 = .ok (.iload 4, 2) := by decide +kernel
theorem dX5_changes_19 : decode cX5_changes 19 = .ok (.iconst 2, 1) := by decide +kernel
theorem dX5_changes_20 : decode cX5_changes 20 = .ok (.if_icmp .ge 121, 3) := by decide +kernel
theorem dX5_changes_23 : decode cX5_changes 23 = .ok (.aload_n 0, 1) := by decide +kernel
theorem dX5_changes_24 : decode cX5_changes 24 = .ok (.iload_n 2, 1) := by decide +kernel
theorem dX5_changes_25 : decode cX5_changes 25 = .ok (.iload_n 1, 1) := by decide +kernel
theorem dX5_changes_26 : decode cX5_changes 26 = .ok (.iload 4, 2) := by decide +kernel
theorem dX5_changes_28 : decode cX5_changes 28 = .ok (.invokevirtual 118, 3) := by decide +kernel
theorem dX5_changes_31 : decode cX5_changes 31 = .ok (.lstore 5, 2) := by decide +kernel
theorem dX5_changes_33 : decode cX5_changes 33 = .ok (.aload_n 0, 1) := by decide +kernel
theorem dX5_changes_34 : decode cX5_changes 34 = .ok (.iload_n 1, 1) := by decide +kernel
theorem dX5_changes_35 : decode cX5_changes 35 = .ok (.aload_n 0, 1) := by decide +kernel
theorem dX5_changes_36 : decode cX5_changes 36 = .ok (.getfield 28, 3) := by decide +kernel
theorem dX5_changes_39 : decode cX5_changes 39 = .ok (.iload_n 2, 1) := by decide +kernel
theorem dX5_changes_40 : decode cX5_changes 40 = .ok (.iaload, 1) := by decide +kernel
theorem dX5_changes_41 : decode cX5_changes 41 = .ok (.iload 4, 2) := by decide +kernel
theorem dX5_changes_43 : decode cX5_changes 43 = .ok (.invokevirtual 114, 3) := by decide +kernel
theorem dX5_changes_46 : decode cX5_changes 46 = .ok (.lload 5, 2) := by decide +kernel
theorem dX5_changes_48 : decode cX5_changes 48 = .ok (.aload_n 0, 1) := by decide +kernel
theorem dX5_changes_49 : decode cX5_changes 49 = .ok (.getfield 41, 3) := by decide +kernel
theorem dX5_changes_52 : decode cX5_changes 52 = .ok (.i2l, 1) := by decide +kernel
theorem dX5_changes_53 : decode cX5_changes 53 = .ok (.lmul, 1) := by decide +kernel
theorem dX5_changes_54 : decode cX5_changes 54 = .ok (.ldc2_w 97, 3) := by decide +kernel
theorem dX5_changes_57 : decode cX5_changes 57 = .ok (.ldiv, 1) := by decide +kernel
theorem dX5_changes_58 : decode cX5_changes 58 = .ok (.ladd, 1) := by decide +kernel
theorem dX5_changes_59 : decode cX5_changes 59 = .ok (.lstore 7, 2) := by decide +kernel
theorem dX5_changes_61 : decode cX5_changes 61 = .ok (.aload_n 0, 1) := by decide +kernel
theorem dX5_changes_62 : decode cX5_changes 62 = .ok (.iload_n 1, 1) := by decide +kernel
theorem dX5_changes_63 : decode cX5_changes 63 = .ok (.iconst 3, 1) := by decide +kernel
theorem dX5_changes_64 : decode cX5_changes 64 = .ok (.iload 4, 2) := by decide +kernel
theorem dX5_changes_66 : decode cX5_changes 66 = .ok (.iadd, 1) := by decide +kernel
theorem dX5_changes_67 : decode cX5_changes 67 = .ok (.invokevirtual 74, 3) := by decide +kernel
theorem dX5_changes_70 : decode cX5_changes 70 = .ok (.i2l, 1) := by decide +kernel
theorem dX5_changes_71 : decode cX5_changes 71 = .ok (.lstore 9, 2) := by decide +kernel
theorem dX5_changes_73 : decode cX5_changes 73 = .ok (.iload_n 3, 1) := by decide +kernel
theorem dX5_changes_74 : decode cX5_changes 74 = .ok (.ifCond .le 39, 3) := by decide +kernel
theorem dX5_changes_77 : decode cX5_changes 77 = .ok (.lload 9, 2) := by decide +kernel
theorem dX5_changes_79 : decode cX5_changes 79 = .ok (.lload 5, 2) := by decide +kernel
theorem dX5_changes_81 : decode cX5_changes 81 = .ok (.aload_n 0, 1) := by decide +kernel
theorem dX5_changes_82 : decode cX5_changes 82 = .ok (.getfield 44, 3) := by decide +kernel
theorem dX5_changes_85 : decode cX5_changes 85 = .ok (.i2l, 1) := by decide +kernel
theorem dX5_changes_86 : decode cX5_changes 86 = .ok (.lmul, 1) := by decide +kernel
theorem dX5_changes_87 : decode cX5_changes 87 = .ok (.ldc2_w 97, 3) := by decide +kernel
theorem dX5_changes_90 : decode cX5_changes 90 = .ok (.iload_n 3, 1) := by decide +kernel
theorem dX5_changes_91 : decode cX5_changes 91 = .ok (.i2l, 1) := by decide +kernel
theorem dX5_changes_92 : decode cX5_changes 92 = .ok (.lmul, 1) := by decide +kernel
theorem dX5_changes_93 : decode cX5_changes 93 = .ok (.ldiv, 1) := by decide +kernel
theorem dX5_changes_94 : decode cX5_changes 94 = .ok (.ladd, 1) := by decide +kernel
theorem dX5_changes_95 : decode cX5_changes 95 = .ok (.lstore 9, 2) := by decide +kernel
theorem dX5_changes_97 : decode cX5_changes 97 = .ok (.ldc2_w 147, 3) := by decide +kernel
theorem dX5_changes_100 : decode cX5_changes 100 = .ok (.ldc2_w 149, 3) := by decide +kernel
theorem dX5_changes_103 : decode cX5_changes 103 = .ok (.lload 9, 2) := by decide +kernel
theorem dX5_changes_105 : decode cX5_changes 105 = .ok (.invokestatic 151, 3) := by decide +kernel
theorem dX5_changes_108 : decode cX5_changes 108 = .ok (.invokestatic 155, 3) := by decide +kernel
theorem dX5_changes_111 : decode cX5_changes 111 = .ok (.lstore 9, 2) := by decide +kernel
theorem dX5_changes_113 : decode cX5_changes 113 = .ok (.aload_n 0, 1) := by decide +kernel
theorem dX5_changes_114 : decode cX5_changes 114 = .ok (.iload_n 1, 1) := by decide +kernel
theorem dX5_changes_115 : decode cX5_changes 115 = .ok (.iconst 1, 1) := by decide +kernel
theorem dX5_changes_116 : decode cX5_changes 116 = .ok (.iload 4, 2) := by decide +kernel
theorem dX5_changes_118 : decode cX5_changes 118 = .ok (.iadd, 1) := by decide +kernel
theorem dX5_changes_119 : decode cX5_changes 119 = .ok (.lload 7, 2) := by decide +kernel
theorem dX5_changes_121 : decode cX5_changes 121 = .ok (.l2i, 1) := by decide +kernel
theorem dX5_changes_122 : decode cX5_changes 122 = .ok (.invokevirtual 158, 3) := by decide +kernel
theorem dX5_changes_125 : decode cX5_changes 125 = .ok (.aload_n 0, 1) := by decide +kernel
theorem dX5_changes_126 : decode cX5_changes 126 = .ok (.getfield 59, 3) := by decide +kernel
theorem dX5_changes_129 : decode cX5_changes 129 = .ok (.iload 4, 2) := by decide +kernel
theorem dX5_changes_131 : decode cX5_changes 131 = .ok (.lload 9, 2) := by decide +kernel
theorem dX5_changes_133 : decode cX5_changes 133 = .ok (.l2i, 1) := by decide +kernel
theorem dX5_changes_134 : decode cX5_changes 134 = .ok (.iastore, 1) := by decide +kernel
theorem dX5_changes_135 : decode cX5_changes 135 = .ok (.iinc 4 1, 3) := by decide +kernel
theorem dX5_changes_138 : decode cX5_changes 138 = .ok (.goto (-121), 3) := by decide +kernel
theorem dX5_changes_141 : decode cX5_changes 141 = .ok (.aload_n 0, 1) := by decide +kernel
theorem dX5_changes_142 : decode cX5_changes 142 = .ok (.iload_n 1, 1) := by decide +kernel
theorem dX5_changes_143 : decode cX5_changes 143 = .ok (.iconst 3, 1) := by decide +kernel
theorem dX5_changes_144 : decode cX5_changes 144 = .ok (.aload_n 0, 1) := by decide +kernel
theorem dX5_changes_145 : decode cX5_changes 145 = .ok (.getfield 59, 3) := by decide +kernel
theorem dX5_changes_148 : decode cX5_changes 148 = .ok (.iconst 0, 1) := by decide +kernel
theorem dX5_changes_149 : decode cX5_changes 149 = .ok (.iaload, 1) := by decide +kernel
theorem dX5_changes_150 : decode cX5_changes 150 = .ok (.invokevirtual 158, 3) := by decide +kernel
theorem dX5_changes_153 : decode cX5_changes 153 = .ok (.aload_n 0, 1) := by decide +kernel
theorem dX5_changes_154 : decode cX5_changes 154 = .ok (.iload_n 1, 1) := by decide +kernel
theorem dX5_changes_155 : decode cX5_changes 155 = .ok (.iconst 4, 1) := by decide +kernel
theorem dX5_changes_156 : decode cX5_changes 156 = .ok (.aload_n 0, 1) := by decide +kernel
theorem dX5_changes_157 : decode cX5_changes 157 = .ok (.getfield 59, 3) := by decide +kernel
theorem dX5_changes_160 : decode cX5_changes 160 = .ok (.iconst 1, 1) := by decide +kernel
theorem dX5_changes_161 : decode cX5_changes 161 = .ok (.iaload, 1) := by decide +kernel
theorem dX5_changes_162 : decode cX5_changes 162 = .ok (.invokevirtual 158, 3) := by decide +kernel
theorem dX5_changes_165 : decode cX5_changes 165 = .ok (.aload_n 0, 1) := by decide +kernel
theorem dX5_changes_166 : decode cX5_changes 166 = .ok (.iload_n 1, 1) := by decide +kernel
theorem dX5_changes_167 : decode cX5_changes 167 = .ok (.iconst 0, 1) := by decide +kernel
theorem dX5_changes_168 : decode cX5_changes 168 = .ok (.aload_n 0, 1) := by decide +kernel
theorem dX5_changes_169 : decode cX5_changes 169 = .ok (.getfield 28, 3) := by decide +kernel
theorem dX5_changes_172 : decode cX5_changes 172 = .ok (.iload_n 2, 1) := by decide +kernel
theorem dX5_changes_173 : decode cX5_changes 173 = .ok (.iaload, 1) := by decide +kernel
theorem dX5_changes_174 : decode cX5_changes 174 = .ok (.invokevirtual 158, 3) := by decide +kernel
theorem dX5_changes_177 : decode cX5_changes 177 = .ok (.aload_n 0, 1) := by decide +kernel
theorem dX5_changes_178 : decode cX5_changes 178 = .ok (.iload_n 1, 1) := by decide +kernel
theorem dX5_changes_179 : decode cX5_changes 179 = .ok (.iconst 5, 1) := by decide +kernel
theorem dX5_changes_180 : decode cX5_changes 180 = .ok (.aload_n 0, 1) := by decide +kernel
theorem dX5_changes_181 : decode cX5_changes 181 = .ok (.iload_n 1, 1) := by decide +kernel
theorem dX5_changes_182 : decode cX5_changes 182 = .ok (.iconst 5, 1) := by decide +kernel
theorem dX5_changes_183 : decode cX5_changes 183 = .ok (.invokevirtual 74, 3) := by decide +kernel
theorem dX5_changes_186 : decode cX5_changes 186 = .ok (.iconst 1, 1) := by decide +kernel
theorem dX5_changes_187 : decode cX5_changes 187 = .ok (.iadd, 1) := by decide +kernel
theorem dX5_changes_188 : decode cX5_changes 188 = .ok (.invokevirtual 158, 3) := by decide +kernel
theorem dX5_changes_191 : decode cX5_changes 191 = .ok (.aload_n 0, 1) := by decide +kernel
theorem dX5_changes_192 : decode cX5_changes 192 = .ok (.iload_n 1, 1) := by decide +kernel
theorem dX5_changes_193 : decode cX5_changes 193 = .ok (.bipush 6, 2) := by decide +kernel
theorem dX5_changes_195 : decode cX5_changes 195 = .ok (.iconst 0, 1) := by decide +kernel
theorem dX5_changes_196 : decode cX5_changes 196 = .ok (.invokevirtual 158, 3) := by decide +kernel
theorem dX5_changes_199 : decode cX5_changes 199 = .ok (.aload_n 0, 1) := by decide +kernel
theorem dX5_changes_200 : decode cX5_changes 200 = .ok (.iload_n 1, 1) := by decide +kernel
theorem dX5_changes_201 : decode cX5_changes 201 = .ok (.bipush 104, 2) := by decide +kernel
theorem dX5_changes_203 : decode cX5_changes 203 = .ok (.invokevirtual 162, 3) := by decide +kernel
theorem dX5_changes_206 : decode cX5_changes 206 = .ok (.return_, 1) := by decide +kernel
theorem dX5_live_0 : decode cX5_live 0 = .ok (.iconst 0, 1) := by decide +kernel
theorem dX5_live_1 : decode cX5_live 1 = .ok (.istore_n 1, 1) := by decide +kernel
theorem dX5_live_2 : decode cX5_live 2 = .ok (.iconst 0, 1) := by decide +kernel
theorem dX5_live_3 : decode cX5_live 3 = .ok (.istore_n 2, 1) := by decide +kernel
theorem dX5_live_4 : decode cX5_live 4 = .ok (.iload_n 2, 1) := by decide +kernel
theorem dX5_live_5 : decode cX5_live 5 = .ok (.aload_n 0, 1) := by decide +kernel
theorem dX5_live_6 : decode cX5_live 6 = .ok (.getfield 71, 3) := by decide +kernel
theorem dX5_live_9 : decode cX5_live 9 = .ok (.if_icmp .ge 25, 3) := by decide +kernel
theorem dX5_live_12 : decode cX5_live 12 = .ok (.iload_n 1, 1) := by decide +kernel
theorem dX5_live_13 : decode cX5_live 13 = .ok (.aload_n 0, 1) := by decide +kernel
theorem dX5_live_14 : decode cX5_live 14 = .ok (.iload_n 2, 1) := by decide +kernel
theorem dX5_live_15 : decode cX5_live 15 = .ok (.invokevirtual 123, 3) := by decide +kernel
theorem dX5_live_18 : decode cX5_live 18 = .ok (.ifCond .eq 7, 3) := by decide +kernel
theorem dX5_live_21 : decode cX5_live 21 = .ok (.iconst 1, 1) := by decide +kernel
theorem dX5_live_22 : decode cX5_live 22 = .ok (.goto 4, 3) := by decide +kernel
theorem dX5_live_25 : decode cX5_live 25 = .ok (.iconst 0, 1) := by decide +kernel
theorem dX5_live_26 : decode cX5_live 26 = .ok (.iadd, 1) := by decide +kernel
theorem dX5_live_27 : decode cX5_live 27 = .ok (.istore_n 1, 1) := by decide +kernel
theorem dX5_live_28 : decode cX5_live 28 = .ok (.iinc 2 1, 3) := by decide +kernel
theorem dX5_live_31 : decode cX5_live 31 = .ok (.goto (-27), 3) := by decide +kernel
theorem dX5_live_34 : decode cX5_live 34 = .ok (.iload_n 1, 1) := by decide +kernel
theorem dX5_live_35 : decode cX5_live 35 = .ok (.ireturn, 1) := by decide +kernel
theorem dX5_begins_0 : decode cX5_begins 0 = .ok (.aload_n 0, 1) := by decide +kernel
theorem dX5_begins_1 : decode cX5_begins 1 = .ok (.invokevirtual 166, 3) := by decide +kernel
theorem dX5_begins_4 : decode cX5_begins 4 = .ok (.bipush 6, 2) := by decide +kernel
theorem dX5_begins_6 : decode cX5_begins 6 = .ok (.if_icmp .eq 12, 3) := by decide +kernel
theorem dX5_begins_9 : decode cX5_begins 9 = .ok (.aload_n 0, 1) := by decide +kernel
theorem dX5_begins_10 : decode cX5_begins 10 = .ok (.getfield 71, 3) := by decide +kernel
theorem dX5_begins_13 : decode cX5_begins 13 = .ok (.bipush 60, 2) := by decide +kernel
theorem dX5_begins_15 : decode cX5_begins 15 = .ok (.if_icmp .ne 14, 3) := by decide +kernel
theorem dX5_begins_18 : decode cX5_begins 18 = .ok (.aload_n 0, 1) := by decide +kernel
theorem dX5_begins_19 : decode cX5_begins 19 = .ok (.dup, 1) := by decide +kernel
theorem dX5_begins_20 : decode cX5_begins 20 = .ok (.getfield 170, 3) := by decide +kernel
theorem dX5_begins_23 : decode cX5_begins 23 = .ok (.iconst 1, 1) := by decide +kernel
theorem dX5_begins_24 : decode cX5_begins 24 = .ok (.iadd, 1) := by decide +kernel
theorem dX5_begins_25 : decode cX5_begins 25 = .ok (.putfield 170, 3) := by decide +kernel
theorem dX5_begins_28 : decode cX5_begins 28 = .ok (.return_, 1) := by decide +kernel
theorem dX5_begins_29 : decode cX5_begins 29 = .ok (.iconst 0, 1) := by decide +kernel
theorem dX5_begins_30 : decode cX5_begins 30 = .ok (.istore_n 2, 1) := by decide +kernel
theorem dX5_begins_31 : decode cX5_begins 31 = .ok (.iload_n 2, 1) := by decide +kernel
theorem dX5_begins_32 : decode cX5_begins 32 = .ok (.bipush 9, 2) := by decide +kernel
theorem dX5_begins_34 : decode cX5_begins 34 = .ok (.if_icmp .ge 19, 3) := by decide +kernel
theorem dX5_begins_37 : decode cX5_begins 37 = .ok (.aload_n 0, 1) := by decide +kernel
theorem dX5_begins_38 : decode cX5_begins 38 = .ok (.aload_n 0, 1) := by decide +kernel
theorem dX5_begins_39 : decode cX5_begins 39 = .ok (.getfield 71, 3) := by decide +kernel
theorem dX5_begins_42 : decode cX5_begins 42 = .ok (.iload_n 2, 1) := by decide +kernel
theorem dX5_begins_43 : decode cX5_begins 43 = .ok (.iconst 0, 1) := by decide +kernel
theorem dX5_begins_44 : decode cX5_begins 44 = .ok (.invokevirtual 158, 3) := by decide +kernel
theorem dX5_begins_47 : decode cX5_begins 47 = .ok (.iinc 2 1, 3) := by decide +kernel
theorem dX5_begins_50 : decode cX5_begins 50 = .ok (.goto (-19), 3) := by decide +kernel
theorem dX5_begins_53 : decode cX5_begins 53 = .ok (.aload_n 0, 1) := by decide +kernel
theorem dX5_begins_54 : decode cX5_begins 54 = .ok (.aload_n 0, 1) := by decide +kernel
theorem dX5_begins_55 : decode cX5_begins 55 = .ok (.getfield 71, 3) := by decide +kernel
theorem dX5_begins_58 : decode cX5_begins 58 = .ok (.iconst 0, 1) := by decide +kernel
theorem dX5_begins_59 : decode cX5_begins 59 = .ok (.aload_n 0, 1) := by decide +kernel
theorem dX5_begins_60 : decode cX5_begins 60 = .ok (.getfield 28, 3) := by decide +kernel
theorem dX5_begins_63 : decode cX5_begins 63 = .ok (.iload_n 1, 1) := by decide +kernel
theorem dX5_begins_64 : decode cX5_begins 64 = .ok (.iaload, 1) := by decide +kernel
theorem dX5_begins_65 : decode cX5_begins 65 = .ok (.invokevirtual 158, 3) := by decide +kernel
theorem dX5_begins_68 : decode cX5_begins 68 = .ok (.aload_n 0, 1) := by decide +kernel
theorem dX5_begins_69 : decode cX5_begins 69 = .ok (.aload_n 0, 1) := by decide +kernel
theorem dX5_begins_70 : decode cX5_begins 70 = .ok (.getfield 71, 3) := by decide +kernel
theorem dX5_begins_73 : decode cX5_begins 73 = .ok (.iconst 1, 1) := by decide +kernel
theorem dX5_begins_74 : decode cX5_begins 74 = .ok (.bipush 16, 2) := by decide +kernel
theorem dX5_begins_76 : decode cX5_begins 76 = .ok (.aload_n 0, 1) := by decide +kernel
theorem dX5_begins_77 : decode cX5_begins 77 = .ok (.getfield 31, 3) := by decide +kernel
theorem dX5_begins_80 : decode cX5_begins 80 = .ok (.iload_n 1, 1) := by decide +kernel
theorem dX5_begins_81 : decode cX5_begins 81 = .ok (.iaload, 1) := by decide +kernel
theorem dX5_begins_82 : decode cX5_begins 82 = .ok (.imul, 1) := by decide +kernel
theorem dX5_begins_83 : decode cX5_begins 83 = .ok (.invokevirtual 158, 3) := by decide +kernel
theorem dX5_begins_86 : decode cX5_begins 86 = .ok (.aload_n 0, 1) := by decide +kernel
theorem dX5_begins_87 : decode cX5_begins 87 = .ok (.aload_n 0, 1) := by decide +kernel
theorem dX5_begins_88 : decode cX5_begins 88 = .ok (.getfield 71, 3) := by decide +kernel
theorem dX5_begins_91 : decode cX5_begins 91 = .ok (.iconst 2, 1) := by decide +kernel
theorem dX5_begins_92 : decode cX5_begins 92 = .ok (.bipush 16, 2) := by decide +kernel
theorem dX5_begins_94 : decode cX5_begins 94 = .ok (.aload_n 0, 1) := by decide +kernel
theorem dX5_begins_95 : decode cX5_begins 95 = .ok (.getfield 34, 3) := by decide +kernel
theorem dX5_begins_98 : decode cX5_begins 98 = .ok (.iload_n 1, 1) := by decide +kernel
theorem dX5_begins_99 : decode cX5_begins 99 = .ok (.iaload, 1) := by decide +kernel
theorem dX5_begins_100 : decode cX5_begins 100 = .ok (.imul, 1) := by decide +kernel
theorem dX5_begins_101 : decode cX5_begins 101 = .ok (.invokevirtual 158, 3) := by decide +kernel
theorem dX5_begins_104 : decode cX5_begins 104 = .ok (.aload_n 0, 1) := by decide +kernel
theorem dX5_begins_105 : decode cX5_begins 105 = .ok (.aload_n 0, 1) := by decide +kernel
theorem dX5_begins_106 : decode cX5_begins 106 = .ok (.getfield 71, 3) := by decide +kernel
theorem dX5_begins_109 : decode cX5_begins 109 = .ok (.iconst 5, 1) := by decide +kernel
theorem dX5_begins_110 : decode cX5_begins 110 = .ok (.iconst 1, 1) := by decide +kernel
theorem dX5_begins_111 : decode cX5_begins 111 = .ok (.invokevirtual 158, 3) := by decide +kernel
theorem dX5_begins_114 : decode cX5_begins 114 = .ok (.aload_n 0, 1) := by decide +kernel
theorem dX5_begins_115 : decode cX5_begins 115 = .ok (.getfield 21, 3) := by decide +kernel
theorem dX5_begins_118 : decode cX5_begins 118 = .ok (.aload_n 0, 1) := by decide +kernel
theorem dX5_begins_119 : decode cX5_begins 119 = .ok (.getfield 71, 3) := by decide +kernel
theorem dX5_begins_122 : decode cX5_begins 122 = .ok (.bipush 8, 2) := by decide +kernel
theorem dX5_begins_124 : decode cX5_begins 124 = .ok (.newarray .char, 2) := by decide +kernel
theorem dX5_begins_126 : decode cX5_begins 126 = .ok (.aastore, 1) := by decide +kernel
theorem dX5_begins_127 : decode cX5_begins 127 = .ok (.aload_n 0, 1) := by decide +kernel
theorem dX5_begins_128 : decode cX5_begins 128 = .ok (.getfield 25, 3) := by decide +kernel
theorem dX5_begins_131 : decode cX5_begins 131 = .ok (.aload_n 0, 1) := by decide +kernel
theorem dX5_begins_132 : decode cX5_begins 132 = .ok (.getfield 71, 3) := by decide +kernel
theorem dX5_begins_135 : decode cX5_begins 135 = .ok (.iconst 0, 1) := by decide +kernel
theorem dX5_begins_136 : decode cX5_begins 136 = .ok (.iastore, 1) := by decide +kernel
theorem dX5_begins_137 : decode cX5_begins 137 = .ok (.aload_n 0, 1) := by decide +kernel
theorem dX5_begins_138 : decode cX5_begins 138 = .ok (.dup, 1) := by decide +kernel
theorem dX5_begins_139 : decode cX5_begins 139 = .ok (.getfield 71, 3) := by decide +kernel
theorem dX5_begins_142 : decode cX5_begins 142 = .ok (.iconst 1, 1) := by decide +kernel
theorem dX5_begins_143 : decode cX5_begins 143 = .ok (.iadd, 1) := by decide +kernel
theorem dX5_begins_144 : decode cX5_begins 144 = .ok (.putfield 71, 3) := by decide +kernel
theorem dX5_begins_147 : decode cX5_begins 147 = .ok (.aload_n 0, 1) := by decide +kernel
theorem dX5_begins_148 : decode cX5_begins 148 = .ok (.aload_n 0, 1) := by decide +kernel
theorem dX5_begins_149 : decode cX5_begins 149 = .ok (.getfield 71, 3) := by decide +kernel
theorem dX5_begins_152 : decode cX5_begins 152 = .ok (.iconst 1, 1) := by decide +kernel
theorem dX5_begins_153 : decode cX5_begins 153 = .ok (.isub, 1) := by decide +kernel
theorem dX5_begins_154 : decode cX5_begins 154 = .ok (.bipush 110, 2) := by decide +kernel
theorem dX5_begins_156 : decode cX5_begins 156 = .ok (.invokevirtual 162, 3) := by decide +kernel
theorem dX5_begins_159 : decode cX5_begins 159 = .ok (.return_, 1) := by decide +kernel
theorem dX5_areNear_0 : decode cX5_areNear 0 = .ok (.aload_n 0, 1) := by decide +kernel
theorem dX5_areNear_1 : decode cX5_areNear 1 = .ok (.iload_n 1, 1) := by decide +kernel
theorem dX5_areNear_2 : decode cX5_areNear 2 = .ok (.iconst 0, 1) := by decide +kernel
theorem dX5_areNear_3 : decode cX5_areNear 3 = .ok (.invokevirtual 74, 3) := by decide +kernel
theorem dX5_areNear_6 : decode cX5_areNear 6 = .ok (.aload_n 0, 1) := by decide +kernel
theorem dX5_areNear_7 : decode cX5_areNear 7 = .ok (.iload_n 2, 1) := by decide +kernel
theorem dX5_areNear_8 : decode cX5_areNear 8 = .ok (.iconst 0, 1) := by decide +kernel
theorem dX5_areNear_9 : decode cX5_areNear 9 = .ok (.invokevirtual 74, 3) := by decide +kernel
theorem dX5_areNear_12 : decode cX5_areNear 12 = .ok (.invokestatic 173, 3) := by decide +kernel
theorem dX5_areNear_15 : decode cX5_areNear 15 = .ok (.istore_n 3, 1) := by decide +kernel
theorem dX5_areNear_16 : decode cX5_areNear 16 = .ok (.aload_n 0, 1) := by decide +kernel
theorem dX5_areNear_17 : decode cX5_areNear 17 = .ok (.iload_n 1, 1) := by decide +kernel
theorem dX5_areNear_18 : decode cX5_areNear 18 = .ok (.iload_n 3, 1) := by decide +kernel
theorem dX5_areNear_19 : decode cX5_areNear 19 = .ok (.iconst 0, 1) := by decide +kernel
theorem dX5_areNear_20 : decode cX5_areNear 20 = .ok (.invokevirtual 114, 3) := by decide +kernel
theorem dX5_areNear_23 : decode cX5_areNear 23 = .ok (.aload_n 0, 1) := by decide +kernel
theorem dX5_areNear_24 : decode cX5_areNear 24 = .ok (.iload_n 2, 1) := by decide +kernel
theorem dX5_areNear_25 : decode cX5_areNear 25 = .ok (.iload_n 3, 1) := by decide +kernel
theorem dX5_areNear_26 : decode cX5_areNear 26 = .ok (.iconst 0, 1) := by decide +kernel
theorem dX5_areNear_27 : decode cX5_areNear 27 = .ok (.invokevirtual 114, 3) := by decide +kernel
theorem dX5_areNear_30 : decode cX5_areNear 30 = .ok (.lsub, 1) := by decide +kernel
theorem dX5_areNear_31 : decode cX5_areNear 31 = .ok (.lstore 4, 2) := by decide +kernel
theorem dX5_areNear_33 : decode cX5_areNear 33 = .ok (.aload_n 0, 1) := by decide +kernel
theorem dX5_areNear_34 : decode cX5_areNear 34 = .ok (.iload_n 1, 1) := by decide +kernel
theorem dX5_areNear_35 : decode cX5_areNear 35 = .ok (.iload_n 3, 1) := by decide +kernel
theorem dX5_areNear_36 : decode cX5_areNear 36 = .ok (.iconst 1, 1) := by decide +kernel
theorem dX5_areNear_37 : decode cX5_areNear 37 = .ok (.invokevirtual 114, 3) := by decide +kernel
theorem dX5_areNear_40 : decode cX5_areNear 40 = .ok (.aload_n 0, 1) := by decide +kernel
theorem dX5_areNear_41 : decode cX5_areNear 41 = .ok (.iload_n 2, 1) := by decide +kernel
theorem dX5_areNear_42 : decode cX5_areNear 42 = .ok (.iload_n 3, 1) := by decide +kernel
theorem dX5_areNear_43 : decode cX5_areNear 43 = .ok (.iconst 1, 1) := by decide +kernel
theorem dX5_areNear_44 : decode cX5_areNear 44 = .ok (.invokevirtual 114, 3) := by decide +kernel
theorem dX5_areNear_47 : decode cX5_areNear 47 = .ok (.lsub, 1) := by decide +kernel
theorem dX5_areNear_48 : decode cX5_areNear 48 = .ok (.lstore 6, 2) := by decide +kernel
theorem dX5_areNear_50 : decode cX5_areNear 50 = .ok (.aload_n 0, 1) := by decide +kernel
theorem dX5_areNear_51 : decode cX5_areNear 51 = .ok (.iload_n 1, 1) := by decide +kernel
theorem dX5_areNear_52 : decode cX5_areNear 52 = .ok (.iconst 3, 1) := by decide +kernel
theorem dX5_areNear_53 : decode cX5_areNear 53 = .ok (.invokevirtual 74, 3) := by decide +kernel
theorem dX5_areNear_56 : decode cX5_areNear 56 = .ok (.aload_n 0, 1) := by decide +kernel
theorem dX5_areNear_57 : decode cX5_areNear 57 = .ok (.iload_n 2, 1) := by decide +kernel
theorem dX5_areNear_58 : decode cX5_areNear 58 = .ok (.iconst 3, 1) := by decide +kernel
theorem dX5_areNear_59 : decode cX5_areNear 59 = .ok (.invokevirtual 74, 3) := by decide +kernel
theorem dX5_areNear_62 : decode cX5_areNear 62 = .ok (.isub, 1) := by decide +kernel
theorem dX5_areNear_63 : decode cX5_areNear 63 = .ok (.invokestatic 175, 3) := by decide +kernel
theorem dX5_areNear_66 : decode cX5_areNear 66 = .ok (.aload_n 0, 1) := by decide +kernel
theorem dX5_areNear_67 : decode cX5_areNear 67 = .ok (.iload_n 1, 1) := by decide +kernel
theorem dX5_areNear_68 : decode cX5_areNear 68 = .ok (.iconst 4, 1) := by decide +kernel
theorem dX5_areNear_69 : decode cX5_areNear 69 = .ok (.invokevirtual 74, 3) := by decide +kernel
theorem dX5_areNear_72 : decode cX5_areNear 72 = .ok (.aload_n 0, 1) := by decide +kernel
theorem dX5_areNear_73 : decode cX5_areNear 73 = .ok (.iload_n 2, 1) := by decide +kernel
theorem dX5_areNear_74 : decode cX5_areNear 74 = .ok (.iconst 4, 1) := by decide +kernel
theorem dX5_areNear_75 : decode cX5_areNear 75 = .ok (.invokevirtual 74, 3) := by decide +kernel
theorem dX5_areNear_78 : decode cX5_areNear 78 = .ok (.isub, 1) := by decide +kernel
theorem dX5_areNear_79 : decode cX5_areNear 79 = .ok (.invokestatic 175, 3) := by decide +kernel
theorem dX5_areNear_82 : decode cX5_areNear 82 = .ok (.iadd, 1) := by decide +kernel
theorem dX5_areNear_83 : decode cX5_areNear 83 = .ok (.istore 8, 2) := by decide +kernel
theorem dX5_areNear_85 : decode cX5_areNear 85 = .ok (.lload 4, 2) := by decide +kernel
theorem dX5_areNear_87 : decode cX5_areNear 87 = .ok (.lload 4, 2) := by decide +kernel
theorem dX5_areNear_89 : decode cX5_areNear 89 = .ok (.lmul, 1) := by decide +kernel
theorem dX5_areNear_90 : decode cX5_areNear 90 = .ok (.lload 6, 2) := by decide +kernel
theorem dX5_areNear_92 : decode cX5_areNear 92 = .ok (.lload 6, 2) := by decide +kernel
theorem dX5_areNear_94 : decode cX5_areNear 94 = .ok (.lmul, 1) := by decide +kernel
theorem dX5_areNear_95 : decode cX5_areNear 95 = .ok (.ladd, 1) := by decide +kernel
theorem dX5_areNear_96 : decode cX5_areNear 96 = .ok (.ldc2_w 121, 3) := by decide +kernel
theorem dX5_areNear_99 : decode cX5_areNear 99 = .ok (.aload_n 0, 1) := by decide +kernel
theorem dX5_areNear_100 : decode cX5_areNear 100 = .ok (.getfield 50, 3) := by decide +kernel
theorem dX5_areNear_103 : decode cX5_areNear 103 = .ok (.i2l, 1) := by decide +kernel
theorem dX5_areNear_104 : decode cX5_areNear 104 = .ok (.lmul, 1) := by decide +kernel
theorem dX5_areNear_105 : decode cX5_areNear 105 = .ok (.aload_n 0, 1) := by decide +kernel
theorem dX5_areNear_106 : decode cX5_areNear 106 = .ok (.getfield 50, 3) := by decide +kernel
theorem dX5_areNear_109 : decode cX5_areNear 109 = .ok (.i2l, 1) := by decide +kernel
theorem dX5_areNear_110 : decode cX5_areNear 110 = .ok (.lmul, 1) := by decide +kernel
theorem dX5_areNear_111 : decode cX5_areNear 111 = .ok (.lcmp, 1) := by decide +kernel
theorem dX5_areNear_112 : decode cX5_areNear 112 = .ok (.ifCond .gt 14, 3) := by decide +kernel
theorem dX5_areNear_115 : decode cX5_areNear 115 = .ok (.iload 8, 2) := by decide +kernel
theorem dX5_areNear_117 : decode cX5_areNear 117 = .ok (.bipush 16, 2) := by decide +kernel
theorem dX5_areNear_119 : decode cX5_areNear 119 = .ok (.if_icmp .gt 7, 3) := by decide +kernel
theorem dX5_areNear_122 : decode cX5_areNear 122 = .ok (.iconst 1, 1) := by decide +kernel
theorem dX5_areNear_123 : decode cX5_areNear 123 = .ok (.goto 4, 3) := by decide +kernel
theorem dX5_areNear_126 : decode cX5_areNear 126 = .ok (.iconst 0, 1) := by decide +kernel
theorem dX5_areNear_127 : decode cX5_areNear 127 = .ok (.ireturn, 1) := by decide +kernel
theorem dX5_goesThere_0 : decode cX5_goesThere 0 = .ok (.iconst 0, 1) := by decide +kernel
theorem dX5_goesThere_1 : decode cX5_goesThere 1 = .ok (.istore_n 2, 1) := by decide +kernel
theorem dX5_goesThere_2 : decode cX5_goesThere 2 = .ok (.iconst 0, 1) := by decide +kernel
theorem dX5_goesThere_3 : decode cX5_goesThere 3 = .ok (.istore_n 3, 1) := by decide +kernel
theorem dX5_goesThere_4 : decode cX5_goesThere 4 = .ok (.iload_n 3, 1) := by decide +kernel
theorem dX5_goesThere_5 : decode cX5_goesThere 5 = .ok (.aload_n 0, 1) := by decide +kernel
theorem dX5_goesThere_6 : decode cX5_goesThere 6 = .ok (.getfield 111, 3) := by decide +kernel
theorem dX5_goesThere_9 : decode cX5_goesThere 9 = .ok (.if_icmp .ge 29, 3) := by decide +kernel
theorem dX5_goesThere_12 : decode cX5_goesThere 12 = .ok (.iload_n 2, 1) := by decide +kernel
theorem dX5_goesThere_13 : decode cX5_goesThere 13 = .ok (.ifCond .ne 13, 3) := by decide +kernel
theorem dX5_goesThere_16 : decode cX5_goesThere 16 = .ok (.aload_n 0, 1) := by decide +kernel
theorem dX5_goesThere_17 : decode cX5_goesThere 17 = .ok (.getfield 56, 3) := by decide +kernel
theorem dX5_goesThere_20 : decode cX5_goesThere 20 = .ok (.iload_n 3, 1) := by decide +kernel
theorem dX5_goesThere_21 : decode cX5_goesThere 21 = .ok (.iaload, 1) := by decide +kernel
theorem dX5_goesThere_22 : decode cX5_goesThere 22 = .ok (.iload_n 1, 1) := by decide +kernel
theorem dX5_goesThere_23 : decode cX5_goesThere 23 = .ok (.if_icmp .ne 7, 3) := by decide +kernel
theorem dX5_goesThere_26 : decode cX5_goesThere 26 = .ok (.iconst 1, 1) := by decide +kernel
theorem dX5_goesThere_27 : decode cX5_goesThere 27 = .ok (.goto 4, 3) := by decide +kernel
theorem dX5_goesThere_30 : decode cX5_goesThere 30 = .ok (.iconst 0, 1) := by decide +kernel
theorem dX5_goesThere_31 : decode cX5_goesThere 31 = .ok (.istore_n 2, 1) := by decide +kernel
theorem dX5_goesThere_32 : decode cX5_goesThere 32 = .ok (.iinc 3 1, 3) := by decide +kernel
theorem dX5_goesThere_35 : decode cX5_goesThere 35 = .ok (.goto (-31), 3) := by decide +kernel
theorem dX5_goesThere_38 : decode cX5_goesThere 38 = .ok (.iload_n 2, 1) := by decide +kernel
theorem dX5_goesThere_39 : decode cX5_goesThere 39 = .ok (.ireturn, 1) := by decide +kernel
theorem dX5_process_0 : decode cX5_process 0 = .ok (.aload_n 0, 1) := by decide +kernel
theorem dX5_process_1 : decode cX5_process 1 = .ok (.aload_n 0, 1) := by decide +kernel
theorem dX5_process_2 : decode cX5_process 2 = .ok (.getfield 111, 3) := by decide +kernel
theorem dX5_process_5 : decode cX5_process 5 = .ok (.ifCond .ne 7, 3) := by decide +kernel
theorem dX5_process_8 : decode cX5_process 8 = .ok (.iconst 1, 1) := by decide +kernel
theorem dX5_process_9 : decode cX5_process 9 = .ok (.goto 4, 3) := by decide +kernel
theorem dX5_process_12 : decode cX5_process 12 = .ok (.iconst 0, 1) := by decide +kernel
theorem dX5_process_13 : decode cX5_process 13 = .ok (.putfield 62, 3) := by decide +kernel
theorem dX5_process_16 : decode cX5_process 16 = .ok (.aload_n 0, 1) := by decide +kernel
theorem dX5_process_17 : decode cX5_process 17 = .ok (.getfield 62, 3) := by decide +kernel
theorem dX5_process_20 : decode cX5_process 20 = .ok (.ifCond .le 5, 3) := by decide +kernel
theorem dX5_process_23 : decode cX5_process 23 = .ok (.iconst (-1), 1) := by decide +kernel
theorem dX5_process_24 : decode cX5_process 24 = .ok (.ireturn, 1) := by decide +kernel
theorem dX5_process_25 : decode cX5_process 25 = .ok (.aload_n 0, 1) := by decide +kernel
theorem dX5_process_26 : decode cX5_process 26 = .ok (.invokevirtual 179, 3) := by decide +kernel
theorem dX5_process_29 : decode cX5_process 29 = .ok (.iconst 0, 1) := by decide +kernel
theorem dX5_process_30 : decode cX5_process 30 = .ok (.istore_n 1, 1) := by decide +kernel
theorem dX5_process_31 : decode cX5_process 31 = .ok (.aload_n 0, 1) := by decide +kernel
theorem dX5_process_32 : decode cX5_process 32 = .ok (.getfield 71, 3) := by decide +kernel
theorem dX5_process_35 : decode cX5_process 35 = .ok (.istore_n 2, 1) := by decide +kernel
theorem dX5_process_36 : decode cX5_process 36 = .ok (.iconst 0, 1) := by decide +kernel
theorem dX5_process_37 : decode cX5_process 37 = .ok (.istore_n 3, 1) := by decide +kernel
theorem dX5_process_38 : decode cX5_process 38 = .ok (.iload_n 3, 1) := by decide +kernel
theorem dX5_process_39 : decode cX5_process 39 = .ok (.aload_n 0, 1) := by decide +kernel
theorem dX5_process_40 : decode cX5_process 40 = .ok (.getfield 111, 3) := by decide +kernel
theorem dX5_process_43 : decode cX5_process 43 = .ok (.if_icmp .ge 33, 3) := by decide +kernel
theorem dX5_process_46 : decode cX5_process 46 = .ok (.aload_n 0, 1) := by decide +kernel
theorem dX5_process_47 : decode cX5_process 47 = .ok (.getfield 56, 3) := by decide +kernel
theorem dX5_process_50 : decode cX5_process 50 = .ok (.iload_n 3, 1) := by decide +kernel
theorem dX5_process_51 : decode cX5_process 51 = .ok (.iaload, 1) := by decide +kernel
theorem dX5_process_52 : decode cX5_process 52 = .ok (.iconst (-1), 1) := by decide +kernel
theorem dX5_process_53 : decode cX5_process 53 = .ok (.if_icmp .eq 17, 3) := by decide +kernel
theorem dX5_process_56 : decode cX5_process 56 = .ok (.aload_n 0, 1) := by decide +kernel
theorem dX5_process_57 : decode cX5_process 57 = .ok (.aload_n 0, 1) := by decide +kernel
theorem dX5_process_58 : decode cX5_process 58 = .ok (.getfield 56, 3) := by decide +kernel
theorem dX5_process_61 : decode cX5_process 61 = .ok (.iload_n 3, 1) := by decide +kernel
theorem dX5_process_62 : decode cX5_process 62 = .ok (.iaload, 1) := by decide +kernel
theorem dX5_process_63 : decode cX5_process 63 = .ok (.iload_n 3, 1) := by decide +kernel
theorem dX5_process_64 : decode cX5_process 64 = .ok (.invokevirtual 182, 3) := by decide +kernel
theorem dX5_process_67 : decode cX5_process 67 = .ok (.iinc 1 1, 3) := by decide +kernel
theorem dX5_process_70 : decode cX5_process 70 = .ok (.iinc 3 1, 3) := by decide +kernel
theorem dX5_process_73 : decode cX5_process 73 = .ok (.goto (-35), 3) := by decide +kernel
theorem dX5_process_76 : decode cX5_process 76 = .ok (.iconst 0, 1) := by decide +kernel
theorem dX5_process_77 : decode cX5_process 77 = .ok (.istore_n 3, 1) := by decide +kernel
theorem dX5_process_78 : decode cX5_process 78 = .ok (.iload_n 3, 1) := by decide +kernel
theorem dX5_process_79 : decode cX5_process 79 = .ok (.iload_n 2, 1) := by decide +kernel
theorem dX5_process_80 : decode cX5_process 80 = .ok (.if_icmp .ge 77, 3) := by decide +kernel
theorem dX5_process_83 : decode cX5_process 83 = .ok (.aload_n 0, 1) := by decide +kernel
theorem dX5_process_84 : decode cX5_process 84 = .ok (.iload_n 3, 1) := by decide +kernel
theorem dX5_process_85 : decode cX5_process 85 = .ok (.invokevirtual 123, 3) := by decide +kernel
theorem dX5_process_88 : decode cX5_process 88 = .ok (.ifCond .eq 63, 3) := by decide +kernel
theorem dX5_process_91 : decode cX5_process 91 = .ok (.aload_n 0, 1) := by decide +kernel
theorem dX5_process_92 : decode cX5_process 92 = .ok (.iload_n 3, 1) := by decide +kernel
theorem dX5_process_93 : decode cX5_process 93 = .ok (.invokevirtual 186, 3) := by decide +kernel
theorem dX5_process_96 : decode cX5_process 96 = .ok (.ifCond .ne 55, 3) := by decide +kernel
theorem dX5_process_99 : decode cX5_process 99 = .ok (.aload_n 0, 1) := by decide +kernel
theorem dX5_process_100 : decode cX5_process 100 = .ok (.iload_n 3, 1) := by decide +kernel
theorem dX5_process_101 : decode cX5_process 101 = .ok (.bipush 6, 2) := by decide +kernel
theorem dX5_process_103 : decode cX5_process 103 = .ok (.aload_n 0, 1) := by decide +kernel
theorem dX5_process_104 : decode cX5_process 104 = .ok (.iload_n 3, 1) := by decide +kernel
theorem dX5_process_105 : decode cX5_process 105 = .ok (.bipush 6, 2) := by decide +kernel
theorem dX5_process_107 : decode cX5_process 107 = .ok (.invokevirtual 74, 3) := by decide +kernel
theorem dX5_process_110 : decode cX5_process 110 = .ok (.iconst 1, 1) := by decide +kernel
theorem dX5_process_111 : decode cX5_process 111 = .ok (.iadd, 1) := by decide +kernel
theorem dX5_process_112 : decode cX5_process 112 = .ok (.invokevirtual 158, 3) := by decide +kernel
theorem dX5_process_115 : decode cX5_process 115 = .ok (.aload_n 0, 1) := by decide +kernel
theorem dX5_process_116 : decode cX5_process 116 = .ok (.iload_n 3, 1) := by decide +kernel
theorem dX5_process_117 : decode cX5_process 117 = .ok (.bipush 120, 2) := by decide +kernel
theorem dX5_process_119 : decode cX5_process 119 = .ok (.invokevirtual 162, 3) := by decide +kernel
theorem dX5_process_122 : decode cX5_process 122 = .ok (.aload_n 0, 1) := by decide +kernel
theorem dX5_process_123 : decode cX5_process 123 = .ok (.iload_n 3, 1) := by decide +kernel
theorem dX5_process_124 : decode cX5_process 124 = .ok (.bipush 6, 2) := by decide +kernel
theorem dX5_process_126 : decode cX5_process 126 = .ok (.invokevirtual 74, 3) := by decide +kernel
theorem dX5_process_129 : decode cX5_process 129 = .ok (.aload_n 0, 1) := by decide +kernel
theorem dX5_process_130 : decode cX5_process 130 = .ok (.getfield 47, 3) := by decide +kernel
theorem dX5_process_133 : decode cX5_process 133 = .ok (.if_icmp .lt 18, 3) := by decide +kernel
theorem dX5_process_136 : decode cX5_process 136 = .ok (.aload_n 0, 1) := by decide +kernel
theorem dX5_process_137 : decode cX5_process 137 = .ok (.iload_n 3, 1) := by decide +kernel
theorem dX5_process_138 : decode cX5_process 138 = .ok (.bipush 7, 2) := by decide +kernel
theorem dX5_process_140 : decode cX5_process 140 = .ok (.iconst 1, 1) := by decide +kernel
theorem dX5_process_141 : decode cX5_process 141 = .ok (.invokevirtual 158, 3) := by decide +kernel
theorem dX5_process_144 : decode cX5_process 144 = .ok (.aload_n 0, 1) := by decide +kernel
theorem dX5_process_145 : decode cX5_process 145 = .ok (.iload_n 3, 1) := by decide +kernel
theorem dX5_process_146 : decode cX5_process 146 = .ok (.bipush 108, 2) := by decide +kernel
theorem dX5_process_148 : decode cX5_process 148 = .ok (.invokevirtual 162, 3) := by decide +kernel
theorem dX5_process_151 : decode cX5_process 151 = .ok (.iinc 3 1, 3) := by decide +kernel
theorem dX5_process_154 : decode cX5_process 154 = .ok (.goto (-76), 3) := by decide +kernel
theorem dX5_process_157 : decode cX5_process 157 = .ok (.iconst 0, 1) := by decide +kernel
theorem dX5_process_158 : decode cX5_process 158 = .ok (.istore_n 3, 1) := by decide +kernel
theorem dX5_process_159 : decode cX5_process 159 = .ok (.iload_n 3, 1) := by decide +kernel
theorem dX5_process_160 : decode cX5_process 160 = .ok (.aload_n 0, 1) := by decide +kernel
theorem dX5_process_161 : decode cX5_process 161 = .ok (.getfield 111, 3) := by decide +kernel
theorem dX5_process_164 : decode cX5_process 164 = .ok (.if_icmp .ge 24, 3) := by decide +kernel
theorem dX5_process_167 : decode cX5_process 167 = .ok (.aload_n 0, 1) := by decide +kernel
theorem dX5_process_168 : decode cX5_process 168 = .ok (.getfield 56, 3) := by decide +kernel
theorem dX5_process_171 : decode cX5_process 171 = .ok (.iload_n 3, 1) := by decide +kernel
theorem dX5_process_172 : decode cX5_process 172 = .ok (.iaload, 1) := by decide +kernel
theorem dX5_process_173 : decode cX5_process 173 = .ok (.iconst (-1), 1) := by decide +kernel
theorem dX5_process_174 : decode cX5_process 174 = .ok (.if_icmp .ne 8, 3) := by decide +kernel
theorem dX5_process_177 : decode cX5_process 177 = .ok (.aload_n 0, 1) := by decide +kernel
theorem dX5_process_178 : decode cX5_process 178 = .ok (.iload_n 3, 1) := by decide +kernel
theorem dX5_process_179 : decode cX5_process 179 = .ok (.invokevirtual 189, 3) := by decide +kernel
theorem dX5_process_182 : decode cX5_process 182 = .ok (.iinc 3 1, 3) := by decide +kernel
theorem dX5_process_185 : decode cX5_process 185 = .ok (.goto (-26), 3) := by decide +kernel
theorem dX5_process_188 : decode cX5_process 188 = .ok (.iconst 0, 1) := by decide +kernel
theorem dX5_process_189 : decode cX5_process 189 = .ok (.istore_n 3, 1) := by decide +kernel
theorem dX5_process_190 : decode cX5_process 190 = .ok (.iload_n 3, 1) := by decide +kernel
theorem dX5_process_191 : decode cX5_process 191 = .ok (.aload_n 0, 1) := by decide +kernel
theorem dX5_process_192 : decode cX5_process 192 = .ok (.getfield 71, 3) := by decide +kernel
theorem dX5_process_195 : decode cX5_process 195 = .ok (.if_icmp .ge 109, 3) := by decide +kernel
theorem dX5_process_198 : decode cX5_process 198 = .ok (.iload_n 3, 1) := by decide +kernel
theorem dX5_process_199 : decode cX5_process 199 = .ok (.iconst 1, 1) := by decide +kernel
theorem dX5_process_200 : decode cX5_process 200 = .ok (.iadd, 1) := by decide +kernel
theorem dX5_process_201 : decode cX5_process 201 = .ok (.istore 4, 2) := by decide +kernel
theorem dX5_process_203 : decode cX5_process 203 = .ok (.iload 4, 2) := by decide +kernel
theorem dX5_process_205 : decode cX5_process 205 = .ok (.aload_n 0, 1) := by decide +kernel
theorem dX5_process_206 : decode cX5_process 206 = .ok (.getfield 71, 3) := by decide +kernel
theorem dX5_process_209 : decode cX5_process 209 = .ok (.if_icmp .ge 89, 3) := by decide +kernel
theorem dX5_process_212 : decode cX5_process 212 = .ok (.aload_n 0, 1) := by decide +kernel
theorem dX5_process_213 : decode cX5_process 213 = .ok (.iload_n 3, 1) := by decide +kernel
theorem dX5_process_214 : decode cX5_process 214 = .ok (.invokevirtual 123, 3) := by decide +kernel
theorem dX5_process_217 : decode cX5_process 217 = .ok (.ifCond .eq 75, 3) := by decide +kernel
theorem dX5_process_220 : decode cX5_process 220 = .ok (.aload_n 0, 1) := by decide +kernel
theorem dX5_process_221 : decode cX5_process 221 = .ok (.iload 4, 2) := by decide +kernel
theorem dX5_process_223 : decode cX5_process 223 = .ok (.invokevirtual 123, 3) := by decide +kernel
theorem dX5_process_226 : decode cX5_process 226 = .ok (.ifCond .eq 66, 3) := by decide +kernel
theorem dX5_process_229 : decode cX5_process 229 = .ok (.aload_n 0, 1) := by decide +kernel
theorem dX5_process_230 : decode cX5_process 230 = .ok (.iload_n 3, 1) := by decide +kernel
theorem dX5_process_231 : decode cX5_process 231 = .ok (.iload 4, 2) := by decide +kernel
theorem dX5_process_233 : decode cX5_process 233 = .ok (.invokevirtual 193, 3) := by decide +kernel
theorem dX5_process_236 : decode cX5_process 236 = .ok (.ifCond .eq 56, 3) := by decide +kernel
theorem dX5_process_239 : decode cX5_process 239 = .ok (.aload_n 0, 1) := by decide +kernel
theorem dX5_process_240 : decode cX5_process 240 = .ok (.iload_n 3, 1) := by decide +kernel
theorem dX5_process_241 : decode cX5_process 241 = .ok (.iconst 5, 1) := by decide +kernel
theorem dX5_process_242 : decode cX5_process 242 = .ok (.aload_n 0, 1) := by decide +kernel
theorem dX5_process_243 : decode cX5_process 243 = .ok (.iload_n 3, 1) := by decide +kernel
theorem dX5_process_244 : decode cX5_process 244 = .ok (.iconst 5, 1) := by decide +kernel
theorem dX5_process_245 : decode cX5_process 245 = .ok (.invokevirtual 74, 3) := by decide +kernel
theorem dX5_process_248 : decode cX5_process 248 = .ok (.aload_n 0, 1) := by decide +kernel
theorem dX5_process_249 : decode cX5_process 249 = .ok (.iload 4, 2) := by decide +kernel
theorem dX5_process_251 : decode cX5_process 251 = .ok (.iconst 5, 1) := by decide +kernel
theorem dX5_process_252 : decode cX5_process 252 = .ok (.invokevirtual 74, 3) := by decide +kernel
theorem dX5_process_255 : decode cX5_process 255 = .ok (.iadd, 1) := by decide +kernel
theorem dX5_process_256 : decode cX5_process 256 = .ok (.invokevirtual 158, 3) := by decide +kernel
theorem dX5_process_259 : decode cX5_process 259 = .ok (.aload_n 0, 1) := by decide +kernel
theorem dX5_process_260 : decode cX5_process 260 = .ok (.iload 4, 2) := by decide +kernel
theorem dX5_process_262 : decode cX5_process 262 = .ok (.bipush 7, 2) := by decide +kernel
theorem dX5_process_264 : decode cX5_process 264 = .ok (.iconst 2, 1) := by decide +kernel
theorem dX5_process_265 : decode cX5_process 265 = .ok (.invokevirtual 158, 3) := by decide +kernel
theorem dX5_process_268 : decode cX5_process 268 = .ok (.aload_n 0, 1) := by decide +kernel
theorem dX5_process_269 : decode cX5_process 269 = .ok (.iload 4, 2) := by decide +kernel
theorem dX5_process_271 : decode cX5_process 271 = .ok (.bipush 8, 2) := by decide +kernel
theorem dX5_process_273 : decode cX5_process 273 = .ok (.iload_n 3, 1) := by decide +kernel
theorem dX5_process_274 : decode cX5_process 274 = .ok (.invokevirtual 158, 3) := by decide +kernel
theorem dX5_process_277 : decode cX5_process 277 = .ok (.aload_n 0, 1) := by decide +kernel
theorem dX5_process_278 : decode cX5_process 278 = .ok (.iload 4, 2) := by decide +kernel
theorem dX5_process_280 : decode cX5_process 280 = .ok (.bipush 109, 2) := by decide +kernel
theorem dX5_process_282 : decode cX5_process 282 = .ok (.invokevirtual 162, 3) := by decide +kernel
theorem dX5_process_285 : decode cX5_process 285 = .ok (.aload_n 0, 1) := by decide +kernel
theorem dX5_process_286 : decode cX5_process 286 = .ok (.iload_n 3, 1) := by decide +kernel
theorem dX5_process_287 : decode cX5_process 287 = .ok (.bipush 103, 2) := by decide +kernel
theorem dX5_process_289 : decode cX5_process 289 = .ok (.invokevirtual 162, 3) := by decide +kernel
theorem dX5_process_292 : decode cX5_process 292 = .ok (.iinc 4 1, 3) := by decide +kernel
theorem dX5_process_295 : decode cX5_process 295 = .ok (.goto (-92), 3) := by decide +kernel
theorem dX5_process_298 : decode cX5_process 298 = .ok (.iinc 3 1, 3) := by decide +kernel
theorem dX5_process_301 : decode cX5_process 301 = .ok (.goto (-111), 3) := by decide +kernel
theorem dX5_process_304 : decode cX5_process 304 = .ok (.aload_n 0, 1) := by decide +kernel
theorem dX5_process_305 : decode cX5_process 305 = .ok (.dup, 1) := by decide +kernel
theorem dX5_process_306 : decode cX5_process 306 = .ok (.getfield 196, 3) := by decide +kernel
theorem dX5_process_309 : decode cX5_process 309 = .ok (.aload_n 0, 1) := by decide +kernel
theorem dX5_process_310 : decode cX5_process 310 = .ok (.getfield 111, 3) := by decide +kernel
theorem dX5_process_313 : decode cX5_process 313 = .ok (.iadd, 1) := by decide +kernel
theorem dX5_process_314 : decode cX5_process 314 = .ok (.putfield 196, 3) := by decide +kernel
theorem dX5_process_317 : decode cX5_process 317 = .ok (.aload_n 0, 1) := by decide +kernel
theorem dX5_process_318 : decode cX5_process 318 = .ok (.iconst 0, 1) := by decide +kernel
theorem dX5_process_319 : decode cX5_process 319 = .ok (.putfield 111, 3) := by decide +kernel
theorem dX5_process_322 : decode cX5_process 322 = .ok (.iload_n 1, 1) := by decide +kernel
theorem dX5_process_323 : decode cX5_process 323 = .ok (.ireturn, 1) := by decide +kernel
theorem dX5_batch_0 : decode cX5_batch 0 = .ok (.aload_n 0, 1) := by decide +kernel
theorem dX5_batch_1 : decode cX5_batch 1 = .ok (.iconst 0, 1) := by decide +kernel
theorem dX5_batch_2 : decode cX5_batch 2 = .ok (.putfield 62, 3) := by decide +kernel
theorem dX5_batch_5 : decode cX5_batch 5 = .ok (.aload_n 0, 1) := by decide +kernel
theorem dX5_batch_6 : decode cX5_batch 6 = .ok (.getfield 111, 3) := by decide +kernel
theorem dX5_batch_9 : decode cX5_batch 9 = .ok (.ireturn, 1) := by decide +kernel
theorem dX5_isAsked_0 : decode cX5_isAsked 0 = .ok (.aload_n 0, 1) := by decide +kernel
theorem dX5_isAsked_1 : decode cX5_isAsked 1 = .ok (.iload_n 1, 1) := by decide +kernel
theorem dX5_isAsked_2 : decode cX5_isAsked 2 = .ok (.i2l, 1) := by decide +kernel
theorem dX5_isAsked_3 : decode cX5_isAsked 3 = .ok (.lconst 0, 1) := by decide +kernel
theorem dX5_isAsked_4 : decode cX5_isAsked 4 = .ok (.aload_n 0, 1) := by decide +kernel
theorem dX5_isAsked_5 : decode cX5_isAsked 5 = .ok (.getfield 111, 3) := by decide +kernel
theorem dX5_isAsked_8 : decode cX5_isAsked 8 = .ok (.iconst 1, 1) := by decide +kernel
theorem dX5_isAsked_9 : decode cX5_isAsked 9 = .ok (.isub, 1) := by decide +kernel
theorem dX5_isAsked_10 : decode cX5_isAsked 10 = .ok (.i2l, 1) := by decide +kernel
theorem dX5_isAsked_11 : decode cX5_isAsked 11 = .ok (.invokestatic 67, 3) := by decide +kernel
theorem dX5_isAsked_14 : decode cX5_isAsked 14 = .ok (.ifCond .ne 7, 3) := by decide +kernel
theorem dX5_isAsked_17 : decode cX5_isAsked 17 = .ok (.iconst 1, 1) := by decide +kernel
theorem dX5_isAsked_18 : decode cX5_isAsked 18 = .ok (.goto 24, 3) := by decide +kernel
theorem dX5_isAsked_21 : decode cX5_isAsked 21 = .ok (.aload_n 0, 1) := by decide +kernel
theorem dX5_isAsked_22 : decode cX5_isAsked 22 = .ok (.iload_n 2, 1) := by decide +kernel
theorem dX5_isAsked_23 : decode cX5_isAsked 23 = .ok (.invokevirtual 199, 3) := by decide +kernel
theorem dX5_isAsked_26 : decode cX5_isAsked 26 = .ok (.ifCond .eq 11, 3) := by decide +kernel
theorem dX5_isAsked_29 : decode cX5_isAsked 29 = .ok (.aload_n 0, 1) := by decide +kernel
theorem dX5_isAsked_30 : decode cX5_isAsked 30 = .ok (.iload_n 2, 1) := by decide +kernel
theorem dX5_isAsked_31 : decode cX5_isAsked 31 = .ok (.invokevirtual 123, 3) := by decide +kernel
theorem dX5_isAsked_34 : decode cX5_isAsked 34 = .ok (.ifCond .ne 7, 3) := by decide +kernel
theorem dX5_isAsked_37 : decode cX5_isAsked 37 = .ok (.iconst 2, 1) := by decide +kernel
theorem dX5_isAsked_38 : decode cX5_isAsked 38 = .ok (.goto 4, 3) := by decide +kernel
theorem dX5_isAsked_41 : decode cX5_isAsked 41 = .ok (.iconst 0, 1) := by decide +kernel
theorem dX5_isAsked_42 : decode cX5_isAsked 42 = .ok (.putfield 62, 3) := by decide +kernel
theorem dX5_isAsked_45 : decode cX5_isAsked 45 = .ok (.aload_n 0, 1) := by decide +kernel
theorem dX5_isAsked_46 : decode cX5_isAsked 46 = .ok (.getfield 62, 3) := by decide +kernel
theorem dX5_isAsked_49 : decode cX5_isAsked 49 = .ok (.ifCond .ne 7, 3) := by decide +kernel
theorem dX5_isAsked_52 : decode cX5_isAsked 52 = .ok (.iconst 1, 1) := by decide +kernel
theorem dX5_isAsked_53 : decode cX5_isAsked 53 = .ok (.goto 4, 3) := by decide +kernel
theorem dX5_isAsked_56 : decode cX5_isAsked 56 = .ok (.iconst 0, 1) := by decide +kernel
theorem dX5_isAsked_57 : decode cX5_isAsked 57 = .ok (.ireturn, 1) := by decide +kernel
theorem dX5_distance_0 : decode cX5_distance 0 = .ok (.aload_n 0, 1) := by decide +kernel
theorem dX5_distance_1 : decode cX5_distance 1 = .ok (.iload_n 1, 1) := by decide +kernel
theorem dX5_distance_2 : decode cX5_distance 2 = .ok (.iload_n 2, 1) := by decide +kernel
theorem dX5_distance_3 : decode cX5_distance 3 = .ok (.invokevirtual 202, 3) := by decide +kernel
theorem dX5_distance_6 : decode cX5_distance 6 = .ok (.ifCond .eq 12, 3) := by decide +kernel
theorem dX5_distance_9 : decode cX5_distance 9 = .ok (.aload_n 0, 1) := by decide +kernel
theorem dX5_distance_10 : decode cX5_distance 10 = .ok (.iload_n 1, 1) := by decide +kernel
theorem dX5_distance_11 : decode cX5_distance 11 = .ok (.iload_n 2, 1) := by decide +kernel
theorem dX5_distance_12 : decode cX5_distance 12 = .ok (.invokevirtual 126, 3) := by decide +kernel
theorem dX5_distance_15 : decode cX5_distance 15 = .ok (.goto 6, 3) := by decide +kernel
theorem dX5_distance_18 : decode cX5_distance 18 = .ok (.ldc2_w 138, 3) := by decide +kernel
theorem dX5_distance_21 : decode cX5_distance 21 = .ok (.lreturn, 1) := by decide +kernel
theorem dX5_canTake_0 : decode cX5_canTake 0 = .ok (.aload_n 0, 1) := by decide +kernel
theorem dX5_canTake_1 : decode cX5_canTake 1 = .ok (.iload_n 1, 1) := by decide +kernel
theorem dX5_canTake_2 : decode cX5_canTake 2 = .ok (.iload_n 2, 1) := by decide +kernel
theorem dX5_canTake_3 : decode cX5_canTake 3 = .ok (.invokevirtual 202, 3) := by decide +kernel
theorem dX5_canTake_6 : decode cX5_canTake 6 = .ok (.ifCond .eq 16, 3) := by decide +kernel
theorem dX5_canTake_9 : decode cX5_canTake 9 = .ok (.aload_n 0, 1) := by decide +kernel
theorem dX5_canTake_10 : decode cX5_canTake 10 = .ok (.iload_n 1, 1) := by decide +kernel
theorem dX5_canTake_11 : decode cX5_canTake 11 = .ok (.iload_n 2, 1) := by decide +kernel
theorem dX5_canTake_12 : decode cX5_canTake 12 = .ok (.invokevirtual 140, 3) := by decide +kernel
theorem dX5_canTake_15 : decode cX5_canTake 15 = .ok (.ifCond .eq 7, 3) := by decide +kernel
theorem dX5_canTake_18 : decode cX5_canTake 18 = .ok (.iconst 1, 1) := by decide +kernel
theorem dX5_canTake_19 : decode cX5_canTake 19 = .ok (.goto 4, 3) := by decide +kernel
theorem dX5_canTake_22 : decode cX5_canTake 22 = .ok (.iconst 0, 1) := by decide +kernel
theorem dX5_canTake_23 : decode cX5_canTake 23 = .ok (.ireturn, 1) := by decide +kernel
theorem dX5_bestCost_0 : decode cX5_bestCost 0 = .ok (.aload_n 0, 1) := by decide +kernel
theorem dX5_bestCost_1 : decode cX5_bestCost 1 = .ok (.iconst 0, 1) := by decide +kernel
theorem dX5_bestCost_2 : decode cX5_bestCost 2 = .ok (.putfield 62, 3) := by decide +kernel
theorem dX5_bestCost_5 : decode cX5_bestCost 5 = .ok (.aload_n 0, 1) := by decide +kernel
theorem dX5_bestCost_6 : decode cX5_bestCost 6 = .ok (.invokevirtual 179, 3) := by decide +kernel
theorem dX5_bestCost_9 : decode cX5_bestCost 9 = .ok (.aload_n 0, 1) := by decide +kernel
theorem dX5_bestCost_10 : decode cX5_bestCost 10 = .ok (.getfield 134, 3) := by decide +kernel
theorem dX5_bestCost_13 : decode cX5_bestCost 13 = .ok (.lreturn, 1) := by decide +kernel
theorem dX5_bestCostByTrying_0 : decode cX5_bestCostByTrying 0 = .ok (.aload_n 0, 1) := by decide +kernel
theorem dX5_bestCostByTrying_1 : decode cX5_bestCostByTrying 1 = .ok (.invokevirtual 205, 3) := by decide +kernel
theorem dX5_bestCostByTrying_4 : decode cX5_bestCostByTrying 4 = .ok (.lreturn, 1) := by decide +kernel
theorem dX5_goesTo_0 : decode cX5_goesTo 0 = .ok (.aload_n 0, 1) := by decide +kernel
theorem dX5_goesTo_1 : decode cX5_goesTo 1 = .ok (.iload_n 1, 1) := by decide +kernel
theorem dX5_goesTo_2 : decode cX5_goesTo 2 = .ok (.i2l, 1) := by decide +kernel
theorem dX5_goesTo_3 : decode cX5_goesTo 3 = .ok (.lconst 0, 1) := by decide +kernel
theorem dX5_goesTo_4 : decode cX5_goesTo 4 = .ok (.aload_n 0, 1) := by decide +kernel
theorem dX5_goesTo_5 : decode cX5_goesTo 5 = .ok (.getfield 111, 3) := by decide +kernel
theorem dX5_goesTo_8 : decode cX5_goesTo 8 = .ok (.iconst 1, 1) := by decide +kernel
theorem dX5_goesTo_9 : decode cX5_goesTo 9 = .ok (.isub, 1) := by decide +kernel
theorem dX5_goesTo_10 : decode cX5_goesTo 10 = .ok (.i2l, 1) := by decide +kernel
theorem dX5_goesTo_11 : decode cX5_goesTo 11 = .ok (.invokestatic 67, 3) := by decide +kernel
theorem dX5_goesTo_14 : decode cX5_goesTo 14 = .ok (.ifCond .eq 7, 3) := by decide +kernel
theorem dX5_goesTo_17 : decode cX5_goesTo 17 = .ok (.iconst 0, 1) := by decide +kernel
theorem dX5_goesTo_18 : decode cX5_goesTo 18 = .ok (.goto 4, 3) := by decide +kernel
theorem dX5_goesTo_21 : decode cX5_goesTo 21 = .ok (.iconst 1, 1) := by decide +kernel
theorem dX5_goesTo_22 : decode cX5_goesTo 22 = .ok (.putfield 62, 3) := by decide +kernel
theorem dX5_goesTo_25 : decode cX5_goesTo 25 = .ok (.aload_n 0, 1) := by decide +kernel
theorem dX5_goesTo_26 : decode cX5_goesTo 26 = .ok (.getfield 62, 3) := by decide +kernel
theorem dX5_goesTo_29 : decode cX5_goesTo 29 = .ok (.ifCond .le 5, 3) := by decide +kernel
theorem dX5_goesTo_32 : decode cX5_goesTo 32 = .ok (.iconst (-1), 1) := by decide +kernel
theorem dX5_goesTo_33 : decode cX5_goesTo 33 = .ok (.ireturn, 1) := by decide +kernel
theorem dX5_goesTo_34 : decode cX5_goesTo 34 = .ok (.aload_n 0, 1) := by decide +kernel
theorem dX5_goesTo_35 : decode cX5_goesTo 35 = .ok (.invokevirtual 179, 3) := by decide +kernel
theorem dX5_goesTo_38 : decode cX5_goesTo 38 = .ok (.aload_n 0, 1) := by decide +kernel
theorem dX5_goesTo_39 : decode cX5_goesTo 39 = .ok (.getfield 56, 3) := by decide +kernel
theorem dX5_goesTo_42 : decode cX5_goesTo 42 = .ok (.iload_n 1, 1) := by decide +kernel
theorem dX5_goesTo_43 : decode cX5_goesTo 43 = .ok (.iaload, 1) := by decide +kernel
theorem dX5_goesTo_44 : decode cX5_goesTo 44 = .ok (.ireturn, 1) := by decide +kernel
theorem dX5_tracks_0 : decode cX5_tracks 0 = .ok (.aload_n 0, 1) := by decide +kernel
theorem dX5_tracks_1 : decode cX5_tracks 1 = .ok (.iconst 0, 1) := by decide +kernel
theorem dX5_tracks_2 : decode cX5_tracks 2 = .ok (.putfield 62, 3) := by decide +kernel
theorem dX5_tracks_5 : decode cX5_tracks 5 = .ok (.aload_n 0, 1) := by decide +kernel
theorem dX5_tracks_6 : decode cX5_tracks 6 = .ok (.getfield 71, 3) := by decide +kernel
theorem dX5_tracks_9 : decode cX5_tracks 9 = .ok (.ireturn, 1) := by decide +kernel
theorem dX5_liveTracks_0 : decode cX5_liveTracks 0 = .ok (.aload_n 0, 1) := by decide +kernel
theorem dX5_liveTracks_1 : decode cX5_liveTracks 1 = .ok (.iconst 0, 1) := by decide +kernel
theorem dX5_liveTracks_2 : decode cX5_liveTracks 2 = .ok (.putfield 62, 3) := by decide +kernel
theorem dX5_liveTracks_5 : decode cX5_liveTracks 5 = .ok (.aload_n 0, 1) := by decide +kernel
theorem dX5_liveTracks_6 : decode cX5_liveTracks 6 = .ok (.invokevirtual 166, 3) := by decide +kernel
theorem dX5_liveTracks_9 : decode cX5_liveTracks 9 = .ok (.ireturn, 1) := by decide +kernel
theorem dX5_isThere_0 : decode cX5_isThere 0 = .ok (.aload_n 0, 1) := by decide +kernel
theorem dX5_isThere_1 : decode cX5_isThere 1 = .ok (.aload_n 0, 1) := by decide +kernel
theorem dX5_isThere_2 : decode cX5_isThere 2 = .ok (.iload_n 1, 1) := by decide +kernel
theorem dX5_isThere_3 : decode cX5_isThere 3 = .ok (.invokevirtual 199, 3) := by decide +kernel
theorem dX5_isThere_6 : decode cX5_isThere 6 = .ok (.ifCond .eq 7, 3) := by decide +kernel
theorem dX5_isThere_9 : decode cX5_isThere 9 = .ok (.iconst 0, 1) := by decide +kernel
theorem dX5_isThere_10 : decode cX5_isThere 10 = .ok (.goto 4, 3) := by decide +kernel
theorem dX5_isThere_13 : decode cX5_isThere 13 = .ok (.iconst 1, 1) := by decide +kernel
theorem dX5_isThere_14 : decode cX5_isThere 14 = .ok (.putfield 62, 3) := by decide +kernel
theorem dX5_isThere_17 : decode cX5_isThere 17 = .ok (.aload_n 0, 1) := by decide +kernel
theorem dX5_isThere_18 : decode cX5_isThere 18 = .ok (.getfield 62, 3) := by decide +kernel
theorem dX5_isThere_21 : decode cX5_isThere 21 = .ok (.ifCond .ne 7, 3) := by decide +kernel
theorem dX5_isThere_24 : decode cX5_isThere 24 = .ok (.iconst 1, 1) := by decide +kernel
theorem dX5_isThere_25 : decode cX5_isThere 25 = .ok (.goto 4, 3) := by decide +kernel
theorem dX5_isThere_28 : decode cX5_isThere 28 = .ok (.iconst 0, 1) := by decide +kernel
theorem dX5_isThere_29 : decode cX5_isThere 29 = .ok (.ireturn, 1) := by decide +kernel
theorem dX5_status_0 : decode cX5_status 0 = .ok (.aload_n 0, 1) := by decide +kernel
theorem dX5_status_1 : decode cX5_status 1 = .ok (.iload_n 1, 1) := by decide +kernel
theorem dX5_status_2 : decode cX5_status 2 = .ok (.invokevirtual 207, 3) := by decide +kernel
theorem dX5_status_5 : decode cX5_status 5 = .ok (.ifCond .ne 6, 3) := by decide +kernel
theorem dX5_status_8 : decode cX5_status 8 = .ok (.bipush 32, 2) := by decide +kernel
theorem dX5_status_10 : decode cX5_status 10 = .ok (.ireturn, 1) := by decide +kernel
theorem dX5_status_11 : decode cX5_status 11 = .ok (.aload_n 0, 1) := by decide +kernel
theorem dX5_status_12 : decode cX5_status 12 = .ok (.iload_n 1, 1) := by decide +kernel
theorem dX5_status_13 : decode cX5_status 13 = .ok (.bipush 7, 2) := by decide +kernel
theorem dX5_status_15 : decode cX5_status 15 = .ok (.invokevirtual 74, 3) := by decide +kernel
theorem dX5_status_18 : decode cX5_status 18 = .ok (.istore_n 2, 1) := by decide +kernel
theorem dX5_status_19 : decode cX5_status 19 = .ok (.iload_n 2, 1) := by decide +kernel
theorem dX5_status_20 : decode cX5_status 20 = .ok (.iconst 1, 1) := by decide +kernel
theorem dX5_status_21 : decode cX5_status 21 = .ok (.if_icmp .ne 8, 3) := by decide +kernel
theorem dX5_status_24 : decode cX5_status 24 = .ok (.bipush 108, 2) := by decide +kernel
theorem dX5_status_26 : decode cX5_status 26 = .ok (.goto 30, 3) := by decide +kernel
theorem dX5_status_29 : decode cX5_status 29 = .ok (.iload_n 2, 1) := by decide +kernel
theorem dX5_status_30 : decode cX5_status 30 = .ok (.iconst 2, 1) := by decide +kernel
theorem dX5_status_31 : decode cX5_status 31 = .ok (.if_icmp .ne 8, 3) := by decide +kernel
theorem dX5_status_34 : decode cX5_status 34 = .ok (.bipush 109, 2) := by decide +kernel
theorem dX5_status_36 : decode cX5_status 36 = .ok (.goto 20, 3) := by decide +kernel
theorem dX5_status_39 : decode cX5_status 39 = .ok (.aload_n 0, 1) := by decide +kernel
theorem dX5_status_40 : decode cX5_status 40 = .ok (.iload_n 1, 1) := by decide +kernel
theorem dX5_status_41 : decode cX5_status 41 = .ok (.iconst 5, 1) := by decide +kernel
theorem dX5_status_42 : decode cX5_status 42 = .ok (.invokevirtual 74, 3) := by decide +kernel
theorem dX5_status_45 : decode cX5_status 45 = .ok (.iconst 3, 1) := by decide +kernel
theorem dX5_status_46 : decode cX5_status 46 = .ok (.if_icmp .ge 8, 3) := by decide +kernel
theorem dX5_status_49 : decode cX5_status 49 = .ok (.bipush 116, 2) := by decide +kernel
theorem dX5_status_51 : decode cX5_status 51 = .ok (.goto 5, 3) := by decide +kernel
theorem dX5_status_54 : decode cX5_status 54 = .ok (.bipush 99, 2) := by decide +kernel
theorem dX5_status_56 : decode cX5_status 56 = .ok (.ireturn, 1) := by decide +kernel
theorem dX5_timeOf_0 : decode cX5_timeOf 0 = .ok (.aload_n 0, 1) := by decide +kernel
theorem dX5_timeOf_1 : decode cX5_timeOf 1 = .ok (.iload_n 1, 1) := by decide +kernel
theorem dX5_timeOf_2 : decode cX5_timeOf 2 = .ok (.invokevirtual 207, 3) := by decide +kernel
theorem dX5_timeOf_5 : decode cX5_timeOf 5 = .ok (.ifCond .eq 12, 3) := by decide +kernel
theorem dX5_timeOf_8 : decode cX5_timeOf 8 = .ok (.aload_n 0, 1) := by decide +kernel
theorem dX5_timeOf_9 : decode cX5_timeOf 9 = .ok (.iload_n 1, 1) := by decide +kernel
theorem dX5_timeOf_10 : decode cX5_timeOf 10 = .ok (.iconst 0, 1) := by decide +kernel
theorem dX5_timeOf_11 : decode cX5_timeOf 11 = .ok (.invokevirtual 74, 3) := by decide +kernel
theorem dX5_timeOf_14 : decode cX5_timeOf 14 = .ok (.goto 4, 3) := by decide +kernel
theorem dX5_timeOf_17 : decode cX5_timeOf 17 = .ok (.iconst (-1), 1) := by decide +kernel
theorem dX5_timeOf_18 : decode cX5_timeOf 18 = .ok (.ireturn, 1) := by decide +kernel
theorem dX5_stateOf_0 : decode cX5_stateOf 0 = .ok (.aload_n 0, 1) := by decide +kernel
theorem dX5_stateOf_1 : decode cX5_stateOf 1 = .ok (.aload_n 0, 1) := by decide +kernel
theorem dX5_stateOf_2 : decode cX5_stateOf 2 = .ok (.iload_n 1, 1) := by decide +kernel
theorem dX5_stateOf_3 : decode cX5_stateOf 3 = .ok (.invokevirtual 199, 3) := by decide +kernel
theorem dX5_stateOf_6 : decode cX5_stateOf 6 = .ok (.ifCond .ne 7, 3) := by decide +kernel
theorem dX5_stateOf_9 : decode cX5_stateOf 9 = .ok (.iconst 1, 1) := by decide +kernel
theorem dX5_stateOf_10 : decode cX5_stateOf 10 = .ok (.goto 20, 3) := by decide +kernel
theorem dX5_stateOf_13 : decode cX5_stateOf 13 = .ok (.iload_n 2, 1) := by decide +kernel
theorem dX5_stateOf_14 : decode cX5_stateOf 14 = .ok (.i2l, 1) := by decide +kernel
theorem dX5_stateOf_15 : decode cX5_stateOf 15 = .ok (.lconst 0, 1) := by decide +kernel
theorem dX5_stateOf_16 : decode cX5_stateOf 16 = .ok (.ldc2_w 65, 3) := by decide +kernel
theorem dX5_stateOf_19 : decode cX5_stateOf 19 = .ok (.invokestatic 67, 3) := by decide +kernel
theorem dX5_stateOf_22 : decode cX5_stateOf 22 = .ok (.ifCond .ne 7, 3) := by decide +kernel
theorem dX5_stateOf_25 : decode cX5_stateOf 25 = .ok (.iconst 2, 1) := by decide +kernel
theorem dX5_stateOf_26 : decode cX5_stateOf 26 = .ok (.goto 4, 3) := by decide +kernel
theorem dX5_stateOf_29 : decode cX5_stateOf 29 = .ok (.iconst 0, 1) := by decide +kernel
theorem dX5_stateOf_30 : decode cX5_stateOf 30 = .ok (.putfield 62, 3) := by decide +kernel
theorem dX5_stateOf_33 : decode cX5_stateOf 33 = .ok (.aload_n 0, 1) := by decide +kernel
theorem dX5_stateOf_34 : decode cX5_stateOf 34 = .ok (.getfield 62, 3) := by decide +kernel
theorem dX5_stateOf_37 : decode cX5_stateOf 37 = .ok (.ifCond .ne 14, 3) := by decide +kernel
theorem dX5_stateOf_40 : decode cX5_stateOf 40 = .ok (.aload_n 0, 1) := by decide +kernel
theorem dX5_stateOf_41 : decode cX5_stateOf 41 = .ok (.iload_n 1, 1) := by decide +kernel
theorem dX5_stateOf_42 : decode cX5_stateOf 42 = .ok (.iconst 1, 1) := by decide +kernel
theorem dX5_stateOf_43 : decode cX5_stateOf 43 = .ok (.iload_n 2, 1) := by decide +kernel
theorem dX5_stateOf_44 : decode cX5_stateOf 44 = .ok (.iadd, 1) := by decide +kernel
theorem dX5_stateOf_45 : decode cX5_stateOf 45 = .ok (.invokevirtual 74, 3) := by decide +kernel
theorem dX5_stateOf_48 : decode cX5_stateOf 48 = .ok (.goto 4, 3) := by decide +kernel
theorem dX5_stateOf_51 : decode cX5_stateOf 51 = .ok (.iconst (-1), 1) := by decide +kernel
theorem dX5_stateOf_52 : decode cX5_stateOf 52 = .ok (.ireturn, 1) := by decide +kernel
theorem dX5_isAhead_0 : decode cX5_isAhead 0 = .ok (.iload_n 0, 1) := by decide +kernel
theorem dX5_isAhead_1 : decode cX5_isAhead 1 = .ok (.i2l, 1) := by decide +kernel
theorem dX5_isAhead_2 : decode cX5_isAhead 2 = .ok (.ldc2_w 210, 3) := by decide +kernel
theorem dX5_isAhead_5 : decode cX5_isAhead 5 = .ok (.ldc2_w 212, 3) := by decide +kernel
theorem dX5_isAhead_8 : decode cX5_isAhead 8 = .ok (.invokestatic 67, 3) := by decide +kernel
theorem dX5_isAhead_11 : decode cX5_isAhead 11 = .ok (.ireturn, 1) := by decide +kernel
theorem dX5_predicted_0 : decode cX5_predicted 0 = .ok (.aload_n 0, 1) := by decide +kernel
theorem dX5_predicted_1 : decode cX5_predicted 1 = .ok (.aload_n 0, 1) := by decide +kernel
theorem dX5_predicted_2 : decode cX5_predicted 2 = .ok (.iload_n 1, 1) := by decide +kernel
theorem dX5_predicted_3 : decode cX5_predicted 3 = .ok (.invokevirtual 199, 3) := by decide +kernel
theorem dX5_predicted_6 : decode cX5_predicted 6 = .ok (.ifCond .ne 7, 3) := by decide +kernel
theorem dX5_predicted_9 : decode cX5_predicted 9 = .ok (.iconst 1, 1) := by decide +kernel
theorem dX5_predicted_10 : decode cX5_predicted 10 = .ok (.goto 15, 3) := by decide +kernel
theorem dX5_predicted_13 : decode cX5_predicted 13 = .ok (.iload_n 2, 1) := by decide +kernel
theorem dX5_predicted_14 : decode cX5_predicted 14 = .ok (.invokestatic 214, 3) := by decide +kernel
theorem dX5_predicted_17 : decode cX5_predicted 17 = .ok (.ifCond .ne 7, 3) := by decide +kernel
theorem dX5_predicted_20 : decode cX5_predicted 20 = .ok (.iconst 2, 1) := by decide +kernel
theorem dX5_predicted_21 : decode cX5_predicted 21 = .ok (.goto 4, 3) := by decide +kernel
theorem dX5_predicted_24 : decode cX5_predicted 24 = .ok (.iconst 0, 1) := by decide +kernel
theorem dX5_predicted_25 : decode cX5_predicted 25 = .ok (.putfield 62, 3) := by decide +kernel
theorem dX5_predicted_28 : decode cX5_predicted 28 = .ok (.aload_n 0, 1) := by decide +kernel
theorem dX5_predicted_29 : decode cX5_predicted 29 = .ok (.getfield 62, 3) := by decide +kernel
theorem dX5_predicted_32 : decode cX5_predicted 32 = .ok (.ifCond .ne 28, 3) := by decide +kernel
theorem dX5_predicted_35 : decode cX5_predicted 35 = .ok (.aload_n 0, 1) := by decide +kernel
theorem dX5_predicted_36 : decode cX5_predicted 36 = .ok (.iload_n 1, 1) := by decide +kernel
theorem dX5_predicted_37 : decode cX5_predicted 37 = .ok (.iload_n 2, 1) := by decide +kernel
theorem dX5_predicted_38 : decode cX5_predicted 38 = .ok (.iload_n 3, 1) := by decide +kernel
theorem dX5_predicted_39 : decode cX5_predicted 39 = .ok (.ifCond .eq 7, 3) := by decide +kernel
theorem dX5_predicted_42 : decode cX5_predicted 42 = .ok (.iconst 1, 1) := by decide +kernel
theorem dX5_predicted_43 : decode cX5_predicted 43 = .ok (.goto 4, 3) := by decide +kernel
theorem dX5_predicted_46 : decode cX5_predicted 46 = .ok (.iconst 0, 1) := by decide +kernel
theorem dX5_predicted_47 : decode cX5_predicted 47 = .ok (.invokevirtual 114, 3) := by decide +kernel
theorem dX5_predicted_50 : decode cX5_predicted 50 = .ok (.ldc2_w 97, 3) := by decide +kernel
theorem dX5_predicted_53 : decode cX5_predicted 53 = .ok (.invokestatic 217, 3) := by decide +kernel
theorem dX5_predicted_56 : decode cX5_predicted 56 = .ok (.l2i, 1) := by decide +kernel
theorem dX5_predicted_57 : decode cX5_predicted 57 = .ok (.goto 4, 3) := by decide +kernel
theorem dX5_predicted_60 : decode cX5_predicted 60 = .ok (.iconst (-1), 1) := by decide +kernel
theorem dX5_predicted_61 : decode cX5_predicted 61 = .ok (.ireturn, 1) := by decide +kernel
theorem dX5_hits_0 : decode cX5_hits 0 = .ok (.aload_n 0, 1) := by decide +kernel
theorem dX5_hits_1 : decode cX5_hits 1 = .ok (.iload_n 1, 1) := by decide +kernel
theorem dX5_hits_2 : decode cX5_hits 2 = .ok (.invokevirtual 207, 3) := by decide +kernel
theorem dX5_hits_5 : decode cX5_hits 5 = .ok (.ifCond .eq 12, 3) := by decide +kernel
theorem dX5_hits_8 : decode cX5_hits 8 = .ok (.aload_n 0, 1) := by decide +kernel
theorem dX5_hits_9 : decode cX5_hits 9 = .ok (.iload_n 1, 1) := by decide +kernel
theorem dX5_hits_10 : decode cX5_hits 10 = .ok (.iconst 5, 1) := by decide +kernel
theorem dX5_hits_11 : decode cX5_hits 11 = .ok (.invokevirtual 74, 3) := by decide +kernel
theorem dX5_hits_14 : decode cX5_hits 14 = .ok (.goto 4, 3) := by decide +kernel
theorem dX5_hits_17 : decode cX5_hits 17 = .ok (.iconst (-1), 1) := by decide +kernel
theorem dX5_hits_18 : decode cX5_hits 18 = .ok (.ireturn, 1) := by decide +kernel
theorem dX5_misses_0 : decode cX5_misses 0 = .ok (.aload_n 0, 1) := by decide +kernel
theorem dX5_misses_1 : decode cX5_misses 1 = .ok (.iload_n 1, 1) := by decide +kernel
theorem dX5_misses_2 : decode cX5_misses 2 = .ok (.invokevirtual 207, 3) := by decide +kernel
theorem dX5_misses_5 : decode cX5_misses 5 = .ok (.ifCond .eq 13, 3) := by decide +kernel
theorem dX5_misses_8 : decode cX5_misses 8 = .ok (.aload_n 0, 1) := by decide +kernel
theorem dX5_misses_9 : decode cX5_misses 9 = .ok (.iload_n 1, 1) := by decide +kernel
theorem dX5_misses_10 : decode cX5_misses 10 = .ok (.bipush 6, 2) := by decide +kernel
theorem dX5_misses_12 : decode cX5_misses 12 = .ok (.invokevirtual 74, 3) := by decide +kernel
theorem dX5_misses_15 : decode cX5_misses 15 = .ok (.goto 4, 3) := by decide +kernel
theorem dX5_misses_18 : decode cX5_misses 18 = .ok (.iconst (-1), 1) := by decide +kernel
theorem dX5_misses_19 : decode cX5_misses 19 = .ok (.ireturn, 1) := by decide +kernel
theorem dX5_mergedInto_0 : decode cX5_mergedInto 0 = .ok (.aload_n 0, 1) := by decide +kernel
theorem dX5_mergedInto_1 : decode cX5_mergedInto 1 = .ok (.aload_n 0, 1) := by decide +kernel
theorem dX5_mergedInto_2 : decode cX5_mergedInto 2 = .ok (.iload_n 1, 1) := by decide +kernel
theorem dX5_mergedInto_3 : decode cX5_mergedInto 3 = .ok (.invokevirtual 199, 3) := by decide +kernel
theorem dX5_mergedInto_6 : decode cX5_mergedInto 6 = .ok (.ifCond .ne 7, 3) := by decide +kernel
theorem dX5_mergedInto_9 : decode cX5_mergedInto 9 = .ok (.iconst 1, 1) := by decide +kernel
theorem dX5_mergedInto_10 : decode cX5_mergedInto 10 = .ok (.goto 19, 3) := by decide +kernel
theorem dX5_mergedInto_13 : decode cX5_mergedInto 13 = .ok (.aload_n 0, 1) := by decide +kernel
theorem dX5_mergedInto_14 : decode cX5_mergedInto 14 = .ok (.iload_n 1, 1) := by decide +kernel
theorem dX5_mergedInto_15 : decode cX5_mergedInto 15 = .ok (.bipush 7, 2) := by decide +kernel
theorem dX5_mergedInto_17 : decode cX5_mergedInto 17 = .ok (.invokevirtual 74, 3) := by decide +kernel
theorem dX5_mergedInto_20 : decode cX5_mergedInto 20 = .ok (.iconst 2, 1) := by decide +kernel
theorem dX5_mergedInto_21 : decode cX5_mergedInto 21 = .ok (.if_icmp .eq 7, 3) := by decide +kernel
theorem dX5_mergedInto_24 : decode cX5_mergedInto 24 = .ok (.iconst 2, 1) := by decide +kernel
theorem dX5_mergedInto_25 : decode cX5_mergedInto 25 = .ok (.goto 4, 3) := by decide +kernel
theorem dX5_mergedInto_28 : decode cX5_mergedInto 28 = .ok (.iconst 0, 1) := by decide +kernel
theorem dX5_mergedInto_29 : decode cX5_mergedInto 29 = .ok (.putfield 62, 3) := by decide +kernel
theorem dX5_mergedInto_32 : decode cX5_mergedInto 32 = .ok (.aload_n 0, 1) := by decide +kernel
theorem dX5_mergedInto_33 : decode cX5_mergedInto 33 = .ok (.getfield 62, 3) := by decide +kernel
theorem dX5_mergedInto_36 : decode cX5_mergedInto 36 = .ok (.ifCond .ne 13, 3) := by decide +kernel
theorem dX5_mergedInto_39 : decode cX5_mergedInto 39 = .ok (.aload_n 0, 1) := by decide +kernel
theorem dX5_mergedInto_40 : decode cX5_mergedInto 40 = .ok (.iload_n 1, 1) := by decide +kernel
theorem dX5_mergedInto_41 : decode cX5_mergedInto 41 = .ok (.bipush 8, 2) := by decide +kernel
theorem dX5_mergedInto_43 : decode cX5_mergedInto 43 = .ok (.invokevirtual 74, 3) := by decide +kernel
theorem dX5_mergedInto_46 : decode cX5_mergedInto 46 = .ok (.goto 4, 3) := by decide +kernel
theorem dX5_mergedInto_49 : decode cX5_mergedInto 49 = .ok (.iconst (-1), 1) := by decide +kernel
theorem dX5_mergedInto_50 : decode cX5_mergedInto 50 = .ok (.ireturn, 1) := by decide +kernel
theorem dX5_historyLength_0 : decode cX5_historyLength 0 = .ok (.aload_n 0, 1) := by decide +kernel
theorem dX5_historyLength_1 : decode cX5_historyLength 1 = .ok (.iload_n 1, 1) := by decide +kernel
theorem dX5_historyLength_2 : decode cX5_historyLength 2 = .ok (.invokevirtual 207, 3) := by decide +kernel
theorem dX5_historyLength_5 : decode cX5_historyLength 5 = .ok (.ifCond .eq 12, 3) := by decide +kernel
theorem dX5_historyLength_8 : decode cX5_historyLength 8 = .ok (.aload_n 0, 1) := by decide +kernel
theorem dX5_historyLength_9 : decode cX5_historyLength 9 = .ok (.getfield 25, 3) := by decide +kernel
theorem dX5_historyLength_12 : decode cX5_historyLength 12 = .ok (.iload_n 1, 1) := by decide +kernel
theorem dX5_historyLength_13 : decode cX5_historyLength 13 = .ok (.iaload, 1) := by decide +kernel
theorem dX5_historyLength_14 : decode cX5_historyLength 14 = .ok (.goto 4, 3) := by decide +kernel
theorem dX5_historyLength_17 : decode cX5_historyLength 17 = .ok (.iconst (-1), 1) := by decide +kernel
theorem dX5_historyLength_18 : decode cX5_historyLength 18 = .ok (.ireturn, 1) := by decide +kernel
theorem dX5_historyAt_0 : decode cX5_historyAt 0 = .ok (.aload_n 0, 1) := by decide +kernel
theorem dX5_historyAt_1 : decode cX5_historyAt 1 = .ok (.aload_n 0, 1) := by decide +kernel
theorem dX5_historyAt_2 : decode cX5_historyAt 2 = .ok (.iload_n 1, 1) := by decide +kernel
theorem dX5_historyAt_3 : decode cX5_historyAt 3 = .ok (.invokevirtual 199, 3) := by decide +kernel
theorem dX5_historyAt_6 : decode cX5_historyAt 6 = .ok (.ifCond .ne 7, 3) := by decide +kernel
theorem dX5_historyAt_9 : decode cX5_historyAt 9 = .ok (.iconst 1, 1) := by decide +kernel
theorem dX5_historyAt_10 : decode cX5_historyAt 10 = .ok (.goto 26, 3) := by decide +kernel
theorem dX5_historyAt_13 : decode cX5_historyAt 13 = .ok (.iload_n 2, 1) := by decide +kernel
theorem dX5_historyAt_14 : decode cX5_historyAt 14 = .ok (.i2l, 1) := by decide +kernel
theorem dX5_historyAt_15 : decode cX5_historyAt 15 = .ok (.lconst 0, 1) := by decide +kernel
theorem dX5_historyAt_16 : decode cX5_historyAt 16 = .ok (.aload_n 0, 1) := by decide +kernel
theorem dX5_historyAt_17 : decode cX5_historyAt 17 = .ok (.getfield 25, 3) := by decide +kernel
theorem dX5_historyAt_20 : decode cX5_historyAt 20 = .ok (.iload_n 1, 1) := by decide +kernel
theorem dX5_historyAt_21 : decode cX5_historyAt 21 = .ok (.iaload, 1) := by decide +kernel
theorem dX5_historyAt_22 : decode cX5_historyAt 22 = .ok (.iconst 1, 1) := by decide +kernel
theorem dX5_historyAt_23 : decode cX5_historyAt 23 = .ok (.isub, 1) := by decide +kernel
theorem dX5_historyAt_24 : decode cX5_historyAt 24 = .ok (.i2l, 1) := by decide +kernel
theorem dX5_historyAt_25 : decode cX5_historyAt 25 = .ok (.invokestatic 67, 3) := by decide +kernel
theorem dX5_historyAt_28 : decode cX5_historyAt 28 = .ok (.ifCond .ne 7, 3) := by decide +kernel
theorem dX5_historyAt_31 : decode cX5_historyAt 31 = .ok (.iconst 2, 1) := by decide +kernel
theorem dX5_historyAt_32 : decode cX5_historyAt 32 = .ok (.goto 4, 3) := by decide +kernel
theorem dX5_historyAt_35 : decode cX5_historyAt 35 = .ok (.iconst 0, 1) := by decide +kernel
theorem dX5_historyAt_36 : decode cX5_historyAt 36 = .ok (.putfield 62, 3) := by decide +kernel
theorem dX5_historyAt_39 : decode cX5_historyAt 39 = .ok (.aload_n 0, 1) := by decide +kernel
theorem dX5_historyAt_40 : decode cX5_historyAt 40 = .ok (.getfield 62, 3) := by decide +kernel
theorem dX5_historyAt_43 : decode cX5_historyAt 43 = .ok (.ifCond .ne 14, 3) := by decide +kernel
theorem dX5_historyAt_46 : decode cX5_historyAt 46 = .ok (.aload_n 0, 1) := by decide +kernel
theorem dX5_historyAt_47 : decode cX5_historyAt 47 = .ok (.getfield 21, 3) := by decide +kernel
theorem dX5_historyAt_50 : decode cX5_historyAt 50 = .ok (.iload_n 1, 1) := by decide +kernel
theorem dX5_historyAt_51 : decode cX5_historyAt 51 = .ok (.aaload, 1) := by decide +kernel
theorem dX5_historyAt_52 : decode cX5_historyAt 52 = .ok (.iload_n 2, 1) := by decide +kernel
theorem dX5_historyAt_53 : decode cX5_historyAt 53 = .ok (.caload, 1) := by decide +kernel
theorem dX5_historyAt_54 : decode cX5_historyAt 54 = .ok (.goto 5, 3) := by decide +kernel
theorem dX5_historyAt_57 : decode cX5_historyAt 57 = .ok (.bipush 32, 2) := by decide +kernel
theorem dX5_historyAt_59 : decode cX5_historyAt 59 = .ok (.ireturn, 1) := by decide +kernel
theorem dX5_quality_0 : decode cX5_quality 0 = .ok (.aload_n 0, 1) := by decide +kernel
theorem dX5_quality_1 : decode cX5_quality 1 = .ok (.iload_n 1, 1) := by decide +kernel
theorem dX5_quality_2 : decode cX5_quality 2 = .ok (.invokevirtual 207, 3) := by decide +kernel
theorem dX5_quality_5 : decode cX5_quality 5 = .ok (.ifCond .ne 5, 3) := by decide +kernel
theorem dX5_quality_8 : decode cX5_quality 8 = .ok (.iconst (-1), 1) := by decide +kernel
theorem dX5_quality_9 : decode cX5_quality 9 = .ok (.ireturn, 1) := by decide +kernel
theorem dX5_quality_10 : decode cX5_quality 10 = .ok (.iconst 0, 1) := by decide +kernel
theorem dX5_quality_11 : decode cX5_quality 11 = .ok (.istore_n 2, 1) := by decide +kernel
theorem dX5_quality_12 : decode cX5_quality 12 = .ok (.iconst 0, 1) := by decide +kernel
theorem dX5_quality_13 : decode cX5_quality 13 = .ok (.aload_n 0, 1) := by decide +kernel
theorem dX5_quality_14 : decode cX5_quality 14 = .ok (.getfield 25, 3) := by decide +kernel
theorem dX5_quality_17 : decode cX5_quality 17 = .ok (.iload_n 1, 1) := by decide +kernel
theorem dX5_quality_18 : decode cX5_quality 18 = .ok (.iaload, 1) := by decide +kernel
theorem dX5_quality_19 : decode cX5_quality 19 = .ok (.bipush 8, 2) := by decide +kernel
theorem dX5_quality_21 : decode cX5_quality 21 = .ok (.isub, 1) := by decide +kernel
theorem dX5_quality_22 : decode cX5_quality 22 = .ok (.invokestatic 173, 3) := by decide +kernel
theorem dX5_quality_25 : decode cX5_quality 25 = .ok (.istore_n 3, 1) := by decide +kernel
theorem dX5_quality_26 : decode cX5_quality 26 = .ok (.iload_n 3, 1) := by decide +kernel
theorem dX5_quality_27 : decode cX5_quality 27 = .ok (.aload_n 0, 1) := by decide +kernel
theorem dX5_quality_28 : decode cX5_quality 28 = .ok (.getfield 25, 3) := by decide +kernel
theorem dX5_quality_31 : decode cX5_quality 31 = .ok (.iload_n 1, 1) := by decide +kernel
theorem dX5_quality_32 : decode cX5_quality 32 = .ok (.iaload, 1) := by decide +kernel
theorem dX5_quality_33 : decode cX5_quality 33 = .ok (.if_icmp .ge 43, 3) := by decide +kernel
theorem dX5_quality_36 : decode cX5_quality 36 = .ok (.iload_n 2, 1) := by decide +kernel
theorem dX5_quality_37 : decode cX5_quality 37 = .ok (.aload_n 0, 1) := by decide +kernel
theorem dX5_quality_38 : decode cX5_quality 38 = .ok (.getfield 21, 3) := by decide +kernel
theorem dX5_quality_41 : decode cX5_quality 41 = .ok (.iload_n 1, 1) := by decide +kernel
theorem dX5_quality_42 : decode cX5_quality 42 = .ok (.aaload, 1) := by decide +kernel
theorem dX5_quality_43 : decode cX5_quality 43 = .ok (.iload_n 3, 1) := by decide +kernel
theorem dX5_quality_44 : decode cX5_quality 44 = .ok (.caload, 1) := by decide +kernel
theorem dX5_quality_45 : decode cX5_quality 45 = .ok (.bipush 104, 2) := by decide +kernel
theorem dX5_quality_47 : decode cX5_quality 47 = .ok (.if_icmp .eq 16, 3) := by decide +kernel
theorem dX5_quality_50 : decode cX5_quality 50 = .ok (.aload_n 0, 1) := by decide +kernel
theorem dX5_quality_51 : decode cX5_quality 51 = .ok (.getfield 21, 3) := by decide +kernel
theorem dX5_quality_54 : decode cX5_quality 54 = .ok (.iload_n 1, 1) := by decide +kernel
theorem dX5_quality_55 : decode cX5_quality 55 = .ok (.aaload, 1) := by decide +kernel
theorem dX5_quality_56 : decode cX5_quality 56 = .ok (.iload_n 3, 1) := by decide +kernel
theorem dX5_quality_57 : decode cX5_quality 57 = .ok (.caload, 1) := by decide +kernel
theorem dX5_quality_58 : decode cX5_quality 58 = .ok (.bipush 110, 2) := by decide +kernel
theorem dX5_quality_60 : decode cX5_quality 60 = .ok (.if_icmp .ne 7, 3) := by decide +kernel
theorem dX5_quality_63 : decode cX5_quality 63 = .ok (.iconst 1, 1) := by decide +kernel
theorem dX5_quality_64 : decode cX5_quality 64 = .ok (.goto 4, 3) := by decide +kernel
theorem dX5_quality_67 : decode cX5_quality 67 = .ok (.iconst 0, 1) := by decide +kernel
theorem dX5_quality_68 : decode cX5_quality 68 = .ok (.iadd, 1) := by decide +kernel
theorem dX5_quality_69 : decode cX5_quality 69 = .ok (.istore_n 2, 1) := by decide +kernel
theorem dX5_quality_70 : decode cX5_quality 70 = .ok (.iinc 3 1, 3) := by decide +kernel
theorem dX5_quality_73 : decode cX5_quality 73 = .ok (.goto (-47), 3) := by decide +kernel
theorem dX5_quality_76 : decode cX5_quality 76 = .ok (.iload_n 2, 1) := by decide +kernel
theorem dX5_quality_77 : decode cX5_quality 77 = .ok (.ireturn, 1) := by decide +kernel
theorem dX5_count_0 : decode cX5_count 0 = .ok (.iconst 0, 1) := by decide +kernel
theorem dX5_count_1 : decode cX5_count 1 = .ok (.istore_n 2, 1) := by decide +kernel
theorem dX5_count_2 : decode cX5_count 2 = .ok (.iconst 0, 1) := by decide +kernel
theorem dX5_count_3 : decode cX5_count 3 = .ok (.istore_n 3, 1) := by decide +kernel
theorem dX5_count_4 : decode cX5_count 4 = .ok (.iload_n 3, 1) := by decide +kernel
theorem dX5_count_5 : decode cX5_count 5 = .ok (.aload_n 0, 1) := by decide +kernel
theorem dX5_count_6 : decode cX5_count 6 = .ok (.getfield 71, 3) := by decide +kernel
theorem dX5_count_9 : decode cX5_count 9 = .ok (.if_icmp .ge 50, 3) := by decide +kernel
theorem dX5_count_12 : decode cX5_count 12 = .ok (.iconst 0, 1) := by decide +kernel
theorem dX5_count_13 : decode cX5_count 13 = .ok (.istore 4, 2) := by decide +kernel
theorem dX5_count_15 : decode cX5_count 15 = .ok (.iload 4, 2) := by decide +kernel
theorem dX5_count_17 : decode cX5_count 17 = .ok (.aload_n 0, 1) := by decide +kernel
theorem dX5_count_18 : decode cX5_count 18 = .ok (.getfield 25, 3) := by decide +kernel
theorem dX5_count_21 : decode cX5_count 21 = .ok (.iload_n 3, 1) := by decide +kernel
theorem dX5_count_22 : decode cX5_count 22 = .ok (.iaload, 1) := by decide +kernel
theorem dX5_count_23 : decode cX5_count 23 = .ok (.if_icmp .ge 30, 3) := by decide +kernel
theorem dX5_count_26 : decode cX5_count 26 = .ok (.iload_n 2, 1) := by decide +kernel
theorem dX5_count_27 : decode cX5_count 27 = .ok (.aload_n 0, 1) := by decide +kernel
theorem dX5_count_28 : decode cX5_count 28 = .ok (.getfield 21, 3) := by decide +kernel
theorem dX5_count_31 : decode cX5_count 31 = .ok (.iload_n 3, 1) := by decide +kernel
theorem dX5_count_32 : decode cX5_count 32 = .ok (.aaload, 1) := by decide +kernel
theorem dX5_count_33 : decode cX5_count 33 = .ok (.iload 4, 2) := by decide +kernel
theorem dX5_count_35 : decode cX5_count 35 = .ok (.caload, 1) := by decide +kernel
theorem dX5_count_36 : decode cX5_count 36 = .ok (.iload_n 1, 1) := by decide +kernel
theorem dX5_count_37 : decode cX5_count 37 = .ok (.if_icmp .ne 7, 3) := by decide +kernel
theorem dX5_count_40 : decode cX5_count 40 = .ok (.iconst 1, 1) := by decide +kernel
theorem dX5_count_41 : decode cX5_count 41 = .ok (.goto 4, 3) := by decide +kernel
theorem dX5_count_44 : decode cX5_count 44 = .ok (.iconst 0, 1) := by decide +kernel
theorem dX5_count_45 : decode cX5_count 45 = .ok (.iadd, 1) := by decide +kernel
theorem dX5_count_46 : decode cX5_count 46 = .ok (.istore_n 2, 1) := by decide +kernel
theorem dX5_count_47 : decode cX5_count 47 = .ok (.iinc 4 1, 3) := by decide +kernel
theorem dX5_count_50 : decode cX5_count 50 = .ok (.goto (-35), 3) := by decide +kernel
theorem dX5_count_53 : decode cX5_count 53 = .ok (.iinc 3 1, 3) := by decide +kernel
theorem dX5_count_56 : decode cX5_count 56 = .ok (.goto (-52), 3) := by decide +kernel
theorem dX5_count_59 : decode cX5_count 59 = .ok (.iload_n 2, 1) := by decide +kernel
theorem dX5_count_60 : decode cX5_count 60 = .ok (.ireturn, 1) := by decide +kernel
theorem dX5_countOf_0 : decode cX5_countOf 0 = .ok (.iload_n 1, 1) := by decide +kernel
theorem dX5_countOf_1 : decode cX5_countOf 1 = .ok (.bipush 110, 2) := by decide +kernel
theorem dX5_countOf_3 : decode cX5_countOf 3 = .ok (.if_icmp .eq 33, 3) := by decide +kernel
theorem dX5_countOf_6 : decode cX5_countOf 6 = .ok (.iload_n 1, 1) := by decide +kernel
theorem dX5_countOf_7 : decode cX5_countOf 7 = .ok (.bipush 104, 2) := by decide +kernel
theorem dX5_countOf_9 : decode cX5_countOf 9 = .ok (.if_icmp .eq 27, 3) := by decide +kernel
theorem dX5_countOf_12 : decode cX5_countOf 12 = .ok (.iload_n 1, 1) := by decide +kernel
theorem dX5_countOf_13 : decode cX5_countOf 13 = .ok (.bipush 120, 2) := by decide +kernel
theorem dX5_countOf_15 : decode cX5_countOf 15 = .ok (.if_icmp .eq 21, 3) := by decide +kernel
theorem dX5_countOf_18 : decode cX5_countOf 18 = .ok (.iload_n 1, 1) := by decide +kernel
theorem dX5_countOf_19 : decode cX5_countOf 19 = .ok (.bipush 108, 2) := by decide +kernel
theorem dX5_countOf_21 : decode cX5_countOf 21 = .ok (.if_icmp .eq 15, 3) := by decide +kernel
theorem dX5_countOf_24 : decode cX5_countOf 24 = .ok (.iload_n 1, 1) := by decide +kernel
theorem dX5_countOf_25 : decode cX5_countOf 25 = .ok (.bipush 109, 2) := by decide +kernel
theorem dX5_countOf_27 : decode cX5_countOf 27 = .ok (.if_icmp .eq 9, 3) := by decide +kernel
theorem dX5_countOf_30 : decode cX5_countOf 30 = .ok (.iload_n 1, 1) := by decide +kernel
theorem dX5_countOf_31 : decode cX5_countOf 31 = .ok (.bipush 103, 2) := by decide +kernel
theorem dX5_countOf_33 : decode cX5_countOf 33 = .ok (.if_icmp .ne 7, 3) := by decide +kernel
theorem dX5_countOf_36 : decode cX5_countOf 36 = .ok (.iconst 1, 1) := by decide +kernel
theorem dX5_countOf_37 : decode cX5_countOf 37 = .ok (.goto 4, 3) := by decide +kernel
theorem dX5_countOf_40 : decode cX5_countOf 40 = .ok (.iconst 0, 1) := by decide +kernel
theorem dX5_countOf_41 : decode cX5_countOf 41 = .ok (.istore_n 2, 1) := by decide +kernel
theorem dX5_countOf_42 : decode cX5_countOf 42 = .ok (.aload_n 0, 1) := by decide +kernel
theorem dX5_countOf_43 : decode cX5_countOf 43 = .ok (.iload_n 2, 1) := by decide +kernel
theorem dX5_countOf_44 : decode cX5_countOf 44 = .ok (.ifCond .eq 7, 3) := by decide +kernel
theorem dX5_countOf_47 : decode cX5_countOf 47 = .ok (.iconst 0, 1) := by decide +kernel
theorem dX5_countOf_48 : decode cX5_countOf 48 = .ok (.goto 4, 3) := by decide +kernel
theorem dX5_countOf_51 : decode cX5_countOf 51 = .ok (.iconst 1, 1) := by decide +kernel
theorem dX5_countOf_52 : decode cX5_countOf 52 = .ok (.putfield 62, 3) := by decide +kernel
theorem dX5_countOf_55 : decode cX5_countOf 55 = .ok (.aload_n 0, 1) := by decide +kernel
theorem dX5_countOf_56 : decode cX5_countOf 56 = .ok (.getfield 62, 3) := by decide +kernel
theorem dX5_countOf_59 : decode cX5_countOf 59 = .ok (.ifCond .ne 11, 3) := by decide +kernel
theorem dX5_countOf_62 : decode cX5_countOf 62 = .ok (.aload_n 0, 1) := by decide +kernel
theorem dX5_countOf_63 : decode cX5_countOf 63 = .ok (.iload_n 1, 1) := by decide +kernel
theorem dX5_countOf_64 : decode cX5_countOf 64 = .ok (.invokevirtual 219, 3) := by decide +kernel
theorem dX5_countOf_67 : decode cX5_countOf 67 = .ok (.goto 4, 3) := by decide +kernel
theorem dX5_countOf_70 : decode cX5_countOf 70 = .ok (.iconst (-1), 1) := by decide +kernel
theorem dX5_countOf_71 : decode cX5_countOf 71 = .ok (.ireturn, 1) := by decide +kernel
theorem dX5_farness_0 : decode cX5_farness 0 = .ok (.ldc2_w 97, 3) := by decide +kernel
theorem dX5_farness_3 : decode cX5_farness 3 = .ok (.iload_n 3, 1) := by decide +kernel
theorem dX5_farness_4 : decode cX5_farness 4 = .ok (.i2l, 1) := by decide +kernel
theorem dX5_farness_5 : decode cX5_farness 5 = .ok (.lmul, 1) := by decide +kernel
theorem dX5_farness_6 : decode cX5_farness 6 = .ok (.aload_n 0, 1) := by decide +kernel
theorem dX5_farness_7 : decode cX5_farness 7 = .ok (.iload_n 1, 1) := by decide +kernel
theorem dX5_farness_8 : decode cX5_farness 8 = .ok (.iload_n 2, 1) := by decide +kernel
theorem dX5_farness_9 : decode cX5_farness 9 = .ok (.iconst 0, 1) := by decide +kernel
theorem dX5_farness_10 : decode cX5_farness 10 = .ok (.invokevirtual 114, 3) := by decide +kernel
theorem dX5_farness_13 : decode cX5_farness 13 = .ok (.lsub, 1) := by decide +kernel
theorem dX5_farness_14 : decode cX5_farness 14 = .ok (.lstore 5, 2) := by decide +kernel
theorem dX5_farness_16 : decode cX5_farness 16 = .ok (.ldc2_w 97, 3) := by decide +kernel
theorem dX5_farness_19 : decode cX5_farness 19 = .ok (.iload 4, 2) := by decide +kernel
theorem dX5_farness_21 : decode cX5_farness 21 = .ok (.i2l, 1) := by decide +kernel
theorem dX5_farness_22 : decode cX5_farness 22 = .ok (.lmul, 1) := by decide +kernel
theorem dX5_farness_23 : decode cX5_farness 23 = .ok (.aload_n 0, 1) := by decide +kernel
theorem dX5_farness_24 : decode cX5_farness 24 = .ok (.iload_n 1, 1) := by decide +kernel
theorem dX5_farness_25 : decode cX5_farness 25 = .ok (.iload_n 2, 1) := by decide +kernel
theorem dX5_farness_26 : decode cX5_farness 26 = .ok (.iconst 1, 1) := by decide +kernel
theorem dX5_farness_27 : decode cX5_farness 27 = .ok (.invokevirtual 114, 3) := by decide +kernel
theorem dX5_farness_30 : decode cX5_farness 30 = .ok (.lsub, 1) := by decide +kernel
theorem dX5_farness_31 : decode cX5_farness 31 = .ok (.lstore 7, 2) := by decide +kernel
theorem dX5_farness_33 : decode cX5_farness 33 = .ok (.lload 5, 2) := by decide +kernel
theorem dX5_farness_35 : decode cX5_farness 35 = .ok (.lload 5, 2) := by decide +kernel
theorem dX5_farness_37 : decode cX5_farness 37 = .ok (.lmul, 1) := by decide +kernel
theorem dX5_farness_38 : decode cX5_farness 38 = .ok (.lload 7, 2) := by decide +kernel
theorem dX5_farness_40 : decode cX5_farness 40 = .ok (.lload 7, 2) := by decide +kernel
theorem dX5_farness_42 : decode cX5_farness 42 = .ok (.lmul, 1) := by decide +kernel
theorem dX5_farness_43 : decode cX5_farness 43 = .ok (.ladd, 1) := by decide +kernel
theorem dX5_farness_44 : decode cX5_farness 44 = .ok (.lreturn, 1) := by decide +kernel
theorem dX5_nearest_0 : decode cX5_nearest 0 = .ok (.iconst (-1), 1) := by decide +kernel
theorem dX5_nearest_1 : decode cX5_nearest 1 = .ok (.istore 4, 2) := by decide +kernel
theorem dX5_nearest_3 : decode cX5_nearest 3 = .ok (.aload_n 0, 1) := by decide +kernel
theorem dX5_nearest_4 : decode cX5_nearest 4 = .ok (.getfield 71, 3) := by decide +kernel
theorem dX5_nearest_7 : decode cX5_nearest 7 = .ok (.iconst 1, 1) := by decide +kernel
theorem dX5_nearest_8 : decode cX5_nearest 8 = .ok (.isub, 1) := by decide +kernel
theorem dX5_nearest_9 : decode cX5_nearest 9 = .ok (.istore 5, 2) := by decide +kernel
theorem dX5_nearest_11 : decode cX5_nearest 11 = .ok (.iload 5, 2) := by decide +kernel
theorem dX5_nearest_13 : decode cX5_nearest 13 = .ok (.ifCond .lt 67, 3) := by decide +kernel
theorem dX5_nearest_16 : decode cX5_nearest 16 = .ok (.aload_n 0, 1) := by decide +kernel
theorem dX5_nearest_17 : decode cX5_nearest 17 = .ok (.iload 5, 2) := by decide +kernel
theorem dX5_nearest_19 : decode cX5_nearest 19 = .ok (.invokevirtual 123, 3) := by decide +kernel
theorem dX5_nearest_22 : decode cX5_nearest 22 = .ok (.ifCond .eq 35, 3) := by decide +kernel
theorem dX5_nearest_25 : decode cX5_nearest 25 = .ok (.iload 4, 2) := by decide +kernel
theorem dX5_nearest_27 : decode cX5_nearest 27 = .ok (.iconst (-1), 1) := by decide +kernel
theorem dX5_nearest_28 : decode cX5_nearest 28 = .ok (.if_icmp .eq 25, 3) := by decide +kernel
theorem dX5_nearest_31 : decode cX5_nearest 31 = .ok (.aload_n 0, 1) := by decide +kernel
theorem dX5_nearest_32 : decode cX5_nearest 32 = .ok (.iload 5, 2) := by decide +kernel
theorem dX5_nearest_34 : decode cX5_nearest 34 = .ok (.iload_n 1, 1) := by decide +kernel
theorem dX5_nearest_35 : decode cX5_nearest 35 = .ok (.iload_n 2, 1) := by decide +kernel
theorem dX5_nearest_36 : decode cX5_nearest 36 = .ok (.iload_n 3, 1) := by decide +kernel
theorem dX5_nearest_37 : decode cX5_nearest 37 = .ok (.invokevirtual 223, 3) := by decide +kernel
theorem dX5_nearest_40 : decode cX5_nearest 40 = .ok (.aload_n 0, 1) := by decide +kernel
theorem dX5_nearest_41 : decode cX5_nearest 41 = .ok (.iload 4, 2) := by decide +kernel
theorem dX5_nearest_43 : decode cX5_nearest 43 = .ok (.iload_n 1, 1) := by decide +kernel
theorem dX5_nearest_44 : decode cX5_nearest 44 = .ok (.iload_n 2, 1) := by decide +kernel
theorem dX5_nearest_45 : decode cX5_nearest 45 = .ok (.iload_n 3, 1) := by decide +kernel
theorem dX5_nearest_46 : decode cX5_nearest 46 = .ok (.invokevirtual 223, 3) := by decide +kernel
theorem dX5_nearest_49 : decode cX5_nearest 49 = .ok (.lcmp, 1) := by decide +kernel
theorem dX5_nearest_50 : decode cX5_nearest 50 = .ok (.ifCond .gt 7, 3) := by decide +kernel
theorem dX5_nearest_53 : decode cX5_nearest 53 = .ok (.iconst 1, 1) := by decide +kernel
theorem dX5_nearest_54 : decode cX5_nearest 54 = .ok (.goto 4, 3) := by decide +kernel
theorem dX5_nearest_57 : decode cX5_nearest 57 = .ok (.iconst 0, 1) := by decide +kernel
theorem dX5_nearest_58 : decode cX5_nearest 58 = .ok (.istore 6, 2) := by decide +kernel
theorem dX5_nearest_60 : decode cX5_nearest 60 = .ok (.iload 6, 2) := by decide +kernel
theorem dX5_nearest_62 : decode cX5_nearest 62 = .ok (.ifCond .eq 8, 3) := by decide +kernel
theorem dX5_nearest_65 : decode cX5_nearest 65 = .ok (.iload 5, 2) := by decide +kernel
theorem dX5_nearest_67 : decode cX5_nearest 67 = .ok (.goto 5, 3) := by decide +kernel
theorem dX5_nearest_70 : decode cX5_nearest 70 = .ok (.iload 4, 2) := by decide +kernel
theorem dX5_nearest_72 : decode cX5_nearest 72 = .ok (.istore 4, 2) := by decide +kernel
theorem dX5_nearest_74 : decode cX5_nearest 74 = .ok (.iinc 5 (-1), 3) := by decide +kernel
theorem dX5_nearest_77 : decode cX5_nearest 77 = .ok (.goto (-66), 3) := by decide +kernel
theorem dX5_nearest_80 : decode cX5_nearest 80 = .ok (.aload_n 0, 1) := by decide +kernel
theorem dX5_nearest_81 : decode cX5_nearest 81 = .ok (.iload_n 1, 1) := by decide +kernel
theorem dX5_nearest_82 : decode cX5_nearest 82 = .ok (.invokestatic 214, 3) := by decide +kernel
theorem dX5_nearest_85 : decode cX5_nearest 85 = .ok (.ifCond .eq 11, 3) := by decide +kernel
theorem dX5_nearest_88 : decode cX5_nearest 88 = .ok (.iload_n 2, 1) := by decide +kernel
theorem dX5_nearest_89 : decode cX5_nearest 89 = .ok (.iload_n 3, 1) := by decide +kernel
theorem dX5_nearest_90 : decode cX5_nearest 90 = .ok (.invokestatic 107, 3) := by decide +kernel
theorem dX5_nearest_93 : decode cX5_nearest 93 = .ok (.ifCond .ne 7, 3) := by decide +kernel
theorem dX5_nearest_96 : decode cX5_nearest 96 = .ok (.iconst 1, 1) := by decide +kernel
theorem dX5_nearest_97 : decode cX5_nearest 97 = .ok (.goto 14, 3) := by decide +kernel
theorem dX5_nearest_100 : decode cX5_nearest 100 = .ok (.iload 4, 2) := by decide +kernel
theorem dX5_nearest_102 : decode cX5_nearest 102 = .ok (.iconst (-1), 1) := by decide +kernel
theorem dX5_nearest_103 : decode cX5_nearest 103 = .ok (.if_icmp .ne 7, 3) := by decide +kernel
theorem dX5_nearest_106 : decode cX5_nearest 106 = .ok (.iconst 2, 1) := by decide +kernel
theorem dX5_nearest_107 : decode cX5_nearest 107 = .ok (.goto 4, 3) := by decide +kernel
theorem dX5_nearest_110 : decode cX5_nearest 110 = .ok (.iconst 0, 1) := by decide +kernel
theorem dX5_nearest_111 : decode cX5_nearest 111 = .ok (.putfield 62, 3) := by decide +kernel
theorem dX5_nearest_114 : decode cX5_nearest 114 = .ok (.aload_n 0, 1) := by decide +kernel
theorem dX5_nearest_115 : decode cX5_nearest 115 = .ok (.getfield 62, 3) := by decide +kernel
theorem dX5_nearest_118 : decode cX5_nearest 118 = .ok (.ifCond .ne 8, 3) := by decide +kernel
theorem dX5_nearest_121 : decode cX5_nearest 121 = .ok (.iload 4, 2) := by decide +kernel
theorem dX5_nearest_123 : decode cX5_nearest 123 = .ok (.goto 4, 3) := by decide +kernel
theorem dX5_nearest_126 : decode cX5_nearest 126 = .ok (.iconst (-1), 1) := by decide +kernel
theorem dX5_nearest_127 : decode cX5_nearest 127 = .ok (.ireturn, 1) := by decide +kernel
theorem dX5_dropped_0 : decode cX5_dropped 0 = .ok (.aload_n 0, 1) := by decide +kernel
theorem dX5_dropped_1 : decode cX5_dropped 1 = .ok (.iconst 0, 1) := by decide +kernel
theorem dX5_dropped_2 : decode cX5_dropped 2 = .ok (.putfield 62, 3) := by decide +kernel
theorem dX5_dropped_5 : decode cX5_dropped 5 = .ok (.aload_n 0, 1) := by decide +kernel
theorem dX5_dropped_6 : decode cX5_dropped 6 = .ok (.getfield 170, 3) := by decide +kernel
theorem dX5_dropped_9 : decode cX5_dropped 9 = .ok (.ireturn, 1) := by decide +kernel
theorem dX5_isBalanced_0 : decode cX5_isBalanced 0 = .ok (.aload_n 0, 1) := by decide +kernel
theorem dX5_isBalanced_1 : decode cX5_isBalanced 1 = .ok (.iconst 0, 1) := by decide +kernel
theorem dX5_isBalanced_2 : decode cX5_isBalanced 2 = .ok (.putfield 62, 3) := by decide +kernel
theorem dX5_isBalanced_5 : decode cX5_isBalanced 5 = .ok (.iconst 1, 1) := by decide +kernel
theorem dX5_isBalanced_6 : decode cX5_isBalanced 6 = .ok (.ireturn, 1) := by decide +kernel
theorem dX5_takenShare_0 : decode cX5_takenShare 0 = .ok (.aload_n 0, 1) := by decide +kernel
theorem dX5_takenShare_1 : decode cX5_takenShare 1 = .ok (.aload_n 0, 1) := by decide +kernel
theorem dX5_takenShare_2 : decode cX5_takenShare 2 = .ok (.getfield 196, 3) := by decide +kernel
theorem dX5_takenShare_5 : decode cX5_takenShare 5 = .ok (.ifCond .ne 7, 3) := by decide +kernel
theorem dX5_takenShare_8 : decode cX5_takenShare 8 = .ok (.iconst 1, 1) := by decide +kernel
theorem dX5_takenShare_9 : decode cX5_takenShare 9 = .ok (.goto 4, 3) := by decide +kernel
theorem dX5_takenShare_12 : decode cX5_takenShare 12 = .ok (.iconst 0, 1) := by decide +kernel
theorem dX5_takenShare_13 : decode cX5_takenShare 13 = .ok (.putfield 62, 3) := by decide +kernel
theorem dX5_takenShare_16 : decode cX5_takenShare 16 = .ok (.aload_n 0, 1) := by decide +kernel
theorem dX5_takenShare_17 : decode cX5_takenShare 17 = .ok (.getfield 62, 3) := by decide +kernel
theorem dX5_takenShare_20 : decode cX5_takenShare 20 = .ok (.ifCond .ne 19, 3) := by decide +kernel
theorem dX5_takenShare_23 : decode cX5_takenShare 23 = .ok (.aload_n 0, 1) := by decide +kernel
theorem dX5_takenShare_24 : decode cX5_takenShare 24 = .ok (.bipush 104, 2) := by decide +kernel
theorem dX5_takenShare_26 : decode cX5_takenShare 26 = .ok (.invokevirtual 219, 3) := by decide +kernel
theorem dX5_takenShare_29 : decode cX5_takenShare 29 = .ok (.i2f, 1) := by decide +kernel
theorem dX5_takenShare_30 : decode cX5_takenShare 30 = .ok (.aload_n 0, 1) := by decide +kernel
theorem dX5_takenShare_31 : decode cX5_takenShare 31 = .ok (.getfield 196, 3) := by decide +kernel
theorem dX5_takenShare_34 : decode cX5_takenShare 34 = .ok (.i2f, 1) := by decide +kernel
theorem dX5_takenShare_35 : decode cX5_takenShare 35 = .ok (.fdiv, 1) := by decide +kernel
theorem dX5_takenShare_36 : decode cX5_takenShare 36 = .ok (.goto 4, 3) := by decide +kernel
theorem dX5_takenShare_39 : decode cX5_takenShare 39 = .ok (.fconst 0, 1) := by decide +kernel
theorem dX5_takenShare_40 : decode cX5_takenShare 40 = .ok (.freturn, 1) := by decide +kernel
theorem dX5_meanHits_0 : decode cX5_meanHits 0 = .ok (.iconst 0, 1) := by decide +kernel
theorem dX5_meanHits_1 : decode cX5_meanHits 1 = .ok (.istore_n 1, 1) := by decide +kernel
theorem dX5_meanHits_2 : decode cX5_meanHits 2 = .ok (.iconst 0, 1) := by decide +kernel
theorem dX5_meanHits_3 : decode cX5_meanHits 3 = .ok (.istore_n 2, 1) := by decide +kernel
theorem dX5_meanHits_4 : decode cX5_meanHits 4 = .ok (.iload_n 2, 1) := by decide +kernel
theorem dX5_meanHits_5 : decode cX5_meanHits 5 = .ok (.aload_n 0, 1) := by decide +kernel
theorem dX5_meanHits_6 : decode cX5_meanHits 6 = .ok (.getfield 71, 3) := by decide +kernel
theorem dX5_meanHits_9 : decode cX5_meanHits 9 = .ok (.if_icmp .ge 30, 3) := by decide +kernel
theorem dX5_meanHits_12 : decode cX5_meanHits 12 = .ok (.iload_n 1, 1) := by decide +kernel
theorem dX5_meanHits_13 : decode cX5_meanHits 13 = .ok (.aload_n 0, 1) := by decide +kernel
theorem dX5_meanHits_14 : decode cX5_meanHits 14 = .ok (.iload_n 2, 1) := by decide +kernel
theorem dX5_meanHits_15 : decode cX5_meanHits 15 = .ok (.invokevirtual 123, 3) := by decide +kernel
theorem dX5_meanHits_18 : decode cX5_meanHits 18 = .ok (.ifCond .eq 12, 3) := by decide +kernel
theorem dX5_meanHits_21 : decode cX5_meanHits 21 = .ok (.aload_n 0, 1) := by decide +kernel
theorem dX5_meanHits_22 : decode cX5_meanHits 22 = .ok (.iload_n 2, 1) := by decide +kernel
theorem dX5_meanHits_23 : decode cX5_meanHits 23 = .ok (.iconst 5, 1) := by decide +kernel
theorem dX5_meanHits_24 : decode cX5_meanHits 24 = .ok (.invokevirtual 74, 3) := by decide +kernel
theorem dX5_meanHits_27 : decode cX5_meanHits 27 = .ok (.goto 4, 3) := by decide +kernel
theorem dX5_meanHits_30 : decode cX5_meanHits 30 = .ok (.iconst 0, 1) := by decide +kernel
theorem dX5_meanHits_31 : decode cX5_meanHits 31 = .ok (.iadd, 1) := by decide +kernel
theorem dX5_meanHits_32 : decode cX5_meanHits 32 = .ok (.istore_n 1, 1) := by decide +kernel
theorem dX5_meanHits_33 : decode cX5_meanHits 33 = .ok (.iinc 2 1, 3) := by decide +kernel
theorem dX5_meanHits_36 : decode cX5_meanHits 36 = .ok (.goto (-32), 3) := by decide +kernel
theorem dX5_meanHits_39 : decode cX5_meanHits 39 = .ok (.aload_n 0, 1) := by decide +kernel
theorem dX5_meanHits_40 : decode cX5_meanHits 40 = .ok (.aload_n 0, 1) := by decide +kernel
theorem dX5_meanHits_41 : decode cX5_meanHits 41 = .ok (.invokevirtual 166, 3) := by decide +kernel
theorem dX5_meanHits_44 : decode cX5_meanHits 44 = .ok (.ifCond .ne 7, 3) := by decide +kernel
theorem dX5_meanHits_47 : decode cX5_meanHits 47 = .ok (.iconst 1, 1) := by decide +kernel
theorem dX5_meanHits_48 : decode cX5_meanHits 48 = .ok (.goto 4, 3) := by decide +kernel
theorem dX5_meanHits_51 : decode cX5_meanHits 51 = .ok (.iconst 0, 1) := by decide +kernel
theorem dX5_meanHits_52 : decode cX5_meanHits 52 = .ok (.putfield 62, 3) := by decide +kernel
theorem dX5_meanHits_55 : decode cX5_meanHits 55 = .ok (.aload_n 0, 1) := by decide +kernel
theorem dX5_meanHits_56 : decode cX5_meanHits 56 = .ok (.getfield 62, 3) := by decide +kernel
theorem dX5_meanHits_59 : decode cX5_meanHits 59 = .ok (.ifCond .ne 14, 3) := by decide +kernel
theorem dX5_meanHits_62 : decode cX5_meanHits 62 = .ok (.iload_n 1, 1) := by decide +kernel
theorem dX5_meanHits_63 : decode cX5_meanHits 63 = .ok (.i2d, 1) := by decide +kernel
theorem dX5_meanHits_64 : decode cX5_meanHits 64 = .ok (.aload_n 0, 1) := by decide +kernel
theorem dX5_meanHits_65 : decode cX5_meanHits 65 = .ok (.invokevirtual 166, 3) := by decide +kernel
theorem dX5_meanHits_68 : decode cX5_meanHits 68 = .ok (.i2d, 1) := by decide +kernel
theorem dX5_meanHits_69 : decode cX5_meanHits 69 = .ok (.ddiv, 1) := by decide +kernel
theorem dX5_meanHits_70 : decode cX5_meanHits 70 = .ok (.goto 4, 3) := by decide +kernel
theorem dX5_meanHits_73 : decode cX5_meanHits 73 = .ok (.dconst 0, 1) := by decide +kernel
theorem dX5_meanHits_74 : decode cX5_meanHits 74 = .ok (.dreturn, 1) := by decide +kernel
