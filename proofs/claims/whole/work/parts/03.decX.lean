theorem dX0_init_0 : decode cX0_init 0 = .ok (.aload_n 0, 1) := by decide +kernel
theorem dX0_init_1 : decode cX0_init 1 = .ok (.invokespecial 1, 3) := by decide +kernel
theorem dX0_init_4 : decode cX0_init 4 = .ok (.return_, 1) := by decide +kernel
theorem dX0_fits_0 : decode cX0_fits 0 = .ok (.aload_n 0, 1) := by decide +kernel
theorem dX0_fits_1 : decode cX0_fits 1 = .ok (.getfield 7, 3) := by decide +kernel
theorem dX0_fits_4 : decode cX0_fits 4 = .ok (.ifCond .ne 5, 3) := by decide +kernel
theorem dX0_fits_7 : decode cX0_fits 7 = .ok (.iconst 1, 1) := by decide +kernel
theorem dX0_fits_8 : decode cX0_fits 8 = .ok (.ireturn, 1) := by decide +kernel
theorem dX0_fits_9 : decode cX0_fits 9 = .ok (.iload_n 1, 1) := by decide +kernel
theorem dX0_fits_10 : decode cX0_fits 10 = .ok (.aload_n 0, 1) := by decide +kernel
theorem dX0_fits_11 : decode cX0_fits 11 = .ok (.getfield 13, 3) := by decide +kernel
theorem dX0_fits_14 : decode cX0_fits 14 = .ok (.isub, 1) := by decide +kernel
theorem dX0_fits_15 : decode cX0_fits 15 = .ok (.istore_n 3, 1) := by decide +kernel
theorem dX0_fits_16 : decode cX0_fits 16 = .ok (.iload_n 2, 1) := by decide +kernel
theorem dX0_fits_17 : decode cX0_fits 17 = .ok (.aload_n 0, 1) := by decide +kernel
theorem dX0_fits_18 : decode cX0_fits 18 = .ok (.getfield 16, 3) := by decide +kernel
theorem dX0_fits_21 : decode cX0_fits 21 = .ok (.isub, 1) := by decide +kernel
theorem dX0_fits_22 : decode cX0_fits 22 = .ok (.istore 4, 2) := by decide +kernel
theorem dX0_fits_24 : decode cX0_fits 24 = .ok (.iload_n 3, 1) := by decide +kernel
theorem dX0_fits_25 : decode cX0_fits 25 = .ok (.ifCond .le 23, 3) := by decide +kernel
theorem dX0_fits_28 : decode cX0_fits 28 = .ok (.iconst 2, 1) := by decide +kernel
theorem dX0_fits_29 : decode cX0_fits 29 = .ok (.iload 4, 2) := by decide +kernel
theorem dX0_fits_31 : decode cX0_fits 31 = .ok (.imul, 1) := by decide +kernel
theorem dX0_fits_32 : decode cX0_fits 32 = .ok (.iload_n 3, 1) := by decide +kernel
theorem dX0_fits_33 : decode cX0_fits 33 = .ok (.if_icmp .lt 15, 3) := by decide +kernel
theorem dX0_fits_36 : decode cX0_fits 36 = .ok (.iload 4, 2) := by decide +kernel
theorem dX0_fits_38 : decode cX0_fits 38 = .ok (.iconst 2, 1) := by decide +kernel
theorem dX0_fits_39 : decode cX0_fits 39 = .ok (.iload_n 3, 1) := by decide +kernel
theorem dX0_fits_40 : decode cX0_fits 40 = .ok (.imul, 1) := by decide +kernel
theorem dX0_fits_41 : decode cX0_fits 41 = .ok (.if_icmp .gt 7, 3) := by decide +kernel
theorem dX0_fits_44 : decode cX0_fits 44 = .ok (.iconst 1, 1) := by decide +kernel
theorem dX0_fits_45 : decode cX0_fits 45 = .ok (.goto 4, 3) := by decide +kernel
theorem dX0_fits_48 : decode cX0_fits 48 = .ok (.iconst 0, 1) := by decide +kernel
theorem dX0_fits_49 : decode cX0_fits 49 = .ok (.ireturn, 1) := by decide +kernel
theorem dX0_add_0 : decode cX0_add 0 = .ok (.aload_n 0, 1) := by decide +kernel
theorem dX0_add_1 : decode cX0_add 1 = .ok (.aload_n 0, 1) := by decide +kernel
theorem dX0_add_2 : decode cX0_add 2 = .ok (.getfield 13, 3) := by decide +kernel
theorem dX0_add_5 : decode cX0_add 5 = .ok (.putfield 19, 3) := by decide +kernel
theorem dX0_add_8 : decode cX0_add 8 = .ok (.aload_n 0, 1) := by decide +kernel
theorem dX0_add_9 : decode cX0_add 9 = .ok (.aload_n 0, 1) := by decide +kernel
theorem dX0_add_10 : decode cX0_add 10 = .ok (.getfield 16, 3) := by decide +kernel
theorem dX0_add_13 : decode cX0_add 13 = .ok (.putfield 22, 3) := by decide +kernel
theorem dX0_add_16 : decode cX0_add 16 = .ok (.aload_n 0, 1) := by decide +kernel
theorem dX0_add_17 : decode cX0_add 17 = .ok (.iload_n 1, 1) := by decide +kernel
theorem dX0_add_18 : decode cX0_add 18 = .ok (.putfield 13, 3) := by decide +kernel
theorem dX0_add_21 : decode cX0_add 21 = .ok (.aload_n 0, 1) := by decide +kernel
theorem dX0_add_22 : decode cX0_add 22 = .ok (.iload_n 2, 1) := by decide +kernel
theorem dX0_add_23 : decode cX0_add 23 = .ok (.putfield 16, 3) := by decide +kernel
theorem dX0_add_26 : decode cX0_add 26 = .ok (.aload_n 0, 1) := by decide +kernel
theorem dX0_add_27 : decode cX0_add 27 = .ok (.aload_n 0, 1) := by decide +kernel
theorem dX0_add_28 : decode cX0_add 28 = .ok (.getfield 7, 3) := by decide +kernel
theorem dX0_add_31 : decode cX0_add 31 = .ok (.ifCond .ne 7, 3) := by decide +kernel
theorem dX0_add_34 : decode cX0_add 34 = .ok (.iconst 1, 1) := by decide +kernel
theorem dX0_add_35 : decode cX0_add 35 = .ok (.goto 4, 3) := by decide +kernel
theorem dX0_add_38 : decode cX0_add 38 = .ok (.iconst 2, 1) := by decide +kernel
theorem dX0_add_39 : decode cX0_add 39 = .ok (.putfield 7, 3) := by decide +kernel
theorem dX0_add_42 : decode cX0_add 42 = .ok (.return_, 1) := by decide +kernel
theorem dX0_putRight_0 : decode cX0_putRight 0 = .ok (.aload_n 0, 1) := by decide +kernel
theorem dX0_putRight_1 : decode cX0_putRight 1 = .ok (.getfield 7, 3) := by decide +kernel
theorem dX0_putRight_4 : decode cX0_putRight 4 = .ok (.ifCond .ne 5, 3) := by decide +kernel
theorem dX0_putRight_7 : decode cX0_putRight 7 = .ok (.iload_n 1, 1) := by decide +kernel
theorem dX0_putRight_8 : decode cX0_putRight 8 = .ok (.ireturn, 1) := by decide +kernel
theorem dX0_putRight_9 : decode cX0_putRight 9 = .ok (.iload_n 1, 1) := by decide +kernel
theorem dX0_putRight_10 : decode cX0_putRight 10 = .ok (.aload_n 0, 1) := by decide +kernel
theorem dX0_putRight_11 : decode cX0_putRight 11 = .ok (.getfield 13, 3) := by decide +kernel
theorem dX0_putRight_14 : decode cX0_putRight 14 = .ok (.isub, 1) := by decide +kernel
theorem dX0_putRight_15 : decode cX0_putRight 15 = .ok (.istore_n 2, 1) := by decide +kernel
theorem dX0_putRight_16 : decode cX0_putRight 16 = .ok (.aload_n 0, 1) := by decide +kernel
theorem dX0_putRight_17 : decode cX0_putRight 17 = .ok (.getfield 13, 3) := by decide +kernel
theorem dX0_putRight_20 : decode cX0_putRight 20 = .ok (.aload_n 0, 1) := by decide +kernel
theorem dX0_putRight_21 : decode cX0_putRight 21 = .ok (.getfield 19, 3) := by decide +kernel
theorem dX0_putRight_24 : decode cX0_putRight 24 = .ok (.isub, 1) := by decide +kernel
theorem dX0_putRight_25 : decode cX0_putRight 25 = .ok (.istore_n 3, 1) := by decide +kernel
theorem dX0_putRight_26 : decode cX0_putRight 26 = .ok (.aload_n 0, 1) := by decide +kernel
theorem dX0_putRight_27 : decode cX0_putRight 27 = .ok (.getfield 7, 3) := by decide +kernel
theorem dX0_putRight_30 : decode cX0_putRight 30 = .ok (.iconst 1, 1) := by decide +kernel
theorem dX0_putRight_31 : decode cX0_putRight 31 = .ok (.if_icmp .eq 7, 3) := by decide +kernel
theorem dX0_putRight_34 : decode cX0_putRight 34 = .ok (.iload_n 3, 1) := by decide +kernel
theorem dX0_putRight_35 : decode cX0_putRight 35 = .ok (.ifCond .gt 10, 3) := by decide +kernel
theorem dX0_putRight_38 : decode cX0_putRight 38 = .ok (.aload_n 0, 1) := by decide +kernel
theorem dX0_putRight_39 : decode cX0_putRight 39 = .ok (.getfield 16, 3) := by decide +kernel
theorem dX0_putRight_42 : decode cX0_putRight 42 = .ok (.iload_n 2, 1) := by decide +kernel
theorem dX0_putRight_43 : decode cX0_putRight 43 = .ok (.iadd, 1) := by decide +kernel
theorem dX0_putRight_44 : decode cX0_putRight 44 = .ok (.ireturn, 1) := by decide +kernel
theorem dX0_putRight_45 : decode cX0_putRight 45 = .ok (.aload_n 0, 1) := by decide +kernel
theorem dX0_putRight_46 : decode cX0_putRight 46 = .ok (.getfield 16, 3) := by decide +kernel
theorem dX0_putRight_49 : decode cX0_putRight 49 = .ok (.iload_n 2, 1) := by decide +kernel
theorem dX0_putRight_50 : decode cX0_putRight 50 = .ok (.aload_n 0, 1) := by decide +kernel
theorem dX0_putRight_51 : decode cX0_putRight 51 = .ok (.getfield 16, 3) := by decide +kernel
theorem dX0_putRight_54 : decode cX0_putRight 54 = .ok (.aload_n 0, 1) := by decide +kernel
theorem dX0_putRight_55 : decode cX0_putRight 55 = .ok (.getfield 22, 3) := by decide +kernel
theorem dX0_putRight_58 : decode cX0_putRight 58 = .ok (.isub, 1) := by decide +kernel
theorem dX0_putRight_59 : decode cX0_putRight 59 = .ok (.imul, 1) := by decide +kernel
theorem dX0_putRight_60 : decode cX0_putRight 60 = .ok (.iload_n 3, 1) := by decide +kernel
theorem dX0_putRight_61 : decode cX0_putRight 61 = .ok (.invokestatic 25, 3) := by decide +kernel
theorem dX0_putRight_64 : decode cX0_putRight 64 = .ok (.iadd, 1) := by decide +kernel
theorem dX0_putRight_65 : decode cX0_putRight 65 = .ok (.ireturn, 1) := by decide +kernel
theorem dX1_init_0 : decode cX1_init 0 = .ok (.aload_n 0, 1) := by decide +kernel
theorem dX1_init_1 : decode cX1_init 1 = .ok (.invokespecial 3, 3) := by decide +kernel
theorem dX1_init_4 : decode cX1_init 4 = .ok (.aload_n 0, 1) := by decide +kernel
theorem dX1_init_5 : decode cX1_init 5 = .ok (.bipush 6, 2) := by decide +kernel
theorem dX1_init_7 : decode cX1_init 7 = .ok (.anewarray 9, 3) := by decide +kernel
theorem dX1_init_10 : decode cX1_init 10 = .ok (.putfield 11, 3) := by decide +kernel
theorem dX1_init_13 : decode cX1_init 13 = .ok (.aload_n 0, 1) := by decide +kernel
theorem dX1_init_14 : decode cX1_init 14 = .ok (.iconst 4, 1) := by decide +kernel
theorem dX1_init_15 : decode cX1_init 15 = .ok (.bipush 6, 2) := by decide +kernel
theorem dX1_init_17 : decode cX1_init 17 = .ok (.multianewarray 17 2, 4) := by decide +kernel
theorem dX1_init_21 : decode cX1_init 21 = .ok (.putfield 19, 3) := by decide +kernel
theorem dX1_init_24 : decode cX1_init 24 = .ok (.aload_n 0, 1) := by decide +kernel
theorem dX1_init_25 : decode cX1_init 25 = .ok (.iconst 4, 1) := by decide +kernel
theorem dX1_init_26 : decode cX1_init 26 = .ok (.newarray .int, 2) := by decide +kernel
theorem dX1_init_28 : decode cX1_init 28 = .ok (.putfield 22, 3) := by decide +kernel
theorem dX1_init_31 : decode cX1_init 31 = .ok (.aload_n 0, 1) := by decide +kernel
theorem dX1_init_32 : decode cX1_init 32 = .ok (.iconst 4, 1) := by decide +kernel
theorem dX1_init_33 : decode cX1_init 33 = .ok (.newarray .int, 2) := by decide +kernel
theorem dX1_init_35 : decode cX1_init 35 = .ok (.putfield 26, 3) := by decide +kernel
theorem dX1_init_38 : decode cX1_init 38 = .ok (.return_, 1) := by decide +kernel
theorem dX1_clear_0 : decode cX1_clear 0 = .ok (.aload_n 0, 1) := by decide +kernel
theorem dX1_clear_1 : decode cX1_clear 1 = .ok (.iconst 0, 1) := by decide +kernel
theorem dX1_clear_2 : decode cX1_clear 2 = .ok (.putfield 29, 3) := by decide +kernel
theorem dX1_clear_5 : decode cX1_clear 5 = .ok (.aload_n 0, 1) := by decide +kernel
theorem dX1_clear_6 : decode cX1_clear 6 = .ok (.iconst 0, 1) := by decide +kernel
theorem dX1_clear_7 : decode cX1_clear 7 = .ok (.putfield 33, 3) := by decide +kernel
theorem dX1_clear_10 : decode cX1_clear 10 = .ok (.aload_n 0, 1) := by decide +kernel
theorem dX1_clear_11 : decode cX1_clear 11 = .ok (.lload_n 1, 1) := by decide +kernel
theorem dX1_clear_12 : decode cX1_clear 12 = .ok (.putfield 36, 3) := by decide +kernel
theorem dX1_clear_15 : decode cX1_clear 15 = .ok (.return_, 1) := by decide +kernel
theorem dX1_addTrack_0 : decode cX1_addTrack 0 = .ok (.aload_n 0, 1) := by decide +kernel
theorem dX1_addTrack_1 : decode cX1_addTrack 1 = .ok (.getfield 33, 3) := by decide +kernel
theorem dX1_addTrack_4 : decode cX1_addTrack 4 = .ok (.ifCond .lt 35, 3) := by decide +kernel
theorem dX1_addTrack_7 : decode cX1_addTrack 7 = .ok (.aload_n 0, 1) := by decide +kernel
theorem dX1_addTrack_8 : decode cX1_addTrack 8 = .ok (.getfield 33, 3) := by decide +kernel
theorem dX1_addTrack_11 : decode cX1_addTrack 11 = .ok (.aload_n 0, 1) := by decide +kernel
theorem dX1_addTrack_12 : decode cX1_addTrack 12 = .ok (.getfield 11, 3) := by decide +kernel
theorem dX1_addTrack_15 : decode cX1_addTrack 15 = .ok (.arraylength, 1) := by decide +kernel
theorem dX1_addTrack_16 : decode cX1_addTrack 16 = .ok (.if_icmp .ge 23, 3) := by decide +kernel
theorem dX1_addTrack_19 : decode cX1_addTrack 19 = .ok (.aload_n 0, 1) := by decide +kernel
theorem dX1_addTrack_20 : decode cX1_addTrack 20 = .ok (.getfield 11, 3) := by decide +kernel
theorem dX1_addTrack_23 : decode cX1_addTrack 23 = .ok (.aload_n 0, 1) := by decide +kernel
theorem dX1_addTrack_24 : decode cX1_addTrack 24 = .ok (.getfield 33, 3) := by decide +kernel
theorem dX1_addTrack_27 : decode cX1_addTrack 27 = .ok (.aload_n 1, 1) := by decide +kernel
theorem dX1_addTrack_28 : decode cX1_addTrack 28 = .ok (.aastore, 1) := by decide +kernel
theorem dX1_addTrack_29 : decode cX1_addTrack 29 = .ok (.aload_n 0, 1) := by decide +kernel
theorem dX1_addTrack_30 : decode cX1_addTrack 30 = .ok (.dup, 1) := by decide +kernel
theorem dX1_addTrack_31 : decode cX1_addTrack 31 = .ok (.getfield 33, 3) := by decide +kernel
theorem dX1_addTrack_34 : decode cX1_addTrack 34 = .ok (.iconst 1, 1) := by decide +kernel
theorem dX1_addTrack_35 : decode cX1_addTrack 35 = .ok (.iadd, 1) := by decide +kernel
theorem dX1_addTrack_36 : decode cX1_addTrack 36 = .ok (.putfield 33, 3) := by decide +kernel
theorem dX1_addTrack_39 : decode cX1_addTrack 39 = .ok (.return_, 1) := by decide +kernel
theorem dX1_addReport_0 : decode cX1_addReport 0 = .ok (.aload_n 0, 1) := by decide +kernel
theorem dX1_addReport_1 : decode cX1_addReport 1 = .ok (.getfield 29, 3) := by decide +kernel
theorem dX1_addReport_4 : decode cX1_addReport 4 = .ok (.iconst 4, 1) := by decide +kernel
theorem dX1_addReport_5 : decode cX1_addReport 5 = .ok (.if_icmp .ge 13, 3) := by decide +kernel
theorem dX1_addReport_8 : decode cX1_addReport 8 = .ok (.aload_n 0, 1) := by decide +kernel
theorem dX1_addReport_9 : decode cX1_addReport 9 = .ok (.dup, 1) := by decide +kernel
theorem dX1_addReport_10 : decode cX1_addReport 10 = .ok (.getfield 29, 3) := by decide +kernel
theorem dX1_addReport_13 : decode cX1_addReport 13 = .ok (.iconst 1, 1) := by decide +kernel
theorem dX1_addReport_14 : decode cX1_addReport 14 = .ok (.iadd, 1) := by decide +kernel
theorem dX1_addReport_15 : decode cX1_addReport 15 = .ok (.putfield 29, 3) := by decide +kernel
theorem dX1_addReport_18 : decode cX1_addReport 18 = .ok (.return_, 1) := by decide +kernel
theorem dX1_putCost_0 : decode cX1_putCost 0 = .ok (.iload_n 1, 1) := by decide +kernel
theorem dX1_putCost_1 : decode cX1_putCost 1 = .ok (.ifCond .lt 27, 3) := by decide +kernel
theorem dX1_putCost_4 : decode cX1_putCost 4 = .ok (.iload_n 1, 1) := by decide +kernel
theorem dX1_putCost_5 : decode cX1_putCost 5 = .ok (.iconst 4, 1) := by decide +kernel
theorem dX1_putCost_6 : decode cX1_putCost 6 = .ok (.if_icmp .ge 22, 3) := by decide +kernel
theorem dX1_putCost_9 : decode cX1_putCost 9 = .ok (.iload_n 2, 1) := by decide +kernel
theorem dX1_putCost_10 : decode cX1_putCost 10 = .ok (.ifCond .lt 18, 3) := by decide +kernel
theorem dX1_putCost_13 : decode cX1_putCost 13 = .ok (.iload_n 2, 1) := by decide +kernel
theorem dX1_putCost_14 : decode cX1_putCost 14 = .ok (.bipush 6, 2) := by decide +kernel
theorem dX1_putCost_16 : decode cX1_putCost 16 = .ok (.if_icmp .ge 12, 3) := by decide +kernel
theorem dX1_putCost_19 : decode cX1_putCost 19 = .ok (.aload_n 0, 1) := by decide +kernel
theorem dX1_putCost_20 : decode cX1_putCost 20 = .ok (.getfield 19, 3) := by decide +kernel
theorem dX1_putCost_23 : decode cX1_putCost 23 = .ok (.iload_n 1, 1) := by decide +kernel
theorem dX1_putCost_24 : decode cX1_putCost 24 = .ok (.aaload, 1) := by decide +kernel
theorem dX1_putCost_25 : decode cX1_putCost 25 = .ok (.iload_n 2, 1) := by decide +kernel
theorem dX1_putCost_26 : decode cX1_putCost 26 = .ok (.lload_n 3, 1) := by decide +kernel
theorem dX1_putCost_27 : decode cX1_putCost 27 = .ok (.lastore, 1) := by decide +kernel
theorem dX1_putCost_28 : decode cX1_putCost 28 = .ok (.return_, 1) := by decide +kernel
theorem dX1_trackAt_0 : decode cX1_trackAt 0 = .ok (.iload_n 1, 1) := by decide +kernel
theorem dX1_trackAt_1 : decode cX1_trackAt 1 = .ok (.ifCond .lt 20, 3) := by decide +kernel
theorem dX1_trackAt_4 : decode cX1_trackAt 4 = .ok (.iload_n 1, 1) := by decide +kernel
theorem dX1_trackAt_5 : decode cX1_trackAt 5 = .ok (.aload_n 0, 1) := by decide +kernel
theorem dX1_trackAt_6 : decode cX1_trackAt 6 = .ok (.getfield 33, 3) := by decide +kernel
theorem dX1_trackAt_9 : decode cX1_trackAt 9 = .ok (.if_icmp .ge 12, 3) := by decide +kernel
theorem dX1_trackAt_12 : decode cX1_trackAt 12 = .ok (.iload_n 1, 1) := by decide +kernel
theorem dX1_trackAt_13 : decode cX1_trackAt 13 = .ok (.aload_n 0, 1) := by decide +kernel
theorem dX1_trackAt_14 : decode cX1_trackAt 14 = .ok (.getfield 11, 3) := by decide +kernel
theorem dX1_trackAt_17 : decode cX1_trackAt 17 = .ok (.arraylength, 1) := by decide +kernel
theorem dX1_trackAt_18 : decode cX1_trackAt 18 = .ok (.if_icmp .lt 7, 3) := by decide +kernel
theorem dX1_trackAt_21 : decode cX1_trackAt 21 = .ok (.aconst_null, 1) := by decide +kernel
theorem dX1_trackAt_22 : decode cX1_trackAt 22 = .ok (.goto 9, 3) := by decide +kernel
theorem dX1_trackAt_25 : decode cX1_trackAt 25 = .ok (.aload_n 0, 1) := by decide +kernel
theorem dX1_trackAt_26 : decode cX1_trackAt 26 = .ok (.getfield 11, 3) := by decide +kernel
theorem dX1_trackAt_29 : decode cX1_trackAt 29 = .ok (.iload_n 1, 1) := by decide +kernel
theorem dX1_trackAt_30 : decode cX1_trackAt 30 = .ok (.aaload, 1) := by decide +kernel
theorem dX1_trackAt_31 : decode cX1_trackAt 31 = .ok (.areturn, 1) := by decide +kernel
theorem dX1_keepChoice_0 : decode cX1_keepChoice 0 = .ok (.aload_n 0, 1) := by decide +kernel
theorem dX1_keepChoice_1 : decode cX1_keepChoice 1 = .ok (.lload_n 1, 1) := by decide +kernel
theorem dX1_keepChoice_2 : decode cX1_keepChoice 2 = .ok (.putfield 40, 3) := by decide +kernel
theorem dX1_keepChoice_5 : decode cX1_keepChoice 5 = .ok (.aload_n 0, 1) := by decide +kernel
theorem dX1_keepChoice_6 : decode cX1_keepChoice 6 = .ok (.getfield 22, 3) := by decide +kernel
theorem dX1_keepChoice_9 : decode cX1_keepChoice 9 = .ok (.iconst 0, 1) := by decide +kernel
theorem dX1_keepChoice_10 : decode cX1_keepChoice 10 = .ok (.aload_n 0, 1) := by decide +kernel
theorem dX1_keepChoice_11 : decode cX1_keepChoice 11 = .ok (.getfield 26, 3) := by decide +kernel
theorem dX1_keepChoice_14 : decode cX1_keepChoice 14 = .ok (.iconst 0, 1) := by decide +kernel
theorem dX1_keepChoice_15 : decode cX1_keepChoice 15 = .ok (.iconst 4, 1) := by decide +kernel
theorem dX1_keepChoice_16 : decode cX1_keepChoice 16 = .ok (.invokestatic 43, 3) := by decide +kernel
theorem dX1_keepChoice_19 : decode cX1_keepChoice 19 = .ok (.return_, 1) := by decide +kernel
theorem dX1_takerOf_0 : decode cX1_takerOf 0 = .ok (.iload_n 1, 1) := by decide +kernel
theorem dX1_takerOf_1 : decode cX1_takerOf 1 = .ok (.ifCond .lt 20, 3) := by decide +kernel
theorem dX1_takerOf_4 : decode cX1_takerOf 4 = .ok (.iload_n 1, 1) := by decide +kernel
theorem dX1_takerOf_5 : decode cX1_takerOf 5 = .ok (.aload_n 0, 1) := by decide +kernel
theorem dX1_takerOf_6 : decode cX1_takerOf 6 = .ok (.getfield 29, 3) := by decide +kernel
theorem dX1_takerOf_9 : decode cX1_takerOf 9 = .ok (.if_icmp .ge 12, 3) := by decide +kernel
theorem dX1_takerOf_12 : decode cX1_takerOf 12 = .ok (.iload_n 1, 1) := by decide +kernel
theorem dX1_takerOf_13 : decode cX1_takerOf 13 = .ok (.aload_n 0, 1) := by decide +kernel
theorem dX1_takerOf_14 : decode cX1_takerOf 14 = .ok (.getfield 26, 3) := by decide +kernel
theorem dX1_takerOf_17 : decode cX1_takerOf 17 = .ok (.arraylength, 1) := by decide +kernel
theorem dX1_takerOf_18 : decode cX1_takerOf 18 = .ok (.if_icmp .lt 5, 3) := by decide +kernel
theorem dX1_takerOf_21 : decode cX1_takerOf 21 = .ok (.aconst_null, 1) := by decide +kernel
theorem dX1_takerOf_22 : decode cX1_takerOf 22 = .ok (.areturn, 1) := by decide +kernel
theorem dX1_takerOf_23 : decode cX1_takerOf 23 = .ok (.aload_n 0, 1) := by decide +kernel
theorem dX1_takerOf_24 : decode cX1_takerOf 24 = .ok (.aload_n 0, 1) := by decide +kernel
theorem dX1_takerOf_25 : decode cX1_takerOf 25 = .ok (.getfield 26, 3) := by decide +kernel
theorem dX1_takerOf_28 : decode cX1_takerOf 28 = .ok (.iload_n 1, 1) := by decide +kernel
theorem dX1_takerOf_29 : decode cX1_takerOf 29 = .ok (.iaload, 1) := by decide +kernel
theorem dX1_takerOf_30 : decode cX1_takerOf 30 = .ok (.invokevirtual 49, 3) := by decide +kernel
theorem dX1_takerOf_33 : decode cX1_takerOf 33 = .ok (.areturn, 1) := by decide +kernel
theorem dX1_hasReportFor_0 : decode cX1_hasReportFor 0 = .ok (.iconst 0, 1) := by decide +kernel
theorem dX1_hasReportFor_1 : decode cX1_hasReportFor 1 = .ok (.istore_n 2, 1) := by decide +kernel
theorem dX1_hasReportFor_2 : decode cX1_hasReportFor 2 = .ok (.iload_n 2, 1) := by decide +kernel
theorem dX1_hasReportFor_3 : decode cX1_hasReportFor 3 = .ok (.aload_n 0, 1) := by decide +kernel
theorem dX1_hasReportFor_4 : decode cX1_hasReportFor 4 = .ok (.getfield 29, 3) := by decide +kernel
theorem dX1_hasReportFor_7 : decode cX1_hasReportFor 7 = .ok (.if_icmp .ge 30, 3) := by decide +kernel
theorem dX1_hasReportFor_10 : decode cX1_hasReportFor 10 = .ok (.iload_n 2, 1) := by decide +kernel
theorem dX1_hasReportFor_11 : decode cX1_hasReportFor 11 = .ok (.aload_n 0, 1) := by decide +kernel
theorem dX1_hasReportFor_12 : decode cX1_hasReportFor 12 = .ok (.getfield 26, 3) := by decide +kernel
theorem dX1_hasReportFor_15 : decode cX1_hasReportFor 15 = .ok (.arraylength, 1) := by decide +kernel
theorem dX1_hasReportFor_16 : decode cX1_hasReportFor 16 = .ok (.if_icmp .ge 21, 3) := by decide +kernel
theorem dX1_hasReportFor_19 : decode cX1_hasReportFor 19 = .ok (.aload_n 0, 1) := by decide +kernel
theorem dX1_hasReportFor_20 : decode cX1_hasReportFor 20 = .ok (.getfield 26, 3) := by decide +kernel
theorem dX1_hasReportFor_23 : decode cX1_hasReportFor 23 = .ok (.iload_n 2, 1) := by decide +kernel
theorem dX1_hasReportFor_24 : decode cX1_hasReportFor 24 = .ok (.iaload, 1) := by decide +kernel
theorem dX1_hasReportFor_25 : decode cX1_hasReportFor 25 = .ok (.iload_n 1, 1) := by decide +kernel
theorem dX1_hasReportFor_26 : decode cX1_hasReportFor 26 = .ok (.if_icmp .ne 5, 3) := by decide +kernel
theorem dX1_hasReportFor_29 : decode cX1_hasReportFor 29 = .ok (.iconst 1, 1) := by decide +kernel
theorem dX1_hasReportFor_30 : decode cX1_hasReportFor 30 = .ok (.ireturn, 1) := by decide +kernel
theorem dX1_hasReportFor_31 : decode cX1_hasReportFor 31 = .ok (.iinc 2 1, 3) := by decide +kernel
theorem dX1_hasReportFor_34 : decode cX1_hasReportFor 34 = .ok (.goto (-32), 3) := by decide +kernel
theorem dX1_hasReportFor_37 : decode cX1_hasReportFor 37 = .ok (.iconst 0, 1) := by decide +kernel
theorem dX1_hasReportFor_38 : decode cX1_hasReportFor 38 = .ok (.ireturn, 1) := by decide +kernel
theorem dX2_init_0 : decode cX2_init 0 = .ok (.aload_n 0, 1) := by decide +kernel
theorem dX2_init_1 : decode cX2_init 1 = .ok (.invokespecial 1, 3) := by decide +kernel
theorem dX2_init_4 : decode cX2_init 4 = .ok (.return_, 1) := by decide +kernel
theorem dX2_fill_0 : decode cX2_fill 0 = .ok (.aload_n 0, 1) := by decide +kernel
theorem dX2_fill_1 : decode cX2_fill 1 = .ok (.iload_n 1, 1) := by decide +kernel
theorem dX2_fill_2 : decode cX2_fill 2 = .ok (.putfield 7, 3) := by decide +kernel
theorem dX2_fill_5 : decode cX2_fill 5 = .ok (.aload_n 0, 1) := by decide +kernel
theorem dX2_fill_6 : decode cX2_fill 6 = .ok (.iload_n 2, 1) := by decide +kernel
theorem dX2_fill_7 : decode cX2_fill 7 = .ok (.putfield 13, 3) := by decide +kernel
theorem dX2_fill_10 : decode cX2_fill 10 = .ok (.aload_n 0, 1) := by decide +kernel
theorem dX2_fill_11 : decode cX2_fill 11 = .ok (.iload_n 3, 1) := by decide +kernel
theorem dX2_fill_12 : decode cX2_fill 12 = .ok (.putfield 16, 3) := by decide +kernel
theorem dX2_fill_15 : decode cX2_fill 15 = .ok (.return_, 1) := by decide +kernel
theorem dX3_init_0 : decode cX3_init 0 = .ok (.aload_n 0, 1) := by decide +kernel
theorem dX3_init_1 : decode cX3_init 1 = .ok (.invokespecial 3, 3) := by decide +kernel
theorem dX3_init_4 : decode cX3_init 4 = .ok (.aload_n 0, 1) := by decide +kernel
theorem dX3_init_5 : decode cX3_init 5 = .ok (.iconst 1, 1) := by decide +kernel
theorem dX3_init_6 : decode cX3_init 6 = .ok (.putfield 9, 3) := by decide +kernel
theorem dX3_init_9 : decode cX3_init 9 = .ok (.aload_n 0, 1) := by decide +kernel
theorem dX3_init_10 : decode cX3_init 10 = .ok (.iconst 1, 1) := by decide +kernel
theorem dX3_init_11 : decode cX3_init 11 = .ok (.putfield 15, 3) := by decide +kernel
theorem dX3_init_14 : decode cX3_init 14 = .ok (.aload_n 0, 1) := by decide +kernel
theorem dX3_init_15 : decode cX3_init 15 = .ok (.iconst (-1), 1) := by decide +kernel
theorem dX3_init_16 : decode cX3_init 16 = .ok (.putfield 19, 3) := by decide +kernel
theorem dX3_init_19 : decode cX3_init 19 = .ok (.aload_n 0, 1) := by decide +kernel
theorem dX3_init_20 : decode cX3_init 20 = .ok (.sipush 512, 3) := by decide +kernel
theorem dX3_init_23 : decode cX3_init 23 = .ok (.newarray .char, 2) := by decide +kernel
theorem dX3_init_25 : decode cX3_init 25 = .ok (.putfield 22, 3) := by decide +kernel
theorem dX3_init_28 : decode cX3_init 28 = .ok (.aload_n 0, 1) := by decide +kernel
theorem dX3_init_29 : decode cX3_init 29 = .ok (.iload_n 1, 1) := by decide +kernel
theorem dX3_init_30 : decode cX3_init 30 = .ok (.putfield 26, 3) := by decide +kernel
theorem dX3_init_33 : decode cX3_init 33 = .ok (.aload_n 0, 1) := by decide +kernel
theorem dX3_init_34 : decode cX3_init 34 = .ok (.aload_n 2, 1) := by decide +kernel
theorem dX3_init_35 : decode cX3_init 35 = .ok (.getfield 29, 3) := by decide +kernel
theorem dX3_init_38 : decode cX3_init 38 = .ok (.putfield 34, 3) := by decide +kernel
theorem dX3_init_41 : decode cX3_init 41 = .ok (.aload_n 0, 1) := by decide +kernel
theorem dX3_init_42 : decode cX3_init 42 = .ok (.bipush 16, 2) := by decide +kernel
theorem dX3_init_44 : decode cX3_init 44 = .ok (.aload_n 2, 1) := by decide +kernel
theorem dX3_init_45 : decode cX3_init 45 = .ok (.getfield 35, 3) := by decide +kernel
theorem dX3_init_48 : decode cX3_init 48 = .ok (.imul, 1) := by decide +kernel
theorem dX3_init_49 : decode cX3_init 49 = .ok (.putfield 38, 3) := by decide +kernel
theorem dX3_init_52 : decode cX3_init 52 = .ok (.aload_n 0, 1) := by decide +kernel
theorem dX3_init_53 : decode cX3_init 53 = .ok (.bipush 16, 2) := by decide +kernel
theorem dX3_init_55 : decode cX3_init 55 = .ok (.aload_n 2, 1) := by decide +kernel
theorem dX3_init_56 : decode cX3_init 56 = .ok (.getfield 39, 3) := by decide +kernel
theorem dX3_init_59 : decode cX3_init 59 = .ok (.imul, 1) := by decide +kernel
theorem dX3_init_60 : decode cX3_init 60 = .ok (.putfield 42, 3) := by decide +kernel
theorem dX3_init_63 : decode cX3_init 63 = .ok (.aload_n 0, 1) := by decide +kernel
theorem dX3_init_64 : decode cX3_init 64 = .ok (.getfield 22, 3) := by decide +kernel
theorem dX3_init_67 : decode cX3_init 67 = .ok (.iconst 0, 1) := by decide +kernel
theorem dX3_init_68 : decode cX3_init 68 = .ok (.bipush 110, 2) := by decide +kernel
theorem dX3_init_70 : decode cX3_init 70 = .ok (.castore, 1) := by decide +kernel
theorem dX3_init_71 : decode cX3_init 71 = .ok (.aload_n 0, 1) := by decide +kernel
theorem dX3_init_72 : decode cX3_init 72 = .ok (.iconst 1, 1) := by decide +kernel
theorem dX3_init_73 : decode cX3_init 73 = .ok (.putfield 43, 3) := by decide +kernel
theorem dX3_init_76 : decode cX3_init 76 = .ok (.return_, 1) := by decide +kernel
theorem dX3_xAt_0 : decode cX3_xAt 0 = .ok (.aload_n 0, 1) := by decide +kernel
theorem dX3_xAt_1 : decode cX3_xAt 1 = .ok (.getfield 38, 3) := by decide +kernel
theorem dX3_xAt_4 : decode cX3_xAt 4 = .ok (.aload_n 0, 1) := by decide +kernel
theorem dX3_xAt_5 : decode cX3_xAt 5 = .ok (.getfield 46, 3) := by decide +kernel
theorem dX3_xAt_8 : decode cX3_xAt 8 = .ok (.iload_n 1, 1) := by decide +kernel
theorem dX3_xAt_9 : decode cX3_xAt 9 = .ok (.aload_n 0, 1) := by decide +kernel
theorem dX3_xAt_10 : decode cX3_xAt 10 = .ok (.getfield 34, 3) := by decide +kernel
theorem dX3_xAt_13 : decode cX3_xAt 13 = .ok (.isub, 1) := by decide +kernel
theorem dX3_xAt_14 : decode cX3_xAt 14 = .ok (.imul, 1) := by decide +kernel
theorem dX3_xAt_15 : decode cX3_xAt 15 = .ok (.iadd, 1) := by decide +kernel
theorem dX3_xAt_16 : decode cX3_xAt 16 = .ok (.ireturn, 1) := by decide +kernel
theorem dX3_yAt_0 : decode cX3_yAt 0 = .ok (.aload_n 0, 1) := by decide +kernel
theorem dX3_yAt_1 : decode cX3_yAt 1 = .ok (.getfield 42, 3) := by decide +kernel
theorem dX3_yAt_4 : decode cX3_yAt 4 = .ok (.aload_n 0, 1) := by decide +kernel
theorem dX3_yAt_5 : decode cX3_yAt 5 = .ok (.getfield 49, 3) := by decide +kernel
theorem dX3_yAt_8 : decode cX3_yAt 8 = .ok (.iload_n 1, 1) := by decide +kernel
theorem dX3_yAt_9 : decode cX3_yAt 9 = .ok (.aload_n 0, 1) := by decide +kernel
theorem dX3_yAt_10 : decode cX3_yAt 10 = .ok (.getfield 34, 3) := by decide +kernel
theorem dX3_yAt_13 : decode cX3_yAt 13 = .ok (.isub, 1) := by decide +kernel
theorem dX3_yAt_14 : decode cX3_yAt 14 = .ok (.imul, 1) := by decide +kernel
theorem dX3_yAt_15 : decode cX3_yAt 15 = .ok (.iadd, 1) := by decide +kernel
theorem dX3_yAt_16 : decode cX3_yAt 16 = .ok (.ireturn, 1) := by decide +kernel
theorem dX3_distanceTo_0 : decode cX3_distanceTo 0 = .ok (.bipush 16, 2) := by decide +kernel
theorem dX3_distanceTo_2 : decode cX3_distanceTo 2 = .ok (.aload_n 1, 1) := by decide +kernel
theorem dX3_distanceTo_3 : decode cX3_distanceTo 3 = .ok (.getfield 35, 3) := by decide +kernel
theorem dX3_distanceTo_6 : decode cX3_distanceTo 6 = .ok (.imul, 1) := by decide +kernel
theorem dX3_distanceTo_7 : decode cX3_distanceTo 7 = .ok (.aload_n 0, 1) := by decide +kernel
theorem dX3_distanceTo_8 : decode cX3_distanceTo 8 = .ok (.aload_n 1, 1) := by decide +kernel
theorem dX3_distanceTo_9 : decode cX3_distanceTo 9 = .ok (.getfield 29, 3) := by decide +kernel
theorem dX3_distanceTo_12 : decode cX3_distanceTo 12 = .ok (.invokevirtual 52, 3) := by decide +kernel
theorem dX3_distanceTo_15 : decode cX3_distanceTo 15 = .ok (.isub, 1) := by decide +kernel
theorem dX3_distanceTo_16 : decode cX3_distanceTo 16 = .ok (.bipush 16, 2) := by decide +kernel
theorem dX3_distanceTo_18 : decode cX3_distanceTo 18 = .ok (.aload_n 1, 1) := by decide +kernel
theorem dX3_distanceTo_19 : decode cX3_distanceTo 19 = .ok (.getfield 39, 3) := by decide +kernel
theorem dX3_distanceTo_22 : decode cX3_distanceTo 22 = .ok (.imul, 1) := by decide +kernel
theorem dX3_distanceTo_23 : decode cX3_distanceTo 23 = .ok (.aload_n 0, 1) := by decide +kernel
theorem dX3_distanceTo_24 : decode cX3_distanceTo 24 = .ok (.aload_n 1, 1) := by decide +kernel
theorem dX3_distanceTo_25 : decode cX3_distanceTo 25 = .ok (.getfield 29, 3) := by decide +kernel
theorem dX3_distanceTo_28 : decode cX3_distanceTo 28 = .ok (.invokevirtual 56, 3) := by decide +kernel
theorem dX3_distanceTo_31 : decode cX3_distanceTo 31 = .ok (.isub, 1) := by decide +kernel
theorem dX3_distanceTo_32 : decode cX3_distanceTo 32 = .ok (.invokestatic 59, 3) := by decide +kernel
theorem dX3_distanceTo_35 : decode cX3_distanceTo 35 = .ok (.lreturn, 1) := by decide +kernel
theorem dX3_follow_0 : decode cX3_follow 0 = .ok (.aload_n 0, 1) := by decide +kernel
theorem dX3_follow_1 : decode cX3_follow 1 = .ok (.aload_n 1, 1) := by decide +kernel
theorem dX3_follow_2 : decode cX3_follow 2 = .ok (.getfield 29, 3) := by decide +kernel
theorem dX3_follow_5 : decode cX3_follow 5 = .ok (.invokevirtual 52, 3) := by decide +kernel
theorem dX3_follow_8 : decode cX3_follow 8 = .ok (.istore 4, 2) := by decide +kernel
theorem dX3_follow_10 : decode cX3_follow 10 = .ok (.aload_n 0, 1) := by decide +kernel
theorem dX3_follow_11 : decode cX3_follow 11 = .ok (.aload_n 1, 1) := by decide +kernel
theorem dX3_follow_12 : decode cX3_follow 12 = .ok (.getfield 29, 3) := by decide +kernel
theorem dX3_follow_15 : decode cX3_follow 15 = .ok (.invokevirtual 56, 3) := by decide +kernel
theorem dX3_follow_18 : decode cX3_follow 18 = .ok (.istore 5, 2) := by decide +kernel
theorem dX3_follow_20 : decode cX3_follow 20 = .ok (.bipush 16, 2) := by decide +kernel
theorem dX3_follow_22 : decode cX3_follow 22 = .ok (.aload_n 1, 1) := by decide +kernel
theorem dX3_follow_23 : decode cX3_follow 23 = .ok (.getfield 35, 3) := by decide +kernel
theorem dX3_follow_26 : decode cX3_follow 26 = .ok (.imul, 1) := by decide +kernel
theorem dX3_follow_27 : decode cX3_follow 27 = .ok (.iload 4, 2) := by decide +kernel
theorem dX3_follow_29 : decode cX3_follow 29 = .ok (.isub, 1) := by decide +kernel
theorem dX3_follow_30 : decode cX3_follow 30 = .ok (.istore 6, 2) := by decide +kernel
theorem dX3_follow_32 : decode cX3_follow 32 = .ok (.bipush 16, 2) := by decide +kernel
theorem dX3_follow_34 : decode cX3_follow 34 = .ok (.aload_n 1, 1) := by decide +kernel
theorem dX3_follow_35 : decode cX3_follow 35 = .ok (.getfield 39, 3) := by decide +kernel
theorem dX3_follow_38 : decode cX3_follow 38 = .ok (.imul, 1) := by decide +kernel
theorem dX3_follow_39 : decode cX3_follow 39 = .ok (.iload 5, 2) := by decide +kernel
theorem dX3_follow_41 : decode cX3_follow 41 = .ok (.isub, 1) := by decide +kernel
theorem dX3_follow_42 : decode cX3_follow 42 = .ok (.istore 7, 2) := by decide +kernel
theorem dX3_follow_44 : decode cX3_follow 44 = .ok (.aload_n 1, 1) := by decide +kernel
theorem dX3_follow_45 : decode cX3_follow 45 = .ok (.getfield 29, 3) := by decide +kernel
theorem dX3_follow_48 : decode cX3_follow 48 = .ok (.aload_n 0, 1) := by decide +kernel
theorem dX3_follow_49 : decode cX3_follow 49 = .ok (.getfield 34, 3) := by decide +kernel
theorem dX3_follow_52 : decode cX3_follow 52 = .ok (.isub, 1) := by decide +kernel
theorem dX3_follow_53 : decode cX3_follow 53 = .ok (.istore 8, 2) := by decide +kernel
theorem dX3_follow_55 : decode cX3_follow 55 = .ok (.aload_n 0, 1) := by decide +kernel
theorem dX3_follow_56 : decode cX3_follow 56 = .ok (.iload 4, 2) := by decide +kernel
theorem dX3_follow_58 : decode cX3_follow 58 = .ok (.iload 6, 2) := by decide +kernel
theorem dX3_follow_60 : decode cX3_follow 60 = .ok (.iload_n 2, 1) := by decide +kernel
theorem dX3_follow_61 : decode cX3_follow 61 = .ok (.imul, 1) := by decide +kernel
theorem dX3_follow_62 : decode cX3_follow 62 = .ok (.bipush 16, 2) := by decide +kernel
theorem dX3_follow_64 : decode cX3_follow 64 = .ok (.idiv, 1) := by decide +kernel
theorem dX3_follow_65 : decode cX3_follow 65 = .ok (.iadd, 1) := by decide +kernel
theorem dX3_follow_66 : decode cX3_follow 66 = .ok (.putfield 38, 3) := by decide +kernel
theorem dX3_follow_69 : decode cX3_follow 69 = .ok (.aload_n 0, 1) := by decide +kernel
theorem dX3_follow_70 : decode cX3_follow 70 = .ok (.iload 5, 2) := by decide +kernel
theorem dX3_follow_72 : decode cX3_follow 72 = .ok (.iload 7, 2) := by decide +kernel
theorem dX3_follow_74 : decode cX3_follow 74 = .ok (.iload_n 2, 1) := by decide +kernel
theorem dX3_follow_75 : decode cX3_follow 75 = .ok (.imul, 1) := by decide +kernel
theorem dX3_follow_76 : decode cX3_follow 76 = .ok (.bipush 16, 2) := by decide +kernel
theorem dX3_follow_78 : decode cX3_follow 78 = .ok (.idiv, 1) := by decide +kernel
theorem dX3_follow_79 : decode cX3_follow 79 = .ok (.iadd, 1) := by decide +kernel
theorem dX3_follow_80 : decode cX3_follow 80 = .ok (.putfield 42, 3) := by decide +kernel
theorem dX3_follow_83 : decode cX3_follow 83 = .ok (.aload_n 0, 1) := by decide +kernel
theorem dX3_follow_84 : decode cX3_follow 84 = .ok (.aload_n 0, 1) := by decide +kernel
theorem dX3_follow_85 : decode cX3_follow 85 = .ok (.getfield 46, 3) := by decide +kernel
theorem dX3_follow_88 : decode cX3_follow 88 = .ok (.iload 6, 2) := by decide +kernel
theorem dX3_follow_90 : decode cX3_follow 90 = .ok (.iload_n 3, 1) := by decide +kernel
theorem dX3_follow_91 : decode cX3_follow 91 = .ok (.imul, 1) := by decide +kernel
theorem dX3_follow_92 : decode cX3_follow 92 = .ok (.iload 8, 2) := by decide +kernel
theorem dX3_follow_94 : decode cX3_follow 94 = .ok (.invokestatic 63, 3) := by decide +kernel
theorem dX3_follow_97 : decode cX3_follow 97 = .ok (.putfield 46, 3) := by decide +kernel
theorem dX3_follow_100 : decode cX3_follow 100 = .ok (.aload_n 0, 1) := by decide +kernel
theorem dX3_follow_101 : decode cX3_follow 101 = .ok (.aload_n 0, 1) := by decide +kernel
theorem dX3_follow_102 : decode cX3_follow 102 = .ok (.getfield 49, 3) := by decide +kernel
theorem dX3_follow_105 : decode cX3_follow 105 = .ok (.iload 7, 2) := by decide +kernel
theorem dX3_follow_107 : decode cX3_follow 107 = .ok (.iload_n 3, 1) := by decide +kernel
theorem dX3_follow_108 : decode cX3_follow 108 = .ok (.imul, 1) := by decide +kernel
theorem dX3_follow_109 : decode cX3_follow 109 = .ok (.iload 8, 2) := by decide +kernel
theorem dX3_follow_111 : decode cX3_follow 111 = .ok (.invokestatic 63, 3) := by decide +kernel
theorem dX3_follow_114 : decode cX3_follow 114 = .ok (.putfield 49, 3) := by decide +kernel
theorem dX3_follow_117 : decode cX3_follow 117 = .ok (.aload_n 0, 1) := by decide +kernel
theorem dX3_follow_118 : decode cX3_follow 118 = .ok (.aload_n 1, 1) := by decide +kernel
theorem dX3_follow_119 : decode cX3_follow 119 = .ok (.getfield 29, 3) := by decide +kernel
theorem dX3_follow_122 : decode cX3_follow 122 = .ok (.putfield 34, 3) := by decide +kernel
theorem dX3_follow_125 : decode cX3_follow 125 = .ok (.aload_n 0, 1) := by decide +kernel
theorem dX3_follow_126 : decode cX3_follow 126 = .ok (.dup, 1) := by decide +kernel
theorem dX3_follow_127 : decode cX3_follow 127 = .ok (.getfield 9, 3) := by decide +kernel
theorem dX3_follow_130 : decode cX3_follow 130 = .ok (.iconst 1, 1) := by decide +kernel
theorem dX3_follow_131 : decode cX3_follow 131 = .ok (.iadd, 1) := by decide +kernel
theorem dX3_follow_132 : decode cX3_follow 132 = .ok (.putfield 9, 3) := by decide +kernel
theorem dX3_follow_135 : decode cX3_follow 135 = .ok (.aload_n 0, 1) := by decide +kernel
theorem dX3_follow_136 : decode cX3_follow 136 = .ok (.iconst 0, 1) := by decide +kernel
theorem dX3_follow_137 : decode cX3_follow 137 = .ok (.putfield 67, 3) := by decide +kernel
theorem dX3_follow_140 : decode cX3_follow 140 = .ok (.aload_n 0, 1) := by decide +kernel
theorem dX3_follow_141 : decode cX3_follow 141 = .ok (.bipush 104, 2) := by decide +kernel
theorem dX3_follow_143 : decode cX3_follow 143 = .ok (.invokevirtual 70, 3) := by decide +kernel
theorem dX3_follow_146 : decode cX3_follow 146 = .ok (.return_, 1) := by decide +kernel
theorem dX3_pushed_0 : decode cX3_pushed 0 = .ok (.bipush 16, 2) := by decide +kernel
theorem dX3_pushed_2 : decode cX3_pushed 2 = .ok (.iload_n 2, 1) := by decide +kernel
theorem dX3_pushed_3 : decode cX3_pushed 3 = .ok (.imul, 1) := by decide +kernel
theorem dX3_pushed_4 : decode cX3_pushed 4 = .ok (.istore_n 3, 1) := by decide +kernel
theorem dX3_pushed_5 : decode cX3_pushed 5 = .ok (.iload_n 3, 1) := by decide +kernel
theorem dX3_pushed_6 : decode cX3_pushed 6 = .ok (.ifCond .gt 5, 3) := by decide +kernel
theorem dX3_pushed_9 : decode cX3_pushed 9 = .ok (.iload_n 0, 1) := by decide +kernel
theorem dX3_pushed_10 : decode cX3_pushed 10 = .ok (.ireturn, 1) := by decide +kernel
theorem dX3_pushed_11 : decode cX3_pushed 11 = .ok (.iload_n 0, 1) := by decide +kernel
theorem dX3_pushed_12 : decode cX3_pushed 12 = .ok (.iload_n 1, 1) := by decide +kernel
theorem dX3_pushed_13 : decode cX3_pushed 13 = .ok (.iload_n 3, 1) := by decide +kernel
theorem dX3_pushed_14 : decode cX3_pushed 14 = .ok (.idiv, 1) := by decide +kernel
theorem dX3_pushed_15 : decode cX3_pushed 15 = .ok (.iadd, 1) := by decide +kernel
theorem dX3_pushed_16 : decode cX3_pushed 16 = .ok (.istore 4, 2) := by decide +kernel
theorem dX3_pushed_18 : decode cX3_pushed 18 = .ok (.sipush (-1600), 3) := by decide +kernel
theorem dX3_pushed_21 : decode cX3_pushed 21 = .ok (.sipush 1600, 3) := by decide +kernel
theorem dX3_pushed_24 : decode cX3_pushed 24 = .ok (.iload 4, 2) := by decide +kernel
theorem dX3_pushed_26 : decode cX3_pushed 26 = .ok (.invokestatic 74, 3) := by decide +kernel
theorem dX3_pushed_29 : decode cX3_pushed 29 = .ok (.invokestatic 80, 3) := by decide +kernel
theorem dX3_pushed_32 : decode cX3_pushed 32 = .ok (.ireturn, 1) := by decide +kernel
theorem dX3_miss_0 : decode cX3_miss 0 = .ok (.aload_n 0, 1) := by decide +kernel
theorem dX3_miss_1 : decode cX3_miss 1 = .ok (.dup, 1) := by decide +kernel
theorem dX3_miss_2 : decode cX3_miss 2 = .ok (.getfield 67, 3) := by decide +kernel
theorem dX3_miss_5 : decode cX3_miss 5 = .ok (.iconst 1, 1) := by decide +kernel
theorem dX3_miss_6 : decode cX3_miss 6 = .ok (.iadd, 1) := by decide +kernel
theorem dX3_miss_7 : decode cX3_miss 7 = .ok (.putfield 67, 3) := by decide +kernel
theorem dX3_miss_10 : decode cX3_miss 10 = .ok (.aload_n 0, 1) := by decide +kernel
theorem dX3_miss_11 : decode cX3_miss 11 = .ok (.bipush 120, 2) := by decide +kernel
theorem dX3_miss_13 : decode cX3_miss 13 = .ok (.invokevirtual 70, 3) := by decide +kernel
theorem dX3_miss_16 : decode cX3_miss 16 = .ok (.aload_n 0, 1) := by decide +kernel
theorem dX3_miss_17 : decode cX3_miss 17 = .ok (.getfield 67, 3) := by decide +kernel
theorem dX3_miss_20 : decode cX3_miss 20 = .ok (.iload_n 1, 1) := by decide +kernel
theorem dX3_miss_21 : decode cX3_miss 21 = .ok (.if_icmp .lt 14, 3) := by decide +kernel
theorem dX3_miss_24 : decode cX3_miss 24 = .ok (.aload_n 0, 1) := by decide +kernel
theorem dX3_miss_25 : decode cX3_miss 25 = .ok (.iconst 0, 1) := by decide +kernel
theorem dX3_miss_26 : decode cX3_miss 26 = .ok (.putfield 15, 3) := by decide +kernel
theorem dX3_miss_29 : decode cX3_miss 29 = .ok (.aload_n 0, 1) := by decide +kernel
theorem dX3_miss_30 : decode cX3_miss 30 = .ok (.bipush 108, 2) := by decide +kernel
theorem dX3_miss_32 : decode cX3_miss 32 = .ok (.invokevirtual 70, 3) := by decide +kernel
theorem dX3_miss_35 : decode cX3_miss 35 = .ok (.return_, 1) := by decide +kernel
theorem dX3_absorb_0 : decode cX3_absorb 0 = .ok (.aload_n 0, 1) := by decide +kernel
theorem dX3_absorb_1 : decode cX3_absorb 1 = .ok (.dup, 1) := by decide +kernel
theorem dX3_absorb_2 : decode cX3_absorb 2 = .ok (.getfield 9, 3) := by decide +kernel
theorem dX3_absorb_5 : decode cX3_absorb 5 = .ok (.aload_n 1, 1) := by decide +kernel
theorem dX3_absorb_6 : decode cX3_absorb 6 = .ok (.getfield 9, 3) := by decide +kernel
theorem dX3_absorb_9 : decode cX3_absorb 9 = .ok (.iadd, 1) := by decide +kernel
theorem dX3_absorb_10 : decode cX3_absorb 10 = .ok (.putfield 9, 3) := by decide +kernel
theorem dX3_absorb_13 : decode cX3_absorb 13 = .ok (.aload_n 0, 1) := by decide +kernel
theorem dX3_absorb_14 : decode cX3_absorb 14 = .ok (.bipush 103, 2) := by decide +kernel
theorem dX3_absorb_16 : decode cX3_absorb 16 = .ok (.invokevirtual 70, 3) := by decide +kernel
theorem dX3_absorb_19 : decode cX3_absorb 19 = .ok (.return_, 1) := by decide +kernel
theorem dX3_mergeInto_0 : decode cX3_mergeInto 0 = .ok (.aload_n 0, 1) := by decide +kernel
theorem dX3_mergeInto_1 : decode cX3_mergeInto 1 = .ok (.iconst 0, 1) := by decide +kernel
theorem dX3_mergeInto_2 : decode cX3_mergeInto 2 = .ok (.putfield 15, 3) := by decide +kernel
theorem dX3_mergeInto_5 : decode cX3_mergeInto 5 = .ok (.aload_n 0, 1) := by decide +kernel
theorem dX3_mergeInto_6 : decode cX3_mergeInto 6 = .ok (.aload_n 1, 1) := by decide +kernel
theorem dX3_mergeInto_7 : decode cX3_mergeInto 7 = .ok (.getfield 26, 3) := by decide +kernel
theorem dX3_mergeInto_10 : decode cX3_mergeInto 10 = .ok (.putfield 19, 3) := by decide +kernel
theorem dX3_mergeInto_13 : decode cX3_mergeInto 13 = .ok (.aload_n 0, 1) := by decide +kernel
theorem dX3_mergeInto_14 : decode cX3_mergeInto 14 = .ok (.bipush 109, 2) := by decide +kernel
theorem dX3_mergeInto_16 : decode cX3_mergeInto 16 = .ok (.invokevirtual 70, 3) := by decide +kernel
theorem dX3_mergeInto_19 : decode cX3_mergeInto 19 = .ok (.return_, 1) := by decide +kernel
theorem dX3_note_0 : decode cX3_note 0 = .ok (.aload_n 0, 1) := by decide +kernel
theorem dX3_note_1 : decode cX3_note 1 = .ok (.getfield 43, 3) := by decide +kernel
theorem dX3_note_4 : decode cX3_note 4 = .ok (.ifCond .lt 35, 3) := by decide +kernel
theorem dX3_note_7 : decode cX3_note 7 = .ok (.aload_n 0, 1) := by decide +kernel
theorem dX3_note_8 : decode cX3_note 8 = .ok (.getfield 43, 3) := by decide +kernel
theorem dX3_note_11 : decode cX3_note 11 = .ok (.aload_n 0, 1) := by decide +kernel
theorem dX3_note_12 : decode cX3_note 12 = .ok (.getfield 22, 3) := by decide +kernel
theorem dX3_note_15 : decode cX3_note 15 = .ok (.arraylength, 1) := by decide +kernel
theorem dX3_note_16 : decode cX3_note 16 = .ok (.if_icmp .ge 23, 3) := by decide +kernel
theorem dX3_note_19 : decode cX3_note 19 = .ok (.aload_n 0, 1) := by decide +kernel
theorem dX3_note_20 : decode cX3_note 20 = .ok (.getfield 22, 3) := by decide +kernel
theorem dX3_note_23 : decode cX3_note 23 = .ok (.aload_n 0, 1) := by decide +kernel
theorem dX3_note_24 : decode cX3_note 24 = .ok (.getfield 43, 3) := by decide +kernel
theorem dX3_note_27 : decode cX3_note 27 = .ok (.iload_n 1, 1) := by decide +kernel
theorem dX3_note_28 : decode cX3_note 28 = .ok (.castore, 1) := by decide +kernel
theorem dX3_note_29 : decode cX3_note 29 = .ok (.aload_n 0, 1) := by decide +kernel
theorem dX3_note_30 : decode cX3_note 30 = .ok (.dup, 1) := by decide +kernel
theorem dX3_note_31 : decode cX3_note 31 = .ok (.getfield 43, 3) := by decide +kernel
theorem dX3_note_34 : decode cX3_note 34 = .ok (.iconst 1, 1) := by decide +kernel
theorem dX3_note_35 : decode cX3_note 35 = .ok (.iadd, 1) := by decide +kernel
theorem dX3_note_36 : decode cX3_note 36 = .ok (.putfield 43, 3) := by decide +kernel
theorem dX3_note_39 : decode cX3_note 39 = .ok (.return_, 1) := by decide +kernel
theorem dX3_countSince_0 : decode cX3_countSince 0 = .ok (.iconst 0, 1) := by decide +kernel
theorem dX3_countSince_1 : decode cX3_countSince 1 = .ok (.istore_n 3, 1) := by decide +kernel
theorem dX3_countSince_2 : decode cX3_countSince 2 = .ok (.iload_n 1, 1) := by decide +kernel
theorem dX3_countSince_3 : decode cX3_countSince 3 = .ok (.iconst 0, 1) := by decide +kernel
theorem dX3_countSince_4 : decode cX3_countSince 4 = .ok (.invokestatic 80, 3) := by decide +kernel
theorem dX3_countSince_7 : decode cX3_countSince 7 = .ok (.istore 4, 2) := by decide +kernel
theorem dX3_countSince_9 : decode cX3_countSince 9 = .ok (.iload 4, 2) := by decide +kernel
theorem dX3_countSince_11 : decode cX3_countSince 11 = .ok (.aload_n 0, 1) := by decide +kernel
theorem dX3_countSince_12 : decode cX3_countSince 12 = .ok (.getfield 43, 3) := by decide +kernel
theorem dX3_countSince_15 : decode cX3_countSince 15 = .ok (.if_icmp .ge 33, 3) := by decide +kernel
theorem dX3_countSince_18 : decode cX3_countSince 18 = .ok (.iload 4, 2) := by decide +kernel
theorem dX3_countSince_20 : decode cX3_countSince 20 = .ok (.aload_n 0, 1) := by decide +kernel
theorem dX3_countSince_21 : decode cX3_countSince 21 = .ok (.getfield 22, 3) := by decide +kernel
theorem dX3_countSince_24 : decode cX3_countSince 24 = .ok (.arraylength, 1) := by decide +kernel
theorem dX3_countSince_25 : decode cX3_countSince 25 = .ok (.if_icmp .ge 23, 3) := by decide +kernel
theorem dX3_countSince_28 : decode cX3_countSince 28 = .ok (.aload_n 0, 1) := by decide +kernel
theorem dX3_countSince_29 : decode cX3_countSince 29 = .ok (.getfield 22, 3) := by decide +kernel
theorem dX3_countSince_32 : decode cX3_countSince 32 = .ok (.iload 4, 2) := by decide +kernel
theorem dX3_countSince_34 : decode cX3_countSince 34 = .ok (.caload, 1) := by decide +kernel
theorem dX3_countSince_35 : decode cX3_countSince 35 = .ok (.iload_n 2, 1) := by decide +kernel
theorem dX3_countSince_36 : decode cX3_countSince 36 = .ok (.if_icmp .ne 6, 3) := by decide +kernel
theorem dX3_countSince_39 : decode cX3_countSince 39 = .ok (.iinc 3 1, 3) := by decide +kernel
theorem dX3_countSince_42 : decode cX3_countSince 42 = .ok (.iinc 4 1, 3) := by decide +kernel
theorem dX3_countSince_45 : decode cX3_countSince 45 = .ok (.goto (-36), 3) := by decide +kernel
theorem dX3_countSince_48 : decode cX3_countSince 48 = .ok (.iload_n 3, 1) := by decide +kernel
theorem dX3_countSince_49 : decode cX3_countSince 49 = .ok (.ireturn, 1) := by decide +kernel
theorem dX4_init_0 : decode cX4_init 0 = .ok (.aload_n 0, 1) := by decide +kernel
theorem dX4_init_1 : decode cX4_init 1 = .ok (.invokespecial 1, 3) := by decide +kernel
theorem dX4_init_4 : decode cX4_init 4 = .ok (.aload_n 0, 1) := by decide +kernel
theorem dX4_init_5 : decode cX4_init 5 = .ok (.iconst 4, 1) := by decide +kernel
theorem dX4_init_6 : decode cX4_init 6 = .ok (.anewarray 9, 3) := by decide +kernel
theorem dX4_init_9 : decode cX4_init 9 = .ok (.putfield 11, 3) := by decide +kernel
theorem dX4_init_12 : decode cX4_init 12 = .ok (.aload_n 0, 1) := by decide +kernel
theorem dX4_init_13 : decode cX4_init 13 = .ok (.iconst 4, 1) := by decide +kernel
theorem dX4_init_14 : decode cX4_init 14 = .ok (.anewarray 15, 3) := by decide +kernel
theorem dX4_init_17 : decode cX4_init 17 = .ok (.putfield 17, 3) := by decide +kernel
theorem dX4_init_20 : decode cX4_init 20 = .ok (.aload_n 0, 1) := by decide +kernel
theorem dX4_init_21 : decode cX4_init 21 = .ok (.bipush 60, 2) := by decide +kernel
theorem dX4_init_23 : decode cX4_init 23 = .ok (.anewarray 21, 3) := by decide +kernel
theorem dX4_init_26 : decode cX4_init 26 = .ok (.putfield 23, 3) := by decide +kernel
theorem dX4_init_29 : decode cX4_init 29 = .ok (.aload_n 0, 1) := by decide +kernel
theorem dX4_init_30 : decode cX4_init 30 = .ok (.new 27, 3) := by decide +kernel
theorem dX4_init_33 : decode cX4_init 33 = .ok (.dup, 1) := by decide +kernel
theorem dX4_init_34 : decode cX4_init 34 = .ok (.invokespecial 29, 3) := by decide +kernel
theorem dX4_init_37 : decode cX4_init 37 = .ok (.putfield 30, 3) := by decide +kernel
theorem dX4_init_40 : decode cX4_init 40 = .ok (.aload_n 0, 1) := by decide +kernel
theorem dX4_init_41 : decode cX4_init 41 = .ok (.bipush 20, 2) := by decide +kernel
theorem dX4_init_43 : decode cX4_init 43 = .ok (.putfield 34, 3) := by decide +kernel
theorem dX4_init_46 : decode cX4_init 46 = .ok (.aload_n 0, 1) := by decide +kernel
theorem dX4_init_47 : decode cX4_init 47 = .ok (.bipush 8, 2) := by decide +kernel
theorem dX4_init_49 : decode cX4_init 49 = .ok (.putfield 38, 3) := by decide +kernel
theorem dX4_init_52 : decode cX4_init 52 = .ok (.aload_n 0, 1) := by decide +kernel
theorem dX4_init_53 : decode cX4_init 53 = .ok (.iconst 4, 1) := by decide +kernel
theorem dX4_init_54 : decode cX4_init 54 = .ok (.putfield 41, 3) := by decide +kernel
theorem dX4_init_57 : decode cX4_init 57 = .ok (.aload_n 0, 1) := by decide +kernel
theorem dX4_init_58 : decode cX4_init 58 = .ok (.iconst 3, 1) := by decide +kernel
theorem dX4_init_59 : decode cX4_init 59 = .ok (.putfield 44, 3) := by decide +kernel
theorem dX4_init_62 : decode cX4_init 62 = .ok (.aload_n 0, 1) := by decide +kernel
theorem dX4_init_63 : decode cX4_init 63 = .ok (.iconst 2, 1) := by decide +kernel
theorem dX4_init_64 : decode cX4_init 64 = .ok (.putfield 47, 3) := by decide +kernel
theorem dX4_init_67 : decode cX4_init 67 = .ok (.iconst 0, 1) := by decide +kernel
theorem dX4_init_68 : decode cX4_init 68 = .ok (.istore_n 1, 1) := by decide +kernel
theorem dX4_init_69 : decode cX4_init 69 = .ok (.iload_n 1, 1) := by decide +kernel
theorem dX4_init_70 : decode cX4_init 70 = .ok (.aload_n 0, 1) := by decide +kernel
theorem dX4_init_71 : decode cX4_init 71 = .ok (.getfield 11, 3) := by decide +kernel
theorem dX4_init_74 : decode cX4_init 74 = .ok (.arraylength, 1) := by decide +kernel
theorem dX4_init_75 : decode cX4_init 75 = .ok (.if_icmp .ge 22, 3) := by decide +kernel
theorem dX4_init_78 : decode cX4_init 78 = .ok (.aload_n 0, 1) := by decide +kernel
theorem dX4_init_79 : decode cX4_init 79 = .ok (.getfield 11, 3) := by decide +kernel
theorem dX4_init_82 : decode cX4_init 82 = .ok (.iload_n 1, 1) := by decide +kernel
theorem dX4_init_83 : decode cX4_init 83 = .ok (.new 9, 3) := by decide +kernel
theorem dX4_init_86 : decode cX4_init 86 = .ok (.dup, 1) := by decide +kernel
theorem dX4_init_87 : decode cX4_init 87 = .ok (.invokespecial 50, 3) := by decide +kernel
theorem dX4_init_90 : decode cX4_init 90 = .ok (.aastore, 1) := by decide +kernel
theorem dX4_init_91 : decode cX4_init 91 = .ok (.iinc 1 1, 3) := by decide +kernel
theorem dX4_init_94 : decode cX4_init 94 = .ok (.goto (-25), 3) := by decide +kernel
theorem dX4_init_97 : decode cX4_init 97 = .ok (.iconst 0, 1) := by decide +kernel
theorem dX4_init_98 : decode cX4_init 98 = .ok (.istore_n 1, 1) := by decide +kernel
theorem dX4_init_99 : decode cX4_init 99 = .ok (.iload_n 1, 1) := by decide +kernel
theorem dX4_init_100 : decode cX4_init 100 = .ok (.aload_n 0, 1) := by decide +kernel
theorem dX4_init_101 : decode cX4_init 101 = .ok (.getfield 17, 3) := by decide +kernel
theorem dX4_init_104 : decode cX4_init 104 = .ok (.arraylength, 1) := by decide +kernel
theorem dX4_init_105 : decode cX4_init 105 = .ok (.if_icmp .ge 22, 3) := by decide +kernel
theorem dX4_init_108 : decode cX4_init 108 = .ok (.aload_n 0, 1) := by decide +kernel
theorem dX4_init_109 : decode cX4_init 109 = .ok (.getfield 17, 3) := by decide +kernel
theorem dX4_init_112 : decode cX4_init 112 = .ok (.iload_n 1, 1) := by decide +kernel
theorem dX4_init_113 : decode cX4_init 113 = .ok (.new 15, 3) := by decide +kernel
theorem dX4_init_116 : decode cX4_init 116 = .ok (.dup, 1) := by decide +kernel
theorem dX4_init_117 : decode cX4_init 117 = .ok (.invokespecial 51, 3) := by decide +kernel
theorem dX4_init_120 : decode cX4_init 120 = .ok (.aastore, 1) := by decide +kernel
theorem dX4_init_121 : decode cX4_init 121 = .ok (.iinc 1 1, 3) := by decide +kernel
theorem dX4_init_124 : decode cX4_init 124 = .ok (.goto (-25), 3) := by decide +kernel
theorem dX4_init_127 : decode cX4_init 127 = .ok (.return_, 1) := by decide +kernel
theorem dX4_addPair_0 : decode cX4_addPair 0 = .ok (.aload_n 0, 1) := by decide +kernel
theorem dX4_addPair_1 : decode cX4_addPair 1 = .ok (.iload_n 1, 1) := by decide +kernel
theorem dX4_addPair_2 : decode cX4_addPair 2 = .ok (.invokevirtual 52, 3) := by decide +kernel
theorem dX4_addPair_5 : decode cX4_addPair 5 = .ok (.astore 4, 2) := by decide +kernel
theorem dX4_addPair_7 : decode cX4_addPair 7 = .ok (.iload_n 2, 1) := by decide +kernel
theorem dX4_addPair_8 : decode cX4_addPair 8 = .ok (.invokestatic 56, 3) := by decide +kernel
theorem dX4_addPair_11 : decode cX4_addPair 11 = .ok (.ifCond .eq 14, 3) := by decide +kernel
theorem dX4_addPair_14 : decode cX4_addPair 14 = .ok (.iload_n 3, 1) := by decide +kernel
theorem dX4_addPair_15 : decode cX4_addPair 15 = .ok (.invokestatic 56, 3) := by decide +kernel
theorem dX4_addPair_18 : decode cX4_addPair 18 = .ok (.ifCond .eq 7, 3) := by decide +kernel
theorem dX4_addPair_21 : decode cX4_addPair 21 = .ok (.iconst 1, 1) := by decide +kernel
theorem dX4_addPair_22 : decode cX4_addPair 22 = .ok (.goto 4, 3) := by decide +kernel
theorem dX4_addPair_25 : decode cX4_addPair 25 = .ok (.iconst 0, 1) := by decide +kernel
theorem dX4_addPair_26 : decode cX4_addPair 26 = .ok (.invokestatic 60, 3) := by decide +kernel
theorem dX4_addPair_29 : decode cX4_addPair 29 = .ok (.aload 4, 2) := by decide +kernel
theorem dX4_addPair_31 : decode cX4_addPair 31 = .ok (.iload_n 2, 1) := by decide +kernel
theorem dX4_addPair_32 : decode cX4_addPair 32 = .ok (.iload_n 3, 1) := by decide +kernel
theorem dX4_addPair_33 : decode cX4_addPair 33 = .ok (.invokevirtual 64, 3) := by decide +kernel
theorem dX4_addPair_36 : decode cX4_addPair 36 = .ok (.invokestatic 60, 3) := by decide +kernel
theorem dX4_addPair_39 : decode cX4_addPair 39 = .ok (.aload 4, 2) := by decide +kernel
theorem dX4_addPair_41 : decode cX4_addPair 41 = .ok (.iload_n 2, 1) := by decide +kernel
theorem dX4_addPair_42 : decode cX4_addPair 42 = .ok (.iload_n 3, 1) := by decide +kernel
theorem dX4_addPair_43 : decode cX4_addPair 43 = .ok (.invokevirtual 68, 3) := by decide +kernel
theorem dX4_addPair_46 : decode cX4_addPair 46 = .ok (.aload 4, 2) := by decide +kernel
theorem dX4_addPair_48 : decode cX4_addPair 48 = .ok (.getfield 72, 3) := by decide +kernel
theorem dX4_addPair_51 : decode cX4_addPair 51 = .ok (.ireturn, 1) := by decide +kernel
theorem dX4_forgetPairs_0 : decode cX4_forgetPairs 0 = .ok (.aload_n 0, 1) := by decide +kernel
theorem dX4_forgetPairs_1 : decode cX4_forgetPairs 1 = .ok (.iload_n 1, 1) := by decide +kernel
theorem dX4_forgetPairs_2 : decode cX4_forgetPairs 2 = .ok (.invokevirtual 52, 3) := by decide +kernel
theorem dX4_forgetPairs_5 : decode cX4_forgetPairs 5 = .ok (.astore_n 2, 1) := by decide +kernel
theorem dX4_forgetPairs_6 : decode cX4_forgetPairs 6 = .ok (.aload_n 2, 1) := by decide +kernel
theorem dX4_forgetPairs_7 : decode cX4_forgetPairs 7 = .ok (.getfield 72, 3) := by decide +kernel
theorem dX4_forgetPairs_10 : decode cX4_forgetPairs 10 = .ok (.istore_n 3, 1) := by decide +kernel
theorem dX4_forgetPairs_11 : decode cX4_forgetPairs 11 = .ok (.aload_n 2, 1) := by decide +kernel
theorem dX4_forgetPairs_12 : decode cX4_forgetPairs 12 = .ok (.iconst 0, 1) := by decide +kernel
theorem dX4_forgetPairs_13 : decode cX4_forgetPairs 13 = .ok (.putfield 72, 3) := by decide +kernel
theorem dX4_forgetPairs_16 : decode cX4_forgetPairs 16 = .ok (.iload_n 3, 1) := by decide +kernel
theorem dX4_forgetPairs_17 : decode cX4_forgetPairs 17 = .ok (.ireturn, 1) := by decide +kernel
theorem dX4_correctedTime_0 : decode cX4_correctedTime 0 = .ok (.aload_n 0, 1) := by decide +kernel
theorem dX4_correctedTime_1 : decode cX4_correctedTime 1 = .ok (.iload_n 1, 1) := by decide +kernel
theorem dX4_correctedTime_2 : decode cX4_correctedTime 2 = .ok (.invokevirtual 52, 3) := by decide +kernel
theorem dX4_correctedTime_5 : decode cX4_correctedTime 5 = .ok (.astore_n 3, 1) := by decide +kernel
theorem dX4_correctedTime_6 : decode cX4_correctedTime 6 = .ok (.iload_n 2, 1) := by decide +kernel
theorem dX4_correctedTime_7 : decode cX4_correctedTime 7 = .ok (.invokestatic 56, 3) := by decide +kernel
theorem dX4_correctedTime_10 : decode cX4_correctedTime 10 = .ok (.invokestatic 60, 3) := by decide +kernel
theorem dX4_correctedTime_13 : decode cX4_correctedTime 13 = .ok (.aload_n 3, 1) := by decide +kernel
theorem dX4_correctedTime_14 : decode cX4_correctedTime 14 = .ok (.iload_n 2, 1) := by decide +kernel
theorem dX4_correctedTime_15 : decode cX4_correctedTime 15 = .ok (.invokevirtual 75, 3) := by decide +kernel
theorem dX4_correctedTime_18 : decode cX4_correctedTime 18 = .ok (.ireturn, 1) := by decide +kernel
theorem dX4_clockOf_0 : decode cX4_clockOf 0 = .ok (.iload_n 1, 1) := by decide +kernel
theorem dX4_clockOf_1 : decode cX4_clockOf 1 = .ok (.ifCond .lt 12, 3) := by decide +kernel
theorem dX4_clockOf_4 : decode cX4_clockOf 4 = .ok (.iload_n 1, 1) := by decide +kernel
theorem dX4_clockOf_5 : decode cX4_clockOf 5 = .ok (.aload_n 0, 1) := by decide +kernel
theorem dX4_clockOf_6 : decode cX4_clockOf 6 = .ok (.getfield 11, 3) := by decide +kernel
theorem dX4_clockOf_9 : decode cX4_clockOf 9 = .ok (.arraylength, 1) := by decide +kernel
theorem dX4_clockOf_10 : decode cX4_clockOf 10 = .ok (.if_icmp .lt 7, 3) := by decide +kernel
theorem dX4_clockOf_13 : decode cX4_clockOf 13 = .ok (.aconst_null, 1) := by decide +kernel
theorem dX4_clockOf_14 : decode cX4_clockOf 14 = .ok (.goto 9, 3) := by decide +kernel
theorem dX4_clockOf_17 : decode cX4_clockOf 17 = .ok (.aload_n 0, 1) := by decide +kernel
theorem dX4_clockOf_18 : decode cX4_clockOf 18 = .ok (.getfield 11, 3) := by decide +kernel
theorem dX4_clockOf_21 : decode cX4_clockOf 21 = .ok (.iload_n 1, 1) := by decide +kernel
theorem dX4_clockOf_22 : decode cX4_clockOf 22 = .ok (.aaload, 1) := by decide +kernel
theorem dX4_clockOf_23 : decode cX4_clockOf 23 = .ok (.astore_n 2, 1) := by decide +kernel
theorem dX4_clockOf_24 : decode cX4_clockOf 24 = .ok (.aload_n 2, 1) := by decide +kernel
theorem dX4_clockOf_25 : decode cX4_clockOf 25 = .ok (.ifnonnull 13, 3) := by decide +kernel
theorem dX4_clockOf_28 : decode cX4_clockOf 28 = .ok (.new 79, 3) := by decide +kernel
theorem dX4_clockOf_31 : decode cX4_clockOf 31 = .ok (.dup, 1) := by decide +kernel
theorem dX4_clockOf_32 : decode cX4_clockOf 32 = .ok (.ldc 81, 2) := by decide +kernel
theorem dX4_clockOf_34 : decode cX4_clockOf 34 = .ok (.invokespecial 83, 3) := by decide +kernel
theorem dX4_clockOf_37 : decode cX4_clockOf 37 = .ok (.athrow, 1) := by decide +kernel
theorem dX4_clockOf_38 : decode cX4_clockOf 38 = .ok (.aload_n 2, 1) := by decide +kernel
theorem dX4_clockOf_39 : decode cX4_clockOf 39 = .ok (.areturn, 1) := by decide +kernel
theorem dX4_setGate_0 : decode cX4_setGate 0 = .ok (.iload_n 1, 1) := by decide +kernel
theorem dX4_setGate_1 : decode cX4_setGate 1 = .ok (.iconst 1, 1) := by decide +kernel
theorem dX4_setGate_2 : decode cX4_setGate 2 = .ok (.sipush 500, 3) := by decide +kernel
theorem dX4_setGate_5 : decode cX4_setGate 5 = .ok (.invokestatic 86, 3) := by decide +kernel
theorem dX4_setGate_8 : decode cX4_setGate 8 = .ok (.invokestatic 60, 3) := by decide +kernel
theorem dX4_setGate_11 : decode cX4_setGate 11 = .ok (.aload_n 0, 1) := by decide +kernel
theorem dX4_setGate_12 : decode cX4_setGate 12 = .ok (.getfield 34, 3) := by decide +kernel
theorem dX4_setGate_15 : decode cX4_setGate 15 = .ok (.istore_n 2, 1) := by decide +kernel
theorem dX4_setGate_16 : decode cX4_setGate 16 = .ok (.aload_n 0, 1) := by decide +kernel
theorem dX4_setGate_17 : decode cX4_setGate 17 = .ok (.iload_n 1, 1) := by decide +kernel
theorem dX4_setGate_18 : decode cX4_setGate 18 = .ok (.putfield 34, 3) := by decide +kernel
theorem dX4_setGate_21 : decode cX4_setGate 21 = .ok (.iload_n 2, 1) := by decide +kernel
theorem dX4_setGate_22 : decode cX4_setGate 22 = .ok (.ireturn, 1) := by decide +kernel
theorem dX4_setFilter_0 : decode cX4_setFilter 0 = .ok (.iload_n 1, 1) := by decide +kernel
theorem dX4_setFilter_1 : decode cX4_setFilter 1 = .ok (.iconst 1, 1) := by decide +kernel
theorem dX4_setFilter_2 : decode cX4_setFilter 2 = .ok (.bipush 16, 2) := by decide +kernel
theorem dX4_setFilter_4 : decode cX4_setFilter 4 = .ok (.invokestatic 86, 3) := by decide +kernel
theorem dX4_setFilter_7 : decode cX4_setFilter 7 = .ok (.ifCond .eq 17, 3) := by decide +kernel
theorem dX4_setFilter_10 : decode cX4_setFilter 10 = .ok (.iload_n 2, 1) := by decide +kernel
theorem dX4_setFilter_11 : decode cX4_setFilter 11 = .ok (.iconst 0, 1) := by decide +kernel
theorem dX4_setFilter_12 : decode cX4_setFilter 12 = .ok (.bipush 16, 2) := by decide +kernel
theorem dX4_setFilter_14 : decode cX4_setFilter 14 = .ok (.invokestatic 86, 3) := by decide +kernel
theorem dX4_setFilter_17 : decode cX4_setFilter 17 = .ok (.ifCond .eq 7, 3) := by decide +kernel
theorem dX4_setFilter_20 : decode cX4_setFilter 20 = .ok (.iconst 1, 1) := by decide +kernel
theorem dX4_setFilter_21 : decode cX4_setFilter 21 = .ok (.goto 4, 3) := by decide +kernel
theorem dX4_setFilter_24 : decode cX4_setFilter 24 = .ok (.iconst 0, 1) := by decide +kernel
theorem dX4_setFilter_25 : decode cX4_setFilter 25 = .ok (.invokestatic 60, 3) := by decide +kernel
theorem dX4_setFilter_28 : decode cX4_setFilter 28 = .ok (.bipush 100, 2) := by decide +kernel
theorem dX4_setFilter_30 : decode cX4_setFilter 30 = .ok (.aload_n 0, 1) := by decide +kernel
theorem dX4_setFilter_31 : decode cX4_setFilter 31 = .ok (.getfield 38, 3) := by decide +kernel
theorem dX4_setFilter_34 : decode cX4_setFilter 34 = .ok (.imul, 1) := by decide +kernel
theorem dX4_setFilter_35 : decode cX4_setFilter 35 = .ok (.aload_n 0, 1) := by decide +kernel
theorem dX4_setFilter_36 : decode cX4_setFilter 36 = .ok (.getfield 41, 3) := by decide +kernel
theorem dX4_setFilter_39 : decode cX4_setFilter 39 = .ok (.iadd, 1) := by decide +kernel
theorem dX4_setFilter_40 : decode cX4_setFilter 40 = .ok (.istore_n 3, 1) := by decide +kernel
theorem dX4_setFilter_41 : decode cX4_setFilter 41 = .ok (.aload_n 0, 1) := by decide +kernel
theorem dX4_setFilter_42 : decode cX4_setFilter 42 = .ok (.iload_n 1, 1) := by decide +kernel
theorem dX4_setFilter_43 : decode cX4_setFilter 43 = .ok (.putfield 38, 3) := by decide +kernel
theorem dX4_setFilter_46 : decode cX4_setFilter 46 = .ok (.aload_n 0, 1) := by decide +kernel
theorem dX4_setFilter_47 : decode cX4_setFilter 47 = .ok (.iload_n 2, 1) := by decide +kernel
theorem dX4_setFilter_48 : decode cX4_setFilter 48 = .ok (.putfield 41, 3) := by decide +kernel
theorem dX4_setFilter_51 : decode cX4_setFilter 51 = .ok (.iload_n 3, 1) := by decide +kernel
theorem dX4_setFilter_52 : decode cX4_setFilter 52 = .ok (.ireturn, 1) := by decide +kernel
theorem dX4_setLimit_0 : decode cX4_setLimit 0 = .ok (.iload_n 1, 1) := by decide +kernel
theorem dX4_setLimit_1 : decode cX4_setLimit 1 = .ok (.iconst 1, 1) := by decide +kernel
theorem dX4_setLimit_2 : decode cX4_setLimit 2 = .ok (.bipush 9, 2) := by decide +kernel
theorem dX4_setLimit_4 : decode cX4_setLimit 4 = .ok (.invokestatic 86, 3) := by decide +kernel
theorem dX4_setLimit_7 : decode cX4_setLimit 7 = .ok (.invokestatic 60, 3) := by decide +kernel
theorem dX4_setLimit_10 : decode cX4_setLimit 10 = .ok (.aload_n 0, 1) := by decide +kernel
theorem dX4_setLimit_11 : decode cX4_setLimit 11 = .ok (.getfield 44, 3) := by decide +kernel
theorem dX4_setLimit_14 : decode cX4_setLimit 14 = .ok (.istore_n 2, 1) := by decide +kernel
theorem dX4_setLimit_15 : decode cX4_setLimit 15 = .ok (.aload_n 0, 1) := by decide +kernel
theorem dX4_setLimit_16 : decode cX4_setLimit 16 = .ok (.iload_n 1, 1) := by decide +kernel
theorem dX4_setLimit_17 : decode cX4_setLimit 17 = .ok (.putfield 44, 3) := by decide +kernel
theorem dX4_setLimit_20 : decode cX4_setLimit 20 = .ok (.iload_n 2, 1) := by decide +kernel
theorem dX4_setLimit_21 : decode cX4_setLimit 21 = .ok (.ireturn, 1) := by decide +kernel
theorem dX4_setNearness_0 : decode cX4_setNearness 0 = .ok (.iload_n 1, 1) := by decide +kernel
theorem dX4_setNearness_1 : decode cX4_setNearness 1 = .ok (.iconst 0, 1) := by decide +kernel
theorem dX4_setNearness_2 : decode cX4_setNearness 2 = .ok (.bipush 100, 2) := by decide +kernel
theorem dX4_setNearness_4 : decode cX4_setNearness 4 = .ok (.invokestatic 86, 3) := by decide +kernel
theorem dX4_setNearness_7 : decode cX4_setNearness 7 = .ok (.invokestatic 60, 3) := by decide +kernel
theorem dX4_setNearness_10 : decode cX4_setNearness 10 = .ok (.aload_n 0, 1) := by decide +kernel
theorem dX4_setNearness_11 : decode cX4_setNearness 11 = .ok (.getfield 47, 3) := by decide +kernel
theorem dX4_setNearness_14 : decode cX4_setNearness 14 = .ok (.istore_n 2, 1) := by decide +kernel
theorem dX4_setNearness_15 : decode cX4_setNearness 15 = .ok (.aload_n 0, 1) := by decide +kernel
theorem dX4_setNearness_16 : decode cX4_setNearness 16 = .ok (.iload_n 1, 1) := by decide +kernel
theorem dX4_setNearness_17 : decode cX4_setNearness 17 = .ok (.putfield 47, 3) := by decide +kernel
theorem dX4_setNearness_20 : decode cX4_setNearness 20 = .ok (.iload_n 2, 1) := by decide +kernel
theorem dX4_setNearness_21 : decode cX4_setNearness 21 = .ok (.ireturn, 1) := by decide +kernel
theorem dX4_report_0 : decode cX4_report 0 = .ok (.aload_n 0, 1) := by decide +kernel
theorem dX4_report_1 : decode cX4_report 1 = .ok (.iload_n 1, 1) := by decide +kernel
theorem dX4_report_2 : decode cX4_report 2 = .ok (.invokevirtual 52, 3) := by decide +kernel
theorem dX4_report_5 : decode cX4_report 5 = .ok (.astore 5, 2) := by decide +kernel
theorem dX4_report_7 : decode cX4_report 7 = .ok (.iload_n 2, 1) := by decide +kernel
theorem dX4_report_8 : decode cX4_report 8 = .ok (.invokestatic 56, 3) := by decide +kernel
theorem dX4_report_11 : decode cX4_report 11 = .ok (.ifCond .eq 22, 3) := by decide +kernel
theorem dX4_report_14 : decode cX4_report 14 = .ok (.iload_n 3, 1) := by decide +kernel
theorem dX4_report_15 : decode cX4_report 15 = .ok (.invokestatic 90, 3) := by decide +kernel
theorem dX4_report_18 : decode cX4_report 18 = .ok (.ifCond .eq 15, 3) := by decide +kernel
theorem dX4_report_21 : decode cX4_report 21 = .ok (.iload 4, 2) := by decide +kernel
theorem dX4_report_23 : decode cX4_report 23 = .ok (.invokestatic 90, 3) := by decide +kernel
theorem dX4_report_26 : decode cX4_report 26 = .ok (.ifCond .eq 7, 3) := by decide +kernel
theorem dX4_report_29 : decode cX4_report 29 = .ok (.iconst 1, 1) := by decide +kernel
theorem dX4_report_30 : decode cX4_report 30 = .ok (.goto 4, 3) := by decide +kernel
theorem dX4_report_33 : decode cX4_report 33 = .ok (.iconst 0, 1) := by decide +kernel
theorem dX4_report_34 : decode cX4_report 34 = .ok (.invokestatic 60, 3) := by decide +kernel
theorem dX4_report_37 : decode cX4_report 37 = .ok (.aload_n 0, 1) := by decide +kernel
theorem dX4_report_38 : decode cX4_report 38 = .ok (.aload_n 0, 1) := by decide +kernel
theorem dX4_report_39 : decode cX4_report 39 = .ok (.getfield 93, 3) := by decide +kernel
theorem dX4_report_42 : decode cX4_report 42 = .ok (.invokevirtual 96, 3) := by decide +kernel
theorem dX4_report_45 : decode cX4_report 45 = .ok (.astore 6, 2) := by decide +kernel
theorem dX4_report_47 : decode cX4_report 47 = .ok (.aload 6, 2) := by decide +kernel
theorem dX4_report_49 : decode cX4_report 49 = .ok (.ifnonnull 13, 3) := by decide +kernel
theorem dX4_report_52 : decode cX4_report 52 = .ok (.new 100, 3) := by decide +kernel
theorem dX4_report_55 : decode cX4_report 55 = .ok (.dup, 1) := by decide +kernel
theorem dX4_report_56 : decode cX4_report 56 = .ok (.ldc 102, 2) := by decide +kernel
theorem dX4_report_58 : decode cX4_report 58 = .ok (.invokespecial 104, 3) := by decide +kernel
theorem dX4_report_61 : decode cX4_report 61 = .ok (.athrow, 1) := by decide +kernel
theorem dX4_report_62 : decode cX4_report 62 = .ok (.aload_n 0, 1) := by decide +kernel
theorem dX4_report_63 : decode cX4_report 63 = .ok (.getfield 93, 3) := by decide +kernel
theorem dX4_report_66 : decode cX4_report 66 = .ok (.istore 7, 2) := by decide +kernel
theorem dX4_report_68 : decode cX4_report 68 = .ok (.aload 6, 2) := by decide +kernel
theorem dX4_report_70 : decode cX4_report 70 = .ok (.aload 5, 2) := by decide +kernel
theorem dX4_report_72 : decode cX4_report 72 = .ok (.iload_n 2, 1) := by decide +kernel
theorem dX4_report_73 : decode cX4_report 73 = .ok (.invokevirtual 75, 3) := by decide +kernel
theorem dX4_report_76 : decode cX4_report 76 = .ok (.iload_n 3, 1) := by decide +kernel
theorem dX4_report_77 : decode cX4_report 77 = .ok (.iload 4, 2) := by decide +kernel
theorem dX4_report_79 : decode cX4_report 79 = .ok (.invokevirtual 105, 3) := by decide +kernel
theorem dX4_report_82 : decode cX4_report 82 = .ok (.aload_n 0, 1) := by decide +kernel
theorem dX4_report_83 : decode cX4_report 83 = .ok (.iload 7, 2) := by decide +kernel
theorem dX4_report_85 : decode cX4_report 85 = .ok (.iconst 1, 1) := by decide +kernel
theorem dX4_report_86 : decode cX4_report 86 = .ok (.iadd, 1) := by decide +kernel
theorem dX4_report_87 : decode cX4_report 87 = .ok (.putfield 93, 3) := by decide +kernel
theorem dX4_report_90 : decode cX4_report 90 = .ok (.iload 7, 2) := by decide +kernel
theorem dX4_report_92 : decode cX4_report 92 = .ok (.ireturn, 1) := by decide +kernel
theorem dX4_clearBatch_0 : decode cX4_clearBatch 0 = .ok (.aload_n 0, 1) := by decide +kernel
theorem dX4_clearBatch_1 : decode cX4_clearBatch 1 = .ok (.getfield 93, 3) := by decide +kernel
theorem dX4_clearBatch_4 : decode cX4_clearBatch 4 = .ok (.istore_n 1, 1) := by decide +kernel
theorem dX4_clearBatch_5 : decode cX4_clearBatch 5 = .ok (.aload_n 0, 1) := by decide +kernel
theorem dX4_clearBatch_6 : decode cX4_clearBatch 6 = .ok (.iconst 0, 1) := by decide +kernel
theorem dX4_clearBatch_7 : decode cX4_clearBatch 7 = .ok (.putfield 93, 3) := by decide +kernel
theorem dX4_clearBatch_10 : decode cX4_clearBatch 10 = .ok (.iload_n 1, 1) := by decide +kernel
theorem dX4_clearBatch_11 : decode cX4_clearBatch 11 = .ok (.ireturn, 1) := by decide +kernel
theorem dX4_process_0 : decode cX4_process 0 = .ok (.aload_n 0, 1) := by decide +kernel
theorem dX4_process_1 : decode cX4_process 1 = .ok (.getfield 93, 3) := by decide +kernel
theorem dX4_process_4 : decode cX4_process 4 = .ok (.ifCond .ne 13, 3) := by decide +kernel
theorem dX4_process_7 : decode cX4_process 7 = .ok (.new 100, 3) := by decide +kernel
theorem dX4_process_10 : decode cX4_process 10 = .ok (.dup, 1) := by decide +kernel
theorem dX4_process_11 : decode cX4_process 11 = .ok (.ldc 109, 2) := by decide +kernel
theorem dX4_process_13 : decode cX4_process 13 = .ok (.invokespecial 104, 3) := by decide +kernel
theorem dX4_process_16 : decode cX4_process 16 = .ok (.athrow, 1) := by decide +kernel
theorem dX4_process_17 : decode cX4_process 17 = .ok (.aload_n 0, 1) := by decide +kernel
theorem dX4_process_18 : decode cX4_process 18 = .ok (.invokevirtual 111, 3) := by decide +kernel
theorem dX4_process_21 : decode cX4_process 21 = .ok (.aload_n 0, 1) := by decide +kernel
theorem dX4_process_22 : decode cX4_process 22 = .ok (.invokevirtual 114, 3) := by decide +kernel
theorem dX4_process_25 : decode cX4_process 25 = .ok (.istore_n 1, 1) := by decide +kernel
theorem dX4_process_26 : decode cX4_process 26 = .ok (.aload_n 0, 1) := by decide +kernel
theorem dX4_process_27 : decode cX4_process 27 = .ok (.invokevirtual 118, 3) := by decide +kernel
theorem dX4_process_30 : decode cX4_process 30 = .ok (.aload_n 0, 1) := by decide +kernel
theorem dX4_process_31 : decode cX4_process 31 = .ok (.invokevirtual 121, 3) := by decide +kernel
theorem dX4_process_34 : decode cX4_process 34 = .ok (.aload_n 0, 1) := by decide +kernel
theorem dX4_process_35 : decode cX4_process 35 = .ok (.invokevirtual 124, 3) := by decide +kernel
theorem dX4_process_38 : decode cX4_process 38 = .ok (.aload_n 0, 1) := by decide +kernel
theorem dX4_process_39 : decode cX4_process 39 = .ok (.dup, 1) := by decide +kernel
theorem dX4_process_40 : decode cX4_process 40 = .ok (.getfield 127, 3) := by decide +kernel
theorem dX4_process_43 : decode cX4_process 43 = .ok (.aload_n 0, 1) := by decide +kernel
theorem dX4_process_44 : decode cX4_process 44 = .ok (.getfield 93, 3) := by decide +kernel
theorem dX4_process_47 : decode cX4_process 47 = .ok (.iadd, 1) := by decide +kernel
theorem dX4_process_48 : decode cX4_process 48 = .ok (.putfield 127, 3) := by decide +kernel
theorem dX4_process_51 : decode cX4_process 51 = .ok (.aload_n 0, 1) := by decide +kernel
theorem dX4_process_52 : decode cX4_process 52 = .ok (.iconst 0, 1) := by decide +kernel
theorem dX4_process_53 : decode cX4_process 53 = .ok (.putfield 93, 3) := by decide +kernel
theorem dX4_process_56 : decode cX4_process 56 = .ok (.iload_n 1, 1) := by decide +kernel
theorem dX4_process_57 : decode cX4_process 57 = .ok (.ireturn, 1) := by decide +kernel
theorem dX4_batch_0 : decode cX4_batch 0 = .ok (.aload_n 0, 1) := by decide +kernel
theorem dX4_batch_1 : decode cX4_batch 1 = .ok (.getfield 93, 3) := by decide +kernel
theorem dX4_batch_4 : decode cX4_batch 4 = .ok (.ireturn, 1) := by decide +kernel
theorem dX4_distance_0 : decode cX4_distance 0 = .ok (.aload_n 0, 1) := by decide +kernel
theorem dX4_distance_1 : decode cX4_distance 1 = .ok (.iload_n 1, 1) := by decide +kernel
theorem dX4_distance_2 : decode cX4_distance 2 = .ok (.invokevirtual 130, 3) := by decide +kernel
theorem dX4_distance_5 : decode cX4_distance 5 = .ok (.astore_n 3, 1) := by decide +kernel
theorem dX4_distance_6 : decode cX4_distance 6 = .ok (.aload_n 0, 1) := by decide +kernel
theorem dX4_distance_7 : decode cX4_distance 7 = .ok (.iload_n 2, 1) := by decide +kernel
theorem dX4_distance_8 : decode cX4_distance 8 = .ok (.invokevirtual 133, 3) := by decide +kernel
theorem dX4_distance_11 : decode cX4_distance 11 = .ok (.aload_n 3, 1) := by decide +kernel
theorem dX4_distance_12 : decode cX4_distance 12 = .ok (.invokevirtual 137, 3) := by decide +kernel
theorem dX4_distance_15 : decode cX4_distance 15 = .ok (.lreturn, 1) := by decide +kernel
theorem dX4_canTake_0 : decode cX4_canTake 0 = .ok (.aload_n 0, 1) := by decide +kernel
theorem dX4_canTake_1 : decode cX4_canTake 1 = .ok (.iload_n 1, 1) := by decide +kernel
theorem dX4_canTake_2 : decode cX4_canTake 2 = .ok (.invokevirtual 130, 3) := by decide +kernel
theorem dX4_canTake_5 : decode cX4_canTake 5 = .ok (.astore_n 3, 1) := by decide +kernel
theorem dX4_canTake_6 : decode cX4_canTake 6 = .ok (.aload_n 0, 1) := by decide +kernel
theorem dX4_canTake_7 : decode cX4_canTake 7 = .ok (.aload_n 3, 1) := by decide +kernel
theorem dX4_canTake_8 : decode cX4_canTake 8 = .ok (.aload_n 0, 1) := by decide +kernel
theorem dX4_canTake_9 : decode cX4_canTake 9 = .ok (.iload_n 2, 1) := by decide +kernel
theorem dX4_canTake_10 : decode cX4_canTake 10 = .ok (.invokevirtual 133, 3) := by decide +kernel
theorem dX4_canTake_13 : decode cX4_canTake 13 = .ok (.invokevirtual 141, 3) := by decide +kernel
theorem dX4_canTake_16 : decode cX4_canTake 16 = .ok (.ldc2_w 145, 3) := by decide +kernel
theorem dX4_canTake_19 : decode cX4_canTake 19 = .ok (.lcmp, 1) := by decide +kernel
theorem dX4_canTake_20 : decode cX4_canTake 20 = .ok (.ifCond .eq 7, 3) := by decide +kernel
theorem dX4_canTake_23 : decode cX4_canTake 23 = .ok (.iconst 1, 1) := by decide +kernel
theorem dX4_canTake_24 : decode cX4_canTake 24 = .ok (.goto 4, 3) := by decide +kernel
theorem dX4_canTake_27 : decode cX4_canTake 27 = .ok (.iconst 0, 1) := by decide +kernel
theorem dX4_canTake_28 : decode cX4_canTake 28 = .ok (.ireturn, 1) := by decide +kernel
theorem dX4_bestCost_0 : decode cX4_bestCost 0 = .ok (.aload_n 0, 1) := by decide +kernel
theorem dX4_bestCost_1 : decode cX4_bestCost 1 = .ok (.invokevirtual 111, 3) := by decide +kernel
theorem dX4_bestCost_4 : decode cX4_bestCost 4 = .ok (.aload_n 0, 1) := by decide +kernel
theorem dX4_bestCost_5 : decode cX4_bestCost 5 = .ok (.getfield 30, 3) := by decide +kernel
theorem dX4_bestCost_8 : decode cX4_bestCost 8 = .ok (.getfield 147, 3) := by decide +kernel
theorem dX4_bestCost_11 : decode cX4_bestCost 11 = .ok (.lreturn, 1) := by decide +kernel
theorem dX4_bestCostByTrying_0 : decode cX4_bestCostByTrying 0 = .ok (.aload_n 0, 1) := by decide +kernel
theorem dX4_bestCostByTrying_1 : decode cX4_bestCostByTrying 1 = .ok (.invokevirtual 151, 3) := by decide +kernel
theorem dX4_bestCostByTrying_4 : decode cX4_bestCostByTrying 4 = .ok (.aload_n 0, 1) := by decide +kernel
theorem dX4_bestCostByTrying_5 : decode cX4_bestCostByTrying 5 = .ok (.getfield 30, 3) := by decide +kernel
theorem dX4_bestCostByTrying_8 : decode cX4_bestCostByTrying 8 = .ok (.iconst 0, 1) := by decide +kernel
theorem dX4_bestCostByTrying_9 : decode cX4_bestCostByTrying 9 = .ok (.iconst 0, 1) := by decide +kernel
theorem dX4_bestCostByTrying_10 : decode cX4_bestCostByTrying 10 = .ok (.invokestatic 154, 3) := by decide +kernel
theorem dX4_bestCostByTrying_13 : decode cX4_bestCostByTrying 13 = .ok (.lreturn, 1) := by decide +kernel
theorem dX4_goesTo_0 : decode cX4_goesTo 0 = .ok (.aload_n 0, 1) := by decide +kernel
theorem dX4_goesTo_1 : decode cX4_goesTo 1 = .ok (.iload_n 1, 1) := by decide +kernel
theorem dX4_goesTo_2 : decode cX4_goesTo 2 = .ok (.invokevirtual 130, 3) := by decide +kernel
theorem dX4_goesTo_5 : decode cX4_goesTo 5 = .ok (.pop, 1) := by decide +kernel
theorem dX4_goesTo_6 : decode cX4_goesTo 6 = .ok (.aload_n 0, 1) := by decide +kernel
theorem dX4_goesTo_7 : decode cX4_goesTo 7 = .ok (.invokevirtual 111, 3) := by decide +kernel
theorem dX4_goesTo_10 : decode cX4_goesTo 10 = .ok (.aload_n 0, 1) := by decide +kernel
theorem dX4_goesTo_11 : decode cX4_goesTo 11 = .ok (.getfield 30, 3) := by decide +kernel
theorem dX4_goesTo_14 : decode cX4_goesTo 14 = .ok (.iload_n 1, 1) := by decide +kernel
theorem dX4_goesTo_15 : decode cX4_goesTo 15 = .ok (.invokevirtual 158, 3) := by decide +kernel
theorem dX4_goesTo_18 : decode cX4_goesTo 18 = .ok (.astore_n 2, 1) := by decide +kernel
theorem dX4_goesTo_19 : decode cX4_goesTo 19 = .ok (.aload_n 2, 1) := by decide +kernel
theorem dX4_goesTo_20 : decode cX4_goesTo 20 = .ok (.ifnonnull 7, 3) := by decide +kernel
theorem dX4_goesTo_23 : decode cX4_goesTo 23 = .ok (.iconst (-1), 1) := by decide +kernel
theorem dX4_goesTo_24 : decode cX4_goesTo 24 = .ok (.goto 7, 3) := by decide +kernel
theorem dX4_goesTo_27 : decode cX4_goesTo 27 = .ok (.aload_n 2, 1) := by decide +kernel
theorem dX4_goesTo_28 : decode cX4_goesTo 28 = .ok (.getfield 161, 3) := by decide +kernel
theorem dX4_goesTo_31 : decode cX4_goesTo 31 = .ok (.ireturn, 1) := by decide +kernel
theorem dX4_reportNumbered_0 : decode cX4_reportNumbered 0 = .ok (.iload_n 1, 1) := by decide +kernel
theorem dX4_reportNumbered_1 : decode cX4_reportNumbered 1 = .ok (.aload_n 0, 1) := by decide +kernel
theorem dX4_reportNumbered_2 : decode cX4_reportNumbered 2 = .ok (.getfield 93, 3) := by decide +kernel
theorem dX4_reportNumbered_5 : decode cX4_reportNumbered 5 = .ok (.if_icmp .ge 11, 3) := by decide +kernel
theorem dX4_reportNumbered_8 : decode cX4_reportNumbered 8 = .ok (.aload_n 0, 1) := by decide +kernel
theorem dX4_reportNumbered_9 : decode cX4_reportNumbered 9 = .ok (.iload_n 1, 1) := by decide +kernel
theorem dX4_reportNumbered_10 : decode cX4_reportNumbered 10 = .ok (.invokevirtual 96, 3) := by decide +kernel
theorem dX4_reportNumbered_13 : decode cX4_reportNumbered 13 = .ok (.goto 4, 3) := by decide +kernel
theorem dX4_reportNumbered_16 : decode cX4_reportNumbered 16 = .ok (.aconst_null, 1) := by decide +kernel
theorem dX4_reportNumbered_17 : decode cX4_reportNumbered 17 = .ok (.astore_n 2, 1) := by decide +kernel
theorem dX4_reportNumbered_18 : decode cX4_reportNumbered 18 = .ok (.aload_n 2, 1) := by decide +kernel
theorem dX4_reportNumbered_19 : decode cX4_reportNumbered 19 = .ok (.ifnonnull 13, 3) := by decide +kernel
theorem dX4_reportNumbered_22 : decode cX4_reportNumbered 22 = .ok (.new 79, 3) := by decide +kernel
theorem dX4_reportNumbered_25 : decode cX4_reportNumbered 25 = .ok (.dup, 1) := by decide +kernel
theorem dX4_reportNumbered_26 : decode cX4_reportNumbered 26 = .ok (.ldc 164, 2) := by decide +kernel
theorem dX4_reportNumbered_28 : decode cX4_reportNumbered 28 = .ok (.invokespecial 83, 3) := by decide +kernel
theorem dX4_reportNumbered_31 : decode cX4_reportNumbered 31 = .ok (.athrow, 1) := by decide +kernel
theorem dX4_reportNumbered_32 : decode cX4_reportNumbered 32 = .ok (.aload_n 2, 1) := by decide +kernel
theorem dX4_reportNumbered_33 : decode cX4_reportNumbered 33 = .ok (.areturn, 1) := by decide +kernel
theorem dX4_rowAt_0 : decode cX4_rowAt 0 = .ok (.iload_n 1, 1) := by decide +kernel
theorem dX4_rowAt_1 : decode cX4_rowAt 1 = .ok (.ifCond .lt 12, 3) := by decide +kernel
theorem dX4_rowAt_4 : decode cX4_rowAt 4 = .ok (.iload_n 1, 1) := by decide +kernel
theorem dX4_rowAt_5 : decode cX4_rowAt 5 = .ok (.aload_n 0, 1) := by decide +kernel
theorem dX4_rowAt_6 : decode cX4_rowAt 6 = .ok (.getfield 17, 3) := by decide +kernel
theorem dX4_rowAt_9 : decode cX4_rowAt 9 = .ok (.arraylength, 1) := by decide +kernel
theorem dX4_rowAt_10 : decode cX4_rowAt 10 = .ok (.if_icmp .lt 7, 3) := by decide +kernel
theorem dX4_rowAt_13 : decode cX4_rowAt 13 = .ok (.aconst_null, 1) := by decide +kernel
theorem dX4_rowAt_14 : decode cX4_rowAt 14 = .ok (.goto 9, 3) := by decide +kernel
theorem dX4_rowAt_17 : decode cX4_rowAt 17 = .ok (.aload_n 0, 1) := by decide +kernel
theorem dX4_rowAt_18 : decode cX4_rowAt 18 = .ok (.getfield 17, 3) := by decide +kernel
theorem dX4_rowAt_21 : decode cX4_rowAt 21 = .ok (.iload_n 1, 1) := by decide +kernel
theorem dX4_rowAt_22 : decode cX4_rowAt 22 = .ok (.aaload, 1) := by decide +kernel
theorem dX4_rowAt_23 : decode cX4_rowAt 23 = .ok (.areturn, 1) := by decide +kernel
theorem dX4_costOfTaking_0 : decode cX4_costOfTaking 0 = .ok (.aload_n 1, 1) := by decide +kernel
theorem dX4_costOfTaking_1 : decode cX4_costOfTaking 1 = .ok (.getfield 166, 3) := by decide +kernel
theorem dX4_costOfTaking_4 : decode cX4_costOfTaking 4 = .ok (.aload_n 2, 1) := by decide +kernel
theorem dX4_costOfTaking_5 : decode cX4_costOfTaking 5 = .ok (.getfield 169, 3) := by decide +kernel
theorem dX4_costOfTaking_8 : decode cX4_costOfTaking 8 = .ok (.if_icmp .ge 7, 3) := by decide +kernel
theorem dX4_costOfTaking_11 : decode cX4_costOfTaking 11 = .ok (.ldc2_w 145, 3) := by decide +kernel
theorem dX4_costOfTaking_14 : decode cX4_costOfTaking 14 = .ok (.lreturn, 1) := by decide +kernel
theorem dX4_costOfTaking_15 : decode cX4_costOfTaking 15 = .ok (.aload_n 2, 1) := by decide +kernel
theorem dX4_costOfTaking_16 : decode cX4_costOfTaking 16 = .ok (.aload_n 1, 1) := by decide +kernel
theorem dX4_costOfTaking_17 : decode cX4_costOfTaking 17 = .ok (.invokevirtual 137, 3) := by decide +kernel
theorem dX4_costOfTaking_20 : decode cX4_costOfTaking 20 = .ok (.lstore_n 3, 1) := by decide +kernel
theorem dX4_costOfTaking_21 : decode cX4_costOfTaking 21 = .ok (.lload_n 3, 1) := by decide +kernel
theorem dX4_costOfTaking_22 : decode cX4_costOfTaking 22 = .ok (.aload_n 0, 1) := by decide +kernel
theorem dX4_costOfTaking_23 : decode cX4_costOfTaking 23 = .ok (.getfield 34, 3) := by decide +kernel
theorem dX4_costOfTaking_26 : decode cX4_costOfTaking 26 = .ok (.invokestatic 170, 3) := by decide +kernel
theorem dX4_costOfTaking_29 : decode cX4_costOfTaking 29 = .ok (.lcmp, 1) := by decide +kernel
theorem dX4_costOfTaking_30 : decode cX4_costOfTaking 30 = .ok (.ifCond .gt 7, 3) := by decide +kernel
theorem dX4_costOfTaking_33 : decode cX4_costOfTaking 33 = .ok (.lload_n 3, 1) := by decide +kernel
theorem dX4_costOfTaking_34 : decode cX4_costOfTaking 34 = .ok (.goto 6, 3) := by decide +kernel
theorem dX4_costOfTaking_37 : decode cX4_costOfTaking 37 = .ok (.ldc2_w 145, 3) := by decide +kernel
theorem dX4_costOfTaking_40 : decode cX4_costOfTaking 40 = .ok (.lreturn, 1) := by decide +kernel
theorem dX4_findBestMatching_0 : decode cX4_findBestMatching 0 = .ok (.aload_n 0, 1) := by decide +kernel
theorem dX4_findBestMatching_1 : decode cX4_findBestMatching 1 = .ok (.invokevirtual 151, 3) := by decide +kernel
theorem dX4_findBestMatching_4 : decode cX4_findBestMatching 4 = .ok (.aload_n 0, 1) := by decide +kernel
theorem dX4_findBestMatching_5 : decode cX4_findBestMatching 5 = .ok (.getfield 30, 3) := by decide +kernel
theorem dX4_findBestMatching_8 : decode cX4_findBestMatching 8 = .ok (.ldc2_w 174, 3) := by decide +kernel
theorem dX4_findBestMatching_11 : decode cX4_findBestMatching 11 = .ok (.putfield 147, 3) := by decide +kernel
theorem dX4_findBestMatching_14 : decode cX4_findBestMatching 14 = .ok (.aload_n 0, 1) := by decide +kernel
theorem dX4_findBestMatching_15 : decode cX4_findBestMatching 15 = .ok (.getfield 30, 3) := by decide +kernel
theorem dX4_findBestMatching_18 : decode cX4_findBestMatching 18 = .ok (.iconst 0, 1) := by decide +kernel
theorem dX4_findBestMatching_19 : decode cX4_findBestMatching 19 = .ok (.iconst 0, 1) := by decide +kernel
theorem dX4_findBestMatching_20 : decode cX4_findBestMatching 20 = .ok (.lconst 0, 1) := by decide +kernel
theorem dX4_findBestMatching_21 : decode cX4_findBestMatching 21 = .ok (.invokestatic 176, 3) := by decide +kernel
theorem dX4_findBestMatching_24 : decode cX4_findBestMatching 24 = .ok (.return_, 1) := by decide +kernel
theorem dX4_prepareMatching_0 : decode cX4_prepareMatching 0 = .ok (.aload_n 0, 1) := by decide +kernel
theorem dX4_prepareMatching_1 : decode cX4_prepareMatching 1 = .ok (.getfield 30, 3) := by decide +kernel
theorem dX4_prepareMatching_4 : decode cX4_prepareMatching 4 = .ok (.aload_n 0, 1) := by decide +kernel
theorem dX4_prepareMatching_5 : decode cX4_prepareMatching 5 = .ok (.getfield 34, 3) := by decide +kernel
theorem dX4_prepareMatching_8 : decode cX4_prepareMatching 8 = .ok (.invokestatic 170, 3) := by decide +kernel
theorem dX4_prepareMatching_11 : decode cX4_prepareMatching 11 = .ok (.invokevirtual 180, 3) := by decide +kernel
theorem dX4_prepareMatching_14 : decode cX4_prepareMatching 14 = .ok (.iconst 0, 1) := by decide +kernel
theorem dX4_prepareMatching_15 : decode cX4_prepareMatching 15 = .ok (.istore_n 1, 1) := by decide +kernel
theorem dX4_prepareMatching_16 : decode cX4_prepareMatching 16 = .ok (.iload_n 1, 1) := by decide +kernel
theorem dX4_prepareMatching_17 : decode cX4_prepareMatching 17 = .ok (.aload_n 0, 1) := by decide +kernel
theorem dX4_prepareMatching_18 : decode cX4_prepareMatching 18 = .ok (.getfield 184, 3) := by decide +kernel
theorem dX4_prepareMatching_21 : decode cX4_prepareMatching 21 = .ok (.if_icmp .ge 27, 3) := by decide +kernel
theorem dX4_prepareMatching_24 : decode cX4_prepareMatching 24 = .ok (.aload_n 0, 1) := by decide +kernel
theorem dX4_prepareMatching_25 : decode cX4_prepareMatching 25 = .ok (.iload_n 1, 1) := by decide +kernel
theorem dX4_prepareMatching_26 : decode cX4_prepareMatching 26 = .ok (.invokevirtual 187, 3) := by decide +kernel
theorem dX4_prepareMatching_29 : decode cX4_prepareMatching 29 = .ok (.astore_n 2, 1) := by decide +kernel
theorem dX4_prepareMatching_30 : decode cX4_prepareMatching 30 = .ok (.aload_n 2, 1) := by decide +kernel
theorem dX4_prepareMatching_31 : decode cX4_prepareMatching 31 = .ok (.ifnull 11, 3) := by decide +kernel
theorem dX4_prepareMatching_34 : decode cX4_prepareMatching 34 = .ok (.aload_n 0, 1) := by decide +kernel
theorem dX4_prepareMatching_35 : decode cX4_prepareMatching 35 = .ok (.getfield 30, 3) := by decide +kernel
theorem dX4_prepareMatching_38 : decode cX4_prepareMatching 38 = .ok (.aload_n 2, 1) := by decide +kernel
theorem dX4_prepareMatching_39 : decode cX4_prepareMatching 39 = .ok (.invokevirtual 190, 3) := by decide +kernel
theorem dX4_prepareMatching_42 : decode cX4_prepareMatching 42 = .ok (.iinc 1 1, 3) := by decide +kernel
theorem dX4_prepareMatching_45 : decode cX4_prepareMatching 45 = .ok (.goto (-29), 3) := by decide +kernel
theorem dX4_prepareMatching_48 : decode cX4_prepareMatching 48 = .ok (.iconst 0, 1) := by decide +kernel
theorem dX4_prepareMatching_49 : decode cX4_prepareMatching 49 = .ok (.istore_n 1, 1) := by decide +kernel
theorem dX4_prepareMatching_50 : decode cX4_prepareMatching 50 = .ok (.iload_n 1, 1) := by decide +kernel
theorem dX4_prepareMatching_51 : decode cX4_prepareMatching 51 = .ok (.aload_n 0, 1) := by decide +kernel
theorem dX4_prepareMatching_52 : decode cX4_prepareMatching 52 = .ok (.getfield 93, 3) := by decide +kernel
theorem dX4_prepareMatching_55 : decode cX4_prepareMatching 55 = .ok (.if_icmp .ge 32, 3) := by decide +kernel
theorem dX4_prepareMatching_58 : decode cX4_prepareMatching 58 = .ok (.aload_n 0, 1) := by decide +kernel
theorem dX4_prepareMatching_59 : decode cX4_prepareMatching 59 = .ok (.iload_n 1, 1) := by decide +kernel
theorem dX4_prepareMatching_60 : decode cX4_prepareMatching 60 = .ok (.invokevirtual 96, 3) := by decide +kernel
theorem dX4_prepareMatching_63 : decode cX4_prepareMatching 63 = .ok (.astore_n 2, 1) := by decide +kernel
theorem dX4_prepareMatching_64 : decode cX4_prepareMatching 64 = .ok (.aload_n 2, 1) := by decide +kernel
theorem dX4_prepareMatching_65 : decode cX4_prepareMatching 65 = .ok (.ifnull 16, 3) := by decide +kernel
theorem dX4_prepareMatching_68 : decode cX4_prepareMatching 68 = .ok (.aload_n 0, 1) := by decide +kernel
theorem dX4_prepareMatching_69 : decode cX4_prepareMatching 69 = .ok (.getfield 30, 3) := by decide +kernel
theorem dX4_prepareMatching_72 : decode cX4_prepareMatching 72 = .ok (.invokevirtual 194, 3) := by decide +kernel
theorem dX4_prepareMatching_75 : decode cX4_prepareMatching 75 = .ok (.aload_n 0, 1) := by decide +kernel
theorem dX4_prepareMatching_76 : decode cX4_prepareMatching 76 = .ok (.iload_n 1, 1) := by decide +kernel
theorem dX4_prepareMatching_77 : decode cX4_prepareMatching 77 = .ok (.aload_n 2, 1) := by decide +kernel
theorem dX4_prepareMatching_78 : decode cX4_prepareMatching 78 = .ok (.invokevirtual 197, 3) := by decide +kernel
theorem dX4_prepareMatching_81 : decode cX4_prepareMatching 81 = .ok (.iinc 1 1, 3) := by decide +kernel
theorem dX4_prepareMatching_84 : decode cX4_prepareMatching 84 = .ok (.goto (-34), 3) := by decide +kernel
theorem dX4_prepareMatching_87 : decode cX4_prepareMatching 87 = .ok (.return_, 1) := by decide +kernel
theorem dX4_fillCosts_0 : decode cX4_fillCosts 0 = .ok (.iconst 0, 1) := by decide +kernel
theorem dX4_fillCosts_1 : decode cX4_fillCosts 1 = .ok (.istore_n 3, 1) := by decide +kernel
theorem dX4_fillCosts_2 : decode cX4_fillCosts 2 = .ok (.iload_n 3, 1) := by decide +kernel
theorem dX4_fillCosts_3 : decode cX4_fillCosts 3 = .ok (.aload_n 0, 1) := by decide +kernel
theorem dX4_fillCosts_4 : decode cX4_fillCosts 4 = .ok (.getfield 30, 3) := by decide +kernel
theorem dX4_fillCosts_7 : decode cX4_fillCosts 7 = .ok (.getfield 201, 3) := by decide +kernel
theorem dX4_fillCosts_10 : decode cX4_fillCosts 10 = .ok (.if_icmp .ge 40, 3) := by decide +kernel
theorem dX4_fillCosts_13 : decode cX4_fillCosts 13 = .ok (.aload_n 0, 1) := by decide +kernel
theorem dX4_fillCosts_14 : decode cX4_fillCosts 14 = .ok (.getfield 30, 3) := by decide +kernel
theorem dX4_fillCosts_17 : decode cX4_fillCosts 17 = .ok (.iload_n 3, 1) := by decide +kernel
theorem dX4_fillCosts_18 : decode cX4_fillCosts 18 = .ok (.invokevirtual 204, 3) := by decide +kernel
theorem dX4_fillCosts_21 : decode cX4_fillCosts 21 = .ok (.astore 4, 2) := by decide +kernel
theorem dX4_fillCosts_23 : decode cX4_fillCosts 23 = .ok (.aload 4, 2) := by decide +kernel
theorem dX4_fillCosts_25 : decode cX4_fillCosts 25 = .ok (.ifnull 19, 3) := by decide +kernel
theorem dX4_fillCosts_28 : decode cX4_fillCosts 28 = .ok (.aload_n 0, 1) := by decide +kernel
theorem dX4_fillCosts_29 : decode cX4_fillCosts 29 = .ok (.getfield 30, 3) := by decide +kernel
theorem dX4_fillCosts_32 : decode cX4_fillCosts 32 = .ok (.iload_n 1, 1) := by decide +kernel
theorem dX4_fillCosts_33 : decode cX4_fillCosts 33 = .ok (.iload_n 3, 1) := by decide +kernel
theorem dX4_fillCosts_34 : decode cX4_fillCosts 34 = .ok (.aload_n 0, 1) := by decide +kernel
theorem dX4_fillCosts_35 : decode cX4_fillCosts 35 = .ok (.aload_n 2, 1) := by decide +kernel
theorem dX4_fillCosts_36 : decode cX4_fillCosts 36 = .ok (.aload 4, 2) := by decide +kernel
theorem dX4_fillCosts_38 : decode cX4_fillCosts 38 = .ok (.invokevirtual 141, 3) := by decide +kernel
theorem dX4_fillCosts_41 : decode cX4_fillCosts 41 = .ok (.invokevirtual 207, 3) := by decide +kernel
theorem dX4_fillCosts_44 : decode cX4_fillCosts 44 = .ok (.iinc 3 1, 3) := by decide +kernel
theorem dX4_fillCosts_47 : decode cX4_fillCosts 47 = .ok (.goto (-45), 3) := by decide +kernel
theorem dX4_fillCosts_50 : decode cX4_fillCosts 50 = .ok (.return_, 1) := by decide +kernel
theorem dX4_extend_0 : decode cX4_extend 0 = .ok (.lload_n 3, 1) := by decide +kernel
theorem dX4_extend_1 : decode cX4_extend 1 = .ok (.aload_n 0, 1) := by decide +kernel
theorem dX4_extend_2 : decode cX4_extend 2 = .ok (.getfield 147, 3) := by decide +kernel
theorem dX4_extend_5 : decode cX4_extend 5 = .ok (.lcmp, 1) := by decide +kernel
theorem dX4_extend_6 : decode cX4_extend 6 = .ok (.ifCond .lt 4, 3) := by decide +kernel
theorem dX4_extend_9 : decode cX4_extend 9 = .ok (.return_, 1) := by decide +kernel
theorem dX4_extend_10 : decode cX4_extend 10 = .ok (.iload_n 1, 1) := by decide +kernel
theorem dX4_extend_11 : decode cX4_extend 11 = .ok (.ifCond .lt 16, 3) := by decide +kernel
theorem dX4_extend_14 : decode cX4_extend 14 = .ok (.iload_n 1, 1) := by decide +kernel
theorem dX4_extend_15 : decode cX4_extend 15 = .ok (.aload_n 0, 1) := by decide +kernel
theorem dX4_extend_16 : decode cX4_extend 16 = .ok (.getfield 211, 3) := by decide +kernel
theorem dX4_extend_19 : decode cX4_extend 19 = .ok (.if_icmp .ge 8, 3) := by decide +kernel
theorem dX4_extend_22 : decode cX4_extend 22 = .ok (.iload_n 1, 1) := by decide +kernel
theorem dX4_extend_23 : decode cX4_extend 23 = .ok (.iconst 4, 1) := by decide +kernel
theorem dX4_extend_24 : decode cX4_extend 24 = .ok (.if_icmp .lt 9, 3) := by decide +kernel
theorem dX4_extend_27 : decode cX4_extend 27 = .ok (.aload_n 0, 1) := by decide +kernel
theorem dX4_extend_28 : decode cX4_extend 28 = .ok (.lload_n 3, 1) := by decide +kernel
theorem dX4_extend_29 : decode cX4_extend 29 = .ok (.invokevirtual 212, 3) := by decide +kernel
theorem dX4_extend_32 : decode cX4_extend 32 = .ok (.return_, 1) := by decide +kernel
theorem dX4_extend_33 : decode cX4_extend 33 = .ok (.iconst 0, 1) := by decide +kernel
theorem dX4_extend_34 : decode cX4_extend 34 = .ok (.istore 5, 2) := by decide +kernel
theorem dX4_extend_36 : decode cX4_extend 36 = .ok (.iload 5, 2) := by decide +kernel
theorem dX4_extend_38 : decode cX4_extend 38 = .ok (.aload_n 0, 1) := by decide +kernel
theorem dX4_extend_39 : decode cX4_extend 39 = .ok (.getfield 201, 3) := by decide +kernel
theorem dX4_extend_42 : decode cX4_extend 42 = .ok (.if_icmp .ge 70, 3) := by decide +kernel
theorem dX4_extend_45 : decode cX4_extend 45 = .ok (.iload 5, 2) := by decide +kernel
theorem dX4_extend_47 : decode cX4_extend 47 = .ok (.bipush 6, 2) := by decide +kernel
theorem dX4_extend_49 : decode cX4_extend 49 = .ok (.if_icmp .ge 63, 3) := by decide +kernel
theorem dX4_extend_52 : decode cX4_extend 52 = .ok (.aload_n 0, 1) := by decide +kernel
theorem dX4_extend_53 : decode cX4_extend 53 = .ok (.getfield 215, 3) := by decide +kernel
theorem dX4_extend_56 : decode cX4_extend 56 = .ok (.iload_n 1, 1) := by decide +kernel
theorem dX4_extend_57 : decode cX4_extend 57 = .ok (.aaload, 1) := by decide +kernel
theorem dX4_extend_58 : decode cX4_extend 58 = .ok (.iload 5, 2) := by decide +kernel
theorem dX4_extend_60 : decode cX4_extend 60 = .ok (.laload, 1) := by decide +kernel
theorem dX4_extend_61 : decode cX4_extend 61 = .ok (.lstore 6, 2) := by decide +kernel
theorem dX4_extend_63 : decode cX4_extend 63 = .ok (.lload 6, 2) := by decide +kernel
theorem dX4_extend_65 : decode cX4_extend 65 = .ok (.ldc2_w 145, 3) := by decide +kernel
theorem dX4_extend_68 : decode cX4_extend 68 = .ok (.lcmp, 1) := by decide +kernel
theorem dX4_extend_69 : decode cX4_extend 69 = .ok (.ifCond .eq 37, 3) := by decide +kernel
theorem dX4_extend_72 : decode cX4_extend 72 = .ok (.iload_n 2, 1) := by decide +kernel
theorem dX4_extend_73 : decode cX4_extend 73 = .ok (.iload 5, 2) := by decide +kernel
theorem dX4_extend_75 : decode cX4_extend 75 = .ok (.ishr, 1) := by decide +kernel
theorem dX4_extend_76 : decode cX4_extend 76 = .ok (.iconst 1, 1) := by decide +kernel
theorem dX4_extend_77 : decode cX4_extend 77 = .ok (.iand, 1) := by decide +kernel
theorem dX4_extend_78 : decode cX4_extend 78 = .ok (.ifCond .ne 28, 3) := by decide +kernel
theorem dX4_extend_81 : decode cX4_extend 81 = .ok (.aload_n 0, 1) := by decide +kernel
theorem dX4_extend_82 : decode cX4_extend 82 = .ok (.getfield 219, 3) := by decide +kernel
theorem dX4_extend_85 : decode cX4_extend 85 = .ok (.iload_n 1, 1) := by decide +kernel
theorem dX4_extend_86 : decode cX4_extend 86 = .ok (.iload 5, 2) := by decide +kernel
theorem dX4_extend_88 : decode cX4_extend 88 = .ok (.iastore, 1) := by decide +kernel
theorem dX4_extend_89 : decode cX4_extend 89 = .ok (.aload_n 0, 1) := by decide +kernel
theorem dX4_extend_90 : decode cX4_extend 90 = .ok (.iload_n 1, 1) := by decide +kernel
theorem dX4_extend_91 : decode cX4_extend 91 = .ok (.iconst 1, 1) := by decide +kernel
theorem dX4_extend_92 : decode cX4_extend 92 = .ok (.iadd, 1) := by decide +kernel
theorem dX4_extend_93 : decode cX4_extend 93 = .ok (.iload_n 2, 1) := by decide +kernel
theorem dX4_extend_94 : decode cX4_extend 94 = .ok (.iconst 1, 1) := by decide +kernel
theorem dX4_extend_95 : decode cX4_extend 95 = .ok (.iload 5, 2) := by decide +kernel
theorem dX4_extend_97 : decode cX4_extend 97 = .ok (.ishl, 1) := by decide +kernel
theorem dX4_extend_98 : decode cX4_extend 98 = .ok (.ior, 1) := by decide +kernel
theorem dX4_extend_99 : decode cX4_extend 99 = .ok (.lload_n 3, 1) := by decide +kernel
theorem dX4_extend_100 : decode cX4_extend 100 = .ok (.lload 6, 2) := by decide +kernel
theorem dX4_extend_102 : decode cX4_extend 102 = .ok (.ladd, 1) := by decide +kernel
theorem dX4_extend_103 : decode cX4_extend 103 = .ok (.invokestatic 176, 3) := by decide +kernel
theorem dX4_extend_106 : decode cX4_extend 106 = .ok (.iinc 5 1, 3) := by decide +kernel
theorem dX4_extend_109 : decode cX4_extend 109 = .ok (.goto (-73), 3) := by decide +kernel
theorem dX4_extend_112 : decode cX4_extend 112 = .ok (.aload_n 0, 1) := by decide +kernel
theorem dX4_extend_113 : decode cX4_extend 113 = .ok (.getfield 219, 3) := by decide +kernel
theorem dX4_extend_116 : decode cX4_extend 116 = .ok (.iload_n 1, 1) := by decide +kernel
theorem dX4_extend_117 : decode cX4_extend 117 = .ok (.iconst (-1), 1) := by decide +kernel
theorem dX4_extend_118 : decode cX4_extend 118 = .ok (.iastore, 1) := by decide +kernel
theorem dX4_extend_119 : decode cX4_extend 119 = .ok (.aload_n 0, 1) := by decide +kernel
theorem dX4_extend_120 : decode cX4_extend 120 = .ok (.iload_n 1, 1) := by decide +kernel
theorem dX4_extend_121 : decode cX4_extend 121 = .ok (.iconst 1, 1) := by decide +kernel
theorem dX4_extend_122 : decode cX4_extend 122 = .ok (.iadd, 1) := by decide +kernel
theorem dX4_extend_123 : decode cX4_extend 123 = .ok (.iload_n 2, 1) := by decide +kernel
theorem dX4_extend_124 : decode cX4_extend 124 = .ok (.lload_n 3, 1) := by decide +kernel
theorem dX4_extend_125 : decode cX4_extend 125 = .ok (.aload_n 0, 1) := by decide +kernel
theorem dX4_extend_126 : decode cX4_extend 126 = .ok (.getfield 223, 3) := by decide +kernel
theorem dX4_extend_129 : decode cX4_extend 129 = .ok (.ladd, 1) := by decide +kernel
theorem dX4_extend_130 : decode cX4_extend 130 = .ok (.invokestatic 176, 3) := by decide +kernel
theorem dX4_extend_133 : decode cX4_extend 133 = .ok (.return_, 1) := by decide +kernel
theorem dX4_leastCostFrom_0 : decode cX4_leastCostFrom 0 = .ok (.iload_n 1, 1) := by decide +kernel
theorem dX4_leastCostFrom_1 : decode cX4_leastCostFrom 1 = .ok (.ifCond .lt 16, 3) := by decide +kernel
theorem dX4_leastCostFrom_4 : decode cX4_leastCostFrom 4 = .ok (.iload_n 1, 1) := by decide +kernel
theorem dX4_leastCostFrom_5 : decode cX4_leastCostFrom 5 = .ok (.aload_n 0, 1) := by decide +kernel
theorem dX4_leastCostFrom_6 : decode cX4_leastCostFrom 6 = .ok (.getfield 211, 3) := by decide +kernel
theorem dX4_leastCostFrom_9 : decode cX4_leastCostFrom 9 = .ok (.if_icmp .ge 8, 3) := by decide +kernel
theorem dX4_leastCostFrom_12 : decode cX4_leastCostFrom 12 = .ok (.iload_n 1, 1) := by decide +kernel
theorem dX4_leastCostFrom_13 : decode cX4_leastCostFrom 13 = .ok (.iconst 4, 1) := by decide +kernel
theorem dX4_leastCostFrom_14 : decode cX4_leastCostFrom 14 = .ok (.if_icmp .lt 5, 3) := by decide +kernel
theorem dX4_leastCostFrom_17 : decode cX4_leastCostFrom 17 = .ok (.lconst 0, 1) := by decide +kernel
theorem dX4_leastCostFrom_18 : decode cX4_leastCostFrom 18 = .ok (.lreturn, 1) := by decide +kernel
theorem dX4_leastCostFrom_19 : decode cX4_leastCostFrom 19 = .ok (.aload_n 0, 1) := by decide +kernel
theorem dX4_leastCostFrom_20 : decode cX4_leastCostFrom 20 = .ok (.getfield 223, 3) := by decide +kernel
theorem dX4_leastCostFrom_23 : decode cX4_leastCostFrom 23 = .ok (.aload_n 0, 1) := by decide +kernel
theorem dX4_leastCostFrom_24 : decode cX4_leastCostFrom 24 = .ok (.iload_n 1, 1) := by decide +kernel
theorem dX4_leastCostFrom_25 : decode cX4_leastCostFrom 25 = .ok (.iconst 1, 1) := by decide +kernel
theorem dX4_leastCostFrom_26 : decode cX4_leastCostFrom 26 = .ok (.iadd, 1) := by decide +kernel
theorem dX4_leastCostFrom_27 : decode cX4_leastCostFrom 27 = .ok (.iload_n 2, 1) := by decide +kernel
theorem dX4_leastCostFrom_28 : decode cX4_leastCostFrom 28 = .ok (.invokestatic 154, 3) := by decide +kernel
theorem dX4_leastCostFrom_31 : decode cX4_leastCostFrom 31 = .ok (.ladd, 1) := by decide +kernel
theorem dX4_leastCostFrom_32 : decode cX4_leastCostFrom 32 = .ok (.lstore_n 3, 1) := by decide +kernel
theorem dX4_leastCostFrom_33 : decode cX4_leastCostFrom 33 = .ok (.iconst 0, 1) := by decide +kernel
theorem dX4_leastCostFrom_34 : decode cX4_leastCostFrom 34 = .ok (.istore 5, 2) := by decide +kernel
theorem dX4_leastCostFrom_36 : decode cX4_leastCostFrom 36 = .ok (.iload 5, 2) := by decide +kernel
theorem dX4_leastCostFrom_38 : decode cX4_leastCostFrom 38 = .ok (.aload_n 0, 1) := by decide +kernel
theorem dX4_leastCostFrom_39 : decode cX4_leastCostFrom 39 = .ok (.getfield 201, 3) := by decide +kernel
theorem dX4_leastCostFrom_42 : decode cX4_leastCostFrom 42 = .ok (.if_icmp .ge 66, 3) := by decide +kernel
theorem dX4_leastCostFrom_45 : decode cX4_leastCostFrom 45 = .ok (.iload 5, 2) := by decide +kernel
theorem dX4_leastCostFrom_47 : decode cX4_leastCostFrom 47 = .ok (.bipush 6, 2) := by decide +kernel
theorem dX4_leastCostFrom_49 : decode cX4_leastCostFrom 49 = .ok (.if_icmp .ge 59, 3) := by decide +kernel
theorem dX4_leastCostFrom_52 : decode cX4_leastCostFrom 52 = .ok (.aload_n 0, 1) := by decide +kernel
theorem dX4_leastCostFrom_53 : decode cX4_leastCostFrom 53 = .ok (.getfield 215, 3) := by decide +kernel
theorem dX4_leastCostFrom_56 : decode cX4_leastCostFrom 56 = .ok (.iload_n 1, 1) := by decide +kernel
theorem dX4_leastCostFrom_57 : decode cX4_leastCostFrom 57 = .ok (.aaload, 1) := by decide +kernel
theorem dX4_leastCostFrom_58 : decode cX4_leastCostFrom 58 = .ok (.iload 5, 2) := by decide +kernel
theorem dX4_leastCostFrom_60 : decode cX4_leastCostFrom 60 = .ok (.laload, 1) := by decide +kernel
theorem dX4_leastCostFrom_61 : decode cX4_leastCostFrom 61 = .ok (.lstore 6, 2) := by decide +kernel
theorem dX4_leastCostFrom_63 : decode cX4_leastCostFrom 63 = .ok (.lload 6, 2) := by decide +kernel
theorem dX4_leastCostFrom_65 : decode cX4_leastCostFrom 65 = .ok (.ldc2_w 145, 3) := by decide +kernel
theorem dX4_leastCostFrom_68 : decode cX4_leastCostFrom 68 = .ok (.lcmp, 1) := by decide +kernel
theorem dX4_leastCostFrom_69 : decode cX4_leastCostFrom 69 = .ok (.ifCond .eq 33, 3) := by decide +kernel
theorem dX4_leastCostFrom_72 : decode cX4_leastCostFrom 72 = .ok (.iload_n 2, 1) := by decide +kernel
theorem dX4_leastCostFrom_73 : decode cX4_leastCostFrom 73 = .ok (.iload 5, 2) := by decide +kernel
theorem dX4_leastCostFrom_75 : decode cX4_leastCostFrom 75 = .ok (.ishr, 1) := by decide +kernel
theorem dX4_leastCostFrom_76 : decode cX4_leastCostFrom 76 = .ok (.iconst 1, 1) := by decide +kernel
theorem dX4_leastCostFrom_77 : decode cX4_leastCostFrom 77 = .ok (.iand, 1) := by decide +kernel
theorem dX4_leastCostFrom_78 : decode cX4_leastCostFrom 78 = .ok (.ifCond .ne 24, 3) := by decide +kernel
theorem dX4_leastCostFrom_81 : decode cX4_leastCostFrom 81 = .ok (.lload_n 3, 1) := by decide +kernel
theorem dX4_leastCostFrom_82 : decode cX4_leastCostFrom 82 = .ok (.lload 6, 2) := by decide +kernel
theorem dX4_leastCostFrom_84 : decode cX4_leastCostFrom 84 = .ok (.aload_n 0, 1) := by decide +kernel
theorem dX4_leastCostFrom_85 : decode cX4_leastCostFrom 85 = .ok (.iload_n 1, 1) := by decide +kernel
theorem dX4_leastCostFrom_86 : decode cX4_leastCostFrom 86 = .ok (.iconst 1, 1) := by decide +kernel
theorem dX4_leastCostFrom_87 : decode cX4_leastCostFrom 87 = .ok (.iadd, 1) := by decide +kernel
theorem dX4_leastCostFrom_88 : decode cX4_leastCostFrom 88 = .ok (.iload_n 2, 1) := by decide +kernel
theorem dX4_leastCostFrom_89 : decode cX4_leastCostFrom 89 = .ok (.iconst 1, 1) := by decide +kernel
theorem dX4_leastCostFrom_90 : decode cX4_leastCostFrom 90 = .ok (.iload 5, 2) := by decide +kernel
theorem dX4_leastCostFrom_92 : decode cX4_leastCostFrom 92 = .ok (.ishl, 1) := by decide +kernel
theorem dX4_leastCostFrom_93 : decode cX4_leastCostFrom 93 = .ok (.ior, 1) := by decide +kernel
theorem dX4_leastCostFrom_94 : decode cX4_leastCostFrom 94 = .ok (.invokestatic 154, 3) := by decide +kernel
theorem dX4_leastCostFrom_97 : decode cX4_leastCostFrom 97 = .ok (.ladd, 1) := by decide +kernel
theorem dX4_leastCostFrom_98 : decode cX4_leastCostFrom 98 = .ok (.invokestatic 226, 3) := by decide +kernel
theorem dX4_leastCostFrom_101 : decode cX4_leastCostFrom 101 = .ok (.lstore_n 3, 1) := by decide +kernel
theorem dX4_leastCostFrom_102 : decode cX4_leastCostFrom 102 = .ok (.iinc 5 1, 3) := by decide +kernel
theorem dX4_leastCostFrom_105 : decode cX4_leastCostFrom 105 = .ok (.goto (-69), 3) := by decide +kernel
theorem dX4_leastCostFrom_108 : decode cX4_leastCostFrom 108 = .ok (.lload_n 3, 1) := by decide +kernel
theorem dX4_leastCostFrom_109 : decode cX4_leastCostFrom 109 = .ok (.lreturn, 1) := by decide +kernel
theorem dX4_changeTakers_0 : decode cX4_changeTakers 0 = .ok (.iconst 0, 1) := by decide +kernel
theorem dX4_changeTakers_1 : decode cX4_changeTakers 1 = .ok (.istore_n 1, 1) := by decide +kernel
theorem dX4_changeTakers_2 : decode cX4_changeTakers 2 = .ok (.iconst 0, 1) := by decide +kernel
theorem dX4_changeTakers_3 : decode cX4_changeTakers 3 = .ok (.istore_n 2, 1) := by decide +kernel
theorem dX4_changeTakers_4 : decode cX4_changeTakers 4 = .ok (.iload_n 2, 1) := by decide +kernel
theorem dX4_changeTakers_5 : decode cX4_changeTakers 5 = .ok (.aload_n 0, 1) := by decide +kernel
theorem dX4_changeTakers_6 : decode cX4_changeTakers 6 = .ok (.getfield 93, 3) := by decide +kernel
theorem dX4_changeTakers_9 : decode cX4_changeTakers 9 = .ok (.if_icmp .ge 51, 3) := by decide +kernel
theorem dX4_changeTakers_12 : decode cX4_changeTakers 12 = .ok (.aload_n 0, 1) := by decide +kernel
theorem dX4_changeTakers_13 : decode cX4_changeTakers 13 = .ok (.iload_n 2, 1) := by decide +kernel
theorem dX4_changeTakers_14 : decode cX4_changeTakers 14 = .ok (.invokevirtual 96, 3) := by decide +kernel
theorem dX4_changeTakers_17 : decode cX4_changeTakers 17 = .ok (.astore_n 3, 1) := by decide +kernel
theorem dX4_changeTakers_18 : decode cX4_changeTakers 18 = .ok (.aload_n 0, 1) := by decide +kernel
theorem dX4_changeTakers_19 : decode cX4_changeTakers 19 = .ok (.getfield 30, 3) := by decide +kernel
theorem dX4_changeTakers_22 : decode cX4_changeTakers 22 = .ok (.iload_n 2, 1) := by decide +kernel
theorem dX4_changeTakers_23 : decode cX4_changeTakers 23 = .ok (.invokevirtual 158, 3) := by decide +kernel
theorem dX4_changeTakers_26 : decode cX4_changeTakers 26 = .ok (.astore 4, 2) := by decide +kernel
theorem dX4_changeTakers_28 : decode cX4_changeTakers 28 = .ok (.aload_n 3, 1) := by decide +kernel
theorem dX4_changeTakers_29 : decode cX4_changeTakers 29 = .ok (.ifnull 25, 3) := by decide +kernel
theorem dX4_changeTakers_32 : decode cX4_changeTakers 32 = .ok (.aload 4, 2) := by decide +kernel
theorem dX4_changeTakers_34 : decode cX4_changeTakers 34 = .ok (.ifnull 20, 3) := by decide +kernel
theorem dX4_changeTakers_37 : decode cX4_changeTakers 37 = .ok (.aload 4, 2) := by decide +kernel
theorem dX4_changeTakers_39 : decode cX4_changeTakers 39 = .ok (.aload_n 3, 1) := by decide +kernel
theorem dX4_changeTakers_40 : decode cX4_changeTakers 40 = .ok (.aload_n 0, 1) := by decide +kernel
theorem dX4_changeTakers_41 : decode cX4_changeTakers 41 = .ok (.getfield 38, 3) := by decide +kernel
theorem dX4_changeTakers_44 : decode cX4_changeTakers 44 = .ok (.aload_n 0, 1) := by decide +kernel
theorem dX4_changeTakers_45 : decode cX4_changeTakers 45 = .ok (.getfield 41, 3) := by decide +kernel
theorem dX4_changeTakers_48 : decode cX4_changeTakers 48 = .ok (.invokevirtual 232, 3) := by decide +kernel
theorem dX4_changeTakers_51 : decode cX4_changeTakers 51 = .ok (.iinc 1 1, 3) := by decide +kernel
theorem dX4_changeTakers_54 : decode cX4_changeTakers 54 = .ok (.iinc 2 1, 3) := by decide +kernel
theorem dX4_changeTakers_57 : decode cX4_changeTakers 57 = .ok (.goto (-53), 3) := by decide +kernel
theorem dX4_changeTakers_60 : decode cX4_changeTakers 60 = .ok (.iload_n 1, 1) := by decide +kernel
theorem dX4_changeTakers_61 : decode cX4_changeTakers 61 = .ok (.ireturn, 1) := by decide +kernel
theorem dX4_missOthers_0 : decode cX4_missOthers 0 = .ok (.iconst 0, 1) := by decide +kernel
theorem dX4_missOthers_1 : decode cX4_missOthers 1 = .ok (.istore_n 1, 1) := by decide +kernel
theorem dX4_missOthers_2 : decode cX4_missOthers 2 = .ok (.iload_n 1, 1) := by decide +kernel
theorem dX4_missOthers_3 : decode cX4_missOthers 3 = .ok (.aload_n 0, 1) := by decide +kernel
theorem dX4_missOthers_4 : decode cX4_missOthers 4 = .ok (.getfield 30, 3) := by decide +kernel
theorem dX4_missOthers_7 : decode cX4_missOthers 7 = .ok (.getfield 201, 3) := by decide +kernel
theorem dX4_missOthers_10 : decode cX4_missOthers 10 = .ok (.if_icmp .ge 41, 3) := by decide +kernel
theorem dX4_missOthers_13 : decode cX4_missOthers 13 = .ok (.aload_n 0, 1) := by decide +kernel
theorem dX4_missOthers_14 : decode cX4_missOthers 14 = .ok (.getfield 30, 3) := by decide +kernel
theorem dX4_missOthers_17 : decode cX4_missOthers 17 = .ok (.iload_n 1, 1) := by decide +kernel
theorem dX4_missOthers_18 : decode cX4_missOthers 18 = .ok (.invokevirtual 204, 3) := by decide +kernel
theorem dX4_missOthers_21 : decode cX4_missOthers 21 = .ok (.astore_n 2, 1) := by decide +kernel
theorem dX4_missOthers_22 : decode cX4_missOthers 22 = .ok (.aload_n 2, 1) := by decide +kernel
theorem dX4_missOthers_23 : decode cX4_missOthers 23 = .ok (.ifnull 22, 3) := by decide +kernel
theorem dX4_missOthers_26 : decode cX4_missOthers 26 = .ok (.aload_n 0, 1) := by decide +kernel
theorem dX4_missOthers_27 : decode cX4_missOthers 27 = .ok (.getfield 30, 3) := by decide +kernel
theorem dX4_missOthers_30 : decode cX4_missOthers 30 = .ok (.iload_n 1, 1) := by decide +kernel
theorem dX4_missOthers_31 : decode cX4_missOthers 31 = .ok (.invokevirtual 236, 3) := by decide +kernel
theorem dX4_missOthers_34 : decode cX4_missOthers 34 = .ok (.ifCond .ne 11, 3) := by decide +kernel
theorem dX4_missOthers_37 : decode cX4_missOthers 37 = .ok (.aload_n 2, 1) := by decide +kernel
theorem dX4_missOthers_38 : decode cX4_missOthers 38 = .ok (.aload_n 0, 1) := by decide +kernel
theorem dX4_missOthers_39 : decode cX4_missOthers 39 = .ok (.getfield 44, 3) := by decide +kernel
theorem dX4_missOthers_42 : decode cX4_missOthers 42 = .ok (.invokevirtual 239, 3) := by decide +kernel
theorem dX4_missOthers_45 : decode cX4_missOthers 45 = .ok (.iinc 1 1, 3) := by decide +kernel
theorem dX4_missOthers_48 : decode cX4_missOthers 48 = .ok (.goto (-46), 3) := by decide +kernel
theorem dX4_missOthers_51 : decode cX4_missOthers 51 = .ok (.return_, 1) := by decide +kernel
theorem dX4_beginTracks_0 : decode cX4_beginTracks 0 = .ok (.iconst 0, 1) := by decide +kernel
theorem dX4_beginTracks_1 : decode cX4_beginTracks 1 = .ok (.istore_n 1, 1) := by decide +kernel
theorem dX4_beginTracks_2 : decode cX4_beginTracks 2 = .ok (.iload_n 1, 1) := by decide +kernel
theorem dX4_beginTracks_3 : decode cX4_beginTracks 3 = .ok (.aload_n 0, 1) := by decide +kernel
theorem dX4_beginTracks_4 : decode cX4_beginTracks 4 = .ok (.getfield 93, 3) := by decide +kernel
theorem dX4_beginTracks_7 : decode cX4_beginTracks 7 = .ok (.if_icmp .ge 35, 3) := by decide +kernel
theorem dX4_beginTracks_10 : decode cX4_beginTracks 10 = .ok (.aload_n 0, 1) := by decide +kernel
theorem dX4_beginTracks_11 : decode cX4_beginTracks 11 = .ok (.iload_n 1, 1) := by decide +kernel
theorem dX4_beginTracks_12 : decode cX4_beginTracks 12 = .ok (.invokevirtual 96, 3) := by decide +kernel
theorem dX4_beginTracks_15 : decode cX4_beginTracks 15 = .ok (.astore_n 2, 1) := by decide +kernel
theorem dX4_beginTracks_16 : decode cX4_beginTracks 16 = .ok (.aload_n 2, 1) := by decide +kernel
theorem dX4_beginTracks_17 : decode cX4_beginTracks 17 = .ok (.ifnull 19, 3) := by decide +kernel
theorem dX4_beginTracks_20 : decode cX4_beginTracks 20 = .ok (.aload_n 0, 1) := by decide +kernel
theorem dX4_beginTracks_21 : decode cX4_beginTracks 21 = .ok (.getfield 30, 3) := by decide +kernel
theorem dX4_beginTracks_24 : decode cX4_beginTracks 24 = .ok (.iload_n 1, 1) := by decide +kernel
theorem dX4_beginTracks_25 : decode cX4_beginTracks 25 = .ok (.invokevirtual 158, 3) := by decide +kernel
theorem dX4_beginTracks_28 : decode cX4_beginTracks 28 = .ok (.ifnonnull 8, 3) := by decide +kernel
theorem dX4_beginTracks_31 : decode cX4_beginTracks 31 = .ok (.aload_n 0, 1) := by decide +kernel
theorem dX4_beginTracks_32 : decode cX4_beginTracks 32 = .ok (.aload_n 2, 1) := by decide +kernel
theorem dX4_beginTracks_33 : decode cX4_beginTracks 33 = .ok (.invokevirtual 243, 3) := by decide +kernel
theorem dX4_beginTracks_36 : decode cX4_beginTracks 36 = .ok (.iinc 1 1, 3) := by decide +kernel
theorem dX4_beginTracks_39 : decode cX4_beginTracks 39 = .ok (.goto (-37), 3) := by decide +kernel
theorem dX4_beginTracks_42 : decode cX4_beginTracks 42 = .ok (.return_, 1) := by decide +kernel
theorem dX4_beginOrDrop_0 : decode cX4_beginOrDrop 0 = .ok (.aload_n 0, 1) := by decide +kernel
theorem dX4_beginOrDrop_1 : decode cX4_beginOrDrop 1 = .ok (.invokevirtual 247, 3) := by decide +kernel
theorem dX4_beginOrDrop_4 : decode cX4_beginOrDrop 4 = .ok (.bipush 6, 2) := by decide +kernel
theorem dX4_beginOrDrop_6 : decode cX4_beginOrDrop 6 = .ok (.if_icmp .ge 22, 3) := by decide +kernel
theorem dX4_beginOrDrop_9 : decode cX4_beginOrDrop 9 = .ok (.aload_n 0, 1) := by decide +kernel
theorem dX4_beginOrDrop_10 : decode cX4_beginOrDrop 10 = .ok (.getfield 184, 3) := by decide +kernel
theorem dX4_beginOrDrop_13 : decode cX4_beginOrDrop 13 = .ok (.ifCond .lt 15, 3) := by decide +kernel
theorem dX4_beginOrDrop_16 : decode cX4_beginOrDrop 16 = .ok (.aload_n 0, 1) := by decide +kernel
theorem dX4_beginOrDrop_17 : decode cX4_beginOrDrop 17 = .ok (.getfield 184, 3) := by decide +kernel
theorem dX4_beginOrDrop_20 : decode cX4_beginOrDrop 20 = .ok (.aload_n 0, 1) := by decide +kernel
theorem dX4_beginOrDrop_21 : decode cX4_beginOrDrop 21 = .ok (.getfield 23, 3) := by decide +kernel
theorem dX4_beginOrDrop_24 : decode cX4_beginOrDrop 24 = .ok (.arraylength, 1) := by decide +kernel
theorem dX4_beginOrDrop_25 : decode cX4_beginOrDrop 25 = .ok (.if_icmp .lt 16, 3) := by decide +kernel
theorem dX4_beginOrDrop_28 : decode cX4_beginOrDrop 28 = .ok (.aload_n 0, 1) := by decide +kernel
theorem dX4_beginOrDrop_29 : decode cX4_beginOrDrop 29 = .ok (.dup, 1) := by decide +kernel
theorem dX4_beginOrDrop_30 : decode cX4_beginOrDrop 30 = .ok (.getfield 250, 3) := by decide +kernel
theorem dX4_beginOrDrop_33 : decode cX4_beginOrDrop 33 = .ok (.iconst 1, 1) := by decide +kernel
theorem dX4_beginOrDrop_34 : decode cX4_beginOrDrop 34 = .ok (.iadd, 1) := by decide +kernel
theorem dX4_beginOrDrop_35 : decode cX4_beginOrDrop 35 = .ok (.putfield 250, 3) := by decide +kernel
theorem dX4_beginOrDrop_38 : decode cX4_beginOrDrop 38 = .ok (.goto 34, 3) := by decide +kernel
theorem dX4_beginOrDrop_41 : decode cX4_beginOrDrop 41 = .ok (.aload_n 0, 1) := by decide +kernel
theorem dX4_beginOrDrop_42 : decode cX4_beginOrDrop 42 = .ok (.getfield 23, 3) := by decide +kernel
theorem dX4_beginOrDrop_45 : decode cX4_beginOrDrop 45 = .ok (.aload_n 0, 1) := by decide +kernel
theorem dX4_beginOrDrop_46 : decode cX4_beginOrDrop 46 = .ok (.getfield 184, 3) := by decide +kernel
theorem dX4_beginOrDrop_49 : decode cX4_beginOrDrop 49 = .ok (.new 21, 3) := by decide +kernel
theorem dX4_beginOrDrop_52 : decode cX4_beginOrDrop 52 = .ok (.dup, 1) := by decide +kernel
theorem dX4_beginOrDrop_53 : decode cX4_beginOrDrop 53 = .ok (.aload_n 0, 1) := by decide +kernel
theorem dX4_beginOrDrop_54 : decode cX4_beginOrDrop 54 = .ok (.getfield 184, 3) := by decide +kernel
theorem dX4_beginOrDrop_57 : decode cX4_beginOrDrop 57 = .ok (.aload_n 1, 1) := by decide +kernel
theorem dX4_beginOrDrop_58 : decode cX4_beginOrDrop 58 = .ok (.invokespecial 253, 3) := by decide +kernel
theorem dX4_beginOrDrop_61 : decode cX4_beginOrDrop 61 = .ok (.aastore, 1) := by decide +kernel
theorem dX4_beginOrDrop_62 : decode cX4_beginOrDrop 62 = .ok (.aload_n 0, 1) := by decide +kernel
theorem dX4_beginOrDrop_63 : decode cX4_beginOrDrop 63 = .ok (.dup, 1) := by decide +kernel
theorem dX4_beginOrDrop_64 : decode cX4_beginOrDrop 64 = .ok (.getfield 184, 3) := by decide +kernel
theorem dX4_beginOrDrop_67 : decode cX4_beginOrDrop 67 = .ok (.iconst 1, 1) := by decide +kernel
theorem dX4_beginOrDrop_68 : decode cX4_beginOrDrop 68 = .ok (.iadd, 1) := by decide +kernel
theorem dX4_beginOrDrop_69 : decode cX4_beginOrDrop 69 = .ok (.putfield 184, 3) := by decide +kernel
theorem dX4_beginOrDrop_72 : decode cX4_beginOrDrop 72 = .ok (.return_, 1) := by decide +kernel
theorem dX4_mergeTracks_0 : decode cX4_mergeTracks 0 = .ok (.iconst 0, 1) := by decide +kernel
theorem dX4_mergeTracks_1 : decode cX4_mergeTracks 1 = .ok (.istore_n 1, 1) := by decide +kernel
theorem dX4_mergeTracks_2 : decode cX4_mergeTracks 2 = .ok (.iload_n 1, 1) := by decide +kernel
theorem dX4_mergeTracks_3 : decode cX4_mergeTracks 3 = .ok (.aload_n 0, 1) := by decide +kernel
theorem dX4_mergeTracks_4 : decode cX4_mergeTracks 4 = .ok (.getfield 184, 3) := by decide +kernel
theorem dX4_mergeTracks_7 : decode cX4_mergeTracks 7 = .ok (.if_icmp .ge 24, 3) := by decide +kernel
theorem dX4_mergeTracks_10 : decode cX4_mergeTracks 10 = .ok (.aload_n 0, 1) := by decide +kernel
theorem dX4_mergeTracks_11 : decode cX4_mergeTracks 11 = .ok (.iload_n 1, 1) := by decide +kernel
theorem dX4_mergeTracks_12 : decode cX4_mergeTracks 12 = .ok (.invokevirtual 187, 3) := by decide +kernel
theorem dX4_mergeTracks_15 : decode cX4_mergeTracks 15 = .ok (.astore_n 2, 1) := by decide +kernel
theorem dX4_mergeTracks_16 : decode cX4_mergeTracks 16 = .ok (.aload_n 2, 1) := by decide +kernel
theorem dX4_mergeTracks_17 : decode cX4_mergeTracks 17 = .ok (.ifnull 8, 3) := by decide +kernel
theorem dX4_mergeTracks_20 : decode cX4_mergeTracks 20 = .ok (.aload_n 0, 1) := by decide +kernel
theorem dX4_mergeTracks_21 : decode cX4_mergeTracks 21 = .ok (.aload_n 2, 1) := by decide +kernel
theorem dX4_mergeTracks_22 : decode cX4_mergeTracks 22 = .ok (.invokevirtual 255, 3) := by decide +kernel
theorem dX4_mergeTracks_25 : decode cX4_mergeTracks 25 = .ok (.iinc 1 1, 3) := by decide +kernel
theorem dX4_mergeTracks_28 : decode cX4_mergeTracks 28 = .ok (.goto (-26), 3) := by decide +kernel
theorem dX4_mergeTracks_31 : decode cX4_mergeTracks 31 = .ok (.return_, 1) := by decide +kernel
theorem dX4_mergeLaterOnesInto_0 : decode cX4_mergeLaterOnesInto 0 = .ok (.aload_n 1, 1) := by decide +kernel
theorem dX4_mergeLaterOnesInto_1 : decode cX4_mergeLaterOnesInto 1 = .ok (.getfield 161, 3) := by decide +kernel
theorem dX4_mergeLaterOnesInto_4 : decode cX4_mergeLaterOnesInto 4 = .ok (.iconst 1, 1) := by decide +kernel
theorem dX4_mergeLaterOnesInto_5 : decode cX4_mergeLaterOnesInto 5 = .ok (.iadd, 1) := by decide +kernel
theorem dX4_mergeLaterOnesInto_6 : decode cX4_mergeLaterOnesInto 6 = .ok (.istore_n 2, 1) := by decide +kernel
theorem dX4_mergeLaterOnesInto_7 : decode cX4_mergeLaterOnesInto 7 = .ok (.iload_n 2, 1) := by decide +kernel
theorem dX4_mergeLaterOnesInto_8 : decode cX4_mergeLaterOnesInto 8 = .ok (.aload_n 0, 1) := by decide +kernel
theorem dX4_mergeLaterOnesInto_9 : decode cX4_mergeLaterOnesInto 9 = .ok (.getfield 184, 3) := by decide +kernel
theorem dX4_mergeLaterOnesInto_12 : decode cX4_mergeLaterOnesInto 12 = .ok (.if_icmp .ge 38, 3) := by decide +kernel
theorem dX4_mergeLaterOnesInto_15 : decode cX4_mergeLaterOnesInto 15 = .ok (.aload_n 0, 1) := by decide +kernel
theorem dX4_mergeLaterOnesInto_16 : decode cX4_mergeLaterOnesInto 16 = .ok (.iload_n 2, 1) := by decide +kernel
theorem dX4_mergeLaterOnesInto_17 : decode cX4_mergeLaterOnesInto 17 = .ok (.invokevirtual 187, 3) := by decide +kernel
theorem dX4_mergeLaterOnesInto_20 : decode cX4_mergeLaterOnesInto 20 = .ok (.astore_n 3, 1) := by decide +kernel
theorem dX4_mergeLaterOnesInto_21 : decode cX4_mergeLaterOnesInto 21 = .ok (.aload_n 3, 1) := by decide +kernel
theorem dX4_mergeLaterOnesInto_22 : decode cX4_mergeLaterOnesInto 22 = .ok (.ifnull 22, 3) := by decide +kernel
theorem dX4_mergeLaterOnesInto_25 : decode cX4_mergeLaterOnesInto 25 = .ok (.aload_n 0, 1) := by decide +kernel
theorem dX4_mergeLaterOnesInto_26 : decode cX4_mergeLaterOnesInto 26 = .ok (.aload_n 1, 1) := by decide +kernel
theorem dX4_mergeLaterOnesInto_27 : decode cX4_mergeLaterOnesInto 27 = .ok (.aload_n 3, 1) := by decide +kernel
theorem dX4_mergeLaterOnesInto_28 : decode cX4_mergeLaterOnesInto 28 = .ok (.invokevirtual 258, 3) := by decide +kernel
theorem dX4_mergeLaterOnesInto_31 : decode cX4_mergeLaterOnesInto 31 = .ok (.ifCond .eq 13, 3) := by decide +kernel
theorem dX4_mergeLaterOnesInto_34 : decode cX4_mergeLaterOnesInto 34 = .ok (.aload_n 1, 1) := by decide +kernel
theorem dX4_mergeLaterOnesInto_35 : decode cX4_mergeLaterOnesInto 35 = .ok (.aload_n 3, 1) := by decide +kernel
theorem dX4_mergeLaterOnesInto_36 : decode cX4_mergeLaterOnesInto 36 = .ok (.invokevirtual 262, 3) := by decide +kernel
theorem dX4_mergeLaterOnesInto_39 : decode cX4_mergeLaterOnesInto 39 = .ok (.aload_n 3, 1) := by decide +kernel
theorem dX4_mergeLaterOnesInto_40 : decode cX4_mergeLaterOnesInto 40 = .ok (.aload_n 1, 1) := by decide +kernel
theorem dX4_mergeLaterOnesInto_41 : decode cX4_mergeLaterOnesInto 41 = .ok (.invokevirtual 265, 3) := by decide +kernel
theorem dX4_mergeLaterOnesInto_44 : decode cX4_mergeLaterOnesInto 44 = .ok (.iinc 2 1, 3) := by decide +kernel
theorem dX4_mergeLaterOnesInto_47 : decode cX4_mergeLaterOnesInto 47 = .ok (.goto (-40), 3) := by decide +kernel
theorem dX4_mergeLaterOnesInto_50 : decode cX4_mergeLaterOnesInto 50 = .ok (.return_, 1) := by decide +kernel
theorem dX4_areNear_0 : decode cX4_areNear 0 = .ok (.aload_n 1, 1) := by decide +kernel
theorem dX4_areNear_1 : decode cX4_areNear 1 = .ok (.getfield 169, 3) := by decide +kernel
theorem dX4_areNear_4 : decode cX4_areNear 4 = .ok (.aload_n 2, 1) := by decide +kernel
theorem dX4_areNear_5 : decode cX4_areNear 5 = .ok (.getfield 169, 3) := by decide +kernel
theorem dX4_areNear_8 : decode cX4_areNear 8 = .ok (.invokestatic 268, 3) := by decide +kernel
theorem dX4_areNear_11 : decode cX4_areNear 11 = .ok (.istore_n 3, 1) := by decide +kernel
theorem dX4_areNear_12 : decode cX4_areNear 12 = .ok (.aload_n 1, 1) := by decide +kernel
theorem dX4_areNear_13 : decode cX4_areNear 13 = .ok (.iload_n 3, 1) := by decide +kernel
theorem dX4_areNear_14 : decode cX4_areNear 14 = .ok (.invokevirtual 272, 3) := by decide +kernel
theorem dX4_areNear_17 : decode cX4_areNear 17 = .ok (.aload_n 2, 1) := by decide +kernel
theorem dX4_areNear_18 : decode cX4_areNear 18 = .ok (.iload_n 3, 1) := by decide +kernel
theorem dX4_areNear_19 : decode cX4_areNear 19 = .ok (.invokevirtual 272, 3) := by decide +kernel
theorem dX4_areNear_22 : decode cX4_areNear 22 = .ok (.isub, 1) := by decide +kernel
theorem dX4_areNear_23 : decode cX4_areNear 23 = .ok (.aload_n 1, 1) := by decide +kernel
theorem dX4_areNear_24 : decode cX4_areNear 24 = .ok (.iload_n 3, 1) := by decide +kernel
theorem dX4_areNear_25 : decode cX4_areNear 25 = .ok (.invokevirtual 275, 3) := by decide +kernel
theorem dX4_areNear_28 : decode cX4_areNear 28 = .ok (.aload_n 2, 1) := by decide +kernel
theorem dX4_areNear_29 : decode cX4_areNear 29 = .ok (.iload_n 3, 1) := by decide +kernel
theorem dX4_areNear_30 : decode cX4_areNear 30 = .ok (.invokevirtual 275, 3) := by decide +kernel
theorem dX4_areNear_33 : decode cX4_areNear 33 = .ok (.isub, 1) := by decide +kernel
theorem dX4_areNear_34 : decode cX4_areNear 34 = .ok (.invokestatic 278, 3) := by decide +kernel
theorem dX4_areNear_37 : decode cX4_areNear 37 = .ok (.lstore 4, 2) := by decide +kernel
theorem dX4_areNear_39 : decode cX4_areNear 39 = .ok (.aload_n 1, 1) := by decide +kernel
theorem dX4_areNear_40 : decode cX4_areNear 40 = .ok (.getfield 282, 3) := by decide +kernel
theorem dX4_areNear_43 : decode cX4_areNear 43 = .ok (.aload_n 2, 1) := by decide +kernel
theorem dX4_areNear_44 : decode cX4_areNear 44 = .ok (.getfield 282, 3) := by decide +kernel
theorem dX4_areNear_47 : decode cX4_areNear 47 = .ok (.isub, 1) := by decide +kernel
theorem dX4_areNear_48 : decode cX4_areNear 48 = .ok (.invokestatic 285, 3) := by decide +kernel
theorem dX4_areNear_51 : decode cX4_areNear 51 = .ok (.aload_n 1, 1) := by decide +kernel
theorem dX4_areNear_52 : decode cX4_areNear 52 = .ok (.getfield 288, 3) := by decide +kernel
theorem dX4_areNear_55 : decode cX4_areNear 55 = .ok (.aload_n 2, 1) := by decide +kernel
theorem dX4_areNear_56 : decode cX4_areNear 56 = .ok (.getfield 288, 3) := by decide +kernel
theorem dX4_areNear_59 : decode cX4_areNear 59 = .ok (.isub, 1) := by decide +kernel
theorem dX4_areNear_60 : decode cX4_areNear 60 = .ok (.invokestatic 285, 3) := by decide +kernel
theorem dX4_areNear_63 : decode cX4_areNear 63 = .ok (.iadd, 1) := by decide +kernel
theorem dX4_areNear_64 : decode cX4_areNear 64 = .ok (.istore 6, 2) := by decide +kernel
theorem dX4_areNear_66 : decode cX4_areNear 66 = .ok (.lload 4, 2) := by decide +kernel
theorem dX4_areNear_68 : decode cX4_areNear 68 = .ok (.aload_n 0, 1) := by decide +kernel
theorem dX4_areNear_69 : decode cX4_areNear 69 = .ok (.getfield 47, 3) := by decide +kernel
theorem dX4_areNear_72 : decode cX4_areNear 72 = .ok (.invokestatic 170, 3) := by decide +kernel
theorem dX4_areNear_75 : decode cX4_areNear 75 = .ok (.lcmp, 1) := by decide +kernel
theorem dX4_areNear_76 : decode cX4_areNear 76 = .ok (.ifCond .gt 14, 3) := by decide +kernel
theorem dX4_areNear_79 : decode cX4_areNear 79 = .ok (.iload 6, 2) := by decide +kernel
theorem dX4_areNear_81 : decode cX4_areNear 81 = .ok (.bipush 16, 2) := by decide +kernel
theorem dX4_areNear_83 : decode cX4_areNear 83 = .ok (.if_icmp .gt 7, 3) := by decide +kernel
theorem dX4_areNear_86 : decode cX4_areNear 86 = .ok (.iconst 1, 1) := by decide +kernel
theorem dX4_areNear_87 : decode cX4_areNear 87 = .ok (.goto 4, 3) := by decide +kernel
theorem dX4_areNear_90 : decode cX4_areNear 90 = .ok (.iconst 0, 1) := by decide +kernel
theorem dX4_areNear_91 : decode cX4_areNear 91 = .ok (.ireturn, 1) := by decide +kernel
theorem dX4_tracks_0 : decode cX4_tracks 0 = .ok (.aload_n 0, 1) := by decide +kernel
theorem dX4_tracks_1 : decode cX4_tracks 1 = .ok (.getfield 184, 3) := by decide +kernel
theorem dX4_tracks_4 : decode cX4_tracks 4 = .ok (.ireturn, 1) := by decide +kernel
theorem dX4_liveTracks_0 : decode cX4_liveTracks 0 = .ok (.aload_n 0, 1) := by decide +kernel
theorem dX4_liveTracks_1 : decode cX4_liveTracks 1 = .ok (.invokevirtual 247, 3) := by decide +kernel
theorem dX4_liveTracks_4 : decode cX4_liveTracks 4 = .ok (.ireturn, 1) := by decide +kernel
theorem dX4_status_0 : decode cX4_status 0 = .ok (.aload_n 0, 1) := by decide +kernel
theorem dX4_status_1 : decode cX4_status 1 = .ok (.iload_n 1, 1) := by decide +kernel
theorem dX4_status_2 : decode cX4_status 2 = .ok (.invokevirtual 291, 3) := by decide +kernel
theorem dX4_status_5 : decode cX4_status 5 = .ok (.astore_n 2, 1) := by decide +kernel
theorem dX4_status_6 : decode cX4_status 6 = .ok (.aload_n 2, 1) := by decide +kernel
theorem dX4_status_7 : decode cX4_status 7 = .ok (.getfield 294, 3) := by decide +kernel
theorem dX4_status_10 : decode cX4_status 10 = .ok (.ifCond .eq 19, 3) := by decide +kernel
theorem dX4_status_13 : decode cX4_status 13 = .ok (.aload_n 2, 1) := by decide +kernel
theorem dX4_status_14 : decode cX4_status 14 = .ok (.getfield 298, 3) := by decide +kernel
theorem dX4_status_17 : decode cX4_status 17 = .ok (.iconst 3, 1) := by decide +kernel
theorem dX4_status_18 : decode cX4_status 18 = .ok (.if_icmp .ge 8, 3) := by decide +kernel
theorem dX4_status_21 : decode cX4_status 21 = .ok (.bipush 116, 2) := by decide +kernel
theorem dX4_status_23 : decode cX4_status 23 = .ok (.goto 5, 3) := by decide +kernel
theorem dX4_status_26 : decode cX4_status 26 = .ok (.bipush 99, 2) := by decide +kernel
theorem dX4_status_28 : decode cX4_status 28 = .ok (.ireturn, 1) := by decide +kernel
theorem dX4_status_29 : decode cX4_status 29 = .ok (.aload_n 2, 1) := by decide +kernel
theorem dX4_status_30 : decode cX4_status 30 = .ok (.getfield 301, 3) := by decide +kernel
theorem dX4_status_33 : decode cX4_status 33 = .ok (.iconst (-1), 1) := by decide +kernel
theorem dX4_status_34 : decode cX4_status 34 = .ok (.if_icmp .ne 8, 3) := by decide +kernel
theorem dX4_status_37 : decode cX4_status 37 = .ok (.bipush 108, 2) := by decide +kernel
theorem dX4_status_39 : decode cX4_status 39 = .ok (.goto 5, 3) := by decide +kernel
theorem dX4_status_42 : decode cX4_status 42 = .ok (.bipush 109, 2) := by decide +kernel
theorem dX4_status_44 : decode cX4_status 44 = .ok (.ireturn, 1) := by decide +kernel
theorem dX4_timeOf_0 : decode cX4_timeOf 0 = .ok (.aload_n 0, 1) := by decide +kernel
theorem dX4_timeOf_1 : decode cX4_timeOf 1 = .ok (.iload_n 1, 1) := by decide +kernel
theorem dX4_timeOf_2 : decode cX4_timeOf 2 = .ok (.invokevirtual 291, 3) := by decide +kernel
theorem dX4_timeOf_5 : decode cX4_timeOf 5 = .ok (.getfield 169, 3) := by decide +kernel
theorem dX4_timeOf_8 : decode cX4_timeOf 8 = .ok (.ireturn, 1) := by decide +kernel
theorem dX4_stateOf_0 : decode cX4_stateOf 0 = .ok (.aload_n 0, 1) := by decide +kernel
theorem dX4_stateOf_1 : decode cX4_stateOf 1 = .ok (.iload_n 1, 1) := by decide +kernel
theorem dX4_stateOf_2 : decode cX4_stateOf 2 = .ok (.invokevirtual 291, 3) := by decide +kernel
theorem dX4_stateOf_5 : decode cX4_stateOf 5 = .ok (.astore_n 3, 1) := by decide +kernel
theorem dX4_stateOf_6 : decode cX4_stateOf 6 = .ok (.iload_n 2, 1) := by decide +kernel
theorem dX4_stateOf_7 : decode cX4_stateOf 7 = .ok (.iconst 0, 1) := by decide +kernel
theorem dX4_stateOf_8 : decode cX4_stateOf 8 = .ok (.iconst 3, 1) := by decide +kernel
theorem dX4_stateOf_9 : decode cX4_stateOf 9 = .ok (.invokestatic 86, 3) := by decide +kernel
theorem dX4_stateOf_12 : decode cX4_stateOf 12 = .ok (.invokestatic 60, 3) := by decide +kernel
theorem dX4_stateOf_15 : decode cX4_stateOf 15 = .ok (.iload_n 2, 1) := by decide +kernel
theorem dX4_stateOf_16 : decode cX4_stateOf 16 = .ok (.iconst 2, 1) := by decide +kernel
theorem dX4_stateOf_17 : decode cX4_stateOf 17 = .ok (.if_icmp .ge 19, 3) := by decide +kernel
theorem dX4_stateOf_20 : decode cX4_stateOf 20 = .ok (.iload_n 2, 1) := by decide +kernel
theorem dX4_stateOf_21 : decode cX4_stateOf 21 = .ok (.ifCond .ne 10, 3) := by decide +kernel
theorem dX4_stateOf_24 : decode cX4_stateOf 24 = .ok (.aload_n 3, 1) := by decide +kernel
theorem dX4_stateOf_25 : decode cX4_stateOf 25 = .ok (.getfield 304, 3) := by decide +kernel
theorem dX4_stateOf_28 : decode cX4_stateOf 28 = .ok (.goto 7, 3) := by decide +kernel
theorem dX4_stateOf_31 : decode cX4_stateOf 31 = .ok (.aload_n 3, 1) := by decide +kernel
theorem dX4_stateOf_32 : decode cX4_stateOf 32 = .ok (.getfield 307, 3) := by decide +kernel
theorem dX4_stateOf_35 : decode cX4_stateOf 35 = .ok (.ireturn, 1) := by decide +kernel
theorem dX4_stateOf_36 : decode cX4_stateOf 36 = .ok (.iload_n 2, 1) := by decide +kernel
theorem dX4_stateOf_37 : decode cX4_stateOf 37 = .ok (.iconst 2, 1) := by decide +kernel
theorem dX4_stateOf_38 : decode cX4_stateOf 38 = .ok (.if_icmp .ne 10, 3) := by decide +kernel
theorem dX4_stateOf_41 : decode cX4_stateOf 41 = .ok (.aload_n 3, 1) := by decide +kernel
theorem dX4_stateOf_42 : decode cX4_stateOf 42 = .ok (.getfield 282, 3) := by decide +kernel
theorem dX4_stateOf_45 : decode cX4_stateOf 45 = .ok (.goto 7, 3) := by decide +kernel
theorem dX4_stateOf_48 : decode cX4_stateOf 48 = .ok (.aload_n 3, 1) := by decide +kernel
theorem dX4_stateOf_49 : decode cX4_stateOf 49 = .ok (.getfield 288, 3) := by decide +kernel
theorem dX4_stateOf_52 : decode cX4_stateOf 52 = .ok (.ireturn, 1) := by decide +kernel
theorem dX4_predicted_0 : decode cX4_predicted 0 = .ok (.aload_n 0, 1) := by decide +kernel
theorem dX4_predicted_1 : decode cX4_predicted 1 = .ok (.iload_n 1, 1) := by decide +kernel
theorem dX4_predicted_2 : decode cX4_predicted 2 = .ok (.invokevirtual 291, 3) := by decide +kernel
theorem dX4_predicted_5 : decode cX4_predicted 5 = .ok (.astore 4, 2) := by decide +kernel
theorem dX4_predicted_7 : decode cX4_predicted 7 = .ok (.iload_n 2, 1) := by decide +kernel
theorem dX4_predicted_8 : decode cX4_predicted 8 = .ok (.invokestatic 310, 3) := by decide +kernel
theorem dX4_predicted_11 : decode cX4_predicted 11 = .ok (.invokestatic 60, 3) := by decide +kernel
theorem dX4_predicted_14 : decode cX4_predicted 14 = .ok (.iload_n 3, 1) := by decide +kernel
theorem dX4_predicted_15 : decode cX4_predicted 15 = .ok (.ifCond .eq 12, 3) := by decide +kernel
theorem dX4_predicted_18 : decode cX4_predicted 18 = .ok (.aload 4, 2) := by decide +kernel
theorem dX4_predicted_20 : decode cX4_predicted 20 = .ok (.iload_n 2, 1) := by decide +kernel
theorem dX4_predicted_21 : decode cX4_predicted 21 = .ok (.invokevirtual 275, 3) := by decide +kernel
theorem dX4_predicted_24 : decode cX4_predicted 24 = .ok (.goto 9, 3) := by decide +kernel
theorem dX4_predicted_27 : decode cX4_predicted 27 = .ok (.aload 4, 2) := by decide +kernel
theorem dX4_predicted_29 : decode cX4_predicted 29 = .ok (.iload_n 2, 1) := by decide +kernel
theorem dX4_predicted_30 : decode cX4_predicted 30 = .ok (.invokevirtual 272, 3) := by decide +kernel
theorem dX4_predicted_33 : decode cX4_predicted 33 = .ok (.bipush 16, 2) := by decide +kernel
theorem dX4_predicted_35 : decode cX4_predicted 35 = .ok (.invokestatic 313, 3) := by decide +kernel
theorem dX4_predicted_38 : decode cX4_predicted 38 = .ok (.ireturn, 1) := by decide +kernel
theorem dX4_hits_0 : decode cX4_hits 0 = .ok (.aload_n 0, 1) := by decide +kernel
theorem dX4_hits_1 : decode cX4_hits 1 = .ok (.iload_n 1, 1) := by decide +kernel
theorem dX4_hits_2 : decode cX4_hits 2 = .ok (.invokevirtual 291, 3) := by decide +kernel
theorem dX4_hits_5 : decode cX4_hits 5 = .ok (.getfield 298, 3) := by decide +kernel
theorem dX4_hits_8 : decode cX4_hits 8 = .ok (.ireturn, 1) := by decide +kernel
theorem dX4_misses_0 : decode cX4_misses 0 = .ok (.aload_n 0, 1) := by decide +kernel
theorem dX4_misses_1 : decode cX4_misses 1 = .ok (.iload_n 1, 1) := by decide +kernel
theorem dX4_misses_2 : decode cX4_misses 2 = .ok (.invokevirtual 291, 3) := by decide +kernel
theorem dX4_misses_5 : decode cX4_misses 5 = .ok (.getfield 316, 3) := by decide +kernel
theorem dX4_misses_8 : decode cX4_misses 8 = .ok (.ireturn, 1) := by decide +kernel
theorem dX4_mergedInto_0 : decode cX4_mergedInto 0 = .ok (.aload_n 0, 1) := by decide +kernel
theorem dX4_mergedInto_1 : decode cX4_mergedInto 1 = .ok (.iload_n 1, 1) := by decide +kernel
theorem dX4_mergedInto_2 : decode cX4_mergedInto 2 = .ok (.invokevirtual 291, 3) := by decide +kernel
theorem dX4_mergedInto_5 : decode cX4_mergedInto 5 = .ok (.astore_n 2, 1) := by decide +kernel
theorem dX4_mergedInto_6 : decode cX4_mergedInto 6 = .ok (.aload_n 2, 1) := by decide +kernel
theorem dX4_mergedInto_7 : decode cX4_mergedInto 7 = .ok (.getfield 301, 3) := by decide +kernel
theorem dX4_mergedInto_10 : decode cX4_mergedInto 10 = .ok (.iconst (-1), 1) := by decide +kernel
theorem dX4_mergedInto_11 : decode cX4_mergedInto 11 = .ok (.if_icmp .ne 14, 3) := by decide +kernel
theorem dX4_mergedInto_14 : decode cX4_mergedInto 14 = .ok (.new 319, 3) := by decide +kernel
theorem dX4_mergedInto_17 : decode cX4_mergedInto 17 = .ok (.dup, 1) := by decide +kernel
theorem dX4_mergedInto_18 : decode cX4_mergedInto 18 = .ok (.ldc_w 321, 3) := by decide +kernel
theorem dX4_mergedInto_21 : decode cX4_mergedInto 21 = .ok (.invokespecial 323, 3) := by decide +kernel
theorem dX4_mergedInto_24 : decode cX4_mergedInto 24 = .ok (.athrow, 1) := by decide +kernel
theorem dX4_mergedInto_25 : decode cX4_mergedInto 25 = .ok (.aload_n 2, 1) := by decide +kernel
theorem dX4_mergedInto_26 : decode cX4_mergedInto 26 = .ok (.getfield 301, 3) := by decide +kernel
theorem dX4_mergedInto_29 : decode cX4_mergedInto 29 = .ok (.ireturn, 1) := by decide +kernel
theorem dX4_historyLength_0 : decode cX4_historyLength 0 = .ok (.aload_n 0, 1) := by decide +kernel
theorem dX4_historyLength_1 : decode cX4_historyLength 1 = .ok (.iload_n 1, 1) := by decide +kernel
theorem dX4_historyLength_2 : decode cX4_historyLength 2 = .ok (.invokevirtual 291, 3) := by decide +kernel
theorem dX4_historyLength_5 : decode cX4_historyLength 5 = .ok (.getfield 324, 3) := by decide +kernel
theorem dX4_historyLength_8 : decode cX4_historyLength 8 = .ok (.ireturn, 1) := by decide +kernel
theorem dX4_historyAt_0 : decode cX4_historyAt 0 = .ok (.aload_n 0, 1) := by decide +kernel
theorem dX4_historyAt_1 : decode cX4_historyAt 1 = .ok (.iload_n 1, 1) := by decide +kernel
theorem dX4_historyAt_2 : decode cX4_historyAt 2 = .ok (.invokevirtual 291, 3) := by decide +kernel
theorem dX4_historyAt_5 : decode cX4_historyAt 5 = .ok (.astore_n 3, 1) := by decide +kernel
theorem dX4_historyAt_6 : decode cX4_historyAt 6 = .ok (.iload_n 2, 1) := by decide +kernel
theorem dX4_historyAt_7 : decode cX4_historyAt 7 = .ok (.ifCond .lt 20, 3) := by decide +kernel
theorem dX4_historyAt_10 : decode cX4_historyAt 10 = .ok (.iload_n 2, 1) := by decide +kernel
theorem dX4_historyAt_11 : decode cX4_historyAt 11 = .ok (.aload_n 3, 1) := by decide +kernel
theorem dX4_historyAt_12 : decode cX4_historyAt 12 = .ok (.getfield 324, 3) := by decide +kernel
theorem dX4_historyAt_15 : decode cX4_historyAt 15 = .ok (.if_icmp .ge 12, 3) := by decide +kernel
theorem dX4_historyAt_18 : decode cX4_historyAt 18 = .ok (.iload_n 2, 1) := by decide +kernel
theorem dX4_historyAt_19 : decode cX4_historyAt 19 = .ok (.aload_n 3, 1) := by decide +kernel
theorem dX4_historyAt_20 : decode cX4_historyAt 20 = .ok (.getfield 327, 3) := by decide +kernel
theorem dX4_historyAt_23 : decode cX4_historyAt 23 = .ok (.arraylength, 1) := by decide +kernel
theorem dX4_historyAt_24 : decode cX4_historyAt 24 = .ok (.if_icmp .lt 14, 3) := by decide +kernel
theorem dX4_historyAt_27 : decode cX4_historyAt 27 = .ok (.new 319, 3) := by decide +kernel
theorem dX4_historyAt_30 : decode cX4_historyAt 30 = .ok (.dup, 1) := by decide +kernel
theorem dX4_historyAt_31 : decode cX4_historyAt 31 = .ok (.ldc_w 331, 3) := by decide +kernel
theorem dX4_historyAt_34 : decode cX4_historyAt 34 = .ok (.invokespecial 323, 3) := by decide +kernel
theorem dX4_historyAt_37 : decode cX4_historyAt 37 = .ok (.athrow, 1) := by decide +kernel
theorem dX4_historyAt_38 : decode cX4_historyAt 38 = .ok (.aload_n 3, 1) := by decide +kernel
theorem dX4_historyAt_39 : decode cX4_historyAt 39 = .ok (.getfield 327, 3) := by decide +kernel
theorem dX4_historyAt_42 : decode cX4_historyAt 42 = .ok (.iload_n 2, 1) := by decide +kernel
theorem dX4_historyAt_43 : decode cX4_historyAt 43 = .ok (.caload, 1) := by decide +kernel
theorem dX4_historyAt_44 : decode cX4_historyAt 44 = .ok (.ireturn, 1) := by decide +kernel
theorem dX4_quality_0 : decode cX4_quality 0 = .ok (.aload_n 0, 1) := by decide +kernel
theorem dX4_quality_1 : decode cX4_quality 1 = .ok (.iload_n 1, 1) := by decide +kernel
theorem dX4_quality_2 : decode cX4_quality 2 = .ok (.invokevirtual 291, 3) := by decide +kernel
theorem dX4_quality_5 : decode cX4_quality 5 = .ok (.astore_n 2, 1) := by decide +kernel
theorem dX4_quality_6 : decode cX4_quality 6 = .ok (.aload_n 2, 1) := by decide +kernel
theorem dX4_quality_7 : decode cX4_quality 7 = .ok (.getfield 324, 3) := by decide +kernel
theorem dX4_quality_10 : decode cX4_quality 10 = .ok (.bipush 8, 2) := by decide +kernel
theorem dX4_quality_12 : decode cX4_quality 12 = .ok (.isub, 1) := by decide +kernel
theorem dX4_quality_13 : decode cX4_quality 13 = .ok (.istore_n 3, 1) := by decide +kernel
theorem dX4_quality_14 : decode cX4_quality 14 = .ok (.aload_n 2, 1) := by decide +kernel
theorem dX4_quality_15 : decode cX4_quality 15 = .ok (.iload_n 3, 1) := by decide +kernel
theorem dX4_quality_16 : decode cX4_quality 16 = .ok (.bipush 110, 2) := by decide +kernel
theorem dX4_quality_18 : decode cX4_quality 18 = .ok (.invokevirtual 333, 3) := by decide +kernel
theorem dX4_quality_21 : decode cX4_quality 21 = .ok (.aload_n 2, 1) := by decide +kernel
theorem dX4_quality_22 : decode cX4_quality 22 = .ok (.iload_n 3, 1) := by decide +kernel
theorem dX4_quality_23 : decode cX4_quality 23 = .ok (.bipush 104, 2) := by decide +kernel
theorem dX4_quality_25 : decode cX4_quality 25 = .ok (.invokevirtual 333, 3) := by decide +kernel
theorem dX4_quality_28 : decode cX4_quality 28 = .ok (.iadd, 1) := by decide +kernel
theorem dX4_quality_29 : decode cX4_quality 29 = .ok (.ireturn, 1) := by decide +kernel
theorem dX4_countOf_0 : decode cX4_countOf 0 = .ok (.iload_n 1, 1) := by decide +kernel
theorem dX4_countOf_1 : decode cX4_countOf 1 = .ok (.invokestatic 337, 3) := by decide +kernel
theorem dX4_countOf_4 : decode cX4_countOf 4 = .ok (.invokestatic 60, 3) := by decide +kernel
theorem dX4_countOf_7 : decode cX4_countOf 7 = .ok (.aload_n 0, 1) := by decide +kernel
theorem dX4_countOf_8 : decode cX4_countOf 8 = .ok (.iload_n 1, 1) := by decide +kernel
theorem dX4_countOf_9 : decode cX4_countOf 9 = .ok (.invokevirtual 341, 3) := by decide +kernel
theorem dX4_countOf_12 : decode cX4_countOf 12 = .ok (.ireturn, 1) := by decide +kernel
theorem dX4_nearest_0 : decode cX4_nearest 0 = .ok (.iload_n 1, 1) := by decide +kernel
theorem dX4_nearest_1 : decode cX4_nearest 1 = .ok (.invokestatic 310, 3) := by decide +kernel
theorem dX4_nearest_4 : decode cX4_nearest 4 = .ok (.ifCond .eq 21, 3) := by decide +kernel
theorem dX4_nearest_7 : decode cX4_nearest 7 = .ok (.iload_n 2, 1) := by decide +kernel
theorem dX4_nearest_8 : decode cX4_nearest 8 = .ok (.invokestatic 90, 3) := by decide +kernel
theorem dX4_nearest_11 : decode cX4_nearest 11 = .ok (.ifCond .eq 14, 3) := by decide +kernel
theorem dX4_nearest_14 : decode cX4_nearest 14 = .ok (.iload_n 3, 1) := by decide +kernel
theorem dX4_nearest_15 : decode cX4_nearest 15 = .ok (.invokestatic 90, 3) := by decide +kernel
theorem dX4_nearest_18 : decode cX4_nearest 18 = .ok (.ifCond .eq 7, 3) := by decide +kernel
theorem dX4_nearest_21 : decode cX4_nearest 21 = .ok (.iconst 1, 1) := by decide +kernel
theorem dX4_nearest_22 : decode cX4_nearest 22 = .ok (.goto 4, 3) := by decide +kernel
theorem dX4_nearest_25 : decode cX4_nearest 25 = .ok (.iconst 0, 1) := by decide +kernel
theorem dX4_nearest_26 : decode cX4_nearest 26 = .ok (.invokestatic 60, 3) := by decide +kernel
theorem dX4_nearest_29 : decode cX4_nearest 29 = .ok (.iconst (-1), 1) := by decide +kernel
theorem dX4_nearest_30 : decode cX4_nearest 30 = .ok (.istore 4, 2) := by decide +kernel
theorem dX4_nearest_32 : decode cX4_nearest 32 = .ok (.lconst 0, 1) := by decide +kernel
theorem dX4_nearest_33 : decode cX4_nearest 33 = .ok (.lstore 5, 2) := by decide +kernel
theorem dX4_nearest_35 : decode cX4_nearest 35 = .ok (.iconst 0, 1) := by decide +kernel
theorem dX4_nearest_36 : decode cX4_nearest 36 = .ok (.istore 7, 2) := by decide +kernel
theorem dX4_nearest_38 : decode cX4_nearest 38 = .ok (.iload 7, 2) := by decide +kernel
theorem dX4_nearest_40 : decode cX4_nearest 40 = .ok (.aload_n 0, 1) := by decide +kernel
theorem dX4_nearest_41 : decode cX4_nearest 41 = .ok (.getfield 184, 3) := by decide +kernel
theorem dX4_nearest_44 : decode cX4_nearest 44 = .ok (.if_icmp .ge 71, 3) := by decide +kernel
theorem dX4_nearest_47 : decode cX4_nearest 47 = .ok (.aload_n 0, 1) := by decide +kernel
theorem dX4_nearest_48 : decode cX4_nearest 48 = .ok (.iload 7, 2) := by decide +kernel
theorem dX4_nearest_50 : decode cX4_nearest 50 = .ok (.invokevirtual 187, 3) := by decide +kernel
theorem dX4_nearest_53 : decode cX4_nearest 53 = .ok (.astore 8, 2) := by decide +kernel
theorem dX4_nearest_55 : decode cX4_nearest 55 = .ok (.aload 8, 2) := by decide +kernel
theorem dX4_nearest_57 : decode cX4_nearest 57 = .ok (.ifnull 52, 3) := by decide +kernel
theorem dX4_nearest_60 : decode cX4_nearest 60 = .ok (.bipush 16, 2) := by decide +kernel
theorem dX4_nearest_62 : decode cX4_nearest 62 = .ok (.iload_n 2, 1) := by decide +kernel
theorem dX4_nearest_63 : decode cX4_nearest 63 = .ok (.imul, 1) := by decide +kernel
theorem dX4_nearest_64 : decode cX4_nearest 64 = .ok (.aload 8, 2) := by decide +kernel
theorem dX4_nearest_66 : decode cX4_nearest 66 = .ok (.iload_n 1, 1) := by decide +kernel
theorem dX4_nearest_67 : decode cX4_nearest 67 = .ok (.invokevirtual 272, 3) := by decide +kernel
theorem dX4_nearest_70 : decode cX4_nearest 70 = .ok (.isub, 1) := by decide +kernel
theorem dX4_nearest_71 : decode cX4_nearest 71 = .ok (.bipush 16, 2) := by decide +kernel
theorem dX4_nearest_73 : decode cX4_nearest 73 = .ok (.iload_n 3, 1) := by decide +kernel
theorem dX4_nearest_74 : decode cX4_nearest 74 = .ok (.imul, 1) := by decide +kernel
theorem dX4_nearest_75 : decode cX4_nearest 75 = .ok (.aload 8, 2) := by decide +kernel
theorem dX4_nearest_77 : decode cX4_nearest 77 = .ok (.iload_n 1, 1) := by decide +kernel
theorem dX4_nearest_78 : decode cX4_nearest 78 = .ok (.invokevirtual 275, 3) := by decide +kernel
theorem dX4_nearest_81 : decode cX4_nearest 81 = .ok (.isub, 1) := by decide +kernel
theorem dX4_nearest_82 : decode cX4_nearest 82 = .ok (.invokestatic 278, 3) := by decide +kernel
theorem dX4_nearest_85 : decode cX4_nearest 85 = .ok (.lstore 9, 2) := by decide +kernel
theorem dX4_nearest_87 : decode cX4_nearest 87 = .ok (.iload 4, 2) := by decide +kernel
theorem dX4_nearest_89 : decode cX4_nearest 89 = .ok (.iconst (-1), 1) := by decide +kernel
theorem dX4_nearest_90 : decode cX4_nearest 90 = .ok (.if_icmp .eq 11, 3) := by decide +kernel
theorem dX4_nearest_93 : decode cX4_nearest 93 = .ok (.lload 9, 2) := by decide +kernel
theorem dX4_nearest_95 : decode cX4_nearest 95 = .ok (.lload 5, 2) := by decide +kernel
theorem dX4_nearest_97 : decode cX4_nearest 97 = .ok (.lcmp, 1) := by decide +kernel
theorem dX4_nearest_98 : decode cX4_nearest 98 = .ok (.ifCond .ge 11, 3) := by decide +kernel
theorem dX4_nearest_101 : decode cX4_nearest 101 = .ok (.iload 7, 2) := by decide +kernel
theorem dX4_nearest_103 : decode cX4_nearest 103 = .ok (.istore 4, 2) := by decide +kernel
theorem dX4_nearest_105 : decode cX4_nearest 105 = .ok (.lload 9, 2) := by decide +kernel
theorem dX4_nearest_107 : decode cX4_nearest 107 = .ok (.lstore 5, 2) := by decide +kernel
theorem dX4_nearest_109 : decode cX4_nearest 109 = .ok (.iinc 7 1, 3) := by decide +kernel
theorem dX4_nearest_112 : decode cX4_nearest 112 = .ok (.goto (-74), 3) := by decide +kernel
theorem dX4_nearest_115 : decode cX4_nearest 115 = .ok (.iload 4, 2) := by decide +kernel
theorem dX4_nearest_117 : decode cX4_nearest 117 = .ok (.iconst (-1), 1) := by decide +kernel
theorem dX4_nearest_118 : decode cX4_nearest 118 = .ok (.if_icmp .ne 14, 3) := by decide +kernel
theorem dX4_nearest_121 : decode cX4_nearest 121 = .ok (.new 319, 3) := by decide +kernel
theorem dX4_nearest_124 : decode cX4_nearest 124 = .ok (.dup, 1) := by decide +kernel
theorem dX4_nearest_125 : decode cX4_nearest 125 = .ok (.ldc_w 345, 3) := by decide +kernel
theorem dX4_nearest_128 : decode cX4_nearest 128 = .ok (.invokespecial 323, 3) := by decide +kernel
theorem dX4_nearest_131 : decode cX4_nearest 131 = .ok (.athrow, 1) := by decide +kernel
theorem dX4_nearest_132 : decode cX4_nearest 132 = .ok (.iload 4, 2) := by decide +kernel
theorem dX4_nearest_134 : decode cX4_nearest 134 = .ok (.ireturn, 1) := by decide +kernel
theorem dX4_trackNumbered_0 : decode cX4_trackNumbered 0 = .ok (.aload_n 0, 1) := by decide +kernel
theorem dX4_trackNumbered_1 : decode cX4_trackNumbered 1 = .ok (.iload_n 1, 1) := by decide +kernel
theorem dX4_trackNumbered_2 : decode cX4_trackNumbered 2 = .ok (.invokevirtual 347, 3) := by decide +kernel
theorem dX4_trackNumbered_5 : decode cX4_trackNumbered 5 = .ok (.astore_n 2, 1) := by decide +kernel
theorem dX4_trackNumbered_6 : decode cX4_trackNumbered 6 = .ok (.aload_n 2, 1) := by decide +kernel
theorem dX4_trackNumbered_7 : decode cX4_trackNumbered 7 = .ok (.ifnonnull 14, 3) := by decide +kernel
theorem dX4_trackNumbered_10 : decode cX4_trackNumbered 10 = .ok (.new 79, 3) := by decide +kernel
theorem dX4_trackNumbered_13 : decode cX4_trackNumbered 13 = .ok (.dup, 1) := by decide +kernel
theorem dX4_trackNumbered_14 : decode cX4_trackNumbered 14 = .ok (.ldc_w 348, 3) := by decide +kernel
theorem dX4_trackNumbered_17 : decode cX4_trackNumbered 17 = .ok (.invokespecial 83, 3) := by decide +kernel
theorem dX4_trackNumbered_20 : decode cX4_trackNumbered 20 = .ok (.athrow, 1) := by decide +kernel
theorem dX4_trackNumbered_21 : decode cX4_trackNumbered 21 = .ok (.aload_n 2, 1) := by decide +kernel
theorem dX4_trackNumbered_22 : decode cX4_trackNumbered 22 = .ok (.areturn, 1) := by decide +kernel
theorem dX4_liveNumbered_0 : decode cX4_liveNumbered 0 = .ok (.aload_n 0, 1) := by decide +kernel
theorem dX4_liveNumbered_1 : decode cX4_liveNumbered 1 = .ok (.iload_n 1, 1) := by decide +kernel
theorem dX4_liveNumbered_2 : decode cX4_liveNumbered 2 = .ok (.invokevirtual 187, 3) := by decide +kernel
theorem dX4_liveNumbered_5 : decode cX4_liveNumbered 5 = .ok (.astore_n 2, 1) := by decide +kernel
theorem dX4_liveNumbered_6 : decode cX4_liveNumbered 6 = .ok (.aload_n 2, 1) := by decide +kernel
theorem dX4_liveNumbered_7 : decode cX4_liveNumbered 7 = .ok (.ifnonnull 14, 3) := by decide +kernel
theorem dX4_liveNumbered_10 : decode cX4_liveNumbered 10 = .ok (.new 319, 3) := by decide +kernel
theorem dX4_liveNumbered_13 : decode cX4_liveNumbered 13 = .ok (.dup, 1) := by decide +kernel
theorem dX4_liveNumbered_14 : decode cX4_liveNumbered 14 = .ok (.ldc_w 350, 3) := by decide +kernel
theorem dX4_liveNumbered_17 : decode cX4_liveNumbered 17 = .ok (.invokespecial 323, 3) := by decide +kernel
theorem dX4_liveNumbered_20 : decode cX4_liveNumbered 20 = .ok (.athrow, 1) := by decide +kernel
theorem dX4_liveNumbered_21 : decode cX4_liveNumbered 21 = .ok (.aload_n 2, 1) := by decide +kernel
theorem dX4_liveNumbered_22 : decode cX4_liveNumbered 22 = .ok (.areturn, 1) := by decide +kernel
theorem dX4_trackAt_0 : decode cX4_trackAt 0 = .ok (.iload_n 1, 1) := by decide +kernel
theorem dX4_trackAt_1 : decode cX4_trackAt 1 = .ok (.ifCond .lt 12, 3) := by decide +kernel
theorem dX4_trackAt_4 : decode cX4_trackAt 4 = .ok (.iload_n 1, 1) := by decide +kernel
theorem dX4_trackAt_5 : decode cX4_trackAt 5 = .ok (.aload_n 0, 1) := by decide +kernel
theorem dX4_trackAt_6 : decode cX4_trackAt 6 = .ok (.getfield 23, 3) := by decide +kernel
theorem dX4_trackAt_9 : decode cX4_trackAt 9 = .ok (.arraylength, 1) := by decide +kernel
theorem dX4_trackAt_10 : decode cX4_trackAt 10 = .ok (.if_icmp .lt 7, 3) := by decide +kernel
theorem dX4_trackAt_13 : decode cX4_trackAt 13 = .ok (.aconst_null, 1) := by decide +kernel
theorem dX4_trackAt_14 : decode cX4_trackAt 14 = .ok (.goto 9, 3) := by decide +kernel
theorem dX4_trackAt_17 : decode cX4_trackAt 17 = .ok (.aload_n 0, 1) := by decide +kernel
theorem dX4_trackAt_18 : decode cX4_trackAt 18 = .ok (.getfield 23, 3) := by decide +kernel
theorem dX4_trackAt_21 : decode cX4_trackAt 21 = .ok (.iload_n 1, 1) := by decide +kernel
theorem dX4_trackAt_22 : decode cX4_trackAt 22 = .ok (.aaload, 1) := by decide +kernel
theorem dX4_trackAt_23 : decode cX4_trackAt 23 = .ok (.areturn, 1) := by decide +kernel
theorem dX4_liveTrackAt_0 : decode cX4_liveTrackAt 0 = .ok (.aload_n 0, 1) := by decide +kernel
theorem dX4_liveTrackAt_1 : decode cX4_liveTrackAt 1 = .ok (.iload_n 1, 1) := by decide +kernel
theorem dX4_liveTrackAt_2 : decode cX4_liveTrackAt 2 = .ok (.invokevirtual 347, 3) := by decide +kernel
theorem dX4_liveTrackAt_5 : decode cX4_liveTrackAt 5 = .ok (.astore_n 2, 1) := by decide +kernel
theorem dX4_liveTrackAt_6 : decode cX4_liveTrackAt 6 = .ok (.aload_n 2, 1) := by decide +kernel
theorem dX4_liveTrackAt_7 : decode cX4_liveTrackAt 7 = .ok (.ifnull 10, 3) := by decide +kernel
theorem dX4_liveTrackAt_10 : decode cX4_liveTrackAt 10 = .ok (.aload_n 2, 1) := by decide +kernel
theorem dX4_liveTrackAt_11 : decode cX4_liveTrackAt 11 = .ok (.getfield 294, 3) := by decide +kernel
theorem dX4_liveTrackAt_14 : decode cX4_liveTrackAt 14 = .ok (.ifCond .ne 7, 3) := by decide +kernel
theorem dX4_liveTrackAt_17 : decode cX4_liveTrackAt 17 = .ok (.aconst_null, 1) := by decide +kernel
theorem dX4_liveTrackAt_18 : decode cX4_liveTrackAt 18 = .ok (.goto 4, 3) := by decide +kernel
theorem dX4_liveTrackAt_21 : decode cX4_liveTrackAt 21 = .ok (.aload_n 2, 1) := by decide +kernel
theorem dX4_liveTrackAt_22 : decode cX4_liveTrackAt 22 = .ok (.areturn, 1) := by decide +kernel
theorem dX4_countLive_0 : decode cX4_countLive 0 = .ok (.iconst 0, 1) := by decide +kernel
theorem dX4_countLive_1 : decode cX4_countLive 1 = .ok (.istore_n 1, 1) := by decide +kernel
theorem dX4_countLive_2 : decode cX4_countLive 2 = .ok (.iconst 0, 1) := by decide +kernel
theorem dX4_countLive_3 : decode cX4_countLive 3 = .ok (.istore_n 2, 1) := by decide +kernel
theorem dX4_countLive_4 : decode cX4_countLive 4 = .ok (.iload_n 2, 1) := by decide +kernel
theorem dX4_countLive_5 : decode cX4_countLive 5 = .ok (.aload_n 0, 1) := by decide +kernel
theorem dX4_countLive_6 : decode cX4_countLive 6 = .ok (.getfield 184, 3) := by decide +kernel
theorem dX4_countLive_9 : decode cX4_countLive 9 = .ok (.if_icmp .ge 20, 3) := by decide +kernel
theorem dX4_countLive_12 : decode cX4_countLive 12 = .ok (.aload_n 0, 1) := by decide +kernel
theorem dX4_countLive_13 : decode cX4_countLive 13 = .ok (.iload_n 2, 1) := by decide +kernel
theorem dX4_countLive_14 : decode cX4_countLive 14 = .ok (.invokevirtual 187, 3) := by decide +kernel
theorem dX4_countLive_17 : decode cX4_countLive 17 = .ok (.ifnull 6, 3) := by decide +kernel
theorem dX4_countLive_20 : decode cX4_countLive 20 = .ok (.iinc 1 1, 3) := by decide +kernel
theorem dX4_countLive_23 : decode cX4_countLive 23 = .ok (.iinc 2 1, 3) := by decide +kernel
theorem dX4_countLive_26 : decode cX4_countLive 26 = .ok (.goto (-22), 3) := by decide +kernel
theorem dX4_countLive_29 : decode cX4_countLive 29 = .ok (.iload_n 1, 1) := by decide +kernel
theorem dX4_countLive_30 : decode cX4_countLive 30 = .ok (.ireturn, 1) := by decide +kernel
theorem dX4_countSigns_0 : decode cX4_countSigns 0 = .ok (.iconst 0, 1) := by decide +kernel
theorem dX4_countSigns_1 : decode cX4_countSigns 1 = .ok (.istore_n 2, 1) := by decide +kernel
theorem dX4_countSigns_2 : decode cX4_countSigns 2 = .ok (.iconst 0, 1) := by decide +kernel
theorem dX4_countSigns_3 : decode cX4_countSigns 3 = .ok (.istore_n 3, 1) := by decide +kernel
theorem dX4_countSigns_4 : decode cX4_countSigns 4 = .ok (.iload_n 3, 1) := by decide +kernel
theorem dX4_countSigns_5 : decode cX4_countSigns 5 = .ok (.aload_n 0, 1) := by decide +kernel
theorem dX4_countSigns_6 : decode cX4_countSigns 6 = .ok (.getfield 184, 3) := by decide +kernel
theorem dX4_countSigns_9 : decode cX4_countSigns 9 = .ok (.if_icmp .ge 31, 3) := by decide +kernel
theorem dX4_countSigns_12 : decode cX4_countSigns 12 = .ok (.aload_n 0, 1) := by decide +kernel
theorem dX4_countSigns_13 : decode cX4_countSigns 13 = .ok (.iload_n 3, 1) := by decide +kernel
theorem dX4_countSigns_14 : decode cX4_countSigns 14 = .ok (.invokevirtual 347, 3) := by decide +kernel
theorem dX4_countSigns_17 : decode cX4_countSigns 17 = .ok (.astore 4, 2) := by decide +kernel
theorem dX4_countSigns_19 : decode cX4_countSigns 19 = .ok (.aload 4, 2) := by decide +kernel
theorem dX4_countSigns_21 : decode cX4_countSigns 21 = .ok (.ifnull 13, 3) := by decide +kernel
theorem dX4_countSigns_24 : decode cX4_countSigns 24 = .ok (.iload_n 2, 1) := by decide +kernel
theorem dX4_countSigns_25 : decode cX4_countSigns 25 = .ok (.aload 4, 2) := by decide +kernel
theorem dX4_countSigns_27 : decode cX4_countSigns 27 = .ok (.iconst 0, 1) := by decide +kernel
theorem dX4_countSigns_28 : decode cX4_countSigns 28 = .ok (.iload_n 1, 1) := by decide +kernel
theorem dX4_countSigns_29 : decode cX4_countSigns 29 = .ok (.invokevirtual 333, 3) := by decide +kernel
theorem dX4_countSigns_32 : decode cX4_countSigns 32 = .ok (.iadd, 1) := by decide +kernel
theorem dX4_countSigns_33 : decode cX4_countSigns 33 = .ok (.istore_n 2, 1) := by decide +kernel
theorem dX4_countSigns_34 : decode cX4_countSigns 34 = .ok (.iinc 3 1, 3) := by decide +kernel
theorem dX4_countSigns_37 : decode cX4_countSigns 37 = .ok (.goto (-33), 3) := by decide +kernel
theorem dX4_countSigns_40 : decode cX4_countSigns 40 = .ok (.iload_n 2, 1) := by decide +kernel
theorem dX4_countSigns_41 : decode cX4_countSigns 41 = .ok (.ireturn, 1) := by decide +kernel
theorem dX4_dropped_0 : decode cX4_dropped 0 = .ok (.aload_n 0, 1) := by decide +kernel
theorem dX4_dropped_1 : decode cX4_dropped 1 = .ok (.getfield 250, 3) := by decide +kernel
theorem dX4_dropped_4 : decode cX4_dropped 4 = .ok (.ireturn, 1) := by decide +kernel
theorem dX4_isBalanced_0 : decode cX4_isBalanced 0 = .ok (.aload_n 0, 1) := by decide +kernel
theorem dX4_isBalanced_1 : decode cX4_isBalanced 1 = .ok (.getfield 127, 3) := by decide +kernel
theorem dX4_isBalanced_4 : decode cX4_isBalanced 4 = .ok (.aload_n 0, 1) := by decide +kernel
theorem dX4_isBalanced_5 : decode cX4_isBalanced 5 = .ok (.bipush 110, 2) := by decide +kernel
theorem dX4_isBalanced_7 : decode cX4_isBalanced 7 = .ok (.invokevirtual 341, 3) := by decide +kernel
theorem dX4_isBalanced_10 : decode cX4_isBalanced 10 = .ok (.aload_n 0, 1) := by decide +kernel
theorem dX4_isBalanced_11 : decode cX4_isBalanced 11 = .ok (.bipush 104, 2) := by decide +kernel
theorem dX4_isBalanced_13 : decode cX4_isBalanced 13 = .ok (.invokevirtual 341, 3) := by decide +kernel
theorem dX4_isBalanced_16 : decode cX4_isBalanced 16 = .ok (.iadd, 1) := by decide +kernel
theorem dX4_isBalanced_17 : decode cX4_isBalanced 17 = .ok (.aload_n 0, 1) := by decide +kernel
theorem dX4_isBalanced_18 : decode cX4_isBalanced 18 = .ok (.getfield 250, 3) := by decide +kernel
theorem dX4_isBalanced_21 : decode cX4_isBalanced 21 = .ok (.iadd, 1) := by decide +kernel
theorem dX4_isBalanced_22 : decode cX4_isBalanced 22 = .ok (.if_icmp .ne 7, 3) := by decide +kernel
theorem dX4_isBalanced_25 : decode cX4_isBalanced 25 = .ok (.iconst 1, 1) := by decide +kernel
theorem dX4_isBalanced_26 : decode cX4_isBalanced 26 = .ok (.goto 4, 3) := by decide +kernel
theorem dX4_isBalanced_29 : decode cX4_isBalanced 29 = .ok (.iconst 0, 1) := by decide +kernel
theorem dX4_isBalanced_30 : decode cX4_isBalanced 30 = .ok (.ireturn, 1) := by decide +kernel
theorem dX4_takenShare_0 : decode cX4_takenShare 0 = .ok (.aload_n 0, 1) := by decide +kernel
theorem dX4_takenShare_1 : decode cX4_takenShare 1 = .ok (.getfield 127, 3) := by decide +kernel
theorem dX4_takenShare_4 : decode cX4_takenShare 4 = .ok (.ifCond .ne 14, 3) := by decide +kernel
theorem dX4_takenShare_7 : decode cX4_takenShare 7 = .ok (.new 352, 3) := by decide +kernel
theorem dX4_takenShare_10 : decode cX4_takenShare 10 = .ok (.dup, 1) := by decide +kernel
theorem dX4_takenShare_11 : decode cX4_takenShare 11 = .ok (.ldc_w 354, 3) := by decide +kernel
theorem dX4_takenShare_14 : decode cX4_takenShare 14 = .ok (.invokespecial 356, 3) := by decide +kernel
theorem dX4_takenShare_17 : decode cX4_takenShare 17 = .ok (.athrow, 1) := by decide +kernel
theorem dX4_takenShare_18 : decode cX4_takenShare 18 = .ok (.aload_n 0, 1) := by decide +kernel
theorem dX4_takenShare_19 : decode cX4_takenShare 19 = .ok (.bipush 104, 2) := by decide +kernel
theorem dX4_takenShare_21 : decode cX4_takenShare 21 = .ok (.invokevirtual 341, 3) := by decide +kernel
theorem dX4_takenShare_24 : decode cX4_takenShare 24 = .ok (.i2f, 1) := by decide +kernel
theorem dX4_takenShare_25 : decode cX4_takenShare 25 = .ok (.aload_n 0, 1) := by decide +kernel
theorem dX4_takenShare_26 : decode cX4_takenShare 26 = .ok (.getfield 127, 3) := by decide +kernel
theorem dX4_takenShare_29 : decode cX4_takenShare 29 = .ok (.i2f, 1) := by decide +kernel
theorem dX4_takenShare_30 : decode cX4_takenShare 30 = .ok (.fdiv, 1) := by decide +kernel
theorem dX4_takenShare_31 : decode cX4_takenShare 31 = .ok (.freturn, 1) := by decide +kernel
theorem dX4_meanHits_0 : decode cX4_meanHits 0 = .ok (.iconst 0, 1) := by decide +kernel
theorem dX4_meanHits_1 : decode cX4_meanHits 1 = .ok (.istore_n 1, 1) := by decide +kernel
theorem dX4_meanHits_2 : decode cX4_meanHits 2 = .ok (.iconst 0, 1) := by decide +kernel
theorem dX4_meanHits_3 : decode cX4_meanHits 3 = .ok (.istore_n 2, 1) := by decide +kernel
theorem dX4_meanHits_4 : decode cX4_meanHits 4 = .ok (.iconst 0, 1) := by decide +kernel
theorem dX4_meanHits_5 : decode cX4_meanHits 5 = .ok (.istore_n 3, 1) := by decide +kernel
theorem dX4_meanHits_6 : decode cX4_meanHits 6 = .ok (.iload_n 3, 1) := by decide +kernel
theorem dX4_meanHits_7 : decode cX4_meanHits 7 = .ok (.aload_n 0, 1) := by decide +kernel
theorem dX4_meanHits_8 : decode cX4_meanHits 8 = .ok (.getfield 184, 3) := by decide +kernel
theorem dX4_meanHits_11 : decode cX4_meanHits 11 = .ok (.if_icmp .ge 32, 3) := by decide +kernel
theorem dX4_meanHits_14 : decode cX4_meanHits 14 = .ok (.aload_n 0, 1) := by decide +kernel
theorem dX4_meanHits_15 : decode cX4_meanHits 15 = .ok (.iload_n 3, 1) := by decide +kernel
theorem dX4_meanHits_16 : decode cX4_meanHits 16 = .ok (.invokevirtual 187, 3) := by decide +kernel
theorem dX4_meanHits_19 : decode cX4_meanHits 19 = .ok (.astore 4, 2) := by decide +kernel
theorem dX4_meanHits_21 : decode cX4_meanHits 21 = .ok (.aload 4, 2) := by decide +kernel
theorem dX4_meanHits_23 : decode cX4_meanHits 23 = .ok (.ifnull 14, 3) := by decide +kernel
theorem dX4_meanHits_26 : decode cX4_meanHits 26 = .ok (.iinc 1 1, 3) := by decide +kernel
theorem dX4_meanHits_29 : decode cX4_meanHits 29 = .ok (.iload_n 2, 1) := by decide +kernel
theorem dX4_meanHits_30 : decode cX4_meanHits 30 = .ok (.aload 4, 2) := by decide +kernel
theorem dX4_meanHits_32 : decode cX4_meanHits 32 = .ok (.getfield 298, 3) := by decide +kernel
theorem dX4_meanHits_35 : decode cX4_meanHits 35 = .ok (.iadd, 1) := by decide +kernel
theorem dX4_meanHits_36 : decode cX4_meanHits 36 = .ok (.istore_n 2, 1) := by decide +kernel
theorem dX4_meanHits_37 : decode cX4_meanHits 37 = .ok (.iinc 3 1, 3) := by decide +kernel
theorem dX4_meanHits_40 : decode cX4_meanHits 40 = .ok (.goto (-34), 3) := by decide +kernel
theorem dX4_meanHits_43 : decode cX4_meanHits 43 = .ok (.iload_n 1, 1) := by decide +kernel
theorem dX4_meanHits_44 : decode cX4_meanHits 44 = .ok (.ifCond .ne 14, 3) := by decide +kernel
theorem dX4_meanHits_47 : decode cX4_meanHits 47 = .ok (.new 352, 3) := by decide +kernel
theorem dX4_meanHits_50 : decode cX4_meanHits 50 = .ok (.dup, 1) := by decide +kernel
theorem dX4_meanHits_51 : decode cX4_meanHits 51 = .ok (.ldc_w 345, 3) := by decide +kernel
theorem dX4_meanHits_54 : decode cX4_meanHits 54 = .ok (.invokespecial 356, 3) := by decide +kernel
theorem dX4_meanHits_57 : decode cX4_meanHits 57 = .ok (.athrow, 1) := by decide +kernel
theorem dX4_meanHits_58 : decode cX4_meanHits 58 = .ok (.iload_n 2, 1) := by decide +kernel
theorem dX4_meanHits_59 : decode cX4_meanHits 59 = .ok (.i2d, 1) := by decide +kernel
theorem dX4_meanHits_60 : decode cX4_meanHits 60 = .ok (.iload_n 1, 1) := by decide +kernel
theorem dX4_meanHits_61 : decode cX4_meanHits 61 = .ok (.i2d, 1) := by decide +kernel
theorem dX4_meanHits_62 : decode cX4_meanHits 62 = .ok (.ddiv, 1) := by decide +kernel
theorem dX4_meanHits_63 : decode cX4_meanHits 63 = .ok (.dreturn, 1) := by decide +kernel
theorem dX4_refuseUnless_0 : decode cX4_refuseUnless 0 = .ok (.iload_n 0, 1) := by decide +kernel
theorem dX4_refuseUnless_1 : decode cX4_refuseUnless 1 = .ok (.ifCond .ne 14, 3) := by decide +kernel
theorem dX4_refuseUnless_4 : decode cX4_refuseUnless 4 = .ok (.new 357, 3) := by decide +kernel
theorem dX4_refuseUnless_7 : decode cX4_refuseUnless 7 = .ok (.dup, 1) := by decide +kernel
theorem dX4_refuseUnless_8 : decode cX4_refuseUnless 8 = .ok (.ldc_w 359, 3) := by decide +kernel
theorem dX4_refuseUnless_11 : decode cX4_refuseUnless 11 = .ok (.invokespecial 361, 3) := by decide +kernel
theorem dX4_refuseUnless_14 : decode cX4_refuseUnless 14 = .ok (.athrow, 1) := by decide +kernel
theorem dX4_refuseUnless_15 : decode cX4_refuseUnless 15 = .ok (.return_, 1) := by decide +kernel
theorem dX4_isWithin_0 : decode cX4_isWithin 0 = .ok (.iload_n 0, 1) := by decide +kernel
theorem dX4_isWithin_1 : decode cX4_isWithin 1 = .ok (.iload_n 1, 1) := by decide +kernel
theorem dX4_isWithin_2 : decode cX4_isWithin 2 = .ok (.if_icmp .lt 12, 3) := by decide +kernel
theorem dX4_isWithin_5 : decode cX4_isWithin 5 = .ok (.iload_n 0, 1) := by decide +kernel
theorem dX4_isWithin_6 : decode cX4_isWithin 6 = .ok (.iload_n 2, 1) := by decide +kernel
theorem dX4_isWithin_7 : decode cX4_isWithin 7 = .ok (.if_icmp .gt 7, 3) := by decide +kernel
theorem dX4_isWithin_10 : decode cX4_isWithin 10 = .ok (.iconst 1, 1) := by decide +kernel
theorem dX4_isWithin_11 : decode cX4_isWithin 11 = .ok (.goto 4, 3) := by decide +kernel
theorem dX4_isWithin_14 : decode cX4_isWithin 14 = .ok (.iconst 0, 1) := by decide +kernel
theorem dX4_isWithin_15 : decode cX4_isWithin 15 = .ok (.ireturn, 1) := by decide +kernel
theorem dX4_isSensorTime_0 : decode cX4_isSensorTime 0 = .ok (.iload_n 0, 1) := by decide +kernel
theorem dX4_isSensorTime_1 : decode cX4_isSensorTime 1 = .ok (.iconst 0, 1) := by decide +kernel
theorem dX4_isSensorTime_2 : decode cX4_isSensorTime 2 = .ok (.sipush 9999, 3) := by decide +kernel
theorem dX4_isSensorTime_5 : decode cX4_isSensorTime 5 = .ok (.invokestatic 86, 3) := by decide +kernel
theorem dX4_isSensorTime_8 : decode cX4_isSensorTime 8 = .ok (.ireturn, 1) := by decide +kernel
theorem dX4_isAskedTime_0 : decode cX4_isAskedTime 0 = .ok (.iload_n 0, 1) := by decide +kernel
theorem dX4_isAskedTime_1 : decode cX4_isAskedTime 1 = .ok (.sipush (-9999), 3) := by decide +kernel
theorem dX4_isAskedTime_4 : decode cX4_isAskedTime 4 = .ok (.ldc_w 362, 3) := by decide +kernel
theorem dX4_isAskedTime_7 : decode cX4_isAskedTime 7 = .ok (.invokestatic 86, 3) := by decide +kernel
theorem dX4_isAskedTime_10 : decode cX4_isAskedTime 10 = .ok (.ireturn, 1) := by decide +kernel
theorem dX4_isPlace_0 : decode cX4_isPlace 0 = .ok (.iload_n 0, 1) := by decide +kernel
theorem dX4_isPlace_1 : decode cX4_isPlace 1 = .ok (.sipush (-999), 3) := by decide +kernel
theorem dX4_isPlace_4 : decode cX4_isPlace 4 = .ok (.sipush 999, 3) := by decide +kernel
theorem dX4_isPlace_7 : decode cX4_isPlace 7 = .ok (.invokestatic 86, 3) := by decide +kernel
theorem dX4_isPlace_10 : decode cX4_isPlace 10 = .ok (.ireturn, 1) := by decide +kernel
theorem dX4_isSign_0 : decode cX4_isSign 0 = .ok (.iload_n 0, 1) := by decide +kernel
theorem dX4_isSign_1 : decode cX4_isSign 1 = .ok (.bipush 110, 2) := by decide +kernel
theorem dX4_isSign_3 : decode cX4_isSign 3 = .ok (.if_icmp .eq 33, 3) := by decide +kernel
theorem dX4_isSign_6 : decode cX4_isSign 6 = .ok (.iload_n 0, 1) := by decide +kernel
theorem dX4_isSign_7 : decode cX4_isSign 7 = .ok (.bipush 104, 2) := by decide +kernel
theorem dX4_isSign_9 : decode cX4_isSign 9 = .ok (.if_icmp .eq 27, 3) := by decide +kernel
theorem dX4_isSign_12 : decode cX4_isSign 12 = .ok (.iload_n 0, 1) := by decide +kernel
theorem dX4_isSign_13 : decode cX4_isSign 13 = .ok (.bipush 120, 2) := by decide +kernel
theorem dX4_isSign_15 : decode cX4_isSign 15 = .ok (.if_icmp .eq 21, 3) := by decide +kernel
theorem dX4_isSign_18 : decode cX4_isSign 18 = .ok (.iload_n 0, 1) := by decide +kernel
theorem dX4_isSign_19 : decode cX4_isSign 19 = .ok (.bipush 108, 2) := by decide +kernel
theorem dX4_isSign_21 : decode cX4_isSign 21 = .ok (.if_icmp .eq 15, 3) := by decide +kernel
theorem dX4_isSign_24 : decode cX4_isSign 24 = .ok (.iload_n 0, 1) := by decide +kernel
theorem dX4_isSign_25 : decode cX4_isSign 25 = .ok (.bipush 109, 2) := by decide +kernel
theorem dX4_isSign_27 : decode cX4_isSign 27 = .ok (.if_icmp .eq 9, 3) := by decide +kernel
theorem dX4_isSign_30 : decode cX4_isSign 30 = .ok (.iload_n 0, 1) := by decide +kernel
theorem dX4_isSign_31 : decode cX4_isSign 31 = .ok (.bipush 103, 2) := by decide +kernel
theorem dX4_isSign_33 : decode cX4_isSign 33 = .ok (.if_icmp .ne 7, 3) := by decide +kernel
theorem dX4_isSign_36 : decode cX4_isSign 36 = .ok (.iconst 1, 1) := by decide +kernel
theorem dX4_isSign_37 : decode cX4_isSign 37 = .ok (.goto 4, 3) := by decide +kernel
theorem dX4_isSign_40 : decode cX4_isSign 40 = .ok (.iconst 0, 1) := by decide +kernel
theorem dX4_isSign_41 : decode cX4_isSign 41 = .ok (.ireturn, 1) := by decide +kernel
theorem dX4_squareSum_0 : decode cX4_squareSum 0 = .ok (.iload_n 0, 1) := by decide +kernel
theorem dX4_squareSum_1 : decode cX4_squareSum 1 = .ok (.i2l, 1) := by decide +kernel
theorem dX4_squareSum_2 : decode cX4_squareSum 2 = .ok (.iload_n 0, 1) := by decide +kernel
theorem dX4_squareSum_3 : decode cX4_squareSum 3 = .ok (.i2l, 1) := by decide +kernel
theorem dX4_squareSum_4 : decode cX4_squareSum 4 = .ok (.lmul, 1) := by decide +kernel
theorem dX4_squareSum_5 : decode cX4_squareSum 5 = .ok (.iload_n 1, 1) := by decide +kernel
theorem dX4_squareSum_6 : decode cX4_squareSum 6 = .ok (.i2l, 1) := by decide +kernel
theorem dX4_squareSum_7 : decode cX4_squareSum 7 = .ok (.iload_n 1, 1) := by decide +kernel
theorem dX4_squareSum_8 : decode cX4_squareSum 8 = .ok (.i2l, 1) := by decide +kernel
theorem dX4_squareSum_9 : decode cX4_squareSum 9 = .ok (.lmul, 1) := by decide +kernel
theorem dX4_squareSum_10 : decode cX4_squareSum 10 = .ok (.ladd, 1) := by decide +kernel
theorem dX4_squareSum_11 : decode cX4_squareSum 11 = .ok (.lreturn, 1) := by decide +kernel
theorem dX4_squareOfSixteenths_0 : decode cX4_squareOfSixteenths 0 = .ok (.bipush 16, 2) := by decide +kernel
theorem dX4_squareOfSixteenths_2 : decode cX4_squareOfSixteenths 2 = .ok (.iload_n 0, 1) := by decide +kernel
theorem dX4_squareOfSixteenths_3 : decode cX4_squareOfSixteenths 3 = .ok (.imul, 1) := by decide +kernel
theorem dX4_squareOfSixteenths_4 : decode cX4_squareOfSixteenths 4 = .ok (.iconst 0, 1) := by decide +kernel
theorem dX4_squareOfSixteenths_5 : decode cX4_squareOfSixteenths 5 = .ok (.invokestatic 278, 3) := by decide +kernel
theorem dX4_squareOfSixteenths_8 : decode cX4_squareOfSixteenths 8 = .ok (.lreturn, 1) := by decide +kernel
