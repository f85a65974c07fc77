theorem dX5_allFeatures_1 : decode cX5_allFeatures 1 = .ok (.aload_n 0, 1) := by decide +kernel
theorem dX5_allFeatures_2 : decode cX5_allFeatures 2 = .ok (.getfield 24, 3) := by decide +kernel
theorem dX5_allFeatures_5 : decode cX5_allFeatures 5 = .ok (.ishl, 1) := by decide +kernel
theorem dX5_allFeatures_6 : decode cX5_allFeatures 6 = .ok (.iconst 1, 1) := by decide +kernel
theorem dX5_allFeatures_7 : decode cX5_allFeatures 7 = .ok (.isub, 1) := by decide +kernel
theorem dX5_allFeatures_8 : decode cX5_allFeatures 8 = .ok (.ireturn, 1) := by decide +kernel
theorem dX5_allows_0 : decode cX5_allows 0 = .ok (.iload_n 1, 1) := by decide +kernel
theorem dX5_allows_1 : decode cX5_allows 1 = .ok (.iconst 0, 1) := by decide +kernel
theorem dX5_allows_2 : decode cX5_allows 2 = .ok (.invokestatic 28, 3) := by decide +kernel
theorem dX5_allows_5 : decode cX5_allows 5 = .ok (.ifCond .ne 5, 3) := by decide +kernel
theorem dX5_allows_8 : decode cX5_allows 8 = .ok (.iconst 0, 1) := by decide +kernel
theorem dX5_allows_9 : decode cX5_allows 9 = .ok (.ireturn, 1) := by decide +kernel
theorem dX5_allows_10 : decode cX5_allows 10 = .ok (.iconst 0, 1) := by decide +kernel
theorem dX5_allows_11 : decode cX5_allows 11 = .ok (.istore_n 2, 1) := by decide +kernel
theorem dX5_allows_12 : decode cX5_allows 12 = .ok (.iload_n 2, 1) := by decide +kernel
theorem dX5_allows_13 : decode cX5_allows 13 = .ok (.aload_n 0, 1) := by decide +kernel
theorem dX5_allows_14 : decode cX5_allows 14 = .ok (.getfield 24, 3) := by decide +kernel
theorem dX5_allows_17 : decode cX5_allows 17 = .ok (.if_icmp .ge 28, 3) := by decide +kernel
theorem dX5_allows_20 : decode cX5_allows 20 = .ok (.iload_n 1, 1) := by decide +kernel
theorem dX5_allows_21 : decode cX5_allows 21 = .ok (.iload_n 2, 1) := by decide +kernel
theorem dX5_allows_22 : decode cX5_allows 22 = .ok (.invokestatic 28, 3) := by decide +kernel
theorem dX5_allows_25 : decode cX5_allows 25 = .ok (.ifCond .eq 14, 3) := by decide +kernel
theorem dX5_allows_28 : decode cX5_allows 28 = .ok (.aload_n 0, 1) := by decide +kernel
theorem dX5_allows_29 : decode cX5_allows 29 = .ok (.iload_n 2, 1) := by decide +kernel
theorem dX5_allows_30 : decode cX5_allows 30 = .ok (.iload_n 1, 1) := by decide +kernel
theorem dX5_allows_31 : decode cX5_allows 31 = .ok (.invokevirtual 32, 3) := by decide +kernel
theorem dX5_allows_34 : decode cX5_allows 34 = .ok (.ifCond .ne 5, 3) := by decide +kernel
theorem dX5_allows_37 : decode cX5_allows 37 = .ok (.iconst 0, 1) := by decide +kernel
theorem dX5_allows_38 : decode cX5_allows 38 = .ok (.ireturn, 1) := by decide +kernel
theorem dX5_allows_39 : decode cX5_allows 39 = .ok (.iinc 2 1, 3) := by decide +kernel
theorem dX5_allows_42 : decode cX5_allows 42 = .ok (.goto (-30), 3) := by decide +kernel
theorem dX5_allows_45 : decode cX5_allows 45 = .ok (.iconst 1, 1) := by decide +kernel
theorem dX5_allows_46 : decode cX5_allows 46 = .ok (.ireturn, 1) := by decide +kernel
theorem dX5_allowsAt_0 : decode cX5_allowsAt 0 = .ok (.aload_n 0, 1) := by decide +kernel
theorem dX5_allowsAt_1 : decode cX5_allowsAt 1 = .ok (.getfield 9, 3) := by decide +kernel
theorem dX5_allowsAt_4 : decode cX5_allowsAt 4 = .ok (.iload_n 1, 1) := by decide +kernel
theorem dX5_allowsAt_5 : decode cX5_allowsAt 5 = .ok (.iaload, 1) := by decide +kernel
theorem dX5_allowsAt_6 : decode cX5_allowsAt 6 = .ok (.istore_n 3, 1) := by decide +kernel
theorem dX5_allowsAt_7 : decode cX5_allowsAt 7 = .ok (.iload_n 3, 1) := by decide +kernel
theorem dX5_allowsAt_8 : decode cX5_allowsAt 8 = .ok (.ifCond .lt 13, 3) := by decide +kernel
theorem dX5_allowsAt_11 : decode cX5_allowsAt 11 = .ok (.iload_n 2, 1) := by decide +kernel
theorem dX5_allowsAt_12 : decode cX5_allowsAt 12 = .ok (.iload_n 3, 1) := by decide +kernel
theorem dX5_allowsAt_13 : decode cX5_allowsAt 13 = .ok (.invokestatic 28, 3) := by decide +kernel
theorem dX5_allowsAt_16 : decode cX5_allowsAt 16 = .ok (.ifCond .ne 5, 3) := by decide +kernel
theorem dX5_allowsAt_19 : decode cX5_allowsAt 19 = .ok (.iconst 0, 1) := by decide +kernel
theorem dX5_allowsAt_20 : decode cX5_allowsAt 20 = .ok (.ireturn, 1) := by decide +kernel
theorem dX5_allowsAt_21 : decode cX5_allowsAt 21 = .ok (.aload_n 0, 1) := by decide +kernel
theorem dX5_allowsAt_22 : decode cX5_allowsAt 22 = .ok (.getfield 15, 3) := by decide +kernel
theorem dX5_allowsAt_25 : decode cX5_allowsAt 25 = .ok (.iload_n 1, 1) := by decide +kernel
theorem dX5_allowsAt_26 : decode cX5_allowsAt 26 = .ok (.iaload, 1) := by decide +kernel
theorem dX5_allowsAt_27 : decode cX5_allowsAt 27 = .ok (.istore 4, 2) := by decide +kernel
theorem dX5_allowsAt_29 : decode cX5_allowsAt 29 = .ok (.iload 4, 2) := by decide +kernel
theorem dX5_allowsAt_31 : decode cX5_allowsAt 31 = .ok (.iload_n 2, 1) := by decide +kernel
theorem dX5_allowsAt_32 : decode cX5_allowsAt 32 = .ok (.iand, 1) := by decide +kernel
theorem dX5_allowsAt_33 : decode cX5_allowsAt 33 = .ok (.invokestatic 35, 3) := by decide +kernel
theorem dX5_allowsAt_36 : decode cX5_allowsAt 36 = .ok (.istore 5, 2) := by decide +kernel
theorem dX5_allowsAt_38 : decode cX5_allowsAt 38 = .ok (.iload 4, 2) := by decide +kernel
theorem dX5_allowsAt_40 : decode cX5_allowsAt 40 = .ok (.aload_n 0, 1) := by decide +kernel
theorem dX5_allowsAt_41 : decode cX5_allowsAt 41 = .ok (.getfield 41, 3) := by decide +kernel
theorem dX5_allowsAt_44 : decode cX5_allowsAt 44 = .ok (.iand, 1) := by decide +kernel
theorem dX5_allowsAt_45 : decode cX5_allowsAt 45 = .ok (.iload_n 2, 1) := by decide +kernel
theorem dX5_allowsAt_46 : decode cX5_allowsAt 46 = .ok (.iconst (-1), 1) := by decide +kernel
theorem dX5_allowsAt_47 : decode cX5_allowsAt 47 = .ok (.ixor, 1) := by decide +kernel
theorem dX5_allowsAt_48 : decode cX5_allowsAt 48 = .ok (.iand, 1) := by decide +kernel
theorem dX5_allowsAt_49 : decode cX5_allowsAt 49 = .ok (.ifCond .ne 29, 3) := by decide +kernel
theorem dX5_allowsAt_52 : decode cX5_allowsAt 52 = .ok (.iload 5, 2) := by decide +kernel
theorem dX5_allowsAt_54 : decode cX5_allowsAt 54 = .ok (.aload_n 0, 1) := by decide +kernel
theorem dX5_allowsAt_55 : decode cX5_allowsAt 55 = .ok (.getfield 18, 3) := by decide +kernel
theorem dX5_allowsAt_58 : decode cX5_allowsAt 58 = .ok (.iload_n 1, 1) := by decide +kernel
theorem dX5_allowsAt_59 : decode cX5_allowsAt 59 = .ok (.iaload, 1) := by decide +kernel
theorem dX5_allowsAt_60 : decode cX5_allowsAt 60 = .ok (.if_icmp .lt 18, 3) := by decide +kernel
theorem dX5_allowsAt_63 : decode cX5_allowsAt 63 = .ok (.iload 5, 2) := by decide +kernel
theorem dX5_allowsAt_65 : decode cX5_allowsAt 65 = .ok (.aload_n 0, 1) := by decide +kernel
theorem dX5_allowsAt_66 : decode cX5_allowsAt 66 = .ok (.getfield 21, 3) := by decide +kernel
theorem dX5_allowsAt_69 : decode cX5_allowsAt 69 = .ok (.iload_n 1, 1) := by decide +kernel
theorem dX5_allowsAt_70 : decode cX5_allowsAt 70 = .ok (.iaload, 1) := by decide +kernel
theorem dX5_allowsAt_71 : decode cX5_allowsAt 71 = .ok (.if_icmp .gt 7, 3) := by decide +kernel
theorem dX5_allowsAt_74 : decode cX5_allowsAt 74 = .ok (.iconst 1, 1) := by decide +kernel
theorem dX5_allowsAt_75 : decode cX5_allowsAt 75 = .ok (.goto 4, 3) := by decide +kernel
theorem dX5_allowsAt_78 : decode cX5_allowsAt 78 = .ok (.iconst 0, 1) := by decide +kernel
theorem dX5_allowsAt_79 : decode cX5_allowsAt 79 = .ok (.ireturn, 1) := by decide +kernel
theorem dX5_mayBeIn_0 : decode cX5_mayBeIn 0 = .ok (.aload_n 0, 1) := by decide +kernel
theorem dX5_mayBeIn_1 : decode cX5_mayBeIn 1 = .ok (.getfield 15, 3) := by decide +kernel
theorem dX5_mayBeIn_4 : decode cX5_mayBeIn 4 = .ok (.iload_n 1, 1) := by decide +kernel
theorem dX5_mayBeIn_5 : decode cX5_mayBeIn 5 = .ok (.iaload, 1) := by decide +kernel
theorem dX5_mayBeIn_6 : decode cX5_mayBeIn 6 = .ok (.invokestatic 35, 3) := by decide +kernel
theorem dX5_mayBeIn_9 : decode cX5_mayBeIn 9 = .ok (.aload_n 0, 1) := by decide +kernel
theorem dX5_mayBeIn_10 : decode cX5_mayBeIn 10 = .ok (.getfield 18, 3) := by decide +kernel
theorem dX5_mayBeIn_13 : decode cX5_mayBeIn 13 = .ok (.iload_n 1, 1) := by decide +kernel
theorem dX5_mayBeIn_14 : decode cX5_mayBeIn 14 = .ok (.iaload, 1) := by decide +kernel
theorem dX5_mayBeIn_15 : decode cX5_mayBeIn 15 = .ok (.if_icmp .ge 5, 3) := by decide +kernel
theorem dX5_mayBeIn_18 : decode cX5_mayBeIn 18 = .ok (.iconst 0, 1) := by decide +kernel
theorem dX5_mayBeIn_19 : decode cX5_mayBeIn 19 = .ok (.ireturn, 1) := by decide +kernel
theorem dX5_mayBeIn_20 : decode cX5_mayBeIn 20 = .ok (.aload_n 0, 1) := by decide +kernel
theorem dX5_mayBeIn_21 : decode cX5_mayBeIn 21 = .ok (.getfield 9, 3) := by decide +kernel
theorem dX5_mayBeIn_24 : decode cX5_mayBeIn 24 = .ok (.iload_n 1, 1) := by decide +kernel
theorem dX5_mayBeIn_25 : decode cX5_mayBeIn 25 = .ok (.iaload, 1) := by decide +kernel
theorem dX5_mayBeIn_26 : decode cX5_mayBeIn 26 = .ok (.istore_n 3, 1) := by decide +kernel
theorem dX5_mayBeIn_27 : decode cX5_mayBeIn 27 = .ok (.iload_n 3, 1) := by decide +kernel
theorem dX5_mayBeIn_28 : decode cX5_mayBeIn 28 = .ok (.ifCond .lt 31, 3) := by decide +kernel
theorem dX5_mayBeIn_31 : decode cX5_mayBeIn 31 = .ok (.iload_n 2, 1) := by decide +kernel
theorem dX5_mayBeIn_32 : decode cX5_mayBeIn 32 = .ok (.iload_n 3, 1) := by decide +kernel
theorem dX5_mayBeIn_33 : decode cX5_mayBeIn 33 = .ok (.invokestatic 28, 3) := by decide +kernel
theorem dX5_mayBeIn_36 : decode cX5_mayBeIn 36 = .ok (.ifCond .eq 27, 3) := by decide +kernel
theorem dX5_mayBeIn_39 : decode cX5_mayBeIn 39 = .ok (.aload_n 0, 1) := by decide +kernel
theorem dX5_mayBeIn_40 : decode cX5_mayBeIn 40 = .ok (.getfield 15, 3) := by decide +kernel
theorem dX5_mayBeIn_43 : decode cX5_mayBeIn 43 = .ok (.iload_n 3, 1) := by decide +kernel
theorem dX5_mayBeIn_44 : decode cX5_mayBeIn 44 = .ok (.iaload, 1) := by decide +kernel
theorem dX5_mayBeIn_45 : decode cX5_mayBeIn 45 = .ok (.iload_n 2, 1) := by decide +kernel
theorem dX5_mayBeIn_46 : decode cX5_mayBeIn 46 = .ok (.iand, 1) := by decide +kernel
theorem dX5_mayBeIn_47 : decode cX5_mayBeIn 47 = .ok (.invokestatic 35, 3) := by decide +kernel
theorem dX5_mayBeIn_50 : decode cX5_mayBeIn 50 = .ok (.aload_n 0, 1) := by decide +kernel
theorem dX5_mayBeIn_51 : decode cX5_mayBeIn 51 = .ok (.getfield 21, 3) := by decide +kernel
theorem dX5_mayBeIn_54 : decode cX5_mayBeIn 54 = .ok (.iload_n 3, 1) := by decide +kernel
theorem dX5_mayBeIn_55 : decode cX5_mayBeIn 55 = .ok (.iaload, 1) := by decide +kernel
theorem dX5_mayBeIn_56 : decode cX5_mayBeIn 56 = .ok (.if_icmp .ge 7, 3) := by decide +kernel
theorem dX5_mayBeIn_59 : decode cX5_mayBeIn 59 = .ok (.iconst 1, 1) := by decide +kernel
theorem dX5_mayBeIn_60 : decode cX5_mayBeIn 60 = .ok (.goto 4, 3) := by decide +kernel
theorem dX5_mayBeIn_63 : decode cX5_mayBeIn 63 = .ok (.iconst 0, 1) := by decide +kernel
theorem dX5_mayBeIn_64 : decode cX5_mayBeIn 64 = .ok (.ireturn, 1) := by decide +kernel
theorem dX5_mayBeOut_0 : decode cX5_mayBeOut 0 = .ok (.aload_n 0, 1) := by decide +kernel
theorem dX5_mayBeOut_1 : decode cX5_mayBeOut 1 = .ok (.getfield 9, 3) := by decide +kernel
theorem dX5_mayBeOut_4 : decode cX5_mayBeOut 4 = .ok (.iload_n 1, 1) := by decide +kernel
theorem dX5_mayBeOut_5 : decode cX5_mayBeOut 5 = .ok (.iaload, 1) := by decide +kernel
theorem dX5_mayBeOut_6 : decode cX5_mayBeOut 6 = .ok (.istore_n 3, 1) := by decide +kernel
theorem dX5_mayBeOut_7 : decode cX5_mayBeOut 7 = .ok (.iload_n 3, 1) := by decide +kernel
theorem dX5_mayBeOut_8 : decode cX5_mayBeOut 8 = .ok (.ifCond .ge 5, 3) := by decide +kernel
theorem dX5_mayBeOut_11 : decode cX5_mayBeOut 11 = .ok (.iconst 0, 1) := by decide +kernel
theorem dX5_mayBeOut_12 : decode cX5_mayBeOut 12 = .ok (.ireturn, 1) := by decide +kernel
theorem dX5_mayBeOut_13 : decode cX5_mayBeOut 13 = .ok (.iload_n 2, 1) := by decide +kernel
theorem dX5_mayBeOut_14 : decode cX5_mayBeOut 14 = .ok (.iload_n 3, 1) := by decide +kernel
theorem dX5_mayBeOut_15 : decode cX5_mayBeOut 15 = .ok (.invokestatic 28, 3) := by decide +kernel
theorem dX5_mayBeOut_18 : decode cX5_mayBeOut 18 = .ok (.ifCond .ne 5, 3) := by decide +kernel
theorem dX5_mayBeOut_21 : decode cX5_mayBeOut 21 = .ok (.iconst 1, 1) := by decide +kernel
theorem dX5_mayBeOut_22 : decode cX5_mayBeOut 22 = .ok (.ireturn, 1) := by decide +kernel
theorem dX5_mayBeOut_23 : decode cX5_mayBeOut 23 = .ok (.aload_n 0, 1) := by decide +kernel
theorem dX5_mayBeOut_24 : decode cX5_mayBeOut 24 = .ok (.getfield 15, 3) := by decide +kernel
theorem dX5_mayBeOut_27 : decode cX5_mayBeOut 27 = .ok (.iload_n 3, 1) := by decide +kernel
theorem dX5_mayBeOut_28 : decode cX5_mayBeOut 28 = .ok (.iaload, 1) := by decide +kernel
theorem dX5_mayBeOut_29 : decode cX5_mayBeOut 29 = .ok (.iload_n 2, 1) := by decide +kernel
theorem dX5_mayBeOut_30 : decode cX5_mayBeOut 30 = .ok (.iand, 1) := by decide +kernel
theorem dX5_mayBeOut_31 : decode cX5_mayBeOut 31 = .ok (.invokestatic 35, 3) := by decide +kernel
theorem dX5_mayBeOut_34 : decode cX5_mayBeOut 34 = .ok (.istore 4, 2) := by decide +kernel
theorem dX5_mayBeOut_36 : decode cX5_mayBeOut 36 = .ok (.aload_n 0, 1) := by decide +kernel
theorem dX5_mayBeOut_37 : decode cX5_mayBeOut 37 = .ok (.getfield 15, 3) := by decide +kernel
theorem dX5_mayBeOut_40 : decode cX5_mayBeOut 40 = .ok (.iload_n 3, 1) := by decide +kernel
theorem dX5_mayBeOut_41 : decode cX5_mayBeOut 41 = .ok (.iaload, 1) := by decide +kernel
theorem dX5_mayBeOut_42 : decode cX5_mayBeOut 42 = .ok (.iload_n 1, 1) := by decide +kernel
theorem dX5_mayBeOut_43 : decode cX5_mayBeOut 43 = .ok (.iconst 1, 1) := by decide +kernel
theorem dX5_mayBeOut_44 : decode cX5_mayBeOut 44 = .ok (.iadd, 1) := by decide +kernel
theorem dX5_mayBeOut_45 : decode cX5_mayBeOut 45 = .ok (.ishr, 1) := by decide +kernel
theorem dX5_mayBeOut_46 : decode cX5_mayBeOut 46 = .ok (.invokestatic 35, 3) := by decide +kernel
theorem dX5_mayBeOut_49 : decode cX5_mayBeOut 49 = .ok (.istore 5, 2) := by decide +kernel
theorem dX5_mayBeOut_51 : decode cX5_mayBeOut 51 = .ok (.aload_n 0, 1) := by decide +kernel
theorem dX5_mayBeOut_52 : decode cX5_mayBeOut 52 = .ok (.getfield 41, 3) := by decide +kernel
theorem dX5_mayBeOut_55 : decode cX5_mayBeOut 55 = .ok (.iload_n 1, 1) := by decide +kernel
theorem dX5_mayBeOut_56 : decode cX5_mayBeOut 56 = .ok (.invokestatic 28, 3) := by decide +kernel
theorem dX5_mayBeOut_59 : decode cX5_mayBeOut 59 = .ok (.ifCond .ne 21, 3) := by decide +kernel
theorem dX5_mayBeOut_62 : decode cX5_mayBeOut 62 = .ok (.iload 4, 2) := by decide +kernel
theorem dX5_mayBeOut_64 : decode cX5_mayBeOut 64 = .ok (.iload 5, 2) := by decide +kernel
theorem dX5_mayBeOut_66 : decode cX5_mayBeOut 66 = .ok (.iadd, 1) := by decide +kernel
theorem dX5_mayBeOut_67 : decode cX5_mayBeOut 67 = .ok (.aload_n 0, 1) := by decide +kernel
theorem dX5_mayBeOut_68 : decode cX5_mayBeOut 68 = .ok (.getfield 18, 3) := by decide +kernel
theorem dX5_mayBeOut_71 : decode cX5_mayBeOut 71 = .ok (.iload_n 3, 1) := by decide +kernel
theorem dX5_mayBeOut_72 : decode cX5_mayBeOut 72 = .ok (.iaload, 1) := by decide +kernel
theorem dX5_mayBeOut_73 : decode cX5_mayBeOut 73 = .ok (.if_icmp .lt 7, 3) := by decide +kernel
theorem dX5_mayBeOut_76 : decode cX5_mayBeOut 76 = .ok (.iconst 1, 1) := by decide +kernel
theorem dX5_mayBeOut_77 : decode cX5_mayBeOut 77 = .ok (.goto 4, 3) := by decide +kernel
theorem dX5_mayBeOut_80 : decode cX5_mayBeOut 80 = .ok (.iconst 0, 1) := by decide +kernel
theorem dX5_mayBeOut_81 : decode cX5_mayBeOut 81 = .ok (.ireturn, 1) := by decide +kernel
theorem dX6_init_0 : decode cX6_init 0 = .ok (.aload_n 0, 1) := by decide +kernel
theorem dX6_init_1 : decode cX6_init 1 = .ok (.invokespecial 1, 3) := by decide +kernel
theorem dX6_init_4 : decode cX6_init 4 = .ok (.aload_n 0, 1) := by decide +kernel
theorem dX6_init_5 : decode cX6_init 5 = .ok (.new 7, 3) := by decide +kernel
theorem dX6_init_8 : decode cX6_init 8 = .ok (.dup, 1) := by decide +kernel
theorem dX6_init_9 : decode cX6_init 9 = .ok (.invokespecial 9, 3) := by decide +kernel
theorem dX6_init_12 : decode cX6_init 12 = .ok (.putfield 10, 3) := by decide +kernel
theorem dX6_init_15 : decode cX6_init 15 = .ok (.aload_n 0, 1) := by decide +kernel
theorem dX6_init_16 : decode cX6_init 16 = .ok (.new 16, 3) := by decide +kernel
theorem dX6_init_19 : decode cX6_init 19 = .ok (.dup, 1) := by decide +kernel
theorem dX6_init_20 : decode cX6_init 20 = .ok (.invokespecial 18, 3) := by decide +kernel
theorem dX6_init_23 : decode cX6_init 23 = .ok (.putfield 19, 3) := by decide +kernel
theorem dX6_init_26 : decode cX6_init 26 = .ok (.aload_n 0, 1) := by decide +kernel
theorem dX6_init_27 : decode cX6_init 27 = .ok (.new 23, 3) := by decide +kernel
theorem dX6_init_30 : decode cX6_init 30 = .ok (.dup, 1) := by decide +kernel
theorem dX6_init_31 : decode cX6_init 31 = .ok (.invokespecial 25, 3) := by decide +kernel
theorem dX6_init_34 : decode cX6_init 34 = .ok (.putfield 26, 3) := by decide +kernel
theorem dX6_init_37 : decode cX6_init 37 = .ok (.aload_n 0, 1) := by decide +kernel
theorem dX6_init_38 : decode cX6_init 38 = .ok (.new 30, 3) := by decide +kernel
theorem dX6_init_41 : decode cX6_init 41 = .ok (.dup, 1) := by decide +kernel
theorem dX6_init_42 : decode cX6_init 42 = .ok (.invokespecial 32, 3) := by decide +kernel
theorem dX6_init_45 : decode cX6_init 45 = .ok (.putfield 33, 3) := by decide +kernel
theorem dX6_init_48 : decode cX6_init 48 = .ok (.aload_n 0, 1) := by decide +kernel
theorem dX6_init_49 : decode cX6_init 49 = .ok (.new 37, 3) := by decide +kernel
theorem dX6_init_52 : decode cX6_init 52 = .ok (.dup, 1) := by decide +kernel
theorem dX6_init_53 : decode cX6_init 53 = .ok (.invokespecial 39, 3) := by decide +kernel
theorem dX6_init_56 : decode cX6_init 56 = .ok (.putfield 40, 3) := by decide +kernel
theorem dX6_init_59 : decode cX6_init 59 = .ok (.return_, 1) := by decide +kernel
theorem dX6_addFeature_0 : decode cX6_addFeature 0 = .ok (.aload_n 0, 1) := by decide +kernel
theorem dX6_addFeature_1 : decode cX6_addFeature 1 = .ok (.iload_n 1, 1) := by decide +kernel
theorem dX6_addFeature_2 : decode cX6_addFeature 2 = .ok (.invokevirtual 44, 3) := by decide +kernel
theorem dX6_addFeature_5 : decode cX6_addFeature 5 = .ok (.iload_n 2, 1) := by decide +kernel
theorem dX6_addFeature_6 : decode cX6_addFeature 6 = .ok (.ifCond .lt 10, 3) := by decide +kernel
theorem dX6_addFeature_9 : decode cX6_addFeature 9 = .ok (.iload_n 2, 1) := by decide +kernel
theorem dX6_addFeature_10 : decode cX6_addFeature 10 = .ok (.sipush 999, 3) := by decide +kernel
theorem dX6_addFeature_13 : decode cX6_addFeature 13 = .ok (.if_icmp .le 13, 3) := by decide +kernel
theorem dX6_addFeature_16 : decode cX6_addFeature 16 = .ok (.new 48, 3) := by decide +kernel
theorem dX6_addFeature_19 : decode cX6_addFeature 19 = .ok (.dup, 1) := by decide +kernel
theorem dX6_addFeature_20 : decode cX6_addFeature 20 = .ok (.ldc 50, 2) := by decide +kernel
theorem dX6_addFeature_22 : decode cX6_addFeature 22 = .ok (.invokespecial 52, 3) := by decide +kernel
theorem dX6_addFeature_25 : decode cX6_addFeature 25 = .ok (.athrow, 1) := by decide +kernel
theorem dX6_addFeature_26 : decode cX6_addFeature 26 = .ok (.aload_n 0, 1) := by decide +kernel
theorem dX6_addFeature_27 : decode cX6_addFeature 27 = .ok (.getfield 10, 3) := by decide +kernel
theorem dX6_addFeature_30 : decode cX6_addFeature 30 = .ok (.getfield 55, 3) := by decide +kernel
theorem dX6_addFeature_33 : decode cX6_addFeature 33 = .ok (.bipush 12, 2) := by decide +kernel
theorem dX6_addFeature_35 : decode cX6_addFeature 35 = .ok (.if_icmp .lt 13, 3) := by decide +kernel
theorem dX6_addFeature_38 : decode cX6_addFeature 38 = .ok (.new 59, 3) := by decide +kernel
theorem dX6_addFeature_41 : decode cX6_addFeature 41 = .ok (.dup, 1) := by decide +kernel
theorem dX6_addFeature_42 : decode cX6_addFeature 42 = .ok (.ldc 61, 2) := by decide +kernel
theorem dX6_addFeature_44 : decode cX6_addFeature 44 = .ok (.invokespecial 63, 3) := by decide +kernel
theorem dX6_addFeature_47 : decode cX6_addFeature 47 = .ok (.athrow, 1) := by decide +kernel
theorem dX6_addFeature_48 : decode cX6_addFeature 48 = .ok (.aload_n 0, 1) := by decide +kernel
theorem dX6_addFeature_49 : decode cX6_addFeature 49 = .ok (.getfield 10, 3) := by decide +kernel
theorem dX6_addFeature_52 : decode cX6_addFeature 52 = .ok (.iload_n 1, 1) := by decide +kernel
theorem dX6_addFeature_53 : decode cX6_addFeature 53 = .ok (.invokevirtual 64, 3) := by decide +kernel
theorem dX6_addFeature_56 : decode cX6_addFeature 56 = .ok (.istore_n 3, 1) := by decide +kernel
theorem dX6_addFeature_57 : decode cX6_addFeature 57 = .ok (.aload_n 0, 1) := by decide +kernel
theorem dX6_addFeature_58 : decode cX6_addFeature 58 = .ok (.getfield 26, 3) := by decide +kernel
theorem dX6_addFeature_61 : decode cX6_addFeature 61 = .ok (.iload_n 3, 1) := by decide +kernel
theorem dX6_addFeature_62 : decode cX6_addFeature 62 = .ok (.iload_n 2, 1) := by decide +kernel
theorem dX6_addFeature_63 : decode cX6_addFeature 63 = .ok (.invokevirtual 68, 3) := by decide +kernel
theorem dX6_addFeature_66 : decode cX6_addFeature 66 = .ok (.iload_n 3, 1) := by decide +kernel
theorem dX6_addFeature_67 : decode cX6_addFeature 67 = .ok (.ireturn, 1) := by decide +kernel
theorem dX6_setMandatory_0 : decode cX6_setMandatory 0 = .ok (.aload_n 0, 1) := by decide +kernel
theorem dX6_setMandatory_1 : decode cX6_setMandatory 1 = .ok (.iload_n 1, 1) := by decide +kernel
theorem dX6_setMandatory_2 : decode cX6_setMandatory 2 = .ok (.invokevirtual 44, 3) := by decide +kernel
theorem dX6_setMandatory_5 : decode cX6_setMandatory 5 = .ok (.aload_n 0, 1) := by decide +kernel
theorem dX6_setMandatory_6 : decode cX6_setMandatory 6 = .ok (.iload_n 1, 1) := by decide +kernel
theorem dX6_setMandatory_7 : decode cX6_setMandatory 7 = .ok (.invokevirtual 72, 3) := by decide +kernel
theorem dX6_setMandatory_10 : decode cX6_setMandatory 10 = .ok (.aload_n 0, 1) := by decide +kernel
theorem dX6_setMandatory_11 : decode cX6_setMandatory 11 = .ok (.getfield 10, 3) := by decide +kernel
theorem dX6_setMandatory_14 : decode cX6_setMandatory 14 = .ok (.getfield 75, 3) := by decide +kernel
theorem dX6_setMandatory_17 : decode cX6_setMandatory 17 = .ok (.istore_n 3, 1) := by decide +kernel
theorem dX6_setMandatory_18 : decode cX6_setMandatory 18 = .ok (.iconst 1, 1) := by decide +kernel
theorem dX6_setMandatory_19 : decode cX6_setMandatory 19 = .ok (.iload_n 1, 1) := by decide +kernel
theorem dX6_setMandatory_20 : decode cX6_setMandatory 20 = .ok (.ishl, 1) := by decide +kernel
theorem dX6_setMandatory_21 : decode cX6_setMandatory 21 = .ok (.istore 4, 2) := by decide +kernel
theorem dX6_setMandatory_23 : decode cX6_setMandatory 23 = .ok (.aload_n 0, 1) := by decide +kernel
theorem dX6_setMandatory_24 : decode cX6_setMandatory 24 = .ok (.getfield 10, 3) := by decide +kernel
theorem dX6_setMandatory_27 : decode cX6_setMandatory 27 = .ok (.iload_n 2, 1) := by decide +kernel
theorem dX6_setMandatory_28 : decode cX6_setMandatory 28 = .ok (.ifCond .eq 10, 3) := by decide +kernel
theorem dX6_setMandatory_31 : decode cX6_setMandatory 31 = .ok (.iload_n 3, 1) := by decide +kernel
theorem dX6_setMandatory_32 : decode cX6_setMandatory 32 = .ok (.iload 4, 2) := by decide +kernel
theorem dX6_setMandatory_34 : decode cX6_setMandatory 34 = .ok (.ior, 1) := by decide +kernel
theorem dX6_setMandatory_35 : decode cX6_setMandatory 35 = .ok (.goto 9, 3) := by decide +kernel
theorem dX6_setMandatory_38 : decode cX6_setMandatory 38 = .ok (.iload_n 3, 1) := by decide +kernel
theorem dX6_setMandatory_39 : decode cX6_setMandatory 39 = .ok (.iload 4, 2) := by decide +kernel
theorem dX6_setMandatory_41 : decode cX6_setMandatory 41 = .ok (.iconst (-1), 1) := by decide +kernel
theorem dX6_setMandatory_42 : decode cX6_setMandatory 42 = .ok (.ixor, 1) := by decide +kernel
theorem dX6_setMandatory_43 : decode cX6_setMandatory 43 = .ok (.iand, 1) := by decide +kernel
theorem dX6_setMandatory_44 : decode cX6_setMandatory 44 = .ok (.putfield 75, 3) := by decide +kernel
theorem dX6_setMandatory_47 : decode cX6_setMandatory 47 = .ok (.aload_n 0, 1) := by decide +kernel
theorem dX6_setMandatory_48 : decode cX6_setMandatory 48 = .ok (.invokevirtual 78, 3) := by decide +kernel
theorem dX6_setMandatory_51 : decode cX6_setMandatory 51 = .ok (.ifCond .ne 21, 3) := by decide +kernel
theorem dX6_setMandatory_54 : decode cX6_setMandatory 54 = .ok (.aload_n 0, 1) := by decide +kernel
theorem dX6_setMandatory_55 : decode cX6_setMandatory 55 = .ok (.getfield 10, 3) := by decide +kernel
theorem dX6_setMandatory_58 : decode cX6_setMandatory 58 = .ok (.iload_n 3, 1) := by decide +kernel
theorem dX6_setMandatory_59 : decode cX6_setMandatory 59 = .ok (.putfield 75, 3) := by decide +kernel
theorem dX6_setMandatory_62 : decode cX6_setMandatory 62 = .ok (.new 82, 3) := by decide +kernel
theorem dX6_setMandatory_65 : decode cX6_setMandatory 65 = .ok (.dup, 1) := by decide +kernel
theorem dX6_setMandatory_66 : decode cX6_setMandatory 66 = .ok (.ldc 84, 2) := by decide +kernel
theorem dX6_setMandatory_68 : decode cX6_setMandatory 68 = .ok (.invokespecial 86, 3) := by decide +kernel
theorem dX6_setMandatory_71 : decode cX6_setMandatory 71 = .ok (.athrow, 1) := by decide +kernel
theorem dX6_setMandatory_72 : decode cX6_setMandatory 72 = .ok (.iload_n 3, 1) := by decide +kernel
theorem dX6_setMandatory_73 : decode cX6_setMandatory 73 = .ok (.iload_n 1, 1) := by decide +kernel
theorem dX6_setMandatory_74 : decode cX6_setMandatory 74 = .ok (.invokestatic 87, 3) := by decide +kernel
theorem dX6_setMandatory_77 : decode cX6_setMandatory 77 = .ok (.ireturn, 1) := by decide +kernel
theorem dX6_setGroup_0 : decode cX6_setGroup 0 = .ok (.aload_n 0, 1) := by decide +kernel
theorem dX6_setGroup_1 : decode cX6_setGroup 1 = .ok (.iload_n 1, 1) := by decide +kernel
theorem dX6_setGroup_2 : decode cX6_setGroup 2 = .ok (.invokevirtual 44, 3) := by decide +kernel
theorem dX6_setGroup_5 : decode cX6_setGroup 5 = .ok (.iload_n 2, 1) := by decide +kernel
theorem dX6_setGroup_6 : decode cX6_setGroup 6 = .ok (.ifCond .lt 14, 3) := by decide +kernel
theorem dX6_setGroup_9 : decode cX6_setGroup 9 = .ok (.iload_n 3, 1) := by decide +kernel
theorem dX6_setGroup_10 : decode cX6_setGroup 10 = .ok (.iload_n 2, 1) := by decide +kernel
theorem dX6_setGroup_11 : decode cX6_setGroup 11 = .ok (.if_icmp .lt 9, 3) := by decide +kernel
theorem dX6_setGroup_14 : decode cX6_setGroup 14 = .ok (.iload_n 3, 1) := by decide +kernel
theorem dX6_setGroup_15 : decode cX6_setGroup 15 = .ok (.bipush 12, 2) := by decide +kernel
theorem dX6_setGroup_17 : decode cX6_setGroup 17 = .ok (.if_icmp .le 13, 3) := by decide +kernel
theorem dX6_setGroup_20 : decode cX6_setGroup 20 = .ok (.new 48, 3) := by decide +kernel
theorem dX6_setGroup_23 : decode cX6_setGroup 23 = .ok (.dup, 1) := by decide +kernel
theorem dX6_setGroup_24 : decode cX6_setGroup 24 = .ok (.ldc 91, 2) := by decide +kernel
theorem dX6_setGroup_26 : decode cX6_setGroup 26 = .ok (.invokespecial 52, 3) := by decide +kernel
theorem dX6_setGroup_29 : decode cX6_setGroup 29 = .ok (.athrow, 1) := by decide +kernel
theorem dX6_setGroup_30 : decode cX6_setGroup 30 = .ok (.aload_n 0, 1) := by decide +kernel
theorem dX6_setGroup_31 : decode cX6_setGroup 31 = .ok (.getfield 10, 3) := by decide +kernel
theorem dX6_setGroup_34 : decode cX6_setGroup 34 = .ok (.getfield 93, 3) := by decide +kernel
theorem dX6_setGroup_37 : decode cX6_setGroup 37 = .ok (.iload_n 1, 1) := by decide +kernel
theorem dX6_setGroup_38 : decode cX6_setGroup 38 = .ok (.iaload, 1) := by decide +kernel
theorem dX6_setGroup_39 : decode cX6_setGroup 39 = .ok (.istore 4, 2) := by decide +kernel
theorem dX6_setGroup_41 : decode cX6_setGroup 41 = .ok (.aload_n 0, 1) := by decide +kernel
theorem dX6_setGroup_42 : decode cX6_setGroup 42 = .ok (.getfield 10, 3) := by decide +kernel
theorem dX6_setGroup_45 : decode cX6_setGroup 45 = .ok (.getfield 97, 3) := by decide +kernel
theorem dX6_setGroup_48 : decode cX6_setGroup 48 = .ok (.iload_n 1, 1) := by decide +kernel
theorem dX6_setGroup_49 : decode cX6_setGroup 49 = .ok (.iaload, 1) := by decide +kernel
theorem dX6_setGroup_50 : decode cX6_setGroup 50 = .ok (.istore 5, 2) := by decide +kernel
theorem dX6_setGroup_52 : decode cX6_setGroup 52 = .ok (.aload_n 0, 1) := by decide +kernel
theorem dX6_setGroup_53 : decode cX6_setGroup 53 = .ok (.getfield 10, 3) := by decide +kernel
theorem dX6_setGroup_56 : decode cX6_setGroup 56 = .ok (.getfield 93, 3) := by decide +kernel
theorem dX6_setGroup_59 : decode cX6_setGroup 59 = .ok (.iload_n 1, 1) := by decide +kernel
theorem dX6_setGroup_60 : decode cX6_setGroup 60 = .ok (.iload_n 2, 1) := by decide +kernel
theorem dX6_setGroup_61 : decode cX6_setGroup 61 = .ok (.iastore, 1) := by decide +kernel
theorem dX6_setGroup_62 : decode cX6_setGroup 62 = .ok (.aload_n 0, 1) := by decide +kernel
theorem dX6_setGroup_63 : decode cX6_setGroup 63 = .ok (.getfield 10, 3) := by decide +kernel
theorem dX6_setGroup_66 : decode cX6_setGroup 66 = .ok (.getfield 97, 3) := by decide +kernel
theorem dX6_setGroup_69 : decode cX6_setGroup 69 = .ok (.iload_n 1, 1) := by decide +kernel
theorem dX6_setGroup_70 : decode cX6_setGroup 70 = .ok (.iload_n 3, 1) := by decide +kernel
theorem dX6_setGroup_71 : decode cX6_setGroup 71 = .ok (.iastore, 1) := by decide +kernel
theorem dX6_setGroup_72 : decode cX6_setGroup 72 = .ok (.aload_n 0, 1) := by decide +kernel
theorem dX6_setGroup_73 : decode cX6_setGroup 73 = .ok (.invokevirtual 78, 3) := by decide +kernel
theorem dX6_setGroup_76 : decode cX6_setGroup 76 = .ok (.ifCond .ne 35, 3) := by decide +kernel
theorem dX6_setGroup_79 : decode cX6_setGroup 79 = .ok (.aload_n 0, 1) := by decide +kernel
theorem dX6_setGroup_80 : decode cX6_setGroup 80 = .ok (.getfield 10, 3) := by decide +kernel
theorem dX6_setGroup_83 : decode cX6_setGroup 83 = .ok (.getfield 93, 3) := by decide +kernel
theorem dX6_setGroup_86 : decode cX6_setGroup 86 = .ok (.iload_n 1, 1) := by decide +kernel
theorem dX6_setGroup_87 : decode cX6_setGroup 87 = .ok (.iload 4, 2) := by decide +kernel
theorem dX6_setGroup_89 : decode cX6_setGroup 89 = .ok (.iastore, 1) := by decide +kernel
theorem dX6_setGroup_90 : decode cX6_setGroup 90 = .ok (.aload_n 0, 1) := by decide +kernel
theorem dX6_setGroup_91 : decode cX6_setGroup 91 = .ok (.getfield 10, 3) := by decide +kernel
theorem dX6_setGroup_94 : decode cX6_setGroup 94 = .ok (.getfield 97, 3) := by decide +kernel
theorem dX6_setGroup_97 : decode cX6_setGroup 97 = .ok (.iload_n 1, 1) := by decide +kernel
theorem dX6_setGroup_98 : decode cX6_setGroup 98 = .ok (.iload 5, 2) := by decide +kernel
theorem dX6_setGroup_100 : decode cX6_setGroup 100 = .ok (.iastore, 1) := by decide +kernel
theorem dX6_setGroup_101 : decode cX6_setGroup 101 = .ok (.new 82, 3) := by decide +kernel
theorem dX6_setGroup_104 : decode cX6_setGroup 104 = .ok (.dup, 1) := by decide +kernel
theorem dX6_setGroup_105 : decode cX6_setGroup 105 = .ok (.ldc 84, 2) := by decide +kernel
theorem dX6_setGroup_107 : decode cX6_setGroup 107 = .ok (.invokespecial 86, 3) := by decide +kernel
theorem dX6_setGroup_110 : decode cX6_setGroup 110 = .ok (.athrow, 1) := by decide +kernel
theorem dX6_setGroup_111 : decode cX6_setGroup 111 = .ok (.aload_n 0, 1) := by decide +kernel
theorem dX6_setGroup_112 : decode cX6_setGroup 112 = .ok (.getfield 10, 3) := by decide +kernel
theorem dX6_setGroup_115 : decode cX6_setGroup 115 = .ok (.getfield 100, 3) := by decide +kernel
theorem dX6_setGroup_118 : decode cX6_setGroup 118 = .ok (.iload_n 1, 1) := by decide +kernel
theorem dX6_setGroup_119 : decode cX6_setGroup 119 = .ok (.iaload, 1) := by decide +kernel
theorem dX6_setGroup_120 : decode cX6_setGroup 120 = .ok (.invokestatic 103, 3) := by decide +kernel
theorem dX6_setGroup_123 : decode cX6_setGroup 123 = .ok (.ireturn, 1) := by decide +kernel
theorem dX6_require_0 : decode cX6_require 0 = .ok (.aload_n 0, 1) := by decide +kernel
theorem dX6_require_1 : decode cX6_require 1 = .ok (.iload_n 1, 1) := by decide +kernel
theorem dX6_require_2 : decode cX6_require 2 = .ok (.invokevirtual 44, 3) := by decide +kernel
theorem dX6_require_5 : decode cX6_require 5 = .ok (.aload_n 0, 1) := by decide +kernel
theorem dX6_require_6 : decode cX6_require 6 = .ok (.iload_n 2, 1) := by decide +kernel
theorem dX6_require_7 : decode cX6_require 7 = .ok (.invokevirtual 44, 3) := by decide +kernel
theorem dX6_require_10 : decode cX6_require 10 = .ok (.aload_n 0, 1) := by decide +kernel
theorem dX6_require_11 : decode cX6_require 11 = .ok (.iload_n 1, 1) := by decide +kernel
theorem dX6_require_12 : decode cX6_require 12 = .ok (.iload_n 2, 1) := by decide +kernel
theorem dX6_require_13 : decode cX6_require 13 = .ok (.invokevirtual 108, 3) := by decide +kernel
theorem dX6_require_16 : decode cX6_require 16 = .ok (.aload_n 0, 1) := by decide +kernel
theorem dX6_require_17 : decode cX6_require 17 = .ok (.iconst 1, 1) := by decide +kernel
theorem dX6_require_18 : decode cX6_require 18 = .ok (.iload_n 2, 1) := by decide +kernel
theorem dX6_require_19 : decode cX6_require 19 = .ok (.ishl, 1) := by decide +kernel
theorem dX6_require_20 : decode cX6_require 20 = .ok (.iconst 1, 1) := by decide +kernel
theorem dX6_require_21 : decode cX6_require 21 = .ok (.iload_n 1, 1) := by decide +kernel
theorem dX6_require_22 : decode cX6_require 22 = .ok (.ishl, 1) := by decide +kernel
theorem dX6_require_23 : decode cX6_require 23 = .ok (.iload_n 1, 1) := by decide +kernel
theorem dX6_require_24 : decode cX6_require 24 = .ok (.iload_n 2, 1) := by decide +kernel
theorem dX6_require_25 : decode cX6_require 25 = .ok (.invokestatic 111, 3) := by decide +kernel
theorem dX6_require_28 : decode cX6_require 28 = .ok (.invokevirtual 117, 3) := by decide +kernel
theorem dX6_require_31 : decode cX6_require 31 = .ok (.ireturn, 1) := by decide +kernel
theorem dX6_exclude_0 : decode cX6_exclude 0 = .ok (.aload_n 0, 1) := by decide +kernel
theorem dX6_exclude_1 : decode cX6_exclude 1 = .ok (.iload_n 1, 1) := by decide +kernel
theorem dX6_exclude_2 : decode cX6_exclude 2 = .ok (.invokevirtual 44, 3) := by decide +kernel
theorem dX6_exclude_5 : decode cX6_exclude 5 = .ok (.aload_n 0, 1) := by decide +kernel
theorem dX6_exclude_6 : decode cX6_exclude 6 = .ok (.iload_n 2, 1) := by decide +kernel
theorem dX6_exclude_7 : decode cX6_exclude 7 = .ok (.invokevirtual 44, 3) := by decide +kernel
theorem dX6_exclude_10 : decode cX6_exclude 10 = .ok (.aload_n 0, 1) := by decide +kernel
theorem dX6_exclude_11 : decode cX6_exclude 11 = .ok (.iload_n 1, 1) := by decide +kernel
theorem dX6_exclude_12 : decode cX6_exclude 12 = .ok (.iload_n 2, 1) := by decide +kernel
theorem dX6_exclude_13 : decode cX6_exclude 13 = .ok (.invokevirtual 108, 3) := by decide +kernel
theorem dX6_exclude_16 : decode cX6_exclude 16 = .ok (.aload_n 0, 1) := by decide +kernel
theorem dX6_exclude_17 : decode cX6_exclude 17 = .ok (.iconst 0, 1) := by decide +kernel
theorem dX6_exclude_18 : decode cX6_exclude 18 = .ok (.iconst 1, 1) := by decide +kernel
theorem dX6_exclude_19 : decode cX6_exclude 19 = .ok (.iload_n 1, 1) := by decide +kernel
theorem dX6_exclude_20 : decode cX6_exclude 20 = .ok (.ishl, 1) := by decide +kernel
theorem dX6_exclude_21 : decode cX6_exclude 21 = .ok (.iconst 1, 1) := by decide +kernel
theorem dX6_exclude_22 : decode cX6_exclude 22 = .ok (.iload_n 2, 1) := by decide +kernel
theorem dX6_exclude_23 : decode cX6_exclude 23 = .ok (.ishl, 1) := by decide +kernel
theorem dX6_exclude_24 : decode cX6_exclude 24 = .ok (.ior, 1) := by decide +kernel
theorem dX6_exclude_25 : decode cX6_exclude 25 = .ok (.iload_n 1, 1) := by decide +kernel
theorem dX6_exclude_26 : decode cX6_exclude 26 = .ok (.iload_n 2, 1) := by decide +kernel
theorem dX6_exclude_27 : decode cX6_exclude 27 = .ok (.invokestatic 111, 3) := by decide +kernel
theorem dX6_exclude_30 : decode cX6_exclude 30 = .ok (.invokevirtual 117, 3) := by decide +kernel
theorem dX6_exclude_33 : decode cX6_exclude 33 = .ok (.ireturn, 1) := by decide +kernel
theorem dX6_any_0 : decode cX6_any 0 = .ok (.aload_n 0, 1) := by decide +kernel
theorem dX6_any_1 : decode cX6_any 1 = .ok (.iload_n 1, 1) := by decide +kernel
theorem dX6_any_2 : decode cX6_any 2 = .ok (.invokevirtual 44, 3) := by decide +kernel
theorem dX6_any_5 : decode cX6_any 5 = .ok (.aload_n 0, 1) := by decide +kernel
theorem dX6_any_6 : decode cX6_any 6 = .ok (.iload_n 2, 1) := by decide +kernel
theorem dX6_any_7 : decode cX6_any 7 = .ok (.invokevirtual 44, 3) := by decide +kernel
theorem dX6_any_10 : decode cX6_any 10 = .ok (.aload_n 0, 1) := by decide +kernel
theorem dX6_any_11 : decode cX6_any 11 = .ok (.iload_n 3, 1) := by decide +kernel
theorem dX6_any_12 : decode cX6_any 12 = .ok (.invokevirtual 44, 3) := by decide +kernel
theorem dX6_any_15 : decode cX6_any 15 = .ok (.aload_n 0, 1) := by decide +kernel
theorem dX6_any_16 : decode cX6_any 16 = .ok (.iload_n 1, 1) := by decide +kernel
theorem dX6_any_17 : decode cX6_any 17 = .ok (.iload_n 2, 1) := by decide +kernel
theorem dX6_any_18 : decode cX6_any 18 = .ok (.invokevirtual 108, 3) := by decide +kernel
theorem dX6_any_21 : decode cX6_any 21 = .ok (.aload_n 0, 1) := by decide +kernel
theorem dX6_any_22 : decode cX6_any 22 = .ok (.iload_n 1, 1) := by decide +kernel
theorem dX6_any_23 : decode cX6_any 23 = .ok (.iload_n 3, 1) := by decide +kernel
theorem dX6_any_24 : decode cX6_any 24 = .ok (.invokevirtual 108, 3) := by decide +kernel
theorem dX6_any_27 : decode cX6_any 27 = .ok (.aload_n 0, 1) := by decide +kernel
theorem dX6_any_28 : decode cX6_any 28 = .ok (.iload_n 2, 1) := by decide +kernel
theorem dX6_any_29 : decode cX6_any 29 = .ok (.iload_n 3, 1) := by decide +kernel
theorem dX6_any_30 : decode cX6_any 30 = .ok (.invokevirtual 108, 3) := by decide +kernel
theorem dX6_any_33 : decode cX6_any 33 = .ok (.iconst 1, 1) := by decide +kernel
theorem dX6_any_34 : decode cX6_any 34 = .ok (.iload_n 1, 1) := by decide +kernel
theorem dX6_any_35 : decode cX6_any 35 = .ok (.ishl, 1) := by decide +kernel
theorem dX6_any_36 : decode cX6_any 36 = .ok (.iconst 1, 1) := by decide +kernel
theorem dX6_any_37 : decode cX6_any 37 = .ok (.iload_n 2, 1) := by decide +kernel
theorem dX6_any_38 : decode cX6_any 38 = .ok (.ishl, 1) := by decide +kernel
theorem dX6_any_39 : decode cX6_any 39 = .ok (.ior, 1) := by decide +kernel
theorem dX6_any_40 : decode cX6_any 40 = .ok (.iconst 1, 1) := by decide +kernel
theorem dX6_any_41 : decode cX6_any 41 = .ok (.iload_n 3, 1) := by decide +kernel
theorem dX6_any_42 : decode cX6_any 42 = .ok (.ishl, 1) := by decide +kernel
theorem dX6_any_43 : decode cX6_any 43 = .ok (.ior, 1) := by decide +kernel
theorem dX6_any_44 : decode cX6_any 44 = .ok (.istore 4, 2) := by decide +kernel
theorem dX6_any_46 : decode cX6_any 46 = .ok (.aload_n 0, 1) := by decide +kernel
theorem dX6_any_47 : decode cX6_any 47 = .ok (.iload 4, 2) := by decide +kernel
theorem dX6_any_49 : decode cX6_any 49 = .ok (.iconst 0, 1) := by decide +kernel
theorem dX6_any_50 : decode cX6_any 50 = .ok (.iload_n 1, 1) := by decide +kernel
theorem dX6_any_51 : decode cX6_any 51 = .ok (.iload_n 2, 1) := by decide +kernel
theorem dX6_any_52 : decode cX6_any 52 = .ok (.iload_n 3, 1) := by decide +kernel
theorem dX6_any_53 : decode cX6_any 53 = .ok (.invokestatic 111, 3) := by decide +kernel
theorem dX6_any_56 : decode cX6_any 56 = .ok (.invokestatic 111, 3) := by decide +kernel
theorem dX6_any_59 : decode cX6_any 59 = .ok (.invokevirtual 117, 3) := by decide +kernel
theorem dX6_any_62 : decode cX6_any 62 = .ok (.ireturn, 1) := by decide +kernel
theorem dX6_lift_0 : decode cX6_lift 0 = .ok (.iload_n 1, 1) := by decide +kernel
theorem dX6_lift_1 : decode cX6_lift 1 = .ok (.ifCond .lt 14, 3) := by decide +kernel
theorem dX6_lift_4 : decode cX6_lift 4 = .ok (.iload_n 1, 1) := by decide +kernel
theorem dX6_lift_5 : decode cX6_lift 5 = .ok (.aload_n 0, 1) := by decide +kernel
theorem dX6_lift_6 : decode cX6_lift 6 = .ok (.getfield 19, 3) := by decide +kernel
theorem dX6_lift_9 : decode cX6_lift 9 = .ok (.getfield 121, 3) := by decide +kernel
theorem dX6_lift_12 : decode cX6_lift 12 = .ok (.if_icmp .lt 13, 3) := by decide +kernel
theorem dX6_lift_15 : decode cX6_lift 15 = .ok (.new 122, 3) := by decide +kernel
theorem dX6_lift_18 : decode cX6_lift 18 = .ok (.dup, 1) := by decide +kernel
theorem dX6_lift_19 : decode cX6_lift 19 = .ok (.ldc 124, 2) := by decide +kernel
theorem dX6_lift_21 : decode cX6_lift 21 = .ok (.invokespecial 126, 3) := by decide +kernel
theorem dX6_lift_24 : decode cX6_lift 24 = .ok (.athrow, 1) := by decide +kernel
theorem dX6_lift_25 : decode cX6_lift 25 = .ok (.aload_n 0, 1) := by decide +kernel
theorem dX6_lift_26 : decode cX6_lift 26 = .ok (.getfield 19, 3) := by decide +kernel
theorem dX6_lift_29 : decode cX6_lift 29 = .ok (.getfield 127, 3) := by decide +kernel
theorem dX6_lift_32 : decode cX6_lift 32 = .ok (.iload_n 1, 1) := by decide +kernel
theorem dX6_lift_33 : decode cX6_lift 33 = .ok (.invokestatic 87, 3) := by decide +kernel
theorem dX6_lift_36 : decode cX6_lift 36 = .ok (.ifCond .ne 13, 3) := by decide +kernel
theorem dX6_lift_39 : decode cX6_lift 39 = .ok (.new 59, 3) := by decide +kernel
theorem dX6_lift_42 : decode cX6_lift 42 = .ok (.dup, 1) := by decide +kernel
theorem dX6_lift_43 : decode cX6_lift 43 = .ok (.ldc 130, 2) := by decide +kernel
theorem dX6_lift_45 : decode cX6_lift 45 = .ok (.invokespecial 63, 3) := by decide +kernel
theorem dX6_lift_48 : decode cX6_lift 48 = .ok (.athrow, 1) := by decide +kernel
theorem dX6_lift_49 : decode cX6_lift 49 = .ok (.aload_n 0, 1) := by decide +kernel
theorem dX6_lift_50 : decode cX6_lift 50 = .ok (.getfield 19, 3) := by decide +kernel
theorem dX6_lift_53 : decode cX6_lift 53 = .ok (.dup, 1) := by decide +kernel
theorem dX6_lift_54 : decode cX6_lift 54 = .ok (.getfield 127, 3) := by decide +kernel
theorem dX6_lift_57 : decode cX6_lift 57 = .ok (.iconst 1, 1) := by decide +kernel
theorem dX6_lift_58 : decode cX6_lift 58 = .ok (.iload_n 1, 1) := by decide +kernel
theorem dX6_lift_59 : decode cX6_lift 59 = .ok (.ishl, 1) := by decide +kernel
theorem dX6_lift_60 : decode cX6_lift 60 = .ok (.iconst (-1), 1) := by decide +kernel
theorem dX6_lift_61 : decode cX6_lift 61 = .ok (.ixor, 1) := by decide +kernel
theorem dX6_lift_62 : decode cX6_lift 62 = .ok (.iand, 1) := by decide +kernel
theorem dX6_lift_63 : decode cX6_lift 63 = .ok (.putfield 127, 3) := by decide +kernel
theorem dX6_lift_66 : decode cX6_lift 66 = .ok (.aload_n 0, 1) := by decide +kernel
theorem dX6_lift_67 : decode cX6_lift 67 = .ok (.getfield 19, 3) := by decide +kernel
theorem dX6_lift_70 : decode cX6_lift 70 = .ok (.getfield 127, 3) := by decide +kernel
theorem dX6_lift_73 : decode cX6_lift 73 = .ok (.invokestatic 103, 3) := by decide +kernel
theorem dX6_lift_76 : decode cX6_lift 76 = .ok (.ireturn, 1) := by decide +kernel
theorem dX6_choose_0 : decode cX6_choose 0 = .ok (.aload_n 0, 1) := by decide +kernel
theorem dX6_choose_1 : decode cX6_choose 1 = .ok (.iload_n 1, 1) := by decide +kernel
theorem dX6_choose_2 : decode cX6_choose 2 = .ok (.invokevirtual 132, 3) := by decide +kernel
theorem dX6_choose_5 : decode cX6_choose 5 = .ok (.iconst 1, 1) := by decide +kernel
theorem dX6_choose_6 : decode cX6_choose 6 = .ok (.iload_n 1, 1) := by decide +kernel
theorem dX6_choose_7 : decode cX6_choose 7 = .ok (.ishl, 1) := by decide +kernel
theorem dX6_choose_8 : decode cX6_choose 8 = .ok (.istore_n 2, 1) := by decide +kernel
theorem dX6_choose_9 : decode cX6_choose 9 = .ok (.aload_n 0, 1) := by decide +kernel
theorem dX6_choose_10 : decode cX6_choose 10 = .ok (.getfield 10, 3) := by decide +kernel
theorem dX6_choose_13 : decode cX6_choose 13 = .ok (.aload_n 0, 1) := by decide +kernel
theorem dX6_choose_14 : decode cX6_choose 14 = .ok (.getfield 19, 3) := by decide +kernel
theorem dX6_choose_17 : decode cX6_choose 17 = .ok (.iconst 0, 1) := by decide +kernel
theorem dX6_choose_18 : decode cX6_choose 18 = .ok (.iconst 0, 1) := by decide +kernel
theorem dX6_choose_19 : decode cX6_choose 19 = .ok (.aload_n 0, 1) := by decide +kernel
theorem dX6_choose_20 : decode cX6_choose 20 = .ok (.getfield 135, 3) := by decide +kernel
theorem dX6_choose_23 : decode cX6_choose 23 = .ok (.iload_n 2, 1) := by decide +kernel
theorem dX6_choose_24 : decode cX6_choose 24 = .ok (.ior, 1) := by decide +kernel
theorem dX6_choose_25 : decode cX6_choose 25 = .ok (.aload_n 0, 1) := by decide +kernel
theorem dX6_choose_26 : decode cX6_choose 26 = .ok (.getfield 138, 3) := by decide +kernel
theorem dX6_choose_29 : decode cX6_choose 29 = .ok (.invokestatic 141, 3) := by decide +kernel
theorem dX6_choose_32 : decode cX6_choose 32 = .ok (.ifCond .ne 13, 3) := by decide +kernel
theorem dX6_choose_35 : decode cX6_choose 35 = .ok (.new 82, 3) := by decide +kernel
theorem dX6_choose_38 : decode cX6_choose 38 = .ok (.dup, 1) := by decide +kernel
theorem dX6_choose_39 : decode cX6_choose 39 = .ok (.ldc 84, 2) := by decide +kernel
theorem dX6_choose_41 : decode cX6_choose 41 = .ok (.invokespecial 86, 3) := by decide +kernel
theorem dX6_choose_44 : decode cX6_choose 44 = .ok (.athrow, 1) := by decide +kernel
theorem dX6_choose_45 : decode cX6_choose 45 = .ok (.aload_n 0, 1) := by decide +kernel
theorem dX6_choose_46 : decode cX6_choose 46 = .ok (.dup, 1) := by decide +kernel
theorem dX6_choose_47 : decode cX6_choose 47 = .ok (.getfield 135, 3) := by decide +kernel
theorem dX6_choose_50 : decode cX6_choose 50 = .ok (.iload_n 2, 1) := by decide +kernel
theorem dX6_choose_51 : decode cX6_choose 51 = .ok (.ior, 1) := by decide +kernel
theorem dX6_choose_52 : decode cX6_choose 52 = .ok (.putfield 135, 3) := by decide +kernel
theorem dX6_choose_55 : decode cX6_choose 55 = .ok (.aload_n 0, 1) := by decide +kernel
theorem dX6_choose_56 : decode cX6_choose 56 = .ok (.invokevirtual 147, 3) := by decide +kernel
theorem dX6_choose_59 : decode cX6_choose 59 = .ok (.ireturn, 1) := by decide +kernel
theorem dX6_refuse_0 : decode cX6_refuse 0 = .ok (.aload_n 0, 1) := by decide +kernel
theorem dX6_refuse_1 : decode cX6_refuse 1 = .ok (.iload_n 1, 1) := by decide +kernel
theorem dX6_refuse_2 : decode cX6_refuse 2 = .ok (.invokevirtual 132, 3) := by decide +kernel
theorem dX6_refuse_5 : decode cX6_refuse 5 = .ok (.iconst 1, 1) := by decide +kernel
theorem dX6_refuse_6 : decode cX6_refuse 6 = .ok (.iload_n 1, 1) := by decide +kernel
theorem dX6_refuse_7 : decode cX6_refuse 7 = .ok (.ishl, 1) := by decide +kernel
theorem dX6_refuse_8 : decode cX6_refuse 8 = .ok (.istore_n 2, 1) := by decide +kernel
theorem dX6_refuse_9 : decode cX6_refuse 9 = .ok (.aload_n 0, 1) := by decide +kernel
theorem dX6_refuse_10 : decode cX6_refuse 10 = .ok (.getfield 10, 3) := by decide +kernel
theorem dX6_refuse_13 : decode cX6_refuse 13 = .ok (.aload_n 0, 1) := by decide +kernel
theorem dX6_refuse_14 : decode cX6_refuse 14 = .ok (.getfield 19, 3) := by decide +kernel
theorem dX6_refuse_17 : decode cX6_refuse 17 = .ok (.iconst 0, 1) := by decide +kernel
theorem dX6_refuse_18 : decode cX6_refuse 18 = .ok (.iconst 0, 1) := by decide +kernel
theorem dX6_refuse_19 : decode cX6_refuse 19 = .ok (.aload_n 0, 1) := by decide +kernel
theorem dX6_refuse_20 : decode cX6_refuse 20 = .ok (.getfield 135, 3) := by decide +kernel
theorem dX6_refuse_23 : decode cX6_refuse 23 = .ok (.aload_n 0, 1) := by decide +kernel
theorem dX6_refuse_24 : decode cX6_refuse 24 = .ok (.getfield 138, 3) := by decide +kernel
theorem dX6_refuse_27 : decode cX6_refuse 27 = .ok (.iload_n 2, 1) := by decide +kernel
theorem dX6_refuse_28 : decode cX6_refuse 28 = .ok (.ior, 1) := by decide +kernel
theorem dX6_refuse_29 : decode cX6_refuse 29 = .ok (.invokestatic 141, 3) := by decide +kernel
theorem dX6_refuse_32 : decode cX6_refuse 32 = .ok (.ifCond .ne 13, 3) := by decide +kernel
theorem dX6_refuse_35 : decode cX6_refuse 35 = .ok (.new 82, 3) := by decide +kernel
theorem dX6_refuse_38 : decode cX6_refuse 38 = .ok (.dup, 1) := by decide +kernel
theorem dX6_refuse_39 : decode cX6_refuse 39 = .ok (.ldc 84, 2) := by decide +kernel
theorem dX6_refuse_41 : decode cX6_refuse 41 = .ok (.invokespecial 86, 3) := by decide +kernel
theorem dX6_refuse_44 : decode cX6_refuse 44 = .ok (.athrow, 1) := by decide +kernel
theorem dX6_refuse_45 : decode cX6_refuse 45 = .ok (.aload_n 0, 1) := by decide +kernel
theorem dX6_refuse_46 : decode cX6_refuse 46 = .ok (.dup, 1) := by decide +kernel
theorem dX6_refuse_47 : decode cX6_refuse 47 = .ok (.getfield 138, 3) := by decide +kernel
theorem dX6_refuse_50 : decode cX6_refuse 50 = .ok (.iload_n 2, 1) := by decide +kernel
theorem dX6_refuse_51 : decode cX6_refuse 51 = .ok (.ior, 1) := by decide +kernel
theorem dX6_refuse_52 : decode cX6_refuse 52 = .ok (.putfield 138, 3) := by decide +kernel
theorem dX6_refuse_55 : decode cX6_refuse 55 = .ok (.aload_n 0, 1) := by decide +kernel
theorem dX6_refuse_56 : decode cX6_refuse 56 = .ok (.invokevirtual 147, 3) := by decide +kernel
theorem dX6_refuse_59 : decode cX6_refuse 59 = .ok (.ireturn, 1) := by decide +kernel
theorem dX6_retract_0 : decode cX6_retract 0 = .ok (.aload_n 0, 1) := by decide +kernel
theorem dX6_retract_1 : decode cX6_retract 1 = .ok (.iload_n 1, 1) := by decide +kernel
theorem dX6_retract_2 : decode cX6_retract 2 = .ok (.invokevirtual 44, 3) := by decide +kernel
theorem dX6_retract_5 : decode cX6_retract 5 = .ok (.aload_n 0, 1) := by decide +kernel
theorem dX6_retract_6 : decode cX6_retract 6 = .ok (.getfield 135, 3) := by decide +kernel
theorem dX6_retract_9 : decode cX6_retract 9 = .ok (.aload_n 0, 1) := by decide +kernel
theorem dX6_retract_10 : decode cX6_retract 10 = .ok (.getfield 138, 3) := by decide +kernel
theorem dX6_retract_13 : decode cX6_retract 13 = .ok (.ior, 1) := by decide +kernel
theorem dX6_retract_14 : decode cX6_retract 14 = .ok (.iload_n 1, 1) := by decide +kernel
theorem dX6_retract_15 : decode cX6_retract 15 = .ok (.invokestatic 87, 3) := by decide +kernel
theorem dX6_retract_18 : decode cX6_retract 18 = .ok (.ifCond .ne 13, 3) := by decide +kernel
theorem dX6_retract_21 : decode cX6_retract 21 = .ok (.new 59, 3) := by decide +kernel
theorem dX6_retract_24 : decode cX6_retract 24 = .ok (.dup, 1) := by decide +kernel
theorem dX6_retract_25 : decode cX6_retract 25 = .ok (.ldc 151, 2) := by decide +kernel
theorem dX6_retract_27 : decode cX6_retract 27 = .ok (.invokespecial 63, 3) := by decide +kernel
theorem dX6_retract_30 : decode cX6_retract 30 = .ok (.athrow, 1) := by decide +kernel
theorem dX6_retract_31 : decode cX6_retract 31 = .ok (.aload_n 0, 1) := by decide +kernel
theorem dX6_retract_32 : decode cX6_retract 32 = .ok (.getfield 135, 3) := by decide +kernel
theorem dX6_retract_35 : decode cX6_retract 35 = .ok (.iload_n 1, 1) := by decide +kernel
theorem dX6_retract_36 : decode cX6_retract 36 = .ok (.invokestatic 87, 3) := by decide +kernel
theorem dX6_retract_39 : decode cX6_retract 39 = .ok (.ifCond .eq 8, 3) := by decide +kernel
theorem dX6_retract_42 : decode cX6_retract 42 = .ok (.bipush 99, 2) := by decide +kernel
theorem dX6_retract_44 : decode cX6_retract 44 = .ok (.goto 5, 3) := by decide +kernel
theorem dX6_retract_47 : decode cX6_retract 47 = .ok (.bipush 114, 2) := by decide +kernel
theorem dX6_retract_49 : decode cX6_retract 49 = .ok (.istore_n 2, 1) := by decide +kernel
theorem dX6_retract_50 : decode cX6_retract 50 = .ok (.aload_n 0, 1) := by decide +kernel
theorem dX6_retract_51 : decode cX6_retract 51 = .ok (.iconst 1, 1) := by decide +kernel
theorem dX6_retract_52 : decode cX6_retract 52 = .ok (.iload_n 1, 1) := by decide +kernel
theorem dX6_retract_53 : decode cX6_retract 53 = .ok (.ishl, 1) := by decide +kernel
theorem dX6_retract_54 : decode cX6_retract 54 = .ok (.invokevirtual 153, 3) := by decide +kernel
theorem dX6_retract_57 : decode cX6_retract 57 = .ok (.iload_n 2, 1) := by decide +kernel
theorem dX6_retract_58 : decode cX6_retract 58 = .ok (.ireturn, 1) := by decide +kernel
theorem dX6_retractAll_0 : decode cX6_retractAll 0 = .ok (.aload_n 0, 1) := by decide +kernel
theorem dX6_retractAll_1 : decode cX6_retractAll 1 = .ok (.getfield 135, 3) := by decide +kernel
theorem dX6_retractAll_4 : decode cX6_retractAll 4 = .ok (.aload_n 0, 1) := by decide +kernel
theorem dX6_retractAll_5 : decode cX6_retractAll 5 = .ok (.getfield 138, 3) := by decide +kernel
theorem dX6_retractAll_8 : decode cX6_retractAll 8 = .ok (.ior, 1) := by decide +kernel
theorem dX6_retractAll_9 : decode cX6_retractAll 9 = .ok (.istore_n 1, 1) := by decide +kernel
theorem dX6_retractAll_10 : decode cX6_retractAll 10 = .ok (.aload_n 0, 1) := by decide +kernel
theorem dX6_retractAll_11 : decode cX6_retractAll 11 = .ok (.iload_n 1, 1) := by decide +kernel
theorem dX6_retractAll_12 : decode cX6_retractAll 12 = .ok (.invokevirtual 153, 3) := by decide +kernel
theorem dX6_retractAll_15 : decode cX6_retractAll 15 = .ok (.iload_n 1, 1) := by decide +kernel
theorem dX6_retractAll_16 : decode cX6_retractAll 16 = .ok (.invokestatic 103, 3) := by decide +kernel
theorem dX6_retractAll_19 : decode cX6_retractAll 19 = .ok (.ireturn, 1) := by decide +kernel
theorem dX6_stateOf_0 : decode cX6_stateOf 0 = .ok (.aload_n 0, 1) := by decide +kernel
theorem dX6_stateOf_1 : decode cX6_stateOf 1 = .ok (.iload_n 1, 1) := by decide +kernel
theorem dX6_stateOf_2 : decode cX6_stateOf 2 = .ok (.invokevirtual 44, 3) := by decide +kernel
theorem dX6_stateOf_5 : decode cX6_stateOf 5 = .ok (.iconst 1, 1) := by decide +kernel
theorem dX6_stateOf_6 : decode cX6_stateOf 6 = .ok (.iload_n 1, 1) := by decide +kernel
theorem dX6_stateOf_7 : decode cX6_stateOf 7 = .ok (.ishl, 1) := by decide +kernel
theorem dX6_stateOf_8 : decode cX6_stateOf 8 = .ok (.istore_n 2, 1) := by decide +kernel
theorem dX6_stateOf_9 : decode cX6_stateOf 9 = .ok (.aload_n 0, 1) := by decide +kernel
theorem dX6_stateOf_10 : decode cX6_stateOf 10 = .ok (.getfield 10, 3) := by decide +kernel
theorem dX6_stateOf_13 : decode cX6_stateOf 13 = .ok (.aload_n 0, 1) := by decide +kernel
theorem dX6_stateOf_14 : decode cX6_stateOf 14 = .ok (.getfield 19, 3) := by decide +kernel
theorem dX6_stateOf_17 : decode cX6_stateOf 17 = .ok (.iconst 0, 1) := by decide +kernel
theorem dX6_stateOf_18 : decode cX6_stateOf 18 = .ok (.iconst 0, 1) := by decide +kernel
theorem dX6_stateOf_19 : decode cX6_stateOf 19 = .ok (.aload_n 0, 1) := by decide +kernel
theorem dX6_stateOf_20 : decode cX6_stateOf 20 = .ok (.getfield 135, 3) := by decide +kernel
theorem dX6_stateOf_23 : decode cX6_stateOf 23 = .ok (.iload_n 2, 1) := by decide +kernel
theorem dX6_stateOf_24 : decode cX6_stateOf 24 = .ok (.ior, 1) := by decide +kernel
theorem dX6_stateOf_25 : decode cX6_stateOf 25 = .ok (.aload_n 0, 1) := by decide +kernel
theorem dX6_stateOf_26 : decode cX6_stateOf 26 = .ok (.getfield 138, 3) := by decide +kernel
theorem dX6_stateOf_29 : decode cX6_stateOf 29 = .ok (.invokestatic 141, 3) := by decide +kernel
theorem dX6_stateOf_32 : decode cX6_stateOf 32 = .ok (.istore_n 3, 1) := by decide +kernel
theorem dX6_stateOf_33 : decode cX6_stateOf 33 = .ok (.aload_n 0, 1) := by decide +kernel
theorem dX6_stateOf_34 : decode cX6_stateOf 34 = .ok (.getfield 10, 3) := by decide +kernel
theorem dX6_stateOf_37 : decode cX6_stateOf 37 = .ok (.aload_n 0, 1) := by decide +kernel
theorem dX6_stateOf_38 : decode cX6_stateOf 38 = .ok (.getfield 19, 3) := by decide +kernel
theorem dX6_stateOf_41 : decode cX6_stateOf 41 = .ok (.iconst 0, 1) := by decide +kernel
theorem dX6_stateOf_42 : decode cX6_stateOf 42 = .ok (.iconst 0, 1) := by decide +kernel
theorem dX6_stateOf_43 : decode cX6_stateOf 43 = .ok (.aload_n 0, 1) := by decide +kernel
theorem dX6_stateOf_44 : decode cX6_stateOf 44 = .ok (.getfield 135, 3) := by decide +kernel
theorem dX6_stateOf_47 : decode cX6_stateOf 47 = .ok (.aload_n 0, 1) := by decide +kernel
theorem dX6_stateOf_48 : decode cX6_stateOf 48 = .ok (.getfield 138, 3) := by decide +kernel
theorem dX6_stateOf_51 : decode cX6_stateOf 51 = .ok (.iload_n 2, 1) := by decide +kernel
theorem dX6_stateOf_52 : decode cX6_stateOf 52 = .ok (.ior, 1) := by decide +kernel
theorem dX6_stateOf_53 : decode cX6_stateOf 53 = .ok (.invokestatic 141, 3) := by decide +kernel
theorem dX6_stateOf_56 : decode cX6_stateOf 56 = .ok (.istore 4, 2) := by decide +kernel
theorem dX6_stateOf_58 : decode cX6_stateOf 58 = .ok (.aload_n 0, 1) := by decide +kernel
theorem dX6_stateOf_59 : decode cX6_stateOf 59 = .ok (.iload_n 1, 1) := by decide +kernel
theorem dX6_stateOf_60 : decode cX6_stateOf 60 = .ok (.iload_n 3, 1) := by decide +kernel
theorem dX6_stateOf_61 : decode cX6_stateOf 61 = .ok (.iload 4, 2) := by decide +kernel
theorem dX6_stateOf_63 : decode cX6_stateOf 63 = .ok (.invokevirtual 156, 3) := by decide +kernel
theorem dX6_stateOf_66 : decode cX6_stateOf 66 = .ok (.ireturn, 1) := by decide +kernel
theorem dX6_stateByAll_0 : decode cX6_stateByAll 0 = .ok (.aload_n 0, 1) := by decide +kernel
theorem dX6_stateByAll_1 : decode cX6_stateByAll 1 = .ok (.iload_n 1, 1) := by decide +kernel
theorem dX6_stateByAll_2 : decode cX6_stateByAll 2 = .ok (.invokevirtual 44, 3) := by decide +kernel
theorem dX6_stateByAll_5 : decode cX6_stateByAll 5 = .ok (.aload_n 0, 1) := by decide +kernel
theorem dX6_stateByAll_6 : decode cX6_stateByAll 6 = .ok (.invokevirtual 160, 3) := by decide +kernel
theorem dX6_stateByAll_9 : decode cX6_stateByAll 9 = .ok (.iload_n 1, 1) := by decide +kernel
theorem dX6_stateByAll_10 : decode cX6_stateByAll 10 = .ok (.invokestatic 87, 3) := by decide +kernel
theorem dX6_stateByAll_13 : decode cX6_stateByAll 13 = .ok (.istore_n 2, 1) := by decide +kernel
theorem dX6_stateByAll_14 : decode cX6_stateByAll 14 = .ok (.aload_n 0, 1) := by decide +kernel
theorem dX6_stateByAll_15 : decode cX6_stateByAll 15 = .ok (.invokevirtual 163, 3) := by decide +kernel
theorem dX6_stateByAll_18 : decode cX6_stateByAll 18 = .ok (.iload_n 1, 1) := by decide +kernel
theorem dX6_stateByAll_19 : decode cX6_stateByAll 19 = .ok (.invokestatic 87, 3) := by decide +kernel
theorem dX6_stateByAll_22 : decode cX6_stateByAll 22 = .ok (.ifCond .ne 7, 3) := by decide +kernel
theorem dX6_stateByAll_25 : decode cX6_stateByAll 25 = .ok (.iconst 1, 1) := by decide +kernel
theorem dX6_stateByAll_26 : decode cX6_stateByAll 26 = .ok (.goto 4, 3) := by decide +kernel
theorem dX6_stateByAll_29 : decode cX6_stateByAll 29 = .ok (.iconst 0, 1) := by decide +kernel
theorem dX6_stateByAll_30 : decode cX6_stateByAll 30 = .ok (.istore_n 3, 1) := by decide +kernel
theorem dX6_stateByAll_31 : decode cX6_stateByAll 31 = .ok (.aload_n 0, 1) := by decide +kernel
theorem dX6_stateByAll_32 : decode cX6_stateByAll 32 = .ok (.iload_n 1, 1) := by decide +kernel
theorem dX6_stateByAll_33 : decode cX6_stateByAll 33 = .ok (.iload_n 2, 1) := by decide +kernel
theorem dX6_stateByAll_34 : decode cX6_stateByAll 34 = .ok (.iload_n 3, 1) := by decide +kernel
theorem dX6_stateByAll_35 : decode cX6_stateByAll 35 = .ok (.invokevirtual 156, 3) := by decide +kernel
theorem dX6_stateByAll_38 : decode cX6_stateByAll 38 = .ok (.ireturn, 1) := by decide +kernel
theorem dX6_known_0 : decode cX6_known 0 = .ok (.aload_n 0, 1) := by decide +kernel
theorem dX6_known_1 : decode cX6_known 1 = .ok (.iload_n 1, 1) := by decide +kernel
theorem dX6_known_2 : decode cX6_known 2 = .ok (.invokevirtual 44, 3) := by decide +kernel
theorem dX6_known_5 : decode cX6_known 5 = .ok (.aload_n 0, 1) := by decide +kernel
theorem dX6_known_6 : decode cX6_known 6 = .ok (.invokevirtual 166, 3) := by decide +kernel
theorem dX6_known_9 : decode cX6_known 9 = .ok (.aload_n 0, 1) := by decide +kernel
theorem dX6_known_10 : decode cX6_known 10 = .ok (.getfield 33, 3) := by decide +kernel
theorem dX6_known_13 : decode cX6_known 13 = .ok (.getfield 169, 3) := by decide +kernel
theorem dX6_known_16 : decode cX6_known 16 = .ok (.iload_n 1, 1) := by decide +kernel
theorem dX6_known_17 : decode cX6_known 17 = .ok (.invokestatic 87, 3) := by decide +kernel
theorem dX6_known_20 : decode cX6_known 20 = .ok (.ifCond .eq 6, 3) := by decide +kernel
theorem dX6_known_23 : decode cX6_known 23 = .ok (.bipush 105, 2) := by decide +kernel
theorem dX6_known_25 : decode cX6_known 25 = .ok (.ireturn, 1) := by decide +kernel
theorem dX6_known_26 : decode cX6_known 26 = .ok (.aload_n 0, 1) := by decide +kernel
theorem dX6_known_27 : decode cX6_known 27 = .ok (.getfield 33, 3) := by decide +kernel
theorem dX6_known_30 : decode cX6_known 30 = .ok (.getfield 172, 3) := by decide +kernel
theorem dX6_known_33 : decode cX6_known 33 = .ok (.iload_n 1, 1) := by decide +kernel
theorem dX6_known_34 : decode cX6_known 34 = .ok (.invokestatic 87, 3) := by decide +kernel
theorem dX6_known_37 : decode cX6_known 37 = .ok (.ifCond .eq 8, 3) := by decide +kernel
theorem dX6_known_40 : decode cX6_known 40 = .ok (.bipush 110, 2) := by decide +kernel
theorem dX6_known_42 : decode cX6_known 42 = .ok (.goto 5, 3) := by decide +kernel
theorem dX6_known_45 : decode cX6_known 45 = .ok (.bipush 117, 2) := by decide +kernel
theorem dX6_known_47 : decode cX6_known 47 = .ok (.ireturn, 1) := by decide +kernel
theorem dX6_reasonOf_0 : decode cX6_reasonOf 0 = .ok (.aload_n 0, 1) := by decide +kernel
theorem dX6_reasonOf_1 : decode cX6_reasonOf 1 = .ok (.iload_n 1, 1) := by decide +kernel
theorem dX6_reasonOf_2 : decode cX6_reasonOf 2 = .ok (.invokevirtual 44, 3) := by decide +kernel
theorem dX6_reasonOf_5 : decode cX6_reasonOf 5 = .ok (.aload_n 0, 1) := by decide +kernel
theorem dX6_reasonOf_6 : decode cX6_reasonOf 6 = .ok (.invokevirtual 166, 3) := by decide +kernel
theorem dX6_reasonOf_9 : decode cX6_reasonOf 9 = .ok (.aload_n 0, 1) := by decide +kernel
theorem dX6_reasonOf_10 : decode cX6_reasonOf 10 = .ok (.getfield 33, 3) := by decide +kernel
theorem dX6_reasonOf_13 : decode cX6_reasonOf 13 = .ok (.iload_n 1, 1) := by decide +kernel
theorem dX6_reasonOf_14 : decode cX6_reasonOf 14 = .ok (.invokevirtual 175, 3) := by decide +kernel
theorem dX6_reasonOf_17 : decode cX6_reasonOf 17 = .ok (.ifCond .ne 13, 3) := by decide +kernel
theorem dX6_reasonOf_20 : decode cX6_reasonOf 20 = .ok (.new 122, 3) := by decide +kernel
theorem dX6_reasonOf_23 : decode cX6_reasonOf 23 = .ok (.dup, 1) := by decide +kernel
theorem dX6_reasonOf_24 : decode cX6_reasonOf 24 = .ok (.ldc 179, 2) := by decide +kernel
theorem dX6_reasonOf_26 : decode cX6_reasonOf 26 = .ok (.invokespecial 126, 3) := by decide +kernel
theorem dX6_reasonOf_29 : decode cX6_reasonOf 29 = .ok (.athrow, 1) := by decide +kernel
theorem dX6_reasonOf_30 : decode cX6_reasonOf 30 = .ok (.aload_n 0, 1) := by decide +kernel
theorem dX6_reasonOf_31 : decode cX6_reasonOf 31 = .ok (.getfield 33, 3) := by decide +kernel
theorem dX6_reasonOf_34 : decode cX6_reasonOf 34 = .ok (.getfield 181, 3) := by decide +kernel
theorem dX6_reasonOf_37 : decode cX6_reasonOf 37 = .ok (.iload_n 1, 1) := by decide +kernel
theorem dX6_reasonOf_38 : decode cX6_reasonOf 38 = .ok (.caload, 1) := by decide +kernel
theorem dX6_reasonOf_39 : decode cX6_reasonOf 39 = .ok (.ireturn, 1) := by decide +kernel
theorem dX6_reasonRule_0 : decode cX6_reasonRule 0 = .ok (.aload_n 0, 1) := by decide +kernel
theorem dX6_reasonRule_1 : decode cX6_reasonRule 1 = .ok (.iload_n 1, 1) := by decide +kernel
theorem dX6_reasonRule_2 : decode cX6_reasonRule 2 = .ok (.invokevirtual 44, 3) := by decide +kernel
theorem dX6_reasonRule_5 : decode cX6_reasonRule 5 = .ok (.aload_n 0, 1) := by decide +kernel
theorem dX6_reasonRule_6 : decode cX6_reasonRule 6 = .ok (.invokevirtual 166, 3) := by decide +kernel
theorem dX6_reasonRule_9 : decode cX6_reasonRule 9 = .ok (.aload_n 0, 1) := by decide +kernel
theorem dX6_reasonRule_10 : decode cX6_reasonRule 10 = .ok (.getfield 33, 3) := by decide +kernel
theorem dX6_reasonRule_13 : decode cX6_reasonRule 13 = .ok (.iload_n 1, 1) := by decide +kernel
theorem dX6_reasonRule_14 : decode cX6_reasonRule 14 = .ok (.invokevirtual 175, 3) := by decide +kernel
theorem dX6_reasonRule_17 : decode cX6_reasonRule 17 = .ok (.ifCond .eq 17, 3) := by decide +kernel
theorem dX6_reasonRule_20 : decode cX6_reasonRule 20 = .ok (.aload_n 0, 1) := by decide +kernel
theorem dX6_reasonRule_21 : decode cX6_reasonRule 21 = .ok (.getfield 33, 3) := by decide +kernel
theorem dX6_reasonRule_24 : decode cX6_reasonRule 24 = .ok (.getfield 181, 3) := by decide +kernel
theorem dX6_reasonRule_27 : decode cX6_reasonRule 27 = .ok (.iload_n 1, 1) := by decide +kernel
theorem dX6_reasonRule_28 : decode cX6_reasonRule 28 = .ok (.caload, 1) := by decide +kernel
theorem dX6_reasonRule_29 : decode cX6_reasonRule 29 = .ok (.bipush 114, 2) := by decide +kernel
theorem dX6_reasonRule_31 : decode cX6_reasonRule 31 = .ok (.if_icmp .eq 13, 3) := by decide +kernel
theorem dX6_reasonRule_34 : decode cX6_reasonRule 34 = .ok (.new 122, 3) := by decide +kernel
theorem dX6_reasonRule_37 : decode cX6_reasonRule 37 = .ok (.dup, 1) := by decide +kernel
theorem dX6_reasonRule_38 : decode cX6_reasonRule 38 = .ok (.ldc 185, 2) := by decide +kernel
theorem dX6_reasonRule_40 : decode cX6_reasonRule 40 = .ok (.invokespecial 126, 3) := by decide +kernel
theorem dX6_reasonRule_43 : decode cX6_reasonRule 43 = .ok (.athrow, 1) := by decide +kernel
theorem dX6_reasonRule_44 : decode cX6_reasonRule 44 = .ok (.aload_n 0, 1) := by decide +kernel
theorem dX6_reasonRule_45 : decode cX6_reasonRule 45 = .ok (.getfield 33, 3) := by decide +kernel
theorem dX6_reasonRule_48 : decode cX6_reasonRule 48 = .ok (.getfield 187, 3) := by decide +kernel
theorem dX6_reasonRule_51 : decode cX6_reasonRule 51 = .ok (.iload_n 1, 1) := by decide +kernel
theorem dX6_reasonRule_52 : decode cX6_reasonRule 52 = .ok (.iaload, 1) := by decide +kernel
theorem dX6_reasonRule_53 : decode cX6_reasonRule 53 = .ok (.ireturn, 1) := by decide +kernel
theorem dX6_unknown_0 : decode cX6_unknown 0 = .ok (.aload_n 0, 1) := by decide +kernel
theorem dX6_unknown_1 : decode cX6_unknown 1 = .ok (.invokevirtual 147, 3) := by decide +kernel
theorem dX6_unknown_4 : decode cX6_unknown 4 = .ok (.ireturn, 1) := by decide +kernel
theorem dX6_isConfiguration_0 : decode cX6_isConfiguration 0 = .ok (.aload_n 0, 1) := by decide +kernel
theorem dX6_isConfiguration_1 : decode cX6_isConfiguration 1 = .ok (.iload_n 1, 1) := by decide +kernel
theorem dX6_isConfiguration_2 : decode cX6_isConfiguration 2 = .ok (.invokevirtual 190, 3) := by decide +kernel
theorem dX6_isConfiguration_5 : decode cX6_isConfiguration 5 = .ok (.aload_n 0, 1) := by decide +kernel
theorem dX6_isConfiguration_6 : decode cX6_isConfiguration 6 = .ok (.iload_n 1, 1) := by decide +kernel
theorem dX6_isConfiguration_7 : decode cX6_isConfiguration 7 = .ok (.invokevirtual 193, 3) := by decide +kernel
theorem dX6_isConfiguration_10 : decode cX6_isConfiguration 10 = .ok (.ireturn, 1) := by decide +kernel
theorem dX6_completions_0 : decode cX6_completions 0 = .ok (.aload_n 0, 1) := by decide +kernel
theorem dX6_completions_1 : decode cX6_completions 1 = .ok (.getfield 10, 3) := by decide +kernel
theorem dX6_completions_4 : decode cX6_completions 4 = .ok (.aload_n 0, 1) := by decide +kernel
theorem dX6_completions_5 : decode cX6_completions 5 = .ok (.getfield 19, 3) := by decide +kernel
theorem dX6_completions_8 : decode cX6_completions 8 = .ok (.iconst 0, 1) := by decide +kernel
theorem dX6_completions_9 : decode cX6_completions 9 = .ok (.iconst 0, 1) := by decide +kernel
theorem dX6_completions_10 : decode cX6_completions 10 = .ok (.aload_n 0, 1) := by decide +kernel
theorem dX6_completions_11 : decode cX6_completions 11 = .ok (.getfield 135, 3) := by decide +kernel
theorem dX6_completions_14 : decode cX6_completions 14 = .ok (.aload_n 0, 1) := by decide +kernel
theorem dX6_completions_15 : decode cX6_completions 15 = .ok (.getfield 138, 3) := by decide +kernel
theorem dX6_completions_18 : decode cX6_completions 18 = .ok (.invokestatic 196, 3) := by decide +kernel
theorem dX6_completions_21 : decode cX6_completions 21 = .ok (.lreturn, 1) := by decide +kernel
theorem dX6_completionsByAll_0 : decode cX6_completionsByAll 0 = .ok (.lconst 0, 1) := by decide +kernel
theorem dX6_completionsByAll_1 : decode cX6_completionsByAll 1 = .ok (.lstore_n 1, 1) := by decide +kernel
theorem dX6_completionsByAll_2 : decode cX6_completionsByAll 2 = .ok (.aload_n 0, 1) := by decide +kernel
theorem dX6_completionsByAll_3 : decode cX6_completionsByAll 3 = .ok (.getfield 10, 3) := by decide +kernel
theorem dX6_completionsByAll_6 : decode cX6_completionsByAll 6 = .ok (.invokevirtual 200, 3) := by decide +kernel
theorem dX6_completionsByAll_9 : decode cX6_completionsByAll 9 = .ok (.istore_n 3, 1) := by decide +kernel
theorem dX6_completionsByAll_10 : decode cX6_completionsByAll 10 = .ok (.iconst 0, 1) := by decide +kernel
theorem dX6_completionsByAll_11 : decode cX6_completionsByAll 11 = .ok (.istore 4, 2) := by decide +kernel
theorem dX6_completionsByAll_13 : decode cX6_completionsByAll 13 = .ok (.iload 4, 2) := by decide +kernel
theorem dX6_completionsByAll_15 : decode cX6_completionsByAll 15 = .ok (.iload_n 3, 1) := by decide +kernel
theorem dX6_completionsByAll_16 : decode cX6_completionsByAll 16 = .ok (.if_icmp .gt 22, 3) := by decide +kernel
theorem dX6_completionsByAll_19 : decode cX6_completionsByAll 19 = .ok (.aload_n 0, 1) := by decide +kernel
theorem dX6_completionsByAll_20 : decode cX6_completionsByAll 20 = .ok (.iload 4, 2) := by decide +kernel
theorem dX6_completionsByAll_22 : decode cX6_completionsByAll 22 = .ok (.invokevirtual 203, 3) := by decide +kernel
theorem dX6_completionsByAll_25 : decode cX6_completionsByAll 25 = .ok (.ifCond .eq 7, 3) := by decide +kernel
theorem dX6_completionsByAll_28 : decode cX6_completionsByAll 28 = .ok (.lload_n 1, 1) := by decide +kernel
theorem dX6_completionsByAll_29 : decode cX6_completionsByAll 29 = .ok (.lconst 1, 1) := by decide +kernel
theorem dX6_completionsByAll_30 : decode cX6_completionsByAll 30 = .ok (.ladd, 1) := by decide +kernel
theorem dX6_completionsByAll_31 : decode cX6_completionsByAll 31 = .ok (.lstore_n 1, 1) := by decide +kernel
theorem dX6_completionsByAll_32 : decode cX6_completionsByAll 32 = .ok (.iinc 4 1, 3) := by decide +kernel
theorem dX6_completionsByAll_35 : decode cX6_completionsByAll 35 = .ok (.goto (-22), 3) := by decide +kernel
theorem dX6_completionsByAll_38 : decode cX6_completionsByAll 38 = .ok (.lload_n 1, 1) := by decide +kernel
theorem dX6_completionsByAll_39 : decode cX6_completionsByAll 39 = .ok (.lreturn, 1) := by decide +kernel
theorem dX6_addBundle_0 : decode cX6_addBundle 0 = .ok (.aload_n 0, 1) := by decide +kernel
theorem dX6_addBundle_1 : decode cX6_addBundle 1 = .ok (.iload_n 1, 1) := by decide +kernel
theorem dX6_addBundle_2 : decode cX6_addBundle 2 = .ok (.invokevirtual 44, 3) := by decide +kernel
theorem dX6_addBundle_5 : decode cX6_addBundle 5 = .ok (.aload_n 0, 1) := by decide +kernel
theorem dX6_addBundle_6 : decode cX6_addBundle 6 = .ok (.iload_n 2, 1) := by decide +kernel
theorem dX6_addBundle_7 : decode cX6_addBundle 7 = .ok (.invokevirtual 44, 3) := by decide +kernel
theorem dX6_addBundle_10 : decode cX6_addBundle 10 = .ok (.iload_n 3, 1) := by decide +kernel
theorem dX6_addBundle_11 : decode cX6_addBundle 11 = .ok (.ifCond .lt 10, 3) := by decide +kernel
theorem dX6_addBundle_14 : decode cX6_addBundle 14 = .ok (.iload_n 3, 1) := by decide +kernel
theorem dX6_addBundle_15 : decode cX6_addBundle 15 = .ok (.sipush 999, 3) := by decide +kernel
theorem dX6_addBundle_18 : decode cX6_addBundle 18 = .ok (.if_icmp .le 13, 3) := by decide +kernel
theorem dX6_addBundle_21 : decode cX6_addBundle 21 = .ok (.new 48, 3) := by decide +kernel
theorem dX6_addBundle_24 : decode cX6_addBundle 24 = .ok (.dup, 1) := by decide +kernel
theorem dX6_addBundle_25 : decode cX6_addBundle 25 = .ok (.ldc 206, 2) := by decide +kernel
theorem dX6_addBundle_27 : decode cX6_addBundle 27 = .ok (.invokespecial 52, 3) := by decide +kernel
theorem dX6_addBundle_30 : decode cX6_addBundle 30 = .ok (.athrow, 1) := by decide +kernel
theorem dX6_addBundle_31 : decode cX6_addBundle 31 = .ok (.aload_n 0, 1) := by decide +kernel
theorem dX6_addBundle_32 : decode cX6_addBundle 32 = .ok (.iconst 0, 1) := by decide +kernel
theorem dX6_addBundle_33 : decode cX6_addBundle 33 = .ok (.iconst 1, 1) := by decide +kernel
theorem dX6_addBundle_34 : decode cX6_addBundle 34 = .ok (.iload_n 1, 1) := by decide +kernel
theorem dX6_addBundle_35 : decode cX6_addBundle 35 = .ok (.ishl, 1) := by decide +kernel
theorem dX6_addBundle_36 : decode cX6_addBundle 36 = .ok (.iconst 1, 1) := by decide +kernel
theorem dX6_addBundle_37 : decode cX6_addBundle 37 = .ok (.iload_n 2, 1) := by decide +kernel
theorem dX6_addBundle_38 : decode cX6_addBundle 38 = .ok (.ishl, 1) := by decide +kernel
theorem dX6_addBundle_39 : decode cX6_addBundle 39 = .ok (.ior, 1) := by decide +kernel
theorem dX6_addBundle_40 : decode cX6_addBundle 40 = .ok (.iload_n 3, 1) := by decide +kernel
theorem dX6_addBundle_41 : decode cX6_addBundle 41 = .ok (.invokevirtual 208, 3) := by decide +kernel
theorem dX6_addBundle_44 : decode cX6_addBundle 44 = .ok (.ireturn, 1) := by decide +kernel
theorem dX6_addPercent_0 : decode cX6_addPercent 0 = .ok (.iload_n 1, 1) := by decide +kernel
theorem dX6_addPercent_1 : decode cX6_addPercent 1 = .ok (.ifCond .lt 9, 3) := by decide +kernel
theorem dX6_addPercent_4 : decode cX6_addPercent 4 = .ok (.iload_n 1, 1) := by decide +kernel
theorem dX6_addPercent_5 : decode cX6_addPercent 5 = .ok (.bipush 100, 2) := by decide +kernel
theorem dX6_addPercent_7 : decode cX6_addPercent 7 = .ok (.if_icmp .le 13, 3) := by decide +kernel
theorem dX6_addPercent_10 : decode cX6_addPercent 10 = .ok (.new 48, 3) := by decide +kernel
theorem dX6_addPercent_13 : decode cX6_addPercent 13 = .ok (.dup, 1) := by decide +kernel
theorem dX6_addPercent_14 : decode cX6_addPercent 14 = .ok (.ldc 211, 2) := by decide +kernel
theorem dX6_addPercent_16 : decode cX6_addPercent 16 = .ok (.invokespecial 52, 3) := by decide +kernel
theorem dX6_addPercent_19 : decode cX6_addPercent 19 = .ok (.athrow, 1) := by decide +kernel
theorem dX6_addPercent_20 : decode cX6_addPercent 20 = .ok (.aload_n 0, 1) := by decide +kernel
theorem dX6_addPercent_21 : decode cX6_addPercent 21 = .ok (.iconst 1, 1) := by decide +kernel
theorem dX6_addPercent_22 : decode cX6_addPercent 22 = .ok (.iconst 0, 1) := by decide +kernel
theorem dX6_addPercent_23 : decode cX6_addPercent 23 = .ok (.iload_n 1, 1) := by decide +kernel
theorem dX6_addPercent_24 : decode cX6_addPercent 24 = .ok (.invokevirtual 208, 3) := by decide +kernel
theorem dX6_addPercent_27 : decode cX6_addPercent 27 = .ok (.ireturn, 1) := by decide +kernel
theorem dX6_addSurcharge_0 : decode cX6_addSurcharge 0 = .ok (.iload_n 1, 1) := by decide +kernel
theorem dX6_addSurcharge_1 : decode cX6_addSurcharge 1 = .ok (.ifCond .lt 20, 3) := by decide +kernel
theorem dX6_addSurcharge_4 : decode cX6_addSurcharge 4 = .ok (.iload_n 1, 1) := by decide +kernel
theorem dX6_addSurcharge_5 : decode cX6_addSurcharge 5 = .ok (.bipush 12, 2) := by decide +kernel
theorem dX6_addSurcharge_7 : decode cX6_addSurcharge 7 = .ok (.if_icmp .gt 14, 3) := by decide +kernel
theorem dX6_addSurcharge_10 : decode cX6_addSurcharge 10 = .ok (.iload_n 2, 1) := by decide +kernel
theorem dX6_addSurcharge_11 : decode cX6_addSurcharge 11 = .ok (.ifCond .lt 10, 3) := by decide +kernel
theorem dX6_addSurcharge_14 : decode cX6_addSurcharge 14 = .ok (.iload_n 2, 1) := by decide +kernel
theorem dX6_addSurcharge_15 : decode cX6_addSurcharge 15 = .ok (.sipush 999, 3) := by decide +kernel
theorem dX6_addSurcharge_18 : decode cX6_addSurcharge 18 = .ok (.if_icmp .le 13, 3) := by decide +kernel
theorem dX6_addSurcharge_21 : decode cX6_addSurcharge 21 = .ok (.new 48, 3) := by decide +kernel
theorem dX6_addSurcharge_24 : decode cX6_addSurcharge 24 = .ok (.dup, 1) := by decide +kernel
theorem dX6_addSurcharge_25 : decode cX6_addSurcharge 25 = .ok (.ldc 213, 2) := by decide +kernel
theorem dX6_addSurcharge_27 : decode cX6_addSurcharge 27 = .ok (.invokespecial 52, 3) := by decide +kernel
theorem dX6_addSurcharge_30 : decode cX6_addSurcharge 30 = .ok (.athrow, 1) := by decide +kernel
theorem dX6_addSurcharge_31 : decode cX6_addSurcharge 31 = .ok (.aload_n 0, 1) := by decide +kernel
theorem dX6_addSurcharge_32 : decode cX6_addSurcharge 32 = .ok (.iconst 2, 1) := by decide +kernel
theorem dX6_addSurcharge_33 : decode cX6_addSurcharge 33 = .ok (.iload_n 1, 1) := by decide +kernel
theorem dX6_addSurcharge_34 : decode cX6_addSurcharge 34 = .ok (.iload_n 2, 1) := by decide +kernel
theorem dX6_addSurcharge_35 : decode cX6_addSurcharge 35 = .ok (.invokevirtual 208, 3) := by decide +kernel
theorem dX6_addSurcharge_38 : decode cX6_addSurcharge 38 = .ok (.ireturn, 1) := by decide +kernel
theorem dX6_removeLayer_0 : decode cX6_removeLayer 0 = .ok (.aload_n 0, 1) := by decide +kernel
theorem dX6_removeLayer_1 : decode cX6_removeLayer 1 = .ok (.getfield 26, 3) := by decide +kernel
theorem dX6_removeLayer_4 : decode cX6_removeLayer 4 = .ok (.getfield 215, 3) := by decide +kernel
theorem dX6_removeLayer_7 : decode cX6_removeLayer 7 = .ok (.ifCond .gt 13, 3) := by decide +kernel
theorem dX6_removeLayer_10 : decode cX6_removeLayer 10 = .ok (.new 59, 3) := by decide +kernel
theorem dX6_removeLayer_13 : decode cX6_removeLayer 13 = .ok (.dup, 1) := by decide +kernel
theorem dX6_removeLayer_14 : decode cX6_removeLayer 14 = .ok (.ldc 218, 2) := by decide +kernel
theorem dX6_removeLayer_16 : decode cX6_removeLayer 16 = .ok (.invokespecial 63, 3) := by decide +kernel
theorem dX6_removeLayer_19 : decode cX6_removeLayer 19 = .ok (.athrow, 1) := by decide +kernel
theorem dX6_removeLayer_20 : decode cX6_removeLayer 20 = .ok (.aload_n 0, 1) := by decide +kernel
theorem dX6_removeLayer_21 : decode cX6_removeLayer 21 = .ok (.getfield 26, 3) := by decide +kernel
theorem dX6_removeLayer_24 : decode cX6_removeLayer 24 = .ok (.dup, 1) := by decide +kernel
theorem dX6_removeLayer_25 : decode cX6_removeLayer 25 = .ok (.getfield 215, 3) := by decide +kernel
theorem dX6_removeLayer_28 : decode cX6_removeLayer 28 = .ok (.iconst 1, 1) := by decide +kernel
theorem dX6_removeLayer_29 : decode cX6_removeLayer 29 = .ok (.isub, 1) := by decide +kernel
theorem dX6_removeLayer_30 : decode cX6_removeLayer 30 = .ok (.putfield 215, 3) := by decide +kernel
theorem dX6_removeLayer_33 : decode cX6_removeLayer 33 = .ok (.aload_n 0, 1) := by decide +kernel
theorem dX6_removeLayer_34 : decode cX6_removeLayer 34 = .ok (.getfield 26, 3) := by decide +kernel
theorem dX6_removeLayer_37 : decode cX6_removeLayer 37 = .ok (.getfield 215, 3) := by decide +kernel
theorem dX6_removeLayer_40 : decode cX6_removeLayer 40 = .ok (.iconst 1, 1) := by decide +kernel
theorem dX6_removeLayer_41 : decode cX6_removeLayer 41 = .ok (.iadd, 1) := by decide +kernel
theorem dX6_removeLayer_42 : decode cX6_removeLayer 42 = .ok (.ireturn, 1) := by decide +kernel
theorem dX6_price_0 : decode cX6_price 0 = .ok (.aload_n 0, 1) := by decide +kernel
theorem dX6_price_1 : decode cX6_price 1 = .ok (.iload_n 1, 1) := by decide +kernel
theorem dX6_price_2 : decode cX6_price 2 = .ok (.invokevirtual 190, 3) := by decide +kernel
theorem dX6_price_5 : decode cX6_price 5 = .ok (.aload_n 0, 1) := by decide +kernel
theorem dX6_price_6 : decode cX6_price 6 = .ok (.getfield 26, 3) := by decide +kernel
theorem dX6_price_9 : decode cX6_price 9 = .ok (.iload_n 1, 1) := by decide +kernel
theorem dX6_price_10 : decode cX6_price 10 = .ok (.invokevirtual 220, 3) := by decide +kernel
theorem dX6_price_13 : decode cX6_price 13 = .ok (.ireturn, 1) := by decide +kernel
theorem dX6_cheapest_0 : decode cX6_cheapest 0 = .ok (.aload_n 0, 1) := by decide +kernel
theorem dX6_cheapest_1 : decode cX6_cheapest 1 = .ok (.getfield 10, 3) := by decide +kernel
theorem dX6_cheapest_4 : decode cX6_cheapest 4 = .ok (.aload_n 0, 1) := by decide +kernel
theorem dX6_cheapest_5 : decode cX6_cheapest 5 = .ok (.getfield 19, 3) := by decide +kernel
theorem dX6_cheapest_8 : decode cX6_cheapest 8 = .ok (.aload_n 0, 1) := by decide +kernel
theorem dX6_cheapest_9 : decode cX6_cheapest 9 = .ok (.getfield 26, 3) := by decide +kernel
theorem dX6_cheapest_12 : decode cX6_cheapest 12 = .ok (.iconst 0, 1) := by decide +kernel
theorem dX6_cheapest_13 : decode cX6_cheapest 13 = .ok (.iconst 0, 1) := by decide +kernel
theorem dX6_cheapest_14 : decode cX6_cheapest 14 = .ok (.aload_n 0, 1) := by decide +kernel
theorem dX6_cheapest_15 : decode cX6_cheapest 15 = .ok (.getfield 135, 3) := by decide +kernel
theorem dX6_cheapest_18 : decode cX6_cheapest 18 = .ok (.aload_n 0, 1) := by decide +kernel
theorem dX6_cheapest_19 : decode cX6_cheapest 19 = .ok (.getfield 138, 3) := by decide +kernel
theorem dX6_cheapest_22 : decode cX6_cheapest 22 = .ok (.invokestatic 223, 3) := by decide +kernel
theorem dX6_cheapest_25 : decode cX6_cheapest 25 = .ok (.ireturn, 1) := by decide +kernel
theorem dX6_cheapestByAll_0 : decode cX6_cheapestByAll 0 = .ok (.iconst (-1), 1) := by decide +kernel
theorem dX6_cheapestByAll_1 : decode cX6_cheapestByAll 1 = .ok (.istore_n 1, 1) := by decide +kernel
theorem dX6_cheapestByAll_2 : decode cX6_cheapestByAll 2 = .ok (.aload_n 0, 1) := by decide +kernel
theorem dX6_cheapestByAll_3 : decode cX6_cheapestByAll 3 = .ok (.getfield 10, 3) := by decide +kernel
theorem dX6_cheapestByAll_6 : decode cX6_cheapestByAll 6 = .ok (.invokevirtual 200, 3) := by decide +kernel
theorem dX6_cheapestByAll_9 : decode cX6_cheapestByAll 9 = .ok (.istore_n 2, 1) := by decide +kernel
theorem dX6_cheapestByAll_10 : decode cX6_cheapestByAll 10 = .ok (.iconst 0, 1) := by decide +kernel
theorem dX6_cheapestByAll_11 : decode cX6_cheapestByAll 11 = .ok (.istore_n 3, 1) := by decide +kernel
theorem dX6_cheapestByAll_12 : decode cX6_cheapestByAll 12 = .ok (.iload_n 3, 1) := by decide +kernel
theorem dX6_cheapestByAll_13 : decode cX6_cheapestByAll 13 = .ok (.iload_n 2, 1) := by decide +kernel
theorem dX6_cheapestByAll_14 : decode cX6_cheapestByAll 14 = .ok (.if_icmp .gt 27, 3) := by decide +kernel
theorem dX6_cheapestByAll_17 : decode cX6_cheapestByAll 17 = .ok (.aload_n 0, 1) := by decide +kernel
theorem dX6_cheapestByAll_18 : decode cX6_cheapestByAll 18 = .ok (.iload_n 3, 1) := by decide +kernel
theorem dX6_cheapestByAll_19 : decode cX6_cheapestByAll 19 = .ok (.invokevirtual 203, 3) := by decide +kernel
theorem dX6_cheapestByAll_22 : decode cX6_cheapestByAll 22 = .ok (.ifCond .eq 13, 3) := by decide +kernel
theorem dX6_cheapestByAll_25 : decode cX6_cheapestByAll 25 = .ok (.aload_n 0, 1) := by decide +kernel
theorem dX6_cheapestByAll_26 : decode cX6_cheapestByAll 26 = .ok (.getfield 26, 3) := by decide +kernel
theorem dX6_cheapestByAll_29 : decode cX6_cheapestByAll 29 = .ok (.iload_n 1, 1) := by decide +kernel
theorem dX6_cheapestByAll_30 : decode cX6_cheapestByAll 30 = .ok (.iload_n 3, 1) := by decide +kernel
theorem dX6_cheapestByAll_31 : decode cX6_cheapestByAll 31 = .ok (.invokevirtual 227, 3) := by decide +kernel
theorem dX6_cheapestByAll_34 : decode cX6_cheapestByAll 34 = .ok (.istore_n 1, 1) := by decide +kernel
theorem dX6_cheapestByAll_35 : decode cX6_cheapestByAll 35 = .ok (.iinc 3 1, 3) := by decide +kernel
theorem dX6_cheapestByAll_38 : decode cX6_cheapestByAll 38 = .ok (.goto (-26), 3) := by decide +kernel
theorem dX6_cheapestByAll_41 : decode cX6_cheapestByAll 41 = .ok (.iload_n 1, 1) := by decide +kernel
theorem dX6_cheapestByAll_42 : decode cX6_cheapestByAll 42 = .ok (.ireturn, 1) := by decide +kernel
theorem dX6_complete_0 : decode cX6_complete 0 = .ok (.aload_n 0, 1) := by decide +kernel
theorem dX6_complete_1 : decode cX6_complete 1 = .ok (.invokevirtual 230, 3) := by decide +kernel
theorem dX6_complete_4 : decode cX6_complete 4 = .ok (.istore_n 1, 1) := by decide +kernel
theorem dX6_complete_5 : decode cX6_complete 5 = .ok (.aload_n 0, 1) := by decide +kernel
theorem dX6_complete_6 : decode cX6_complete 6 = .ok (.getfield 10, 3) := by decide +kernel
theorem dX6_complete_9 : decode cX6_complete 9 = .ok (.invokevirtual 200, 3) := by decide +kernel
theorem dX6_complete_12 : decode cX6_complete 12 = .ok (.iconst 1, 1) := by decide +kernel
theorem dX6_complete_13 : decode cX6_complete 13 = .ok (.aload_n 0, 1) := by decide +kernel
theorem dX6_complete_14 : decode cX6_complete 14 = .ok (.getfield 135, 3) := by decide +kernel
theorem dX6_complete_17 : decode cX6_complete 17 = .ok (.ior, 1) := by decide +kernel
theorem dX6_complete_18 : decode cX6_complete 18 = .ok (.aload_n 0, 1) := by decide +kernel
theorem dX6_complete_19 : decode cX6_complete 19 = .ok (.getfield 138, 3) := by decide +kernel
theorem dX6_complete_22 : decode cX6_complete 22 = .ok (.ior, 1) := by decide +kernel
theorem dX6_complete_23 : decode cX6_complete 23 = .ok (.iconst (-1), 1) := by decide +kernel
theorem dX6_complete_24 : decode cX6_complete 24 = .ok (.ixor, 1) := by decide +kernel
theorem dX6_complete_25 : decode cX6_complete 25 = .ok (.iand, 1) := by decide +kernel
theorem dX6_complete_26 : decode cX6_complete 26 = .ok (.istore_n 2, 1) := by decide +kernel
theorem dX6_complete_27 : decode cX6_complete 27 = .ok (.aload_n 0, 1) := by decide +kernel
theorem dX6_complete_28 : decode cX6_complete 28 = .ok (.dup, 1) := by decide +kernel
theorem dX6_complete_29 : decode cX6_complete 29 = .ok (.getfield 135, 3) := by decide +kernel
theorem dX6_complete_32 : decode cX6_complete 32 = .ok (.iload_n 2, 1) := by decide +kernel
theorem dX6_complete_33 : decode cX6_complete 33 = .ok (.iload_n 1, 1) := by decide +kernel
theorem dX6_complete_34 : decode cX6_complete 34 = .ok (.iand, 1) := by decide +kernel
theorem dX6_complete_35 : decode cX6_complete 35 = .ok (.ior, 1) := by decide +kernel
theorem dX6_complete_36 : decode cX6_complete 36 = .ok (.putfield 135, 3) := by decide +kernel
theorem dX6_complete_39 : decode cX6_complete 39 = .ok (.aload_n 0, 1) := by decide +kernel
theorem dX6_complete_40 : decode cX6_complete 40 = .ok (.dup, 1) := by decide +kernel
theorem dX6_complete_41 : decode cX6_complete 41 = .ok (.getfield 138, 3) := by decide +kernel
theorem dX6_complete_44 : decode cX6_complete 44 = .ok (.iload_n 2, 1) := by decide +kernel
theorem dX6_complete_45 : decode cX6_complete 45 = .ok (.iload_n 1, 1) := by decide +kernel
theorem dX6_complete_46 : decode cX6_complete 46 = .ok (.iconst (-1), 1) := by decide +kernel
theorem dX6_complete_47 : decode cX6_complete 47 = .ok (.ixor, 1) := by decide +kernel
theorem dX6_complete_48 : decode cX6_complete 48 = .ok (.iand, 1) := by decide +kernel
theorem dX6_complete_49 : decode cX6_complete 49 = .ok (.ior, 1) := by decide +kernel
theorem dX6_complete_50 : decode cX6_complete 50 = .ok (.putfield 138, 3) := by decide +kernel
theorem dX6_complete_53 : decode cX6_complete 53 = .ok (.aload_n 0, 1) := by decide +kernel
theorem dX6_complete_54 : decode cX6_complete 54 = .ok (.getfield 26, 3) := by decide +kernel
theorem dX6_complete_57 : decode cX6_complete 57 = .ok (.iload_n 1, 1) := by decide +kernel
theorem dX6_complete_58 : decode cX6_complete 58 = .ok (.invokevirtual 220, 3) := by decide +kernel
theorem dX6_complete_61 : decode cX6_complete 61 = .ok (.ireturn, 1) := by decide +kernel
theorem dX6_fewest_0 : decode cX6_fewest 0 = .ok (.aload_n 0, 1) := by decide +kernel
theorem dX6_fewest_1 : decode cX6_fewest 1 = .ok (.iload_n 1, 1) := by decide +kernel
theorem dX6_fewest_2 : decode cX6_fewest 2 = .ok (.invokevirtual 44, 3) := by decide +kernel
theorem dX6_fewest_5 : decode cX6_fewest 5 = .ok (.aload_n 0, 1) := by decide +kernel
theorem dX6_fewest_6 : decode cX6_fewest 6 = .ok (.iload_n 1, 1) := by decide +kernel
theorem dX6_fewest_7 : decode cX6_fewest 7 = .ok (.iload_n 2, 1) := by decide +kernel
theorem dX6_fewest_8 : decode cX6_fewest 8 = .ok (.invokevirtual 233, 3) := by decide +kernel
theorem dX6_fewest_11 : decode cX6_fewest 11 = .ok (.invokestatic 103, 3) := by decide +kernel
theorem dX6_fewest_14 : decode cX6_fewest 14 = .ok (.ireturn, 1) := by decide +kernel
theorem dX6_toRetract_0 : decode cX6_toRetract 0 = .ok (.aload_n 0, 1) := by decide +kernel
theorem dX6_toRetract_1 : decode cX6_toRetract 1 = .ok (.iload_n 1, 1) := by decide +kernel
theorem dX6_toRetract_2 : decode cX6_toRetract 2 = .ok (.invokevirtual 44, 3) := by decide +kernel
theorem dX6_toRetract_5 : decode cX6_toRetract 5 = .ok (.aload_n 0, 1) := by decide +kernel
theorem dX6_toRetract_6 : decode cX6_toRetract 6 = .ok (.iload_n 1, 1) := by decide +kernel
theorem dX6_toRetract_7 : decode cX6_toRetract 7 = .ok (.iload_n 2, 1) := by decide +kernel
theorem dX6_toRetract_8 : decode cX6_toRetract 8 = .ok (.invokevirtual 233, 3) := by decide +kernel
theorem dX6_toRetract_11 : decode cX6_toRetract 11 = .ok (.ireturn, 1) := by decide +kernel
theorem dX6_force_0 : decode cX6_force 0 = .ok (.aload_n 0, 1) := by decide +kernel
theorem dX6_force_1 : decode cX6_force 1 = .ok (.iload_n 1, 1) := by decide +kernel
theorem dX6_force_2 : decode cX6_force 2 = .ok (.invokevirtual 44, 3) := by decide +kernel
theorem dX6_force_5 : decode cX6_force 5 = .ok (.aload_n 0, 1) := by decide +kernel
theorem dX6_force_6 : decode cX6_force 6 = .ok (.iload_n 1, 1) := by decide +kernel
theorem dX6_force_7 : decode cX6_force 7 = .ok (.invokevirtual 72, 3) := by decide +kernel
theorem dX6_force_10 : decode cX6_force 10 = .ok (.aload_n 0, 1) := by decide +kernel
theorem dX6_force_11 : decode cX6_force 11 = .ok (.iload_n 1, 1) := by decide +kernel
theorem dX6_force_12 : decode cX6_force 12 = .ok (.iload_n 2, 1) := by decide +kernel
theorem dX6_force_13 : decode cX6_force 13 = .ok (.invokevirtual 233, 3) := by decide +kernel
theorem dX6_force_16 : decode cX6_force 16 = .ok (.istore_n 3, 1) := by decide +kernel
theorem dX6_force_17 : decode cX6_force 17 = .ok (.aload_n 0, 1) := by decide +kernel
theorem dX6_force_18 : decode cX6_force 18 = .ok (.iload_n 3, 1) := by decide +kernel
theorem dX6_force_19 : decode cX6_force 19 = .ok (.invokevirtual 153, 3) := by decide +kernel
theorem dX6_force_22 : decode cX6_force 22 = .ok (.iload_n 2, 1) := by decide +kernel
theorem dX6_force_23 : decode cX6_force 23 = .ok (.ifCond .eq 18, 3) := by decide +kernel
theorem dX6_force_26 : decode cX6_force 26 = .ok (.aload_n 0, 1) := by decide +kernel
theorem dX6_force_27 : decode cX6_force 27 = .ok (.dup, 1) := by decide +kernel
theorem dX6_force_28 : decode cX6_force 28 = .ok (.getfield 135, 3) := by decide +kernel
theorem dX6_force_31 : decode cX6_force 31 = .ok (.iconst 1, 1) := by decide +kernel
theorem dX6_force_32 : decode cX6_force 32 = .ok (.iload_n 1, 1) := by decide +kernel
theorem dX6_force_33 : decode cX6_force 33 = .ok (.ishl, 1) := by decide +kernel
theorem dX6_force_34 : decode cX6_force 34 = .ok (.ior, 1) := by decide +kernel
theorem dX6_force_35 : decode cX6_force 35 = .ok (.putfield 135, 3) := by decide +kernel
theorem dX6_force_38 : decode cX6_force 38 = .ok (.goto 15, 3) := by decide +kernel
theorem dX6_force_41 : decode cX6_force 41 = .ok (.aload_n 0, 1) := by decide +kernel
theorem dX6_force_42 : decode cX6_force 42 = .ok (.dup, 1) := by decide +kernel
theorem dX6_force_43 : decode cX6_force 43 = .ok (.getfield 138, 3) := by decide +kernel
theorem dX6_force_46 : decode cX6_force 46 = .ok (.iconst 1, 1) := by decide +kernel
theorem dX6_force_47 : decode cX6_force 47 = .ok (.iload_n 1, 1) := by decide +kernel
theorem dX6_force_48 : decode cX6_force 48 = .ok (.ishl, 1) := by decide +kernel
theorem dX6_force_49 : decode cX6_force 49 = .ok (.ior, 1) := by decide +kernel
theorem dX6_force_50 : decode cX6_force 50 = .ok (.putfield 138, 3) := by decide +kernel
theorem dX6_force_53 : decode cX6_force 53 = .ok (.iload_n 3, 1) := by decide +kernel
theorem dX6_force_54 : decode cX6_force 54 = .ok (.invokestatic 103, 3) := by decide +kernel
theorem dX6_force_57 : decode cX6_force 57 = .ok (.ireturn, 1) := by decide +kernel
theorem dX6_lineLength_0 : decode cX6_lineLength 0 = .ok (.aload_n 0, 1) := by decide +kernel
theorem dX6_lineLength_1 : decode cX6_lineLength 1 = .ok (.invokevirtual 237, 3) := by decide +kernel
theorem dX6_lineLength_4 : decode cX6_lineLength 4 = .ok (.aload_n 0, 1) := by decide +kernel
theorem dX6_lineLength_5 : decode cX6_lineLength 5 = .ok (.getfield 40, 3) := by decide +kernel
theorem dX6_lineLength_8 : decode cX6_lineLength 8 = .ok (.getfield 240, 3) := by decide +kernel
theorem dX6_lineLength_11 : decode cX6_lineLength 11 = .ok (.ireturn, 1) := by decide +kernel
