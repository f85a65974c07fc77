theorem dX6_setGroup_5 : decode cX6_setGroup 5 = .ok (.iload_n 2, 1) := by decide +kernel
theorem dX6_setGroup_6 : decode cX6_setGroup 6 = .ok (.ifCond .lt 14, 3) := by decide +kernel
theorem dX6_setGroup_9 : decode cX6_setGroup 9 = .ok (.iload_n 3, 1) := by decide +kernel
theorem dX6_setGroup_10 : decode cX6_setGroup 10 = .ok (.iload_n 2, 1) := by decide +kernel
theorem dX6_setGroup_11 : decode cX6_setGroup 11 = .ok (.if_icmp .lt 9, 3) := by decide +kernel
theorem dX6_setGroup_14 : decode cX6_setGroup 14 = .ok (.iload_n 3, 1) := by decide +kernel
theorem dX6_setGroup_15 : decode cX6_setGroup 15 = .ok (.bipush 12, 2) := by decide +kernel
theorem dX6_setGroup_17 : decode cX6_setGroup 17 = .ok (.if_icmp .le 13, 3) := by decide +kernel
theorem dX6_setGroup_20 : decode cX6_setGroup 20 = .ok (.new 48, 3) := by decide +kernel
theorem dX6_setGroup_23 : decode cX6_setGroup 23 = .ok (.dup, 1) := by decide +kernel
theorem dX6_setGroup_24 : decode cX6_setGroup 24 = .ok (.ldc 91, 2) := by decide +kernel
theorem dX6_setGroup_26 : decode cX6_setGroup 26 = .ok (.invokespecial 52, 3) := by decide +kernel
theorem dX6_setGroup_29 : decode cX6_setGroup 29 = .ok (.athrow, 1) := by decide +kernel
theorem dX6_setGroup_30 : decode cX6_setGroup 30 = .ok (.aload_n 0, 1) := by decide +kernel
theorem dX6_setGroup_31 : decode cX6_setGroup 31 = .ok (.getfield 10, 3) := by decide +kernel
theorem dX6_setGroup_34 : decode cX6_setGroup 34 = .ok (.getfield 93, 3) := by decide +kernel
theorem dX6_setGroup_37 : decode cX6_setGroup 37 = .ok (.iload_n 1, 1) := by decide +kernel
theorem dX6_setGroup_38 : decode cX6_setGroup 38 = .ok (.iaload, 1) := by decide +kernel
theorem dX6_setGroup_39 : decode cX6_setGroup 39 = .ok (.istore 4, 2) := by decide +kernel
theorem dX6_setGroup_41 : decode cX6_setGroup 41 = .ok (.aload_n 0, 1) := by decide +kernel
theorem dX6_setGroup_42 : decode cX6_setGroup 42 = .ok (.getfield 10, 3) := by decide +kernel
theorem dX6_setGroup_45 : decode cX6_setGroup 45 = .ok (.getfield 97, 3) := by decide +kernel
theorem dX6_setGroup_48 : decode cX6_setGroup 48 = .ok (.iload_n 1, 1) := by decide +kernel
theorem dX6_setGroup_49 : decode cX6_setGroup 49 = .ok (.iaload, 1) := by decide +kernel
theorem dX6_setGroup_50 : decode cX6_setGroup 50 = .ok (.istore 5, 2) := by decide +kernel
theorem dX6_setGroup_52 : decode cX6_setGroup 52 = .ok (.aload_n 0, 1) := by decide +kernel
theorem dX6_setGroup_53 : decode cX6_setGroup 53 = .ok (.getfield 10, 3) := by decide +kernel
theorem dX6_setGroup_56 : decode cX6_setGroup 56 = .ok (.getfield 93, 3) := by decide +kernel
theorem dX6_setGroup_59 : decode cX6_setGroup 59 = .ok (.iload_n 1, 1) := by decide +kernel
theorem dX6_setGroup_60 : decode cX6_setGroup 60 = .ok (.iload_n 2, 1) := by decide +kernel
theorem dX6_setGroup_61 : decode cX6_setGroup 61 = .ok (.iastore, 1) := by decide +kernel
theorem dX6_setGroup_62 : decode cX6_setGroup 62 = .ok (.aload_n 0, 1) := by decide +kernel
theorem dX6_setGroup_63 : decode cX6_setGroup 63 = .ok (.getfield 10, 3) := by decide +kernel
theorem dX6_setGroup_66 : decode cX6_setGroup 66 = .ok (.getfield 97, 3) := by decide +kernel
theorem dX6_setGroup_69 : decode cX6_setGroup 69 = .ok (.iload_n 1, 1) := by decide +kernel
theorem dX6_setGroup_70 : decode cX6_setGroup 70 = .ok (.iload_n 3, 1) := by decide +kernel
theorem dX6_setGroup_71 : decode cX6_setGroup 71 = .ok (.iastore, 1) := by decide +kernel
theorem dX6_setGroup_72 : decode cX6_setGroup 72 = .ok (.aload_n 0, 1) := by decide +kernel
theorem dX6_setGroup_73 : decode cX6_setGroup 73 = .ok (.invokevirtual 78, 3) := by decide +kernel
theorem dX6_setGroup_76 : decode cX6_setGroup 76 = .ok (.ifCond .ne 35, 3) := by decide +kernel
theorem dX6_setGroup_79 : decode cX6_setGroup 79 = .ok (.aload_n 0, 1) := by decide +kernel
theorem dX6_setGroup_80 : decode cX6_setGroup 80 = .ok (.getfield 10, 3) := by decide +kernel
theorem dX6_setGroup_83 : decode cX6_setGroup 83 = .ok (.getfield 93, 3) := by decide +kernel
theorem dX6_setGroup_86 : decode cX6_setGroup 86 = .ok (.iload_n 1, 1) := by decide +kernel
theorem dX6_setGroup_87 : decode cX6_setGroup 87 = .ok (.iload 4, 2) := by decide +kernel
theorem dX6_setGroup_89 : decode cX6_setGroup 89 = .ok (.iastore, 1) := by decide +kernel
theorem dX6_setGroup_90 : decode cX6_setGroup 90 = .ok (.aload_n 0, 1) := by decide +kernel
theorem dX6_setGroup_91 : decode cX6_setGroup 91 = .ok (.getfield 10, 3) := by decide +kernel
theorem dX6_setGroup_94 : decode cX6_setGroup 94 = .ok (.getfield 97, 3) := by decide +kernel
theorem dX6_setGroup_97 : decode cX6_setGroup 97 = .ok (.iload_n 1, 1) := by decide +kernel
theorem dX6_setGroup_98 : decode cX6_setGroup 98 = .ok (.iload 5, 2) := by decide +kernel
theorem dX6_setGroup_100 : decode cX6_setGroup 100 = .ok (.iastore, 1) := by decide +kernel
theorem dX6_setGroup_101 : decode cX6_setGroup 101 = .ok (.new 82, 3) := by decide +kernel
theorem dX6_setGroup_104 : decode cX6_setGroup 104 = .ok (.dup, 1) := by decide +kernel
theorem dX6_setGroup_105 : decode cX6_setGroup 105 = .ok (.ldc 84, 2) := by decide +kernel
theorem dX6_setGroup_107 : decode cX6_setGroup 107 = .ok (.invokespecial 86, 3) := by decide +kernel
theorem dX6_setGroup_110 : decode cX6_setGroup 110 = .ok (.athrow, 1) := by decide +kernel
theorem dX6_setGroup_111 : decode cX6_setGroup 111 = .ok (.aload_n 0, 1) := by decide +kernel
theorem dX6_setGroup_112 : decode cX6_setGroup 112 = .ok (.getfield 10, 3) := by decide +kernel
theorem dX6_setGroup_115 : decode cX6_setGroup 115 = .ok (.getfield 100, 3) := by decide +kernel
theorem dX6_setGroup_118 : decode cX6_setGroup 118 = .ok (.iload_n 1, 1) := by decide +kernel
theorem dX6_setGroup_119 : decode cX6_setGroup 119 = .ok (.iaload, 1) := by decide +kernel
theorem dX6_setGroup_120 : decode cX6_setGroup 120 = .ok (.invokestatic 103, 3) := by decide +kernel
theorem dX6_setGroup_123 : decode cX6_setGroup 123 = .ok (.ireturn, 1) := by decide +kernel
theorem dX6_require_0 : decode cX6_require 0 = .ok (.aload_n 0, 1) := by decide +kernel
theorem dX6_require_1 : decode cX6_require 1 = .ok (.iload_n 1, 1) := by decide +kernel
theorem dX6_require_2 : decode cX6_require 2 = .ok (.invokevirtual 44, 3) := by decide +kernel
theorem dX6_require_5 : decode cX6_require 5 = .ok (.aload_n 0, 1) := by decide +kernel
theorem dX6_require_6 : decode cX6_require 6 = .ok (.iload_n 2, 1) := by decide +kernel
theorem dX6_require_7 : decode cX6_require 7 = .ok (.invokevirtual 44, 3) := by decide +kernel
theorem dX6_require_10 : decode cX6_require 10 = .ok (.aload_n 0, 1) := by decide +kernel
theorem dX6_require_11 : decode cX6_require 11 = .ok (.iload_n 1, 1) := by decide +kernel
theorem dX6_require_12 : decode cX6_require 12 = .ok (.iload_n 2, 1) := by decide +kernel
theorem dX6_require_13 : decode cX6_require 13 = .ok (.invokevirtual 108, 3) := by decide +kernel
theorem dX6_require_16 : decode cX6_require 16 = .ok (.aload_n 0, 1) := by decide +kernel
theorem dX6_require_17 : decode cX6_require 17 = .ok (.iconst 1, 1) := by decide +kernel
theorem dX6_require_18 : decode cX6_require 18 = .ok (.iload_n 2, 1) := by decide +kernel
theorem dX6_require_19 : decode cX6_require 19 = .ok (.ishl, 1) := by decide +kernel
theorem dX6_require_20 : decode cX6_require 20 = .ok (.iconst 1, 1) := by decide +kernel
theorem dX6_require_21 : decode cX6_require 21 = .ok (.iload_n 1, 1) := by decide +kernel
theorem dX6_require_22 : decode cX6_require 22 = .ok (.ishl, 1) := by decide +kernel
theorem dX6_require_23 : decode cX6_require 23 = .ok (.iload_n 1, 1) := by decide +kernel
theorem dX6_require_24 : decode cX6_require 24 = .ok (.iload_n 2, 1) := by decide +kernel
theorem dX6_require_25 : decode cX6_require 25 = .ok (.invokestatic 111, 3) := by decide +kernel
theorem dX6_require_28 : decode cX6_require 28 = .ok (.invokevirtual 117, 3) := by decide +kernel
theorem dX6_require_31 : decode cX6_require 31 = .ok (.ireturn, 1) := by decide +kernel
theorem dX6_exclude_0 : decode cX6_exclude 0 = .ok (.aload_n 0, 1) := by decide +kernel
theorem dX6_exclude_1 : decode cX6_exclude 1 = .ok (.iload_n 1, 1) := by decide +kernel
theorem dX6_exclude_2 : decode cX6_exclude 2 = .ok (.invokevirtual 44, 3) := by decide +kernel
theorem dX6_exclude_5 : decode cX6_exclude 5 = .ok (.aload_n 0, 1) := by decide +kernel
theorem dX6_exclude_6 : decode cX6_exclude 6 = .ok (.iload_n 2, 1) := by decide +kernel
theorem dX6_exclude_7 : decode cX6_exclude 7 = .ok (.invokevirtual 44, 3) := by decide +kernel
theorem dX6_exclude_10 : decode cX6_exclude 10 = .ok (.aload_n 0, 1) := by decide +kernel
theorem dX6_exclude_11 : decode cX6_exclude 11 = .ok (.iload_n 1, 1) := by decide +kernel
theorem dX6_exclude_12 : decode cX6_exclude 12 = .ok (.iload_n 2, 1) := by decide +kernel
theorem dX6_exclude_13 : decode cX6_exclude 13 = .ok (.invokevirtual 108, 3) := by decide +kernel
theorem dX6_exclude_16 : decode cX6_exclude 16 = .ok (.aload_n 0, 1) := by decide +kernel
theorem dX6_exclude_17 : decode cX6_exclude 17 = .ok (.iconst 0, 1) := by decide +kernel
theorem dX6_exclude_18 : decode cX6_exclude 18 = .ok (.iconst 1, 1) := by decide +kernel
theorem dX6_exclude_19 : decode cX6_exclude 19 = .ok (.iload_n 1, 1) := by decide +kernel
theorem dX6_exclude_20 : decode cX6_exclude 20 = .ok (.ishl, 1) := by decide +kernel
theorem dX6_exclude_21 : decode cX6_exclude 21 = .ok (.iconst 1, 1) := by decide +kernel
theorem dX6_exclude_22 : decode cX6_exclude 22 = .ok (.iload_n 2, 1) := by decide +kernel
theorem dX6_exclude_23 : decode cX6_exclude 23 = .ok (.ishl, 1) := by decide +kernel
theorem dX6_exclude_24 : decode cX6_exclude 24 = .ok (.ior, 1) := by decide +kernel
theorem dX6_exclude_25 : decode cX6_exclude 25 = .ok (.iload_n 1, 1) := by decide +kernel
theorem dX6_exclude_26 : decode cX6_exclude 26 = .ok (.iload_n 2, 1) := by decide +kernel
theorem dX6_exclude_27 : decode cX6_exclude 27 = .ok (.invokestatic 111, 3) := by decide +kernel
theorem dX6_exclude_30 : decode cX6_exclude 30 = .ok (.invokevirtual 117, 3) := by decide +kernel
theorem dX6_exclude_33 : decode cX6_exclude 33 = .ok (.ireturn, 1) := by decide +kernel
theorem dX6_any_0 : decode cX6_any 0 = .ok (.aload_n 0, 1) := by decide +kernel
theorem dX6_any_1 : decode cX6_any 1 = .ok (.iload_n 1, 1) := by decide +kernel
theorem dX6_any_2 : decode cX6_any 2 = .ok (.invokevirtual 44, 3) := by decide +kernel
theorem dX6_any_5 : decode cX6_any 5 = .ok (.aload_n 0, 1) := by decide +kernel
theorem dX6_any_6 : decode cX6_any 6 = .ok (.iload_n 2, 1) := by decide +kernel
theorem dX6_any_7 : decode cX6_any 7 = .ok (.invokevirtual 44, 3) := by decide +kernel
theorem dX6_any_10 : decode cX6_any 10 = .ok (.aload_n 0, 1) := by decide +kernel
theorem dX6_any_11 : decode cX6_any 11 = .ok (.iload_n 3, 1) := by decide +kernel
theorem dX6_any_12 : decode cX6_any 12 = .ok (.invokevirtual 44, 3) := by decide +kernel
theorem dX6_any_15 : decode cX6_any 15 = .ok (.aload_n 0, 1) := by decide +kernel
theorem dX6_any_16 : decode cX6_any 16 = .ok (.iload_n 1, 1) := by decide +kernel
theorem dX6_any_17 : decode cX6_any 17 = .ok (.iload_n 2, 1) := by decide +kernel
theorem dX6_any_18 : decode cX6_any 18 = .ok (.invokevirtual 108, 3) := by decide +kernel
theorem dX6_any_21 : decode cX6_any 21 = .ok (.aload_n 0, 1) := by decide +kernel
theorem dX6_any_22 : decode cX6_any 22 = .ok (.iload_n 1, 1) := by decide +kernel
theorem dX6_any_23 : decode cX6_any 23 = .ok (.iload_n 3, 1) := by decide +kernel
theorem dX6_any_24 : decode cX6_any 24 = .ok (.invokevirtual 108, 3) := by decide +kernel
theorem dX6_any_27 : decode cX6_any 27 = .ok (.aload_n 0, 1) := by decide +kernel
theorem dX6_any_28 : decode cX6_any 28 = .ok (.iload_n 2, 1) := by decide +kernel
theorem dX6_any_29 : decode cX6_any 29 = .ok (.iload_n 3, 1) := by decide +kernel
theorem dX6_any_30 : decode cX6_any 30 = .ok (.invokevirtual 108, 3) := by decide +kernel
theorem dX6_any_33 : decode cX6_any 33 = .ok (.iconst 1, 1) := by decide +kernel
theorem dX6_any_34 : decode cX6_any 34 = .ok (.iload_n 1, 1) := by decide +kernel
theorem dX6_any_35 : decode cX6_any 35 = .ok (.ishl, 1) := by decide +kernel
theorem dX6_any_36 : decode cX6_any 36 = .ok (.iconst 1, 1) := by decide +kernel
theorem dX6_any_37 : decode cX6_any 37 = .ok (.iload_n 2, 1) := by decide +kernel
theorem dX6_any_38 : decode cX6_any 38 = .ok (.ishl, 1) := by decide +kernel
theorem dX6_any_39 : decode cX6_any 39 = .ok (.ior, 1) := by decide +kernel
theorem dX6_any_40 : decode cX6_any 40 = .ok (.iconst 1, 1) := by decide +kernel
theorem dX6_any_41 : decode cX6_any 41 = .ok (.iload_n 3, 1) := by decide +kernel
theorem dX6_any_42 : decode cX6_any 42 = .ok (.ishl, 1) := by decide +kernel
theorem dX6_any_43 : decode cX6_any 43 = .ok (.ior, 1) := by decide +kernel
theorem dX6_any_44 : decode cX6_any 44 = .ok (.istore 4, 2) := by decide +kernel
theorem dX6_any_46 : decode cX6_any 46 = .ok (.aload_n 0, 1) := by decide +kernel
theorem dX6_any_47 : decode cX6_any 47 = .ok (.iload 4, 2) := by decide +kernel
theorem dX6_any_49 : decode cX6_any 49 = .ok (.iconst 0, 1) := by decide +kernel
theorem dX6_any_50 : decode cX6_any 50 = .ok (.iload_n 1, 1) := by decide +kernel
theorem dX6_any_51 : decode cX6_any 51 = .ok (.iload_n 2, 1) := by decide +kernel
theorem dX6_any_52 : decode cX6_any 52 = .ok (.iload_n 3, 1) := by decide +kernel
theorem dX6_any_53 : decode cX6_any 53 = .ok (.invokestatic 111, 3) := by decide +kernel
theorem dX6_any_56 : decode cX6_any 56 = .ok (.invokestatic 111, 3) := by decide +kernel
theorem dX6_any_59 : decode cX6_any 59 = .ok (.invokevirtual 117, 3) := by decide +kernel
theorem dX6_any_62 : decode cX6_any 62 = .ok (.ireturn, 1) := by decide +kernel
theorem dX6_lift_0 : decode cX6_lift 0 = .ok (.iload_n 1, 1) := by decide +kernel
theorem dX6_lift_1 : decode cX6_lift 1 = .ok (.ifCond .lt 14, 3) := by decide +kernel
theorem dX6_lift_4 : decode cX6_lift 4 = .ok (.iload_n 1, 1) := by decide +kernel
theorem dX6_lift_5 : decode cX6_lift 5 = .ok (.aload_n 0, 1) := by decide +kernel
theorem dX6_lift_6 : decode cX6_lift 6 = .ok (.getfield 19, 3) := by decide +kernel
theorem dX6_lift_9 : decode cX6_lift 9 = .ok (.getfield 121, 3) := by decide +kernel
theorem dX6_lift_12 : decode cX6_lift 12 = .ok (.if_icmp .lt 13, 3) := by decide +kernel
theorem dX6_lift_15 : decode cX6_lift 15 = .ok (.new 122, 3) := by decide +kernel
theorem dX6_lift_18 : decode cX6_lift 18 = .ok (.dup, 1) := by decide +kernel
theorem dX6_lift_19 : decode cX6_lift 19 = .ok (.ldc 124, 2) := by decide +kernel
theorem dX6_lift_21 : decode cX6_lift 21 = .ok (.invokespecial 126, 3) := by decide +kernel
theorem dX6_lift_24 : decode cX6_lift 24 = .ok (.athrow, 1) := by decide +kernel
theorem dX6_lift_25 : decode cX6_lift 25 = .ok (.aload_n 0, 1) := by decide +kernel
theorem dX6_lift_26 : decode cX6_lift 26 = .ok (.getfield 19, 3) := by decide +kernel
theorem dX6_lift_29 : decode cX6_lift 29 = .ok (.getfield 127, 3) := by decide +kernel
theorem dX6_lift_32 : decode cX6_lift 32 = .ok (.iload_n 1, 1) := by decide +kernel
theorem dX6_lift_33 : decode cX6_lift 33 = .ok (.invokestatic 87, 3) := by decide +kernel
theorem dX6_lift_36 : decode cX6_lift 36 = .ok (.ifCond .ne 13, 3) := by decide +kernel
theorem dX6_lift_39 : decode cX6_lift 39 = .ok (.new 59, 3) := by decide +kernel
theorem dX6_lift_42 : decode cX6_lift 42 = .ok (.dup, 1) := by decide +kernel
theorem dX6_lift_43 : decode cX6_lift 43 = .ok (.ldc 130, 2) := by decide +kernel
theorem dX6_lift_45 : decode cX6_lift 45 = .ok (.invokespecial 63, 3) := by decide +kernel
theorem dX6_lift_48 : decode cX6_lift 48 = .ok (.athrow, 1) := by decide +kernel
theorem dX6_lift_49 : decode cX6_lift 49 = .ok (.aload_n 0, 1) := by decide +kernel
theorem dX6_lift_50 : decode cX6_lift 50 = .ok (.getfield 19, 3) := by decide +kernel
theorem dX6_lift_53 : decode cX6_lift 53 = .ok (.dup, 1) := by decide +kernel
theorem dX6_lift_54 : decode cX6_lift 54 = .ok (.getfield 127, 3) := by decide +kernel
theorem dX6_lift_57 : decode cX6_lift 57 = .ok (.iconst 1, 1) := by decide +kernel
theorem dX6_lift_58 : decode cX6_lift 58 = .ok (.iload_n 1, 1) := by decide +kernel
theorem dX6_lift_59 : decode cX6_lift 59 = .ok (.ishl, 1) := by decide +kernel
theorem dX6_lift_60 : decode cX6_lift 60 = .ok (.iconst (-1), 1) := by decide +kernel
theorem dX6_lift_61 : decode cX6_lift 61 = .ok (.ixor, 1) := by decide +kernel
theorem dX6_lift_62 : decode cX6_lift 62 = .ok (.iand, 1) := by decide +kernel
theorem dX6_lift_63 : decode cX6_lift 63 = .ok (.putfield 127, 3) := by decide +kernel
theorem dX6_lift_66 : decode cX6_lift 66 = .ok (.aload_n 0, 1) := by decide +kernel
theorem dX6_lift_67 : decode cX6_lift 67 = .ok (.getfield 19, 3) := by decide +kernel
theorem dX6_lift_70 : decode cX6_lift 70 = .ok (.getfield 127, 3) := by decide +kernel
theorem dX6_lift_73 : decode cX6_lift 73 = .ok (.invokestatic 103, 3) := by decide +kernel
theorem dX6_lift_76 : decode cX6_lift 76 = .ok (.ireturn, 1) := by decide +kernel
theorem dX6_choose_0 : decode cX6_choose 0 = .ok (.aload_n 0, 1) := by decide +kernel
theorem dX6_choose_1 : decode cX6_choose 1 = .ok (.iload_n 1, 1) := by decide +kernel
theorem dX6_choose_2 : decode cX6_choose 2 = .ok (.invokevirtual 132, 3) := by decide +kernel
theorem dX6_choose_5 : decode cX6_choose 5 = .ok (.iconst 1, 1) := by decide +kernel
theorem dX6_choose_6 : decode cX6_choose 6 = .ok (.iload_n 1, 1) := by decide +kernel
theorem dX6_choose_7 : decode cX6_choose 7 = .ok (.ishl, 1) := by decide +kernel
theorem dX6_choose_8 : decode cX6_choose 8 = .ok (.istore_n 2, 1) := by decide +kernel
theorem dX6_choose_9 : decode cX6_choose 9 = .ok (.aload_n 0, 1) := by decide +kernel
theorem dX6_choose_10 : decode cX6_choose 10 = .ok (.getfield 10, 3) := by decide +kernel
theorem dX6_choose_13 : decode cX6_choose 13 = .ok (.aload_n 0, 1) := by decide +kernel
theorem dX6_choose_14 : decode cX6_choose 14 = .ok (.getfield 19, 3) := by decide +kernel
theorem dX6_choose_17 : decode cX6_choose 17 = .ok (.iconst 0, 1) := by decide +kernel
theorem dX6_choose_18 : decode cX6_choose 18 = .ok (.iconst 0, 1) := by decide +kernel
theorem dX6_choose_19 : decode cX6_choose 19 = .ok (.aload_n 0, 1) := by decide +kernel
theorem dX6_choose_20 : decode cX6_choose 20 = .ok (.getfield 135, 3) := by decide +kernel
theorem dX6_choose_23 : decode cX6_choose 23 = .ok (.iload_n 2, 1) := by decide +kernel
theorem dX6_choose_24 : decode cX6_choose 24 = .ok (.ior, 1) := by decide +kernel
theorem dX6_choose_25 : decode cX6_choose 25 = .ok (.aload_n 0, 1) := by decide +kernel
theorem dX6_choose_26 : decode cX6_choose 26 = .ok (.getfield 138, 3) := by decide +kernel
theorem dX6_choose_29 : decode cX6_choose 29 = .ok (.invokestatic 141, 3) := by decide +kernel
theorem dX6_choose_32 : decode cX6_choose 32 = .ok (.ifCond .ne 13, 3) := by decide +kernel
theorem dX6_choose_35 : decode cX6_choose 35 = .ok (.new 82, 3) := by decide +kernel
theorem dX6_choose_38 : decode cX6_choose 38 = .ok (.dup, 1) := by decide +kernel
theorem dX6_choose_39 : decode cX6_choose 39 = .ok (.ldc 84, 2) := by decide +kernel
theorem dX6_choose_41 : decode cX6_choose 41 = .ok (.invokespecial 86, 3) := by decide +kernel
theorem dX6_choose_44 : decode cX6_choose 44 = .ok (.athrow, 1) := by decide +kernel
theorem dX6_choose_45 : decode cX6_choose 45 = .ok (.aload_n 0, 1) := by decide +kernel
theorem dX6_choose_46 : decode cX6_choose 46 = .ok (.dup, 1) := by decide +kernel
theorem dX6_choose_47 : decode cX6_choose 47 = .ok (.getfield 135, 3) := by decide +kernel
theorem dX6_choose_50 : decode cX6_choose 50 = .ok (.iload_n 2, 1) := by decide +kernel
theorem dX6_choose_51 : decode cX6_choose 51 = .ok (.ior, 1) := by decide +kernel
theorem dX6_choose_52 : decode cX6_choose 52 = .ok (.putfield 135, 3) := by decide +kernel
theorem dX6_choose_55 : decode cX6_choose 55 = .ok (.aload_n 0, 1) := by decide +kernel
theorem dX6_choose_56 : decode cX6_choose 56 = .ok (.invokevirtual 147, 3) := by decide +kernel
theorem dX6_choose_59 : decode cX6_choose 59 = .ok (.ireturn, 1) := by decide +kernel
theorem dX6_refuse_0 : decode cX6_refuse 0 = .ok (.aload_n 0, 1) := by decide +kernel
theorem dX6_refuse_1 : decode cX6_refuse 1 = .ok (.iload_n 1, 1) := by decide +kernel
theorem dX6_refuse_2 : decode cX6_refuse 2 = .ok (.invokevirtual 132, 3) := by decide +kernel
theorem dX6_refuse_5 : decode cX6_refuse 5 = .ok (.iconst 1, 1) := by decide +kernel
theorem dX6_refuse_6 : decode cX6_refuse 6 = .ok (.iload_n 1, 1) := by decide +kernel
theorem dX6_refuse_7 : decode cX6_refuse 7 = .ok (.ishl, 1) := by decide +kernel
theorem dX6_refuse_8 : decode cX6_refuse 8 = .ok (.istore_n 2, 1) := by decide +kernel
theorem dX6_refuse_9 : decode cX6_refuse 9 = .ok (.aload_n 0, 1) := by decide +kernel
theorem dX6_refuse_10 : decode cX6_refuse 10 = .ok (.getfield 10, 3) := by decide +kernel
theorem dX6_refuse_13 : decode cX6_refuse 13 = .ok (.aload_n 0, 1) := by decide +kernel
theorem dX6_refuse_14 : decode cX6_refuse 14 = .ok (.getfield 19, 3) := by decide +kernel
theorem dX6_refuse_17 : decode cX6_refuse 17 = .ok (.iconst 0, 1) := by decide +kernel
theorem dX6_refuse_18 : decode cX6_refuse 18 = .ok (.iconst 0, 1) := by decide +kernel
theorem dX6_refuse_19 : decode cX6_refuse 19 = .ok (.aload_n 0, 1) := by decide +kernel
theorem dX6_refuse_20 : decode cX6_refuse 20 = .ok (.getfield 135, 3) := by decide +kernel
theorem dX6_refuse_23 : decode cX6_refuse 23 = .ok (.aload_n 0, 1) := by decide +kernel
theorem dX6_refuse_24 : decode cX6_refuse 24 = .ok (.getfield 138, 3) := by decide +kernel
theorem dX6_refuse_27 : decode cX6_refuse 27 = .ok (.iload_n 2, 1) := by decide +kernel
theorem dX6_refuse_28 : decode cX6_refuse 28 = .ok (.ior, 1) := by decide +kernel
theorem dX6_refuse_29 : decode cX6_refuse 29 = .ok (.invokestatic 141, 3) := by decide +kernel
theorem dX6_refuse_32 : decode cX6_refuse 32 = .ok (.ifCond .ne 13, 3) := by decide +kernel
theorem dX6_refuse_35 : decode cX6_refuse 35 = .ok (.new 82, 3) := by decide +kernel
theorem dX6_refuse_38 : decode cX6_refuse 38 = .ok (.dup, 1) := by decide +kernel
theorem dX6_refuse_39 : decode cX6_refuse 39 = .ok (.ldc 84, 2) := by decide +kernel
theorem dX6_refuse_41 : decode cX6_refuse 41 = .ok (.invokespecial 86, 3) := by decide +kernel
theorem dX6_refuse_44 : decode cX6_refuse 44 = .ok (.athrow, 1) := by decide +kernel
theorem dX6_refuse_45 : decode cX6_refuse 45 = .ok (.aload_n 0, 1) := by decide +kernel
theorem dX6_refuse_46 : decode cX6_refuse 46 = .ok (.dup, 1) := by decide +kernel
theorem dX6_refuse_47 : decode cX6_refuse 47 = .ok (.getfield 138, 3) := by decide +kernel
theorem dX6_refuse_50 : decode cX6_refuse 50 = .ok (.iload_n 2, 1) := by decide +kernel
theorem dX6_refuse_51 : decode cX6_refuse 51 = .ok (.ior, 1) := by decide +kernel
theorem dX6_refuse_52 : decode cX6_refuse 52 = .ok (.putfield 138, 3) := by decide +kernel
theorem dX6_refuse_55 : decode cX6_refuse 55 = .ok (.aload_n 0, 1) := by decide +kernel
theorem dX6_refuse_56 : decode cX6_refuse 56 = .ok (.invokevirtual 147, 3) := by decide +kernel
theorem dX6_refuse_59 : decode cX6_refuse 59 = .ok (.ireturn, 1) := by decide +kernel
theorem dX6_retract_0 : decode cX6_retract 0 = .ok (.aload_n 0, 1) := by decide +kernel
theorem dX6_retract_1 : decode cX6_retract 1 = .ok (.iload_n 1, 1) := by decide +kernel
theorem dX6_retract_2 : decode cX6_retract 2 = .ok (.invokevirtual 44, 3) := by decide +kernel
theorem dX6_retract_5 : decode cX6_retract 5 = .ok (.aload_n 0, 1) := by decide +kernel
theorem dX6_retract_6 : decode cX6_retract 6 = .ok (.getfield 135, 3) := by decide +kernel
theorem dX6_retract_9 : decode cX6_retract 9 = .ok (.aload_n 0, 1) := by decide +kernel
theorem dX6_retract_10 : decode cX6_retract 10 = .ok (.getfield 138, 3) := by decide +kernel
theorem dX6_retract_13 : decode cX6_retract 13 = .ok (.ior, 1) := by decide +kernel
theorem dX6_retract_14 : decode cX6_retract 14 = .ok (.iload_n 1, 1) := by decide +kernel
theorem dX6_retract_15 : decode cX6_retract 15 = .ok (.invokestatic 87, 3) := by decide +kernel
theorem dX6_retract_18 : decode cX6_retract 18 = .ok (.ifCond .ne 13, 3) := by decide +kernel
theorem dX6_retract_21 : decode cX6_retract 21 = .ok (.new 59, 3) := by decide +kernel
theorem dX6_retract_24 : decode cX6_retract 24 = .ok (.dup, 1) := by decide +kernel
theorem dX6_retract_25 : decode cX6_retract 25 = .ok (.ldc 151, 2) := by decide +kernel
theorem dX6_retract_27 : decode cX6_retract 27 = .ok (.invokespecial 63, 3) := by decide +kernel
theorem dX6_retract_30 : decode cX6_retract 30 = .ok (.athrow, 1) := by decide +kernel
theorem dX6_retract_31 : decode cX6_retract 31 = .ok (.aload_n 0, 1) := by decide +kernel
theorem dX6_retract_32 : decode cX6_retract 32 = .ok (.getfield 135, 3) := by decide +kernel
theorem dX6_retract_35 : decode cX6_retract 35 = .ok (.iload_n 1, 1) := by decide +kernel
theorem dX6_retract_36 : decode cX6_retract 36 = .ok (.invokestatic 87, 3) := by decide +kernel
theorem dX6_retract_39 : decode cX6_retract 39 = .ok (.ifCond .eq 8, 3) := by decide +kernel
theorem dX6_retract_42 : decode cX6_retract 42 = .ok (.bipush 99, 2) := by decide +kernel
theorem dX6_retract_44 : decode cX6_retract 44 = .ok (.goto 5, 3) := by decide +kernel
theorem dX6_retract_47 : decode cX6_retract 47 = .ok (.bipush 114, 2) := by decide +kernel
theorem dX6_retract_49 : decode cX6_retract 49 = .ok (.istore_n 2, 1) := by decide +kernel
theorem dX6_retract_50 : decode cX6_retract 50 = .ok (.aload_n 0, 1) := by decide +kernel
theorem dX6_retract_51 : decode cX6_retract 51 = .ok (.iconst 1, 1) := by decide +kernel
theorem dX6_retract_52 : decode cX6_retract 52 = .ok (.iload_n 1, 1) := by decide +kernel
theorem dX6_retract_53 : decode cX6_retract 53 = .ok (.ishl, 1) := by decide +kernel
theorem dX6_retract_54 : decode cX6_retract 54 = .ok (.invokevirtual 153, 3) := by decide +kernel
theorem dX6_retract_57 : decode cX6_retract 57 = .ok (.iload_n 2, 1) := by decide +kernel
theorem dX6_retract_58 : decode cX6_retract 58 = .ok (.ireturn, 1) := by decide +kernel
theorem dX6_retractAll_0 : decode cX6_retractAll 0 = .ok (.aload_n 0, 1) := by decide +kernel
theorem dX6_retractAll_1 : decode cX6_retractAll 1 = .ok (.getfield 135, 3) := by decide +kernel
theorem dX6_retractAll_4 : decode cX6_retractAll 4 = .ok (.aload_n 0, 1) := by decide +kernel
theorem dX6_retractAll_5 : decode cX6_retractAll 5 = .ok (.getfield 138, 3) := by decide +kernel
theorem dX6_retractAll_8 : decode cX6_retractAll 8 = .ok (.ior, 1) := by decide +kernel
theorem dX6_retractAll_9 : decode cX6_retractAll 9 = .ok (.istore_n 1, 1) := by decide +kernel
theorem dX6_retractAll_10 : decode cX6_retractAll 10 = .ok (.aload_n 0, 1) := by decide +kernel
theorem dX6_retractAll_11 : decode cX6_retractAll 11 = .ok (.iload_n 1, 1) := by decide +kernel
theorem dX6_retractAll_12 : decode cX6_retractAll 12 = .ok (.invokevirtual 153, 3) := by decide +kernel
theorem dX6_retractAll_15 : decode cX6_retractAll 15 = .ok (.iload_n 1, 1) := by decide +kernel
theorem dX6_retractAll_16 : decode cX6_retractAll 16 = .ok (.invokestatic 103, 3) := by decide +kernel
theorem dX6_retractAll_19 : decode cX6_retractAll 19 = .ok (.ireturn, 1) := by decide +kernel
theorem dX6_stateOf_0 : decode cX6_stateOf 0 = .ok (.aload_n 0, 1) := by decide +kernel
theorem dX6_stateOf_1 : decode cX6_stateOf 1 = .ok (.iload_n 1, 1) := by decide +kernel
theorem dX6_stateOf_2 : decode cX6_stateOf 2 = .ok (.invokevirtual 44, 3) := by decide +kernel
theorem dX6_stateOf_5 : decode cX6_stateOf 5 = .ok (.iconst 1, 1) := by decide +kernel
theorem dX6_stateOf_6 : decode cX6_stateOf 6 = .ok (.iload_n 1, 1) := by decide +kernel
theorem dX6_stateOf_7 : decode cX6_stateOf 7 = .ok (.ishl, 1) := by decide +kernel
theorem dX6_stateOf_8 : decode cX6_stateOf 8 = .ok (.istore_n 2, 1) := by decide +kernel
theorem dX6_stateOf_9 : decode cX6_stateOf 9 = .ok (.aload_n 0, 1) := by decide +kernel
theorem dX6_stateOf_10 : decode cX6_stateOf 10 = .ok (.getfield 10, 3) := by decide +kernel
theorem dX6_stateOf_13 : decode cX6_stateOf 13 = .ok (.aload_n 0, 1) := by decide +kernel
theorem dX6_stateOf_14 : decode cX6_stateOf 14 = .ok (.getfield 19, 3) := by decide +kernel
theorem dX6_stateOf_17 : decode cX6_stateOf 17 = .ok (.iconst 0, 1) := by decide +kernel
theorem dX6_stateOf_18 : decode cX6_stateOf 18 = .ok (.iconst 0, 1) := by decide +kernel
theorem dX6_stateOf_19 : decode cX6_stateOf 19 = .ok (.aload_n 0, 1) := by decide +kernel
theorem dX6_stateOf_20 : decode cX6_stateOf 20 = .ok (.getfield 135, 3) := by decide +kernel
theorem dX6_stateOf_23 : decode cX6_stateOf 23 = .ok (.iload_n 2, 1) := by decide +kernel
theorem dX6_stateOf_24 : decode cX6_stateOf 24 = .ok (.ior, 1) := by decide +kernel
theorem dX6_stateOf_25 : decode cX6_stateOf 25 = .ok (.aload_n 0, 1) := by decide +kernel
theorem dX6_stateOf_26 : decode cX6_stateOf 26 = .ok (.getfield 138, 3) := by decide +kernel
theorem dX6_stateOf_29 : decode cX6_stateOf 29 = .ok (.invokestatic 141, 3) := by decide +kernel
theorem dX6_stateOf_32 : decode cX6_stateOf 32 = .ok (.istore_n 3, 1) := by decide +kernel
theorem dX6_stateOf_33 : decode cX6_stateOf 33 = .ok (.aload_n 0, 1) := by decide +kernel
theorem dX6_stateOf_34 : decode cX6_stateOf 34 = .ok (.getfield 10, 3) := by decide +kernel
theorem dX6_stateOf_37 : decode cX6_stateOf 37 = .ok (.aload_n 0, 1) := by decide +kernel
theorem dX6_stateOf_38 : decode cX6_stateOf 38 = .ok (.getfield 19, 3) := by decide +kernel
theorem dX6_stateOf_41 : decode cX6_stateOf 41 = .ok (.iconst 0, 1) := by decide +kernel
theorem dX6_stateOf_42 : decode cX6_stateOf 42 = .ok (.iconst 0, 1) := by decide +kernel
theorem dX6_stateOf_43 : decode cX6_stateOf 43 = .ok (.aload_n 0, 1) := by decide +kernel
theorem dX6_stateOf_44 : decode cX6_stateOf 44 = .ok (.getfield 135, 3) := by decide +kernel
theorem dX6_stateOf_47 : decode cX6_stateOf 47 = .ok (.aload_n 0, 1) := by decide +kernel
theorem dX6_stateOf_48 : decode cX6_stateOf 48 = .ok (.getfield 138, 3) := by decide +kernel
theorem dX6_stateOf_51 : decode cX6_stateOf 51 = .ok (.iload_n 2, 1) := by decide +kernel
theorem dX6_stateOf_52 : decode cX6_stateOf 52 = .ok (.ior, 1) := by decide +kernel
theorem dX6_stateOf_53 : decode cX6_stateOf 53 = .ok (.invokestatic 141, 3) := by decide +kernel
theorem dX6_stateOf_56 : decode cX6_stateOf 56 = .ok (.istore 4, 2) := by decide +kernel
theorem dX6_stateOf_58 : decode cX6_stateOf 58 = .ok (.aload_n 0, 1) := by decide +kernel
theorem dX6_stateOf_59 : decode cX6_stateOf 59 = .ok (.iload_n 1, 1) := by decide +kernel
theorem dX6_stateOf_60 : decode cX6_stateOf 60 = .ok (.iload_n 3, 1) := by decide +kernel
theorem dX6_stateOf_61 : decode cX6_stateOf 61 = .ok (.iload 4, 2) := by decide +kernel
theorem dX6_stateOf_63 : decode cX6_stateOf 63 = .ok (.invokevirtual 156, 3) := by decide +kernel
theorem dX6_stateOf_66 : decode cX6_stateOf 66 = .ok (.ireturn, 1) := by decide +kernel
theorem dX6_stateByAll_0 : decode cX6_stateByAll 0 = .ok (.aload_n 0, 1) := by decide +kernel
theorem dX6_stateByAll_1 : decode cX6_stateByAll 1 = .ok (.iload_n 1, 1) := by decide +kernel
theorem dX6_stateByAll_2 : decode cX6_stateByAll 2 = .ok (.invokevirtual 44, 3) := by decide +kernel
theorem dX6_stateByAll_5 : decode cX6_stateByAll 5 = .ok (.aload_n 0, 1) := by decide +kernel
theorem dX6_stateByAll_6 : decode cX6_stateByAll 6 = .ok (.invokevirtual 160, 3) := by decide +kernel
theorem dX6_stateByAll_9 : decode cX6_stateByAll 9 = .ok (.iload_n 1, 1) := by decide +kernel
theorem dX6_stateByAll_10 : decode cX6_stateByAll 10 = .ok (.invokestatic 87, 3) := by decide +kernel
theorem dX6_stateByAll_13 : decode cX6_stateByAll 13 = .ok (.istore_n 2, 1) := by decide +kernel
theorem dX6_stateByAll_14 : decode cX6_stateByAll 14 = .ok (.aload_n 0, 1) := by decide +kernel
theorem dX6_stateByAll_15 : decode cX6_stateByAll 15 = .ok (.invokevirtual 163, 3) := by decide +kernel
theorem dX6_stateByAll_18 : decode cX6_stateByAll 18 = .ok (.iload_n 1, 1) := by decide +kernel
theorem dX6_stateByAll_19 : decode cX6_stateByAll 19 = .ok (.invokestatic 87, 3) := by decide +kernel
theorem dX6_stateByAll_22 : decode cX6_stateByAll 22 = .ok (.ifCond .ne 7, 3) := by decide +kernel
theorem dX6_stateByAll_25 : decode cX6_stateByAll 25 = .ok (.iconst 1, 1) := by decide +kernel
theorem dX6_stateByAll_26 : decode cX6_stateByAll 26 = .ok (.goto 4, 3) := by decide +kernel
theorem dX6_stateByAll_29 : decode cX6_stateByAll 29 = .ok (.iconst 0, 1) := by decide +kernel
theorem dX6_stateByAll_30 : decode cX6_stateByAll 30 = .ok (.istore_n 3, 1) := by decide +kernel
theorem dX6_stateByAll_31 : decode cX6_stateByAll 31 = .ok (.aload_n 0, 1) := by decide +kernel
theorem dX6_stateByAll_32 : decode cX6_stateByAll 32 = .ok (.iload_n 1, 1) := by decide +kernel
theorem dX6_stateByAll_33 : decode cX6_stateByAll 33 = .ok (.iload_n 2, 1) := by decide +kernel
theorem dX6_stateByAll_34 : decode cX6_stateByAll 34 = .ok (.iload_n 3, 1) := by decide +kernel
theorem dX6_stateByAll_35 : decode cX6_stateByAll 35 = .ok (.invokevirtual 156, 3) := by decide +kernel
theorem dX6_stateByAll_38 : decode cX6_stateByAll 38 = .ok (.ireturn, 1) := by decide +kernel
theorem dX6_unknown_0 : decode cX6_unknown 0 = .ok (.aload_n 0, 1) := by decide +kernel
theorem dX6_unknown_1 : decode cX6_unknown 1 = .ok (.invokevirtual 147, 3) := by decide +kernel
theorem dX6_unknown_4 : decode cX6_unknown 4 = .ok (.ireturn, 1) := by decide +kernel
theorem dX6_isConfiguration_0 : decode cX6_isConfiguration 0 = .ok (.aload_n 0, 1) := by decide +kernel
theorem dX6_isConfiguration_1 : decode cX6_isConfiguration 1 = .ok (.iload_n 1, 1) := by decide +kernel
theorem dX6_isConfiguration_2 : decode cX6_isConfiguration 2 = .ok (.invokevirtual 190, 3) := by decide +kernel
theorem dX6_isConfiguration_5 : decode cX6_isConfiguration 5 = .ok (.aload_n 0, 1) := by decide +kernel
theorem dX6_isConfiguration_6 : decode cX6_isConfiguration 6 = .ok (.iload_n 1, 1) := by decide +kernel
theorem dX6_isConfiguration_7 : decode cX6_isConfiguration 7 = .ok (.invokevirtual 193, 3) := by decide +kernel
theorem dX6_isConfiguration_10 : decode cX6_isConfiguration 10 = .ok (.ireturn, 1) := by decide +kernel
theorem dX6_completions_0 : decode cX6_completions 0 = .ok (.aload_n 0, 1) := by decide +kernel
theorem dX6_completions_1 : decode cX6_completions 1 = .ok (.getfield 10, 3) := by decide +kernel
theorem dX6_completions_4 : decode cX6_completions 4 = .ok (.aload_n 0, 1) := by decide +kernel
theorem dX6_completions_5 : decode cX6_completions 5 = .ok (.getfield 19, 3) := by decide +kernel
theorem dX6_completions_8 : decode cX6_completions 8 = .ok (.iconst 0, 1) := by decide +kernel
theorem dX6_completions_9 : decode cX6_completions 9 = .ok (.iconst 0, 1) := by decide +kernel
theorem dX6_completions_10 : decode cX6_completions 10 = .ok (.aload_n 0, 1) := by decide +kernel
theorem dX6_completions_11 : decode cX6_completions 11 = .ok (.getfield 135, 3) := by decide +kernel
theorem dX6_completions_14 : decode cX6_completions 14 = .ok (.aload_n 0, 1) := by decide +kernel
theorem dX6_completions_15 : decode cX6_completions 15 = .ok (.getfield 138, 3) := by decide +kernel
theorem dX6_completions_18 : decode cX6_completions 18 = .ok (.invokestatic 196, 3) := by decide +kernel
theorem dX6_completions_21 : decode cX6_completions 21 = .ok (.lreturn, 1) := by decide +kernel
theorem dX6_completionsByAll_0 : decode cX6_completionsByAll 0 = .ok (.lconst 0, 1) := by decide +kernel
theorem dX6_completionsByAll_1 : decode cX6_completionsByAll 1 = .ok (.lstore_n 1, 1) := by decide +kernel
theorem dX6_completionsByAll_2 : decode cX6_completionsByAll 2 = .ok (.aload_n 0, 1) := by decide +kernel
theorem dX6_completionsByAll_3 : decode cX6_completionsByAll 3 = .ok (.getfield 10, 3) := by decide +kernel
theorem dX6_completionsByAll_6 : decode cX6_completionsByAll 6 = .ok (.invokevirtual 200, 3) := by decide +kernel
theorem dX6_completionsByAll_9 : decode cX6_completionsByAll 9 = .ok (.istore_n 3, 1) := by decide +kernel
theorem dX6_completionsByAll_10 : decode cX6_completionsByAll 10 = .ok (.iconst 0, 1) := by decide +kernel
theorem dX6_completionsByAll_11 : decode cX6_completionsByAll 11 = .ok (.istore 4, 2) := by decide +kernel
theorem dX6_completionsByAll_13 : decode cX6_completionsByAll 13 = .ok (.iload 4, 2) := by decide +kernel
theorem dX6_completionsByAll_15 : decode cX6_completionsByAll 15 = .ok (.iload_n 3, 1) := by decide +kernel
theorem dX6_completionsByAll_16 : decode cX6_completionsByAll 16 = .ok (.if_icmp .gt 22, 3) := by decide +kernel
theorem dX6_completionsByAll_19 : decode cX6_completionsByAll 19 = .ok (.aload_n 0, 1) := by decide +kernel
theorem dX6_completionsByAll_20 : decode cX6_completionsByAll 20 = .ok (.iload 4, 2) := by decide +kernel
theorem dX6_completionsByAll_22 : decode cX6_completionsByAll 22 = .ok (.invokevirtual 203, 3) := by decide +kernel
theorem dX6_completionsByAll_25 : decode cX6_completionsByAll 25 = .ok (.ifCond .eq 7, 3) := by decide +kernel
theorem dX6_completionsByAll_28 : decode cX6_completionsByAll 28 = .ok (.lload_n 1, 1) := by decide +kernel
theorem dX6_completionsByAll_29 : decode cX6_completionsByAll 29 = .ok (.lconst 1, 1) := by decide +kernel
theorem dX6_completionsByAll_30 : decode cX6_completionsByAll 30 = .ok (.ladd, 1) := by decide +kernel
theorem dX6_completionsByAll_31 : decode cX6_completionsByAll 31 = .ok (.lstore_n 1, 1) := by decide +kernel
theorem dX6_completionsByAll_32 : decode cX6_completionsByAll 32 = .ok (.iinc 4 1, 3) := by decide +kernel
theorem dX6_completionsByAll_35 : decode cX6_completionsByAll 35 = .ok (.goto (-22), 3) := by decide +kernel
theorem dX6_completionsByAll_38 : decode cX6_completionsByAll 38 = .ok (.lload_n 1, 1) := by decide +kernel
theorem dX6_completionsByAll_39 : decode cX6_completionsByAll 39 = .ok (.lreturn, 1) := by decide +kernel
theorem dX6_checkFeature_0 : decode cX6_checkFeature 0 = .ok (.iload_n 1, 1) := by decide +kernel
theorem dX6_checkFeature_1 : decode cX6_checkFeature 1 = .ok (.ifCond .lt 14, 3) := by decide +kernel
theorem dX6_checkFeature_4 : decode cX6_checkFeature 4 = .ok (.iload_n 1, 1) := by decide +kernel
theorem dX6_checkFeature_5 : decode cX6_checkFeature 5 = .ok (.aload_n 0, 1) := by decide +kernel
theorem dX6_checkFeature_6 : decode cX6_checkFeature 6 = .ok (.getfield 10, 3) := by decide +kernel
theorem dX6_checkFeature_9 : decode cX6_checkFeature 9 = .ok (.getfield 55, 3) := by decide +kernel
theorem dX6_checkFeature_12 : decode cX6_checkFeature 12 = .ok (.if_icmp .lt 14, 3) := by decide +kernel
theorem dX6_checkFeature_15 : decode cX6_checkFeature 15 = .ok (.new 243, 3) := by decide +kernel
theorem dX6_checkFeature_18 : decode cX6_checkFeature 18 = .ok (.dup, 1) := by decide +kernel
theorem dX6_checkFeature_19 : decode cX6_checkFeature 19 = .ok (.ldc_w 267, 3) := by decide +kernel
theorem dX6_checkFeature_22 : decode cX6_checkFeature 22 = .ok (.invokespecial 247, 3) := by decide +kernel
theorem dX6_checkFeature_25 : decode cX6_checkFeature 25 = .ok (.athrow, 1) := by decide +kernel
theorem dX6_checkFeature_26 : decode cX6_checkFeature 26 = .ok (.return_, 1) := by decide +kernel
theorem dX6_checkNotRoot_0 : decode cX6_checkNotRoot 0 = .ok (.iload_n 1, 1) := by decide +kernel
theorem dX6_checkNotRoot_1 : decode cX6_checkNotRoot 1 = .ok (.ifCond .ne 14, 3) := by decide +kernel
theorem dX6_checkNotRoot_4 : decode cX6_checkNotRoot 4 = .ok (.new 48, 3) := by decide +kernel
theorem dX6_checkNotRoot_7 : decode cX6_checkNotRoot 7 = .ok (.dup, 1) := by decide +kernel
theorem dX6_checkNotRoot_8 : decode cX6_checkNotRoot 8 = .ok (.ldc_w 269, 3) := by decide +kernel
theorem dX6_checkNotRoot_11 : decode cX6_checkNotRoot 11 = .ok (.invokespecial 52, 3) := by decide +kernel
theorem dX6_checkNotRoot_14 : decode cX6_checkNotRoot 14 = .ok (.athrow, 1) := by decide +kernel
theorem dX6_checkNotRoot_15 : decode cX6_checkNotRoot 15 = .ok (.return_, 1) := by decide +kernel
theorem dX6_checkDifferent_0 : decode cX6_checkDifferent 0 = .ok (.iload_n 1, 1) := by decide +kernel
theorem dX6_checkDifferent_1 : decode cX6_checkDifferent 1 = .ok (.iload_n 2, 1) := by decide +kernel
theorem dX6_checkDifferent_2 : decode cX6_checkDifferent 2 = .ok (.if_icmp .ne 14, 3) := by decide +kernel
theorem dX6_checkDifferent_5 : decode cX6_checkDifferent 5 = .ok (.new 48, 3) := by decide +kernel
theorem dX6_checkDifferent_8 : decode cX6_checkDifferent 8 = .ok (.dup, 1) := by decide +kernel
theorem dX6_checkDifferent_9 : decode cX6_checkDifferent 9 = .ok (.ldc_w 271, 3) := by decide +kernel
theorem dX6_checkDifferent_12 : decode cX6_checkDifferent 12 = .ok (.invokespecial 52, 3) := by decide +kernel
theorem dX6_checkDifferent_15 : decode cX6_checkDifferent 15 = .ok (.athrow, 1) := by decide +kernel
theorem dX6_checkDifferent_16 : decode cX6_checkDifferent 16 = .ok (.return_, 1) := by decide +kernel
theorem dX6_checkDecidable_0 : decode cX6_checkDecidable 0 = .ok (.aload_n 0, 1) := by decide +kernel
theorem dX6_checkDecidable_1 : decode cX6_checkDecidable 1 = .ok (.iload_n 1, 1) := by decide +kernel
theorem dX6_checkDecidable_2 : decode cX6_checkDecidable 2 = .ok (.invokevirtual 44, 3) := by decide +kernel
theorem dX6_checkDecidable_5 : decode cX6_checkDecidable 5 = .ok (.aload_n 0, 1) := by decide +kernel
theorem dX6_checkDecidable_6 : decode cX6_checkDecidable 6 = .ok (.iload_n 1, 1) := by decide +kernel
theorem dX6_checkDecidable_7 : decode cX6_checkDecidable 7 = .ok (.invokevirtual 72, 3) := by decide +kernel
theorem dX6_checkDecidable_10 : decode cX6_checkDecidable 10 = .ok (.aload_n 0, 1) := by decide +kernel
theorem dX6_checkDecidable_11 : decode cX6_checkDecidable 11 = .ok (.getfield 135, 3) := by decide +kernel
theorem dX6_checkDecidable_14 : decode cX6_checkDecidable 14 = .ok (.aload_n 0, 1) := by decide +kernel
theorem dX6_checkDecidable_15 : decode cX6_checkDecidable 15 = .ok (.getfield 138, 3) := by decide +kernel
theorem dX6_checkDecidable_18 : decode cX6_checkDecidable 18 = .ok (.ior, 1) := by decide +kernel
theorem dX6_checkDecidable_19 : decode cX6_checkDecidable 19 = .ok (.iload_n 1, 1) := by decide +kernel
theorem dX6_checkDecidable_20 : decode cX6_checkDecidable 20 = .ok (.invokestatic 87, 3) := by decide +kernel
theorem dX6_checkDecidable_23 : decode cX6_checkDecidable 23 = .ok (.ifCond .eq 14, 3) := by decide +kernel
theorem dX6_checkDecidable_26 : decode cX6_checkDecidable 26 = .ok (.new 59, 3) := by decide +kernel
theorem dX6_checkDecidable_29 : decode cX6_checkDecidable 29 = .ok (.dup, 1) := by decide +kernel
theorem dX6_checkDecidable_30 : decode cX6_checkDecidable 30 = .ok (.ldc_w 273, 3) := by decide +kernel
theorem dX6_checkDecidable_33 : decode cX6_checkDecidable 33 = .ok (.invokespecial 63, 3) := by decide +kernel
theorem dX6_checkDecidable_36 : decode cX6_checkDecidable 36 = .ok (.athrow, 1) := by decide +kernel
theorem dX6_checkDecidable_37 : decode cX6_checkDecidable 37 = .ok (.return_, 1) := by decide +kernel
theorem dX6_checkSet_0 : decode cX6_checkSet 0 = .ok (.iload_n 1, 1) := by decide +kernel
theorem dX6_checkSet_1 : decode cX6_checkSet 1 = .ok (.ifCond .lt 14, 3) := by decide +kernel
theorem dX6_checkSet_4 : decode cX6_checkSet 4 = .ok (.iload_n 1, 1) := by decide +kernel
theorem dX6_checkSet_5 : decode cX6_checkSet 5 = .ok (.aload_n 0, 1) := by decide +kernel
theorem dX6_checkSet_6 : decode cX6_checkSet 6 = .ok (.getfield 10, 3) := by decide +kernel
theorem dX6_checkSet_9 : decode cX6_checkSet 9 = .ok (.invokevirtual 200, 3) := by decide +kernel
theorem dX6_checkSet_12 : decode cX6_checkSet 12 = .ok (.if_icmp .le 14, 3) := by decide +kernel
theorem dX6_checkSet_15 : decode cX6_checkSet 15 = .ok (.new 48, 3) := by decide +kernel
theorem dX6_checkSet_18 : decode cX6_checkSet 18 = .ok (.dup, 1) := by decide +kernel
theorem dX6_checkSet_19 : decode cX6_checkSet 19 = .ok (.ldc_w 275, 3) := by decide +kernel
theorem dX6_checkSet_22 : decode cX6_checkSet 22 = .ok (.invokespecial 52, 3) := by decide +kernel
theorem dX6_checkSet_25 : decode cX6_checkSet 25 = .ok (.athrow, 1) := by decide +kernel
theorem dX6_checkSet_26 : decode cX6_checkSet 26 = .ok (.return_, 1) := by decide +kernel
theorem dX6_has_0 : decode cX6_has 0 = .ok (.iload_n 0, 1) := by decide +kernel
theorem dX6_has_1 : decode cX6_has 1 = .ok (.iload_n 1, 1) := by decide +kernel
theorem dX6_has_2 : decode cX6_has 2 = .ok (.ishr, 1) := by decide +kernel
theorem dX6_has_3 : decode cX6_has 3 = .ok (.iconst 1, 1) := by decide +kernel
theorem dX6_has_4 : decode cX6_has 4 = .ok (.iand, 1) := by decide +kernel
theorem dX6_has_5 : decode cX6_has 5 = .ok (.ifCond .eq 7, 3) := by decide +kernel
theorem dX6_has_8 : decode cX6_has 8 = .ok (.iconst 1, 1) := by decide +kernel
theorem dX6_has_9 : decode cX6_has 9 = .ok (.goto 4, 3) := by decide +kernel
theorem dX6_has_12 : decode cX6_has 12 = .ok (.iconst 0, 1) := by decide +kernel
theorem dX6_has_13 : decode cX6_has 13 = .ok (.ireturn, 1) := by decide +kernel
theorem dX6_stateLetter_0 : decode cX6_stateLetter 0 = .ok (.aload_n 0, 1) := by decide +kernel
theorem dX6_stateLetter_1 : decode cX6_stateLetter 1 = .ok (.getfield 135, 3) := by decide +kernel
theorem dX6_stateLetter_4 : decode cX6_stateLetter 4 = .ok (.aload_n 0, 1) := by decide +kernel
theorem dX6_stateLetter_5 : decode cX6_stateLetter 5 = .ok (.getfield 138, 3) := by decide +kernel
theorem dX6_stateLetter_8 : decode cX6_stateLetter 8 = .ok (.ior, 1) := by decide +kernel
theorem dX6_stateLetter_9 : decode cX6_stateLetter 9 = .ok (.iload_n 1, 1) := by decide +kernel
theorem dX6_stateLetter_10 : decode cX6_stateLetter 10 = .ok (.invokestatic 87, 3) := by decide +kernel
theorem dX6_stateLetter_13 : decode cX6_stateLetter 13 = .ok (.ifCond .eq 22, 3) := by decide +kernel
theorem dX6_stateLetter_16 : decode cX6_stateLetter 16 = .ok (.aload_n 0, 1) := by decide +kernel
theorem dX6_stateLetter_17 : decode cX6_stateLetter 17 = .ok (.getfield 135, 3) := by decide +kernel
theorem dX6_stateLetter_20 : decode cX6_stateLetter 20 = .ok (.iload_n 1, 1) := by decide +kernel
theorem dX6_stateLetter_21 : decode cX6_stateLetter 21 = .ok (.invokestatic 87, 3) := by decide +kernel
theorem dX6_stateLetter_24 : decode cX6_stateLetter 24 = .ok (.ifCond .eq 8, 3) := by decide +kernel
theorem dX6_stateLetter_27 : decode cX6_stateLetter 27 = .ok (.bipush 99, 2) := by decide +kernel
theorem dX6_stateLetter_29 : decode cX6_stateLetter 29 = .ok (.goto 5, 3) := by decide +kernel
theorem dX6_stateLetter_32 : decode cX6_stateLetter 32 = .ok (.bipush 114, 2) := by decide +kernel
theorem dX6_stateLetter_34 : decode cX6_stateLetter 34 = .ok (.ireturn, 1) := by decide +kernel
theorem dX6_stateLetter_35 : decode cX6_stateLetter 35 = .ok (.iload_n 2, 1) := by decide +kernel
theorem dX6_stateLetter_36 : decode cX6_stateLetter 36 = .ok (.ifCond .eq 15, 3) := by decide +kernel
theorem dX6_stateLetter_39 : decode cX6_stateLetter 39 = .ok (.iload_n 3, 1) := by decide +kernel
theorem dX6_stateLetter_40 : decode cX6_stateLetter 40 = .ok (.ifCond .eq 8, 3) := by decide +kernel
theorem dX6_stateLetter_43 : decode cX6_stateLetter 43 = .ok (.bipush 111, 2) := by decide +kernel
theorem dX6_stateLetter_45 : decode cX6_stateLetter 45 = .ok (.goto 5, 3) := by decide +kernel
theorem dX6_stateLetter_48 : decode cX6_stateLetter 48 = .ok (.bipush 97, 2) := by decide +kernel
theorem dX6_stateLetter_50 : decode cX6_stateLetter 50 = .ok (.ireturn, 1) := by decide +kernel
theorem dX6_stateLetter_51 : decode cX6_stateLetter 51 = .ok (.bipush 120, 2) := by decide +kernel
theorem dX6_stateLetter_53 : decode cX6_stateLetter 53 = .ok (.ireturn, 1) := by decide +kernel
theorem dX6_hasCompletion_0 : decode cX6_hasCompletion 0 = .ok (.aload_n 0, 1) := by decide +kernel
theorem dX6_hasCompletion_1 : decode cX6_hasCompletion 1 = .ok (.getfield 10, 3) := by decide +kernel
theorem dX6_hasCompletion_4 : decode cX6_hasCompletion 4 = .ok (.aload_n 0, 1) := by decide +kernel
theorem dX6_hasCompletion_5 : decode cX6_hasCompletion 5 = .ok (.getfield 19, 3) := by decide +kernel
theorem dX6_hasCompletion_8 : decode cX6_hasCompletion 8 = .ok (.iconst 0, 1) := by decide +kernel
theorem dX6_hasCompletion_9 : decode cX6_hasCompletion 9 = .ok (.iconst 0, 1) := by decide +kernel
theorem dX6_hasCompletion_10 : decode cX6_hasCompletion 10 = .ok (.aload_n 0, 1) := by decide +kernel
theorem dX6_hasCompletion_11 : decode cX6_hasCompletion 11 = .ok (.getfield 135, 3) := by decide +kernel
theorem dX6_hasCompletion_14 : decode cX6_hasCompletion 14 = .ok (.aload_n 0, 1) := by decide +kernel
theorem dX6_hasCompletion_15 : decode cX6_hasCompletion 15 = .ok (.getfield 138, 3) := by decide +kernel
theorem dX6_hasCompletion_18 : decode cX6_hasCompletion 18 = .ok (.invokestatic 141, 3) := by decide +kernel
theorem dX6_hasCompletion_21 : decode cX6_hasCompletion 21 = .ok (.ireturn, 1) := by decide +kernel
theorem dX6_isAllowed_0 : decode cX6_isAllowed 0 = .ok (.aload_n 0, 1) := by decide +kernel
theorem dX6_isAllowed_1 : decode cX6_isAllowed 1 = .ok (.getfield 10, 3) := by decide +kernel
theorem dX6_isAllowed_4 : decode cX6_isAllowed 4 = .ok (.iload_n 1, 1) := by decide +kernel
theorem dX6_isAllowed_5 : decode cX6_isAllowed 5 = .ok (.invokevirtual 277, 3) := by decide +kernel
theorem dX6_isAllowed_8 : decode cX6_isAllowed 8 = .ok (.ifCond .eq 18, 3) := by decide +kernel
theorem dX6_isAllowed_11 : decode cX6_isAllowed 11 = .ok (.aload_n 0, 1) := by decide +kernel
theorem dX6_isAllowed_12 : decode cX6_isAllowed 12 = .ok (.getfield 19, 3) := by decide +kernel
theorem dX6_isAllowed_15 : decode cX6_isAllowed 15 = .ok (.iload_n 1, 1) := by decide +kernel
theorem dX6_isAllowed_16 : decode cX6_isAllowed 16 = .ok (.invokevirtual 280, 3) := by decide +kernel
theorem dX6_isAllowed_19 : decode cX6_isAllowed 19 = .ok (.ifCond .eq 7, 3) := by decide +kernel
theorem dX6_isAllowed_22 : decode cX6_isAllowed 22 = .ok (.iconst 1, 1) := by decide +kernel
theorem dX6_isAllowed_23 : decode cX6_isAllowed 23 = .ok (.goto 4, 3) := by decide +kernel
theorem dX6_isAllowed_26 : decode cX6_isAllowed 26 = .ok (.iconst 0, 1) := by decide +kernel
theorem dX6_isAllowed_27 : decode cX6_isAllowed 27 = .ok (.ireturn, 1) := by decide +kernel
theorem dX6_isCompletion_0 : decode cX6_isCompletion 0 = .ok (.aload_n 0, 1) := by decide +kernel
theorem dX6_isCompletion_1 : decode cX6_isCompletion 1 = .ok (.getfield 135, 3) := by decide +kernel
theorem dX6_isCompletion_4 : decode cX6_isCompletion 4 = .ok (.iload_n 1, 1) := by decide +kernel
theorem dX6_isCompletion_5 : decode cX6_isCompletion 5 = .ok (.iconst (-1), 1) := by decide +kernel
theorem dX6_isCompletion_6 : decode cX6_isCompletion 6 = .ok (.ixor, 1) := by decide +kernel
theorem dX6_isCompletion_7 : decode cX6_isCompletion 7 = .ok (.iand, 1) := by decide +kernel
theorem dX6_isCompletion_8 : decode cX6_isCompletion 8 = .ok (.ifCond .ne 24, 3) := by decide +kernel
theorem dX6_isCompletion_11 : decode cX6_isCompletion 11 = .ok (.aload_n 0, 1) := by decide +kernel
theorem dX6_isCompletion_12 : decode cX6_isCompletion 12 = .ok (.getfield 138, 3) := by decide +kernel
theorem dX6_isCompletion_15 : decode cX6_isCompletion 15 = .ok (.iload_n 1, 1) := by decide +kernel
theorem dX6_isCompletion_16 : decode cX6_isCompletion 16 = .ok (.iand, 1) := by decide +kernel
theorem dX6_isCompletion_17 : decode cX6_isCompletion 17 = .ok (.ifCond .ne 15, 3) := by decide +kernel
theorem dX6_isCompletion_20 : decode cX6_isCompletion 20 = .ok (.aload_n 0, 1) := by decide +kernel
theorem dX6_isCompletion_21 : decode cX6_isCompletion 21 = .ok (.iload_n 1, 1) := by decide +kernel
theorem dX6_isCompletion_22 : decode cX6_isCompletion 22 = .ok (.invokevirtual 193, 3) := by decide +kernel
theorem dX6_isCompletion_25 : decode cX6_isCompletion 25 = .ok (.ifCond .eq 7, 3) := by decide +kernel
theorem dX6_isCompletion_28 : decode cX6_isCompletion 28 = .ok (.iconst 1, 1) := by decide +kernel
theorem dX6_isCompletion_29 : decode cX6_isCompletion 29 = .ok (.goto 4, 3) := by decide +kernel
theorem dX6_isCompletion_32 : decode cX6_isCompletion 32 = .ok (.iconst 0, 1) := by decide +kernel
theorem dX6_isCompletion_33 : decode cX6_isCompletion 33 = .ok (.ireturn, 1) := by decide +kernel
theorem dX6_featuresInAll_0 : decode cX6_featuresInAll 0 = .ok (.aload_n 0, 1) := by decide +kernel
theorem dX6_featuresInAll_1 : decode cX6_featuresInAll 1 = .ok (.getfield 10, 3) := by decide +kernel
theorem dX6_featuresInAll_4 : decode cX6_featuresInAll 4 = .ok (.invokevirtual 200, 3) := by decide +kernel
theorem dX6_featuresInAll_7 : decode cX6_featuresInAll 7 = .ok (.istore_n 1, 1) := by decide +kernel
theorem dX6_featuresInAll_8 : decode cX6_featuresInAll 8 = .ok (.iload_n 1, 1) := by decide +kernel
theorem dX6_featuresInAll_9 : decode cX6_featuresInAll 9 = .ok (.istore_n 2, 1) := by decide +kernel
theorem dX6_featuresInAll_10 : decode cX6_featuresInAll 10 = .ok (.iconst 0, 1) := by decide +kernel
theorem dX6_featuresInAll_11 : decode cX6_featuresInAll 11 = .ok (.istore_n 3, 1) := by decide +kernel
theorem dX6_featuresInAll_12 : decode cX6_featuresInAll 12 = .ok (.iload_n 3, 1) := by decide +kernel
theorem dX6_featuresInAll_13 : decode cX6_featuresInAll 13 = .ok (.iload_n 1, 1) := by decide +kernel
theorem dX6_featuresInAll_14 : decode cX6_featuresInAll 14 = .ok (.if_icmp .gt 21, 3) := by decide +kernel
theorem dX6_featuresInAll_17 : decode cX6_featuresInAll 17 = .ok (.aload_n 0, 1) := by decide +kernel
theorem dX6_featuresInAll_18 : decode cX6_featuresInAll 18 = .ok (.iload_n 3, 1) := by decide +kernel
theorem dX6_featuresInAll_19 : decode cX6_featuresInAll 19 = .ok (.invokevirtual 203, 3) := by decide +kernel
theorem dX6_featuresInAll_22 : decode cX6_featuresInAll 22 = .ok (.ifCond .eq 7, 3) := by decide +kernel
theorem dX6_featuresInAll_25 : decode cX6_featuresInAll 25 = .ok (.iload_n 2, 1) := by decide +kernel
theorem dX6_featuresInAll_26 : decode cX6_featuresInAll 26 = .ok (.iload_n 3, 1) := by decide +kernel
theorem dX6_featuresInAll_27 : decode cX6_featuresInAll 27 = .ok (.iand, 1) := by decide +kernel
theorem dX6_featuresInAll_28 : decode cX6_featuresInAll 28 = .ok (.istore_n 2, 1) := by decide +kernel
theorem dX6_featuresInAll_29 : decode cX6_featuresInAll 29 = .ok (.iinc 3 1, 3) := by decide +kernel
theorem dX6_featuresInAll_32 : decode cX6_featuresInAll 32 = .ok (.goto (-20), 3) := by decide +kernel
theorem dX6_featuresInAll_35 : decode cX6_featuresInAll 35 = .ok (.iload_n 2, 1) := by decide +kernel
theorem dX6_featuresInAll_36 : decode cX6_featuresInAll 36 = .ok (.ireturn, 1) := by decide +kernel
theorem dX6_featuresInSome_0 : decode cX6_featuresInSome 0 = .ok (.iconst 0, 1) := by decide +kernel
theorem dX6_featuresInSome_1 : decode cX6_featuresInSome 1 = .ok (.istore_n 1, 1) := by decide +kernel
theorem dX6_featuresInSome_2 : decode cX6_featuresInSome 2 = .ok (.aload_n 0, 1) := by decide +kernel
theorem dX6_featuresInSome_3 : decode cX6_featuresInSome 3 = .ok (.getfield 10, 3) := by decide +kernel
theorem dX6_featuresInSome_6 : decode cX6_featuresInSome 6 = .ok (.invokevirtual 200, 3) := by decide +kernel
theorem dX6_featuresInSome_9 : decode cX6_featuresInSome 9 = .ok (.istore_n 2, 1) := by decide +kernel
theorem dX6_featuresInSome_10 : decode cX6_featuresInSome 10 = .ok (.iconst 0, 1) := by decide +kernel
theorem dX6_featuresInSome_11 : decode cX6_featuresInSome 11 = .ok (.istore_n 3, 1) := by decide +kernel
theorem dX6_featuresInSome_12 : decode cX6_featuresInSome 12 = .ok (.iload_n 3, 1) := by decide +kernel
theorem dX6_featuresInSome_13 : decode cX6_featuresInSome 13 = .ok (.iload_n 2, 1) := by decide +kernel
theorem dX6_featuresInSome_14 : decode cX6_featuresInSome 14 = .ok (.if_icmp .gt 21, 3) := by decide +kernel
theorem dX6_featuresInSome_17 : decode cX6_featuresInSome 17 = .ok (.aload_n 0, 1) := by decide +kernel
theorem dX6_featuresInSome_18 : decode cX6_featuresInSome 18 = .ok (.iload_n 3, 1) := by decide +kernel
theorem dX6_featuresInSome_19 : decode cX6_featuresInSome 19 = .ok (.invokevirtual 203, 3) := by decide +kernel
theorem dX6_featuresInSome_22 : decode cX6_featuresInSome 22 = .ok (.ifCond .eq 7, 3) := by decide +kernel
theorem dX6_featuresInSome_25 : decode cX6_featuresInSome 25 = .ok (.iload_n 1, 1) := by decide +kernel
theorem dX6_featuresInSome_26 : decode cX6_featuresInSome 26 = .ok (.iload_n 3, 1) := by decide +kernel
theorem dX6_featuresInSome_27 : decode cX6_featuresInSome 27 = .ok (.ior, 1) := by decide +kernel
theorem dX6_featuresInSome_28 : decode cX6_featuresInSome 28 = .ok (.istore_n 1, 1) := by decide +kernel
theorem dX6_featuresInSome_29 : decode cX6_featuresInSome 29 = .ok (.iinc 3 1, 3) := by decide +kernel
theorem dX6_featuresInSome_32 : decode cX6_featuresInSome 32 = .ok (.goto (-20), 3) := by decide +kernel
theorem dX6_featuresInSome_35 : decode cX6_featuresInSome 35 = .ok (.iload_n 1, 1) := by decide +kernel
theorem dX6_featuresInSome_36 : decode cX6_featuresInSome 36 = .ok (.ireturn, 1) := by decide +kernel
theorem dX6_addRule_0 : decode cX6_addRule 0 = .ok (.aload_n 0, 1) := by decide +kernel
theorem dX6_addRule_1 : decode cX6_addRule 1 = .ok (.getfield 19, 3) := by decide +kernel
theorem dX6_addRule_4 : decode cX6_addRule 4 = .ok (.getfield 121, 3) := by decide +kernel
theorem dX6_addRule_7 : decode cX6_addRule 7 = .ok (.bipush 20, 2) := by decide +kernel
theorem dX6_addRule_9 : decode cX6_addRule 9 = .ok (.if_icmp .lt 14, 3) := by decide +kernel
theorem dX6_addRule_12 : decode cX6_addRule 12 = .ok (.new 59, 3) := by decide +kernel
theorem dX6_addRule_15 : decode cX6_addRule 15 = .ok (.dup, 1) := by decide +kernel
theorem dX6_addRule_16 : decode cX6_addRule 16 = .ok (.ldc_w 283, 3) := by decide +kernel
theorem dX6_addRule_19 : decode cX6_addRule 19 = .ok (.invokespecial 63, 3) := by decide +kernel
theorem dX6_addRule_22 : decode cX6_addRule 22 = .ok (.athrow, 1) := by decide +kernel
theorem dX6_addRule_23 : decode cX6_addRule 23 = .ok (.aload_n 0, 1) := by decide +kernel
theorem dX6_addRule_24 : decode cX6_addRule 24 = .ok (.getfield 19, 3) := by decide +kernel
theorem dX6_addRule_27 : decode cX6_addRule 27 = .ok (.iload_n 1, 1) := by decide +kernel
theorem dX6_addRule_28 : decode cX6_addRule 28 = .ok (.iload_n 2, 1) := by decide +kernel
theorem dX6_addRule_29 : decode cX6_addRule 29 = .ok (.iload_n 3, 1) := by decide +kernel
theorem dX6_addRule_30 : decode cX6_addRule 30 = .ok (.invokevirtual 285, 3) := by decide +kernel
theorem dX6_addRule_33 : decode cX6_addRule 33 = .ok (.istore 4, 2) := by decide +kernel
theorem dX6_addRule_35 : decode cX6_addRule 35 = .ok (.aload_n 0, 1) := by decide +kernel
theorem dX6_addRule_36 : decode cX6_addRule 36 = .ok (.invokevirtual 78, 3) := by decide +kernel
theorem dX6_addRule_39 : decode cX6_addRule 39 = .ok (.ifCond .ne 20, 3) := by decide +kernel
theorem dX6_addRule_42 : decode cX6_addRule 42 = .ok (.aload_n 0, 1) := by decide +kernel
theorem dX6_addRule_43 : decode cX6_addRule 43 = .ok (.getfield 19, 3) := by decide +kernel
theorem dX6_addRule_46 : decode cX6_addRule 46 = .ok (.invokevirtual 288, 3) := by decide +kernel
theorem dX6_addRule_49 : decode cX6_addRule 49 = .ok (.new 82, 3) := by decide +kernel
theorem dX6_addRule_52 : decode cX6_addRule 52 = .ok (.dup, 1) := by decide +kernel
theorem dX6_addRule_53 : decode cX6_addRule 53 = .ok (.ldc 84, 2) := by decide +kernel
theorem dX6_addRule_55 : decode cX6_addRule 55 = .ok (.invokespecial 86, 3) := by decide +kernel
theorem dX6_addRule_58 : decode cX6_addRule 58 = .ok (.athrow, 1) := by decide +kernel
theorem dX6_addRule_59 : decode cX6_addRule 59 = .ok (.iload 4, 2) := by decide +kernel
theorem dX6_addRule_61 : decode cX6_addRule 61 = .ok (.ireturn, 1) := by decide +kernel
theorem dX6_takeBack_0 : decode cX6_takeBack 0 = .ok (.aload_n 0, 1) := by decide +kernel
theorem dX6_takeBack_1 : decode cX6_takeBack 1 = .ok (.dup, 1) := by decide +kernel
theorem dX6_takeBack_2 : decode cX6_takeBack 2 = .ok (.getfield 135, 3) := by decide +kernel
theorem dX6_takeBack_5 : decode cX6_takeBack 5 = .ok (.iload_n 1, 1) := by decide +kernel
theorem dX6_takeBack_6 : decode cX6_takeBack 6 = .ok (.iconst (-1), 1) := by decide +kernel
theorem dX6_takeBack_7 : decode cX6_takeBack 7 = .ok (.ixor, 1) := by decide +kernel
theorem dX6_takeBack_8 : decode cX6_takeBack 8 = .ok (.iand, 1) := by decide +kernel
theorem dX6_takeBack_9 : decode cX6_takeBack 9 = .ok (.putfield 135, 3) := by decide +kernel
theorem dX6_takeBack_12 : decode cX6_takeBack 12 = .ok (.aload_n 0, 1) := by decide +kernel
theorem dX6_takeBack_13 : decode cX6_takeBack 13 = .ok (.dup, 1) := by decide +kernel
theorem dX6_takeBack_14 : decode cX6_takeBack 14 = .ok (.getfield 138, 3) := by decide +kernel
theorem dX6_takeBack_17 : decode cX6_takeBack 17 = .ok (.iload_n 1, 1) := by decide +kernel
theorem dX6_takeBack_18 : decode cX6_takeBack 18 = .ok (.iconst (-1), 1) := by decide +kernel
theorem dX6_takeBack_19 : decode cX6_takeBack 19 = .ok (.ixor, 1) := by decide +kernel
theorem dX6_takeBack_20 : decode cX6_takeBack 20 = .ok (.iand, 1) := by decide +kernel
theorem dX6_takeBack_21 : decode cX6_takeBack 21 = .ok (.putfield 138, 3) := by decide +kernel
theorem dX6_takeBack_24 : decode cX6_takeBack 24 = .ok (.return_, 1) := by decide +kernel
theorem dX6_deduce_0 : decode cX6_deduce 0 = .ok (.aload_n 0, 1) := by decide +kernel
theorem dX6_deduce_1 : decode cX6_deduce 1 = .ok (.getfield 33, 3) := by decide +kernel
theorem dX6_deduce_4 : decode cX6_deduce 4 = .ok (.aload_n 0, 1) := by decide +kernel
theorem dX6_deduce_5 : decode cX6_deduce 5 = .ok (.getfield 10, 3) := by decide +kernel
theorem dX6_deduce_8 : decode cX6_deduce 8 = .ok (.aload_n 0, 1) := by decide +kernel
theorem dX6_deduce_9 : decode cX6_deduce 9 = .ok (.getfield 19, 3) := by decide +kernel
theorem dX6_deduce_12 : decode cX6_deduce 12 = .ok (.aload_n 0, 1) := by decide +kernel
theorem dX6_deduce_13 : decode cX6_deduce 13 = .ok (.getfield 135, 3) := by decide +kernel
theorem dX6_deduce_16 : decode cX6_deduce 16 = .ok (.aload_n 0, 1) := by decide +kernel
theorem dX6_deduce_17 : decode cX6_deduce 17 = .ok (.getfield 138, 3) := by decide +kernel
theorem dX6_deduce_20 : decode cX6_deduce 20 = .ok (.invokevirtual 296, 3) := by decide +kernel
theorem dX6_deduce_23 : decode cX6_deduce 23 = .ok (.return_, 1) := by decide +kernel
theorem dX6_countUnknown_0 : decode cX6_countUnknown 0 = .ok (.aload_n 0, 1) := by decide +kernel
theorem dX6_countUnknown_1 : decode cX6_countUnknown 1 = .ok (.invokevirtual 166, 3) := by decide +kernel
theorem dX6_countUnknown_4 : decode cX6_countUnknown 4 = .ok (.aload_n 0, 1) := by decide +kernel
theorem dX6_countUnknown_5 : decode cX6_countUnknown 5 = .ok (.getfield 10, 3) := by decide +kernel
theorem dX6_countUnknown_8 : decode cX6_countUnknown 8 = .ok (.getfield 55, 3) := by decide +kernel
theorem dX6_countUnknown_11 : decode cX6_countUnknown 11 = .ok (.aload_n 0, 1) := by decide +kernel
theorem dX6_countUnknown_12 : decode cX6_countUnknown 12 = .ok (.getfield 33, 3) := by decide +kernel
theorem dX6_countUnknown_15 : decode cX6_countUnknown 15 = .ok (.getfield 169, 3) := by decide +kernel
theorem dX6_countUnknown_18 : decode cX6_countUnknown 18 = .ok (.aload_n 0, 1) := by decide +kernel
theorem dX6_countUnknown_19 : decode cX6_countUnknown 19 = .ok (.getfield 33, 3) := by decide +kernel
theorem dX6_countUnknown_22 : decode cX6_countUnknown 22 = .ok (.getfield 172, 3) := by decide +kernel
theorem dX6_countUnknown_25 : decode cX6_countUnknown 25 = .ok (.ior, 1) := by decide +kernel
theorem dX6_countUnknown_26 : decode cX6_countUnknown 26 = .ok (.invokestatic 103, 3) := by decide +kernel
theorem dX6_countUnknown_29 : decode cX6_countUnknown 29 = .ok (.isub, 1) := by decide +kernel
theorem dX6_countUnknown_30 : decode cX6_countUnknown 30 = .ok (.ireturn, 1) := by decide +kernel
theorem dJ6_bitCount_0f7a4_0 : decode cJ6_bitCount_0f7a4 0 = .ok (.iload_n 0, 1) := by decide +kernel
theorem dJ6_bitCount_0f7a4_1 : decode cJ6_bitCount_0f7a4 1 = .ok (.iload_n 0, 1) := by decide +kernel
theorem dJ6_bitCount_0f7a4_2 : decode cJ6_bitCount_0f7a4 2 = .ok (.iconst 1, 1) := by decide +kernel
theorem dJ6_bitCount_0f7a4_3 : decode cJ6_bitCount_0f7a4 3 = .ok (.iushr, 1) := by decide +kernel
theorem dJ6_bitCount_0f7a4_4 : decode cJ6_bitCount_0f7a4 4 = .ok (.ldc_w 265, 3) := by decide +kernel
theorem dJ6_bitCount_0f7a4_7 : decode cJ6_bitCount_0f7a4 7 = .ok (.iand, 1) := by decide +kernel
theorem dJ6_bitCount_0f7a4_8 : decode cJ6_bitCount_0f7a4 8 = .ok (.isub, 1) := by decide +kernel
theorem dJ6_bitCount_0f7a4_9 : decode cJ6_bitCount_0f7a4 9 = .ok (.istore_n 0, 1) := by decide +kernel
theorem dJ6_bitCount_0f7a4_10 : decode cJ6_bitCount_0f7a4 10 = .ok (.iload_n 0, 1) := by decide +kernel
theorem dJ6_bitCount_0f7a4_11 : decode cJ6_bitCount_0f7a4 11 = .ok (.ldc_w 266, 3) := by decide +kernel
theorem dJ6_bitCount_0f7a4_14 : decode cJ6_bitCount_0f7a4 14 = .ok (.iand, 1) := by decide +kernel
theorem dJ6_bitCount_0f7a4_15 : decode cJ6_bitCount_0f7a4 15 = .ok (.iload_n 0, 1) := by decide +kernel
theorem dJ6_bitCount_0f7a4_16 : decode cJ6_bitCount_0f7a4 16 = .ok (.iconst 2, 1) := by decide +kernel
theorem dJ6_bitCount_0f7a4_17 : decode cJ6_bitCount_0f7a4 17 = .ok (.iushr, 1) := by decide +kernel
theorem dJ6_bitCount_0f7a4_18 : decode cJ6_bitCount_0f7a4 18 = .ok (.ldc_w 266, 3) := by decide +kernel
theorem dJ6_bitCount_0f7a4_21 : decode cJ6_bitCount_0f7a4 21 = .ok (.iand, 1) := by decide +kernel
theorem dJ6_bitCount_0f7a4_22 : decode cJ6_bitCount_0f7a4 22 = .ok (.iadd, 1) := by decide +kernel
theorem dJ6_bitCount_0f7a4_23 : decode cJ6_bitCount_0f7a4 23 = .ok (.istore_n 0, 1) := by decide +kernel
theorem dJ6_bitCount_0f7a4_24 : decode cJ6_bitCount_0f7a4 24 = .ok (.iload_n 0, 1) := by decide +kernel
theorem dJ6_bitCount_0f7a4_25 : decode cJ6_bitCount_0f7a4 25 = .ok (.iload_n 0, 1) := by decide +kernel
theorem dJ6_bitCount_0f7a4_26 : decode cJ6_bitCount_0f7a4 26 = .ok (.iconst 4, 1) := by decide +kernel
theorem dJ6_bitCount_0f7a4_27 : decode cJ6_bitCount_0f7a4 27 = .ok (.iushr, 1) := by decide +kernel
theorem dJ6_bitCount_0f7a4_28 : decode cJ6_bitCount_0f7a4 28 = .ok (.iadd, 1) := by decide +kernel
theorem dJ6_bitCount_0f7a4_29 : decode cJ6_bitCount_0f7a4 29 = .ok (.ldc_w 267, 3) := by decide +kernel
theorem dJ6_bitCount_0f7a4_32 : decode cJ6_bitCount_0f7a4 32 = .ok (.iand, 1) := by decide +kernel
theorem dJ6_bitCount_0f7a4_33 : decode cJ6_bitCount_0f7a4 33 = .ok (.istore_n 0, 1) := by decide +kernel
theorem dJ6_bitCount_0f7a4_34 : decode cJ6_bitCount_0f7a4 34 = .ok (.iload_n 0, 1) := by decide +kernel
theorem dJ6_bitCount_0f7a4_35 : decode cJ6_bitCount_0f7a4 35 = .ok (.iload_n 0, 1) := by decide +kernel
theorem dJ6_bitCount_0f7a4_36 : decode cJ6_bitCount_0f7a4 36 = .ok (.bipush 8, 2) := by decide +kernel
theorem dJ6_bitCount_0f7a4_38 : decode cJ6_bitCount_0f7a4 38 = .ok (.iushr, 1) := by decide +kernel
theorem dJ6_bitCount_0f7a4_39 : decode cJ6_bitCount_0f7a4 39 = .ok (.iadd, 1) := by decide +kernel
theorem dJ6_bitCount_0f7a4_40 : decode cJ6_bitCount_0f7a4 40 = .ok (.istore_n 0, 1) := by decide +kernel
theorem dJ6_bitCount_0f7a4_41 : decode cJ6_bitCount_0f7a4 41 = .ok (.iload_n 0, 1) := by decide +kernel
theorem dJ6_bitCount_0f7a4_42 : decode cJ6_bitCount_0f7a4 42 = .ok (.iload_n 0, 1) := by decide +kernel
theorem dJ6_bitCount_0f7a4_43 : decode cJ6_bitCount_0f7a4 43 = .ok (.bipush 16, 2) := by decide +kernel
theorem dJ6_bitCount_0f7a4_45 : decode cJ6_bitCount_0f7a4 45 = .ok (.iushr, 1) := by decide +kernel
theorem dJ6_bitCount_0f7a4_46 : decode cJ6_bitCount_0f7a4 46 = .ok (.iadd, 1) := by decide +kernel
theorem dJ6_bitCount_0f7a4_47 : decode cJ6_bitCount_0f7a4 47 = .ok (.istore_n 0, 1) := by decide +kernel
theorem dJ6_bitCount_0f7a4_48 : decode cJ6_bitCount_0f7a4 48 = .ok (.iload_n 0, 1) := by decide +kernel
theorem dJ6_bitCount_0f7a4_49 : decode cJ6_bitCount_0f7a4 49 = .ok (.bipush 63, 2) := by decide +kernel
theorem dJ6_bitCount_0f7a4_51 : decode cJ6_bitCount_0f7a4 51 = .ok (.iand, 1) := by decide +kernel
theorem dJ6_bitCount_0f7a4_52 : decode cJ6_bitCount_0f7a4 52 = .ok (.ireturn, 1) := by decide +kernel
