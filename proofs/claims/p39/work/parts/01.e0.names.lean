theorem dX0_init_0 : decode cX0_init 0 = .ok (.aload_n 0, 1) := by decide +kernel
theorem dX0_init_1 : decode cX0_init 1 = .ok (.invokespecial 3, 3) := by decide +kernel
theorem dX0_init_4 : decode cX0_init 4 = .ok (.aload_n 0, 1) := by decide +kernel
theorem dX0_init_5 : decode cX0_init 5 = .ok (.bipush 12, 2) := by decide +kernel
theorem dX0_init_7 : decode cX0_init 7 = .ok (.newarray .char, 2) := by decide +kernel
theorem dX0_init_9 : decode cX0_init 9 = .ok (.putfield 9, 3) := by decide +kernel
theorem dX0_init_12 : decode cX0_init 12 = .ok (.aload_n 0, 1) := by decide +kernel
theorem dX0_init_13 : decode cX0_init 13 = .ok (.bipush 12, 2) := by decide +kernel
theorem dX0_init_15 : decode cX0_init 15 = .ok (.newarray .int, 2) := by decide +kernel
theorem dX0_init_17 : decode cX0_init 17 = .ok (.putfield 15, 3) := by decide +kernel
theorem dX0_init_20 : decode cX0_init 20 = .ok (.return_, 1) := by decide +kernel
theorem dX0_run_0 : decode cX0_run 0 = .ok (.aload_n 0, 1) := by decide +kernel
theorem dX0_run_1 : decode cX0_run 1 = .ok (.iconst 1, 1) := by decide +kernel
theorem dX0_run_2 : decode cX0_run 2 = .ok (.iload_n 3, 1) := by decide +kernel
theorem dX0_run_3 : decode cX0_run 3 = .ok (.ior, 1) := by decide +kernel
theorem dX0_run_4 : decode cX0_run 4 = .ok (.putfield 19, 3) := by decide +kernel
theorem dX0_run_7 : decode cX0_run 7 = .ok (.aload_n 0, 1) := by decide +kernel
theorem dX0_run_8 : decode cX0_run 8 = .ok (.iload 4, 2) := by decide +kernel
theorem dX0_run_10 : decode cX0_run 10 = .ok (.putfield 23, 3) := by decide +kernel
theorem dX0_run_13 : decode cX0_run 13 = .ok (.iconst 0, 1) := by decide +kernel
theorem dX0_run_14 : decode cX0_run 14 = .ok (.istore 5, 2) := by decide +kernel
theorem dX0_run_16 : decode cX0_run 16 = .ok (.iload 5, 2) := by decide +kernel
theorem dX0_run_18 : decode cX0_run 18 = .ok (.aload_n 1, 1) := by decide +kernel
theorem dX0_run_19 : decode cX0_run 19 = .ok (.getfield 26, 3) := by decide +kernel
theorem dX0_run_22 : decode cX0_run 22 = .ok (.if_icmp .ge 35, 3) := by decide +kernel
theorem dX0_run_25 : decode cX0_run 25 = .ok (.aload_n 0, 1) := by decide +kernel
theorem dX0_run_26 : decode cX0_run 26 = .ok (.getfield 9, 3) := by decide +kernel
theorem dX0_run_29 : decode cX0_run 29 = .ok (.iload 5, 2) := by decide +kernel
theorem dX0_run_31 : decode cX0_run 31 = .ok (.iload_n 3, 1) := by decide +kernel
theorem dX0_run_32 : decode cX0_run 32 = .ok (.iload 4, 2) := by decide +kernel
theorem dX0_run_34 : decode cX0_run 34 = .ok (.ior, 1) := by decide +kernel
theorem dX0_run_35 : decode cX0_run 35 = .ok (.iload 5, 2) := by decide +kernel
theorem dX0_run_37 : decode cX0_run 37 = .ok (.invokestatic 31, 3) := by decide +kernel
theorem dX0_run_40 : decode cX0_run 40 = .ok (.ifCond .eq 8, 3) := by decide +kernel
theorem dX0_run_43 : decode cX0_run 43 = .ok (.bipush 100, 2) := by decide +kernel
theorem dX0_run_45 : decode cX0_run 45 = .ok (.goto 5, 3) := by decide +kernel
theorem dX0_run_48 : decode cX0_run 48 = .ok (.bipush 32, 2) := by decide +kernel
theorem dX0_run_50 : decode cX0_run 50 = .ok (.castore, 1) := by decide +kernel
theorem dX0_run_51 : decode cX0_run 51 = .ok (.iinc 5 1, 3) := by decide +kernel
theorem dX0_run_54 : decode cX0_run 54 = .ok (.goto (-38), 3) := by decide +kernel
theorem dX0_run_57 : decode cX0_run 57 = .ok (.aload_n 0, 1) := by decide +kernel
theorem dX0_run_58 : decode cX0_run 58 = .ok (.getfield 9, 3) := by decide +kernel
theorem dX0_run_61 : decode cX0_run 61 = .ok (.iconst 0, 1) := by decide +kernel
theorem dX0_run_62 : decode cX0_run 62 = .ok (.bipush 111, 2) := by decide +kernel
theorem dX0_run_64 : decode cX0_run 64 = .ok (.castore, 1) := by decide +kernel
theorem dX0_run_65 : decode cX0_run 65 = .ok (.iconst 1, 1) := by decide +kernel
theorem dX0_run_66 : decode cX0_run 66 = .ok (.istore 5, 2) := by decide +kernel
theorem dX0_run_68 : decode cX0_run 68 = .ok (.iconst 0, 1) := by decide +kernel
theorem dX0_run_69 : decode cX0_run 69 = .ok (.istore 6, 2) := by decide +kernel
theorem dX0_run_71 : decode cX0_run 71 = .ok (.iload 6, 2) := by decide +kernel
theorem dX0_run_73 : decode cX0_run 73 = .ok (.aload_n 1, 1) := by decide +kernel
theorem dX0_run_74 : decode cX0_run 74 = .ok (.getfield 26, 3) := by decide +kernel
theorem dX0_run_77 : decode cX0_run 77 = .ok (.if_icmp .ge 22, 3) := by decide +kernel
theorem dX0_run_80 : decode cX0_run 80 = .ok (.iload 5, 2) := by decide +kernel
theorem dX0_run_82 : decode cX0_run 82 = .ok (.ifCond .eq 17, 3) := by decide +kernel
theorem dX0_run_85 : decode cX0_run 85 = .ok (.aload_n 0, 1) := by decide +kernel
theorem dX0_run_86 : decode cX0_run 86 = .ok (.aload_n 1, 1) := by decide +kernel
theorem dX0_run_87 : decode cX0_run 87 = .ok (.aload_n 2, 1) := by decide +kernel
theorem dX0_run_88 : decode cX0_run 88 = .ok (.invokevirtual 35, 3) := by decide +kernel
theorem dX0_run_91 : decode cX0_run 91 = .ok (.istore 5, 2) := by decide +kernel
theorem dX0_run_93 : decode cX0_run 93 = .ok (.iinc 6 1, 3) := by decide +kernel
theorem dX0_run_96 : decode cX0_run 96 = .ok (.goto (-25), 3) := by decide +kernel
theorem dX0_run_99 : decode cX0_run 99 = .ok (.return_, 1) := by decide +kernel
theorem dX0_knows_0 : decode cX0_knows 0 = .ok (.aload_n 0, 1) := by decide +kernel
theorem dX0_knows_1 : decode cX0_knows 1 = .ok (.getfield 19, 3) := by decide +kernel
theorem dX0_knows_4 : decode cX0_knows 4 = .ok (.aload_n 0, 1) := by decide +kernel
theorem dX0_knows_5 : decode cX0_knows 5 = .ok (.getfield 23, 3) := by decide +kernel
theorem dX0_knows_8 : decode cX0_knows 8 = .ok (.ior, 1) := by decide +kernel
theorem dX0_knows_9 : decode cX0_knows 9 = .ok (.iload_n 1, 1) := by decide +kernel
theorem dX0_knows_10 : decode cX0_knows 10 = .ok (.invokestatic 31, 3) := by decide +kernel
theorem dX0_knows_13 : decode cX0_knows 13 = .ok (.ireturn, 1) := by decide +kernel
theorem dX0_learnLowest_0 : decode cX0_learnLowest 0 = .ok (.iconst 0, 1) := by decide +kernel
theorem dX0_learnLowest_1 : decode cX0_learnLowest 1 = .ok (.istore_n 3, 1) := by decide +kernel
theorem dX0_learnLowest_2 : decode cX0_learnLowest 2 = .ok (.iload_n 3, 1) := by decide +kernel
theorem dX0_learnLowest_3 : decode cX0_learnLowest 3 = .ok (.aload_n 1, 1) := by decide +kernel
theorem dX0_learnLowest_4 : decode cX0_learnLowest 4 = .ok (.getfield 26, 3) := by decide +kernel
theorem dX0_learnLowest_7 : decode cX0_learnLowest 7 = .ok (.if_icmp .ge 37, 3) := by decide +kernel
theorem dX0_learnLowest_10 : decode cX0_learnLowest 10 = .ok (.aload_n 0, 1) := by decide +kernel
theorem dX0_learnLowest_11 : decode cX0_learnLowest 11 = .ok (.iload_n 3, 1) := by decide +kernel
theorem dX0_learnLowest_12 : decode cX0_learnLowest 12 = .ok (.invokevirtual 39, 3) := by decide +kernel
theorem dX0_learnLowest_15 : decode cX0_learnLowest 15 = .ok (.ifCond .ne 23, 3) := by decide +kernel
theorem dX0_learnLowest_18 : decode cX0_learnLowest 18 = .ok (.aload_n 0, 1) := by decide +kernel
theorem dX0_learnLowest_19 : decode cX0_learnLowest 19 = .ok (.aload_n 1, 1) := by decide +kernel
theorem dX0_learnLowest_20 : decode cX0_learnLowest 20 = .ok (.iload_n 3, 1) := by decide +kernel
theorem dX0_learnLowest_21 : decode cX0_learnLowest 21 = .ok (.invokevirtual 43, 3) := by decide +kernel
theorem dX0_learnLowest_24 : decode cX0_learnLowest 24 = .ok (.ifCond .ne 12, 3) := by decide +kernel
theorem dX0_learnLowest_27 : decode cX0_learnLowest 27 = .ok (.aload_n 0, 1) := by decide +kernel
theorem dX0_learnLowest_28 : decode cX0_learnLowest 28 = .ok (.aload_n 2, 1) := by decide +kernel
theorem dX0_learnLowest_29 : decode cX0_learnLowest 29 = .ok (.iload_n 3, 1) := by decide +kernel
theorem dX0_learnLowest_30 : decode cX0_learnLowest 30 = .ok (.invokevirtual 47, 3) := by decide +kernel
theorem dX0_learnLowest_33 : decode cX0_learnLowest 33 = .ok (.ifCond .eq 5, 3) := by decide +kernel
theorem dX0_learnLowest_36 : decode cX0_learnLowest 36 = .ok (.iconst 1, 1) := by decide +kernel
theorem dX0_learnLowest_37 : decode cX0_learnLowest 37 = .ok (.ireturn, 1) := by decide +kernel
theorem dX0_learnLowest_38 : decode cX0_learnLowest 38 = .ok (.iinc 3 1, 3) := by decide +kernel
theorem dX0_learnLowest_41 : decode cX0_learnLowest 41 = .ok (.goto (-39), 3) := by decide +kernel
theorem dX0_learnLowest_44 : decode cX0_learnLowest 44 = .ok (.iconst 0, 1) := by decide +kernel
theorem dX0_learnLowest_45 : decode cX0_learnLowest 45 = .ok (.ireturn, 1) := by decide +kernel
theorem dX0_learnByTree_0 : decode cX0_learnByTree 0 = .ok (.aload_n 0, 1) := by decide +kernel
theorem dX0_learnByTree_1 : decode cX0_learnByTree 1 = .ok (.aload_n 1, 1) := by decide +kernel
theorem dX0_learnByTree_2 : decode cX0_learnByTree 2 = .ok (.iload_n 2, 1) := by decide +kernel
theorem dX0_learnByTree_3 : decode cX0_learnByTree 3 = .ok (.invokevirtual 51, 3) := by decide +kernel
theorem dX0_learnByTree_6 : decode cX0_learnByTree 6 = .ok (.istore_n 3, 1) := by decide +kernel
theorem dX0_learnByTree_7 : decode cX0_learnByTree 7 = .ok (.iload_n 3, 1) := by decide +kernel
theorem dX0_learnByTree_8 : decode cX0_learnByTree 8 = .ok (.bipush 32, 2) := by decide +kernel
theorem dX0_learnByTree_10 : decode cX0_learnByTree 10 = .ok (.if_icmp .ne 10, 3) := by decide +kernel
theorem dX0_learnByTree_13 : decode cX0_learnByTree 13 = .ok (.aload_n 0, 1) := by decide +kernel
theorem dX0_learnByTree_14 : decode cX0_learnByTree 14 = .ok (.aload_n 1, 1) := by decide +kernel
theorem dX0_learnByTree_15 : decode cX0_learnByTree 15 = .ok (.iload_n 2, 1) := by decide +kernel
theorem dX0_learnByTree_16 : decode cX0_learnByTree 16 = .ok (.invokevirtual 55, 3) := by decide +kernel
theorem dX0_learnByTree_19 : decode cX0_learnByTree 19 = .ok (.istore_n 3, 1) := by decide +kernel
theorem dX0_learnByTree_20 : decode cX0_learnByTree 20 = .ok (.iload_n 3, 1) := by decide +kernel
theorem dX0_learnByTree_21 : decode cX0_learnByTree 21 = .ok (.bipush 32, 2) := by decide +kernel
theorem dX0_learnByTree_23 : decode cX0_learnByTree 23 = .ok (.if_icmp .ne 5, 3) := by decide +kernel
theorem dX0_learnByTree_26 : decode cX0_learnByTree 26 = .ok (.iconst 0, 1) := by decide +kernel
theorem dX0_learnByTree_27 : decode cX0_learnByTree 27 = .ok (.ireturn, 1) := by decide +kernel
theorem dX0_learnByTree_28 : decode cX0_learnByTree 28 = .ok (.aload_n 0, 1) := by decide +kernel
theorem dX0_learnByTree_29 : decode cX0_learnByTree 29 = .ok (.iload_n 2, 1) := by decide +kernel
theorem dX0_learnByTree_30 : decode cX0_learnByTree 30 = .ok (.iload_n 3, 1) := by decide +kernel
theorem dX0_learnByTree_31 : decode cX0_learnByTree 31 = .ok (.iload_n 3, 1) := by decide +kernel
theorem dX0_learnByTree_32 : decode cX0_learnByTree 32 = .ok (.bipush 99, 2) := by decide +kernel
theorem dX0_learnByTree_34 : decode cX0_learnByTree 34 = .ok (.if_icmp .eq 15, 3) := by decide +kernel
theorem dX0_learnByTree_37 : decode cX0_learnByTree 37 = .ok (.iload_n 3, 1) := by decide +kernel
theorem dX0_learnByTree_38 : decode cX0_learnByTree 38 = .ok (.bipush 109, 2) := by decide +kernel
theorem dX0_learnByTree_40 : decode cX0_learnByTree 40 = .ok (.if_icmp .eq 9, 3) := by decide +kernel
theorem dX0_learnByTree_43 : decode cX0_learnByTree 43 = .ok (.iload_n 3, 1) := by decide +kernel
theorem dX0_learnByTree_44 : decode cX0_learnByTree 44 = .ok (.bipush 110, 2) := by decide +kernel
theorem dX0_learnByTree_46 : decode cX0_learnByTree 46 = .ok (.if_icmp .ne 7, 3) := by decide +kernel
theorem dX0_learnByTree_49 : decode cX0_learnByTree 49 = .ok (.iconst 1, 1) := by decide +kernel
theorem dX0_learnByTree_50 : decode cX0_learnByTree 50 = .ok (.goto 4, 3) := by decide +kernel
theorem dX0_learnByTree_53 : decode cX0_learnByTree 53 = .ok (.iconst 0, 1) := by decide +kernel
theorem dX0_learnByTree_54 : decode cX0_learnByTree 54 = .ok (.invokevirtual 58, 3) := by decide +kernel
theorem dX0_learnByTree_57 : decode cX0_learnByTree 57 = .ok (.iconst 1, 1) := by decide +kernel
theorem dX0_learnByTree_58 : decode cX0_learnByTree 58 = .ok (.ireturn, 1) := by decide +kernel
theorem dX0_learnByRule_0 : decode cX0_learnByRule 0 = .ok (.aload_n 1, 1) := by decide +kernel
theorem dX0_learnByRule_1 : decode cX0_learnByRule 1 = .ok (.iload_n 2, 1) := by decide +kernel
theorem dX0_learnByRule_2 : decode cX0_learnByRule 2 = .ok (.aload_n 0, 1) := by decide +kernel
theorem dX0_learnByRule_3 : decode cX0_learnByRule 3 = .ok (.getfield 19, 3) := by decide +kernel
theorem dX0_learnByRule_6 : decode cX0_learnByRule 6 = .ok (.aload_n 0, 1) := by decide +kernel
theorem dX0_learnByRule_7 : decode cX0_learnByRule 7 = .ok (.getfield 23, 3) := by decide +kernel
theorem dX0_learnByRule_10 : decode cX0_learnByRule 10 = .ok (.invokevirtual 62, 3) := by decide +kernel
theorem dX0_learnByRule_13 : decode cX0_learnByRule 13 = .ok (.istore_n 3, 1) := by decide +kernel
theorem dX0_learnByRule_14 : decode cX0_learnByRule 14 = .ok (.iload_n 3, 1) := by decide +kernel
theorem dX0_learnByRule_15 : decode cX0_learnByRule 15 = .ok (.ifCond .ge 5, 3) := by decide +kernel
theorem dX0_learnByRule_18 : decode cX0_learnByRule 18 = .ok (.iconst 0, 1) := by decide +kernel
theorem dX0_learnByRule_19 : decode cX0_learnByRule 19 = .ok (.ireturn, 1) := by decide +kernel
theorem dX0_learnByRule_20 : decode cX0_learnByRule 20 = .ok (.aload_n 0, 1) := by decide +kernel
theorem dX0_learnByRule_21 : decode cX0_learnByRule 21 = .ok (.getfield 15, 3) := by decide +kernel
theorem dX0_learnByRule_24 : decode cX0_learnByRule 24 = .ok (.iload_n 2, 1) := by decide +kernel
theorem dX0_learnByRule_25 : decode cX0_learnByRule 25 = .ok (.iload_n 3, 1) := by decide +kernel
theorem dX0_learnByRule_26 : decode cX0_learnByRule 26 = .ok (.iastore, 1) := by decide +kernel
theorem dX0_learnByRule_27 : decode cX0_learnByRule 27 = .ok (.aload_n 0, 1) := by decide +kernel
theorem dX0_learnByRule_28 : decode cX0_learnByRule 28 = .ok (.iload_n 2, 1) := by decide +kernel
theorem dX0_learnByRule_29 : decode cX0_learnByRule 29 = .ok (.bipush 114, 2) := by decide +kernel
theorem dX0_learnByRule_31 : decode cX0_learnByRule 31 = .ok (.aload_n 1, 1) := by decide +kernel
theorem dX0_learnByRule_32 : decode cX0_learnByRule 32 = .ok (.getfield 68, 3) := by decide +kernel
theorem dX0_learnByRule_35 : decode cX0_learnByRule 35 = .ok (.iload_n 3, 1) := by decide +kernel
theorem dX0_learnByRule_36 : decode cX0_learnByRule 36 = .ok (.iaload, 1) := by decide +kernel
theorem dX0_learnByRule_37 : decode cX0_learnByRule 37 = .ok (.iload_n 2, 1) := by decide +kernel
theorem dX0_learnByRule_38 : decode cX0_learnByRule 38 = .ok (.invokestatic 31, 3) := by decide +kernel
theorem dX0_learnByRule_41 : decode cX0_learnByRule 41 = .ok (.invokevirtual 58, 3) := by decide +kernel
theorem dX0_learnByRule_44 : decode cX0_learnByRule 44 = .ok (.iconst 1, 1) := by decide +kernel
theorem dX0_learnByRule_45 : decode cX0_learnByRule 45 = .ok (.ireturn, 1) := by decide +kernel
theorem dX0_learn_0 : decode cX0_learn 0 = .ok (.aload_n 0, 1) := by decide +kernel
theorem dX0_learn_1 : decode cX0_learn 1 = .ok (.getfield 9, 3) := by decide +kernel
theorem dX0_learn_4 : decode cX0_learn 4 = .ok (.iload_n 1, 1) := by decide +kernel
theorem dX0_learn_5 : decode cX0_learn 5 = .ok (.iload_n 2, 1) := by decide +kernel
theorem dX0_learn_6 : decode cX0_learn 6 = .ok (.castore, 1) := by decide +kernel
theorem dX0_learn_7 : decode cX0_learn 7 = .ok (.iload_n 3, 1) := by decide +kernel
theorem dX0_learn_8 : decode cX0_learn 8 = .ok (.ifCond .eq 18, 3) := by decide +kernel
theorem dX0_learn_11 : decode cX0_learn 11 = .ok (.aload_n 0, 1) := by decide +kernel
theorem dX0_learn_12 : decode cX0_learn 12 = .ok (.dup, 1) := by decide +kernel
theorem dX0_learn_13 : decode cX0_learn 13 = .ok (.getfield 19, 3) := by decide +kernel
theorem dX0_learn_16 : decode cX0_learn 16 = .ok (.iconst 1, 1) := by decide +kernel
theorem dX0_learn_17 : decode cX0_learn 17 = .ok (.iload_n 1, 1) := by decide +kernel
theorem dX0_learn_18 : decode cX0_learn 18 = .ok (.ishl, 1) := by decide +kernel
theorem dX0_learn_19 : decode cX0_learn 19 = .ok (.ior, 1) := by decide +kernel
theorem dX0_learn_20 : decode cX0_learn 20 = .ok (.putfield 19, 3) := by decide +kernel
theorem dX0_learn_23 : decode cX0_learn 23 = .ok (.goto 15, 3) := by decide +kernel
theorem dX0_learn_26 : decode cX0_learn 26 = .ok (.aload_n 0, 1) := by decide +kernel
theorem dX0_learn_27 : decode cX0_learn 27 = .ok (.dup, 1) := by decide +kernel
theorem dX0_learn_28 : decode cX0_learn 28 = .ok (.getfield 23, 3) := by decide +kernel
theorem dX0_learn_31 : decode cX0_learn 31 = .ok (.iconst 1, 1) := by decide +kernel
theorem dX0_learn_32 : decode cX0_learn 32 = .ok (.iload_n 1, 1) := by decide +kernel
theorem dX0_learn_33 : decode cX0_learn 33 = .ok (.ishl, 1) := by decide +kernel
theorem dX0_learn_34 : decode cX0_learn 34 = .ok (.ior, 1) := by decide +kernel
theorem dX0_learn_35 : decode cX0_learn 35 = .ok (.putfield 23, 3) := by decide +kernel
theorem dX0_learn_38 : decode cX0_learn 38 = .ok (.return_, 1) := by decide +kernel
theorem dX0_letterByKin_0 : decode cX0_letterByKin 0 = .ok (.aload_n 1, 1) := by decide +kernel
theorem dX0_letterByKin_1 : decode cX0_letterByKin 1 = .ok (.getfield 71, 3) := by decide +kernel
theorem dX0_letterByKin_4 : decode cX0_letterByKin 4 = .ok (.iload_n 2, 1) := by decide +kernel
theorem dX0_letterByKin_5 : decode cX0_letterByKin 5 = .ok (.iaload, 1) := by decide +kernel
theorem dX0_letterByKin_6 : decode cX0_letterByKin 6 = .ok (.istore_n 3, 1) := by decide +kernel
theorem dX0_letterByKin_7 : decode cX0_letterByKin 7 = .ok (.aload_n 1, 1) := by decide +kernel
theorem dX0_letterByKin_8 : decode cX0_letterByKin 8 = .ok (.getfield 74, 3) := by decide +kernel
theorem dX0_letterByKin_11 : decode cX0_letterByKin 11 = .ok (.iload_n 2, 1) := by decide +kernel
theorem dX0_letterByKin_12 : decode cX0_letterByKin 12 = .ok (.iaload, 1) := by decide +kernel
theorem dX0_letterByKin_13 : decode cX0_letterByKin 13 = .ok (.istore 4, 2) := by decide +kernel
theorem dX0_letterByKin_15 : decode cX0_letterByKin 15 = .ok (.iload_n 3, 1) := by decide +kernel
theorem dX0_letterByKin_16 : decode cX0_letterByKin 16 = .ok (.aload_n 0, 1) := by decide +kernel
theorem dX0_letterByKin_17 : decode cX0_letterByKin 17 = .ok (.getfield 19, 3) := by decide +kernel
theorem dX0_letterByKin_20 : decode cX0_letterByKin 20 = .ok (.iand, 1) := by decide +kernel
theorem dX0_letterByKin_21 : decode cX0_letterByKin 21 = .ok (.ifCond .eq 6, 3) := by decide +kernel
theorem dX0_letterByKin_24 : decode cX0_letterByKin 24 = .ok (.bipush 99, 2) := by decide +kernel
theorem dX0_letterByKin_26 : decode cX0_letterByKin 26 = .ok (.ireturn, 1) := by decide +kernel
theorem dX0_letterByKin_27 : decode cX0_letterByKin 27 = .ok (.iload 4, 2) := by decide +kernel
theorem dX0_letterByKin_29 : decode cX0_letterByKin 29 = .ok (.ifCond .lt 18, 3) := by decide +kernel
theorem dX0_letterByKin_32 : decode cX0_letterByKin 32 = .ok (.aload_n 0, 1) := by decide +kernel
theorem dX0_letterByKin_33 : decode cX0_letterByKin 33 = .ok (.getfield 23, 3) := by decide +kernel
theorem dX0_letterByKin_36 : decode cX0_letterByKin 36 = .ok (.iload 4, 2) := by decide +kernel
theorem dX0_letterByKin_38 : decode cX0_letterByKin 38 = .ok (.invokestatic 31, 3) := by decide +kernel
theorem dX0_letterByKin_41 : decode cX0_letterByKin 41 = .ok (.ifCond .eq 6, 3) := by decide +kernel
theorem dX0_letterByKin_44 : decode cX0_letterByKin 44 = .ok (.bipush 112, 2) := by decide +kernel
theorem dX0_letterByKin_46 : decode cX0_letterByKin 46 = .ok (.ireturn, 1) := by decide +kernel
theorem dX0_letterByKin_47 : decode cX0_letterByKin 47 = .ok (.iload 4, 2) := by decide +kernel
theorem dX0_letterByKin_49 : decode cX0_letterByKin 49 = .ok (.ifCond .lt 29, 3) := by decide +kernel
theorem dX0_letterByKin_52 : decode cX0_letterByKin 52 = .ok (.aload_n 0, 1) := by decide +kernel
theorem dX0_letterByKin_53 : decode cX0_letterByKin 53 = .ok (.getfield 19, 3) := by decide +kernel
theorem dX0_letterByKin_56 : decode cX0_letterByKin 56 = .ok (.iload 4, 2) := by decide +kernel
theorem dX0_letterByKin_58 : decode cX0_letterByKin 58 = .ok (.invokestatic 31, 3) := by decide +kernel
theorem dX0_letterByKin_61 : decode cX0_letterByKin 61 = .ok (.ifCond .eq 17, 3) := by decide +kernel
theorem dX0_letterByKin_64 : decode cX0_letterByKin 64 = .ok (.aload_n 1, 1) := by decide +kernel
theorem dX0_letterByKin_65 : decode cX0_letterByKin 65 = .ok (.getfield 77, 3) := by decide +kernel
theorem dX0_letterByKin_68 : decode cX0_letterByKin 68 = .ok (.iload_n 2, 1) := by decide +kernel
theorem dX0_letterByKin_69 : decode cX0_letterByKin 69 = .ok (.invokestatic 31, 3) := by decide +kernel
theorem dX0_letterByKin_72 : decode cX0_letterByKin 72 = .ok (.ifCond .eq 6, 3) := by decide +kernel
theorem dX0_letterByKin_75 : decode cX0_letterByKin 75 = .ok (.bipush 109, 2) := by decide +kernel
theorem dX0_letterByKin_77 : decode cX0_letterByKin 77 = .ok (.ireturn, 1) := by decide +kernel
theorem dX0_letterByKin_78 : decode cX0_letterByKin 78 = .ok (.iload_n 3, 1) := by decide +kernel
theorem dX0_letterByKin_79 : decode cX0_letterByKin 79 = .ok (.aload_n 1, 1) := by decide +kernel
theorem dX0_letterByKin_80 : decode cX0_letterByKin 80 = .ok (.getfield 77, 3) := by decide +kernel
theorem dX0_letterByKin_83 : decode cX0_letterByKin 83 = .ok (.iand, 1) := by decide +kernel
theorem dX0_letterByKin_84 : decode cX0_letterByKin 84 = .ok (.aload_n 0, 1) := by decide +kernel
theorem dX0_letterByKin_85 : decode cX0_letterByKin 85 = .ok (.getfield 23, 3) := by decide +kernel
theorem dX0_letterByKin_88 : decode cX0_letterByKin 88 = .ok (.iand, 1) := by decide +kernel
theorem dX0_letterByKin_89 : decode cX0_letterByKin 89 = .ok (.ifCond .eq 8, 3) := by decide +kernel
theorem dX0_letterByKin_92 : decode cX0_letterByKin 92 = .ok (.bipush 107, 2) := by decide +kernel
theorem dX0_letterByKin_94 : decode cX0_letterByKin 94 = .ok (.goto 5, 3) := by decide +kernel
theorem dX0_letterByKin_97 : decode cX0_letterByKin 97 = .ok (.bipush 32, 2) := by decide +kernel
theorem dX0_letterByKin_99 : decode cX0_letterByKin 99 = .ok (.ireturn, 1) := by decide +kernel
theorem dX0_letterByGroup_0 : decode cX0_letterByGroup 0 = .ok (.aload_n 1, 1) := by decide +kernel
theorem dX0_letterByGroup_1 : decode cX0_letterByGroup 1 = .ok (.getfield 74, 3) := by decide +kernel
theorem dX0_letterByGroup_4 : decode cX0_letterByGroup 4 = .ok (.iload_n 2, 1) := by decide +kernel
theorem dX0_letterByGroup_5 : decode cX0_letterByGroup 5 = .ok (.iaload, 1) := by decide +kernel
theorem dX0_letterByGroup_6 : decode cX0_letterByGroup 6 = .ok (.istore_n 3, 1) := by decide +kernel
theorem dX0_letterByGroup_7 : decode cX0_letterByGroup 7 = .ok (.iload_n 3, 1) := by decide +kernel
theorem dX0_letterByGroup_8 : decode cX0_letterByGroup 8 = .ok (.ifCond .lt 68, 3) := by decide +kernel
theorem dX0_letterByGroup_11 : decode cX0_letterByGroup 11 = .ok (.aload_n 0, 1) := by decide +kernel
theorem dX0_letterByGroup_12 : decode cX0_letterByGroup 12 = .ok (.getfield 19, 3) := by decide +kernel
theorem dX0_letterByGroup_15 : decode cX0_letterByGroup 15 = .ok (.iload_n 3, 1) := by decide +kernel
theorem dX0_letterByGroup_16 : decode cX0_letterByGroup 16 = .ok (.invokestatic 31, 3) := by decide +kernel
theorem dX0_letterByGroup_19 : decode cX0_letterByGroup 19 = .ok (.ifCond .eq 57, 3) := by decide +kernel
theorem dX0_letterByGroup_22 : decode cX0_letterByGroup 22 = .ok (.aload_n 1, 1) := by decide +kernel
theorem dX0_letterByGroup_23 : decode cX0_letterByGroup 23 = .ok (.getfield 71, 3) := by decide +kernel
theorem dX0_letterByGroup_26 : decode cX0_letterByGroup 26 = .ok (.iload_n 3, 1) := by decide +kernel
theorem dX0_letterByGroup_27 : decode cX0_letterByGroup 27 = .ok (.iaload, 1) := by decide +kernel
theorem dX0_letterByGroup_28 : decode cX0_letterByGroup 28 = .ok (.istore 4, 2) := by decide +kernel
theorem dX0_letterByGroup_30 : decode cX0_letterByGroup 30 = .ok (.iload 4, 2) := by decide +kernel
theorem dX0_letterByGroup_32 : decode cX0_letterByGroup 32 = .ok (.aload_n 0, 1) := by decide +kernel
theorem dX0_letterByGroup_33 : decode cX0_letterByGroup 33 = .ok (.getfield 19, 3) := by decide +kernel
theorem dX0_letterByGroup_36 : decode cX0_letterByGroup 36 = .ok (.iand, 1) := by decide +kernel
theorem dX0_letterByGroup_37 : decode cX0_letterByGroup 37 = .ok (.invokestatic 80, 3) := by decide +kernel
theorem dX0_letterByGroup_40 : decode cX0_letterByGroup 40 = .ok (.aload_n 1, 1) := by decide +kernel
theorem dX0_letterByGroup_41 : decode cX0_letterByGroup 41 = .ok (.getfield 86, 3) := by decide +kernel
theorem dX0_letterByGroup_44 : decode cX0_letterByGroup 44 = .ok (.iload_n 3, 1) := by decide +kernel
theorem dX0_letterByGroup_45 : decode cX0_letterByGroup 45 = .ok (.iaload, 1) := by decide +kernel
theorem dX0_letterByGroup_46 : decode cX0_letterByGroup 46 = .ok (.if_icmp .ne 6, 3) := by decide +kernel
theorem dX0_letterByGroup_49 : decode cX0_letterByGroup 49 = .ok (.bipush 102, 2) := by decide +kernel
theorem dX0_letterByGroup_51 : decode cX0_letterByGroup 51 = .ok (.ireturn, 1) := by decide +kernel
theorem dX0_letterByGroup_52 : decode cX0_letterByGroup 52 = .ok (.iload 4, 2) := by decide +kernel
theorem dX0_letterByGroup_54 : decode cX0_letterByGroup 54 = .ok (.aload_n 0, 1) := by decide +kernel
theorem dX0_letterByGroup_55 : decode cX0_letterByGroup 55 = .ok (.getfield 23, 3) := by decide +kernel
theorem dX0_letterByGroup_58 : decode cX0_letterByGroup 58 = .ok (.iconst (-1), 1) := by decide +kernel
theorem dX0_letterByGroup_59 : decode cX0_letterByGroup 59 = .ok (.ixor, 1) := by decide +kernel
theorem dX0_letterByGroup_60 : decode cX0_letterByGroup 60 = .ok (.iand, 1) := by decide +kernel
theorem dX0_letterByGroup_61 : decode cX0_letterByGroup 61 = .ok (.invokestatic 80, 3) := by decide +kernel
theorem dX0_letterByGroup_64 : decode cX0_letterByGroup 64 = .ok (.aload_n 1, 1) := by decide +kernel
theorem dX0_letterByGroup_65 : decode cX0_letterByGroup 65 = .ok (.getfield 89, 3) := by decide +kernel
theorem dX0_letterByGroup_68 : decode cX0_letterByGroup 68 = .ok (.iload_n 3, 1) := by decide +kernel
theorem dX0_letterByGroup_69 : decode cX0_letterByGroup 69 = .ok (.iaload, 1) := by decide +kernel
theorem dX0_letterByGroup_70 : decode cX0_letterByGroup 70 = .ok (.if_icmp .ne 6, 3) := by decide +kernel
theorem dX0_letterByGroup_73 : decode cX0_letterByGroup 73 = .ok (.bipush 110, 2) := by decide +kernel
theorem dX0_letterByGroup_75 : decode cX0_letterByGroup 75 = .ok (.ireturn, 1) := by decide +kernel
theorem dX0_letterByGroup_76 : decode cX0_letterByGroup 76 = .ok (.aload_n 1, 1) := by decide +kernel
theorem dX0_letterByGroup_77 : decode cX0_letterByGroup 77 = .ok (.getfield 71, 3) := by decide +kernel
theorem dX0_letterByGroup_80 : decode cX0_letterByGroup 80 = .ok (.iload_n 2, 1) := by decide +kernel
theorem dX0_letterByGroup_81 : decode cX0_letterByGroup 81 = .ok (.iaload, 1) := by decide +kernel
theorem dX0_letterByGroup_82 : decode cX0_letterByGroup 82 = .ok (.aload_n 0, 1) := by decide +kernel
theorem dX0_letterByGroup_83 : decode cX0_letterByGroup 83 = .ok (.getfield 23, 3) := by decide +kernel
theorem dX0_letterByGroup_86 : decode cX0_letterByGroup 86 = .ok (.iconst (-1), 1) := by decide +kernel
theorem dX0_letterByGroup_87 : decode cX0_letterByGroup 87 = .ok (.ixor, 1) := by decide +kernel
theorem dX0_letterByGroup_88 : decode cX0_letterByGroup 88 = .ok (.iand, 1) := by decide +kernel
theorem dX0_letterByGroup_89 : decode cX0_letterByGroup 89 = .ok (.invokestatic 80, 3) := by decide +kernel
theorem dX0_letterByGroup_92 : decode cX0_letterByGroup 92 = .ok (.istore 4, 2) := by decide +kernel
theorem dX0_letterByGroup_94 : decode cX0_letterByGroup 94 = .ok (.iload 4, 2) := by decide +kernel
theorem dX0_letterByGroup_96 : decode cX0_letterByGroup 96 = .ok (.aload_n 1, 1) := by decide +kernel
theorem dX0_letterByGroup_97 : decode cX0_letterByGroup 97 = .ok (.getfield 89, 3) := by decide +kernel
theorem dX0_letterByGroup_100 : decode cX0_letterByGroup 100 = .ok (.iload_n 2, 1) := by decide +kernel
theorem dX0_letterByGroup_101 : decode cX0_letterByGroup 101 = .ok (.iaload, 1) := by decide +kernel
theorem dX0_letterByGroup_102 : decode cX0_letterByGroup 102 = .ok (.if_icmp .ge 8, 3) := by decide +kernel
theorem dX0_letterByGroup_105 : decode cX0_letterByGroup 105 = .ok (.bipush 103, 2) := by decide +kernel
theorem dX0_letterByGroup_107 : decode cX0_letterByGroup 107 = .ok (.goto 5, 3) := by decide +kernel
theorem dX0_letterByGroup_110 : decode cX0_letterByGroup 110 = .ok (.bipush 32, 2) := by decide +kernel
theorem dX0_letterByGroup_112 : decode cX0_letterByGroup 112 = .ok (.ireturn, 1) := by decide +kernel
theorem dX1_init_0 : decode cX1_init 0 = .ok (.aload_n 0, 1) := by decide +kernel
theorem dX1_init_1 : decode cX1_init 1 = .ok (.invokespecial 1, 3) := by decide +kernel
theorem dX1_init_4 : decode cX1_init 4 = .ok (.aload_n 0, 1) := by decide +kernel
theorem dX1_init_5 : decode cX1_init 5 = .ok (.bipush 64, 2) := by decide +kernel
theorem dX1_init_7 : decode cX1_init 7 = .ok (.newarray .char, 2) := by decide +kernel
theorem dX1_init_9 : decode cX1_init 9 = .ok (.putfield 9, 3) := by decide +kernel
theorem dX1_init_12 : decode cX1_init 12 = .ok (.return_, 1) := by decide +kernel
theorem dX2_init_0 : decode cX2_init 0 = .ok (.aload_n 0, 1) := by decide +kernel
theorem dX2_init_1 : decode cX2_init 1 = .ok (.invokespecial 3, 3) := by decide +kernel
theorem dX2_init_4 : decode cX2_init 4 = .ok (.aload_n 0, 1) := by decide +kernel
theorem dX2_init_5 : decode cX2_init 5 = .ok (.bipush 12, 2) := by decide +kernel
theorem dX2_init_7 : decode cX2_init 7 = .ok (.newarray .int, 2) := by decide +kernel
theorem dX2_init_9 : decode cX2_init 9 = .ok (.putfield 9, 3) := by decide +kernel
theorem dX2_init_12 : decode cX2_init 12 = .ok (.aload_n 0, 1) := by decide +kernel
theorem dX2_init_13 : decode cX2_init 13 = .ok (.bipush 6, 2) := by decide +kernel
theorem dX2_init_15 : decode cX2_init 15 = .ok (.newarray .int, 2) := by decide +kernel
theorem dX2_init_17 : decode cX2_init 17 = .ok (.putfield 15, 3) := by decide +kernel
theorem dX2_init_20 : decode cX2_init 20 = .ok (.aload_n 0, 1) := by decide +kernel
theorem dX2_init_21 : decode cX2_init 21 = .ok (.bipush 6, 2) := by decide +kernel
theorem dX2_init_23 : decode cX2_init 23 = .ok (.newarray .int, 2) := by decide +kernel
theorem dX2_init_25 : decode cX2_init 25 = .ok (.putfield 18, 3) := by decide +kernel
theorem dX2_init_28 : decode cX2_init 28 = .ok (.aload_n 0, 1) := by decide +kernel
theorem dX2_init_29 : decode cX2_init 29 = .ok (.bipush 6, 2) := by decide +kernel
theorem dX2_init_31 : decode cX2_init 31 = .ok (.newarray .int, 2) := by decide +kernel
theorem dX2_init_33 : decode cX2_init 33 = .ok (.putfield 21, 3) := by decide +kernel
theorem dX2_init_36 : decode cX2_init 36 = .ok (.return_, 1) := by decide +kernel
theorem dX2_setFirst_0 : decode cX2_setFirst 0 = .ok (.aload_n 0, 1) := by decide +kernel
theorem dX2_setFirst_1 : decode cX2_setFirst 1 = .ok (.getfield 9, 3) := by decide +kernel
theorem dX2_setFirst_4 : decode cX2_setFirst 4 = .ok (.iload_n 1, 1) := by decide +kernel
theorem dX2_setFirst_5 : decode cX2_setFirst 5 = .ok (.iload_n 2, 1) := by decide +kernel
theorem dX2_setFirst_6 : decode cX2_setFirst 6 = .ok (.iastore, 1) := by decide +kernel
theorem dX2_setFirst_7 : decode cX2_setFirst 7 = .ok (.return_, 1) := by decide +kernel
theorem dX3_init_0 : decode cX3_init 0 = .ok (.aload_n 0, 1) := by decide +kernel
theorem dX3_init_1 : decode cX3_init 1 = .ok (.invokespecial 3, 3) := by decide +kernel
theorem dX3_init_4 : decode cX3_init 4 = .ok (.aload_n 0, 1) := by decide +kernel
theorem dX3_init_5 : decode cX3_init 5 = .ok (.bipush 20, 2) := by decide +kernel
theorem dX3_init_7 : decode cX3_init 7 = .ok (.newarray .int, 2) := by decide +kernel
theorem dX3_init_9 : decode cX3_init 9 = .ok (.putfield 9, 3) := by decide +kernel
theorem dX3_init_12 : decode cX3_init 12 = .ok (.aload_n 0, 1) := by decide +kernel
theorem dX3_init_13 : decode cX3_init 13 = .ok (.bipush 20, 2) := by decide +kernel
theorem dX3_init_15 : decode cX3_init 15 = .ok (.newarray .int, 2) := by decide +kernel
theorem dX3_init_17 : decode cX3_init 17 = .ok (.putfield 15, 3) := by decide +kernel
theorem dX3_init_20 : decode cX3_init 20 = .ok (.aload_n 0, 1) := by decide +kernel
theorem dX3_init_21 : decode cX3_init 21 = .ok (.bipush 20, 2) := by decide +kernel
theorem dX3_init_23 : decode cX3_init 23 = .ok (.newarray .int, 2) := by decide +kernel
theorem dX3_init_25 : decode cX3_init 25 = .ok (.putfield 18, 3) := by decide +kernel
theorem dX3_init_28 : decode cX3_init 28 = .ok (.return_, 1) := by decide +kernel
theorem dX3_append_0 : decode cX3_append 0 = .ok (.aload_n 0, 1) := by decide +kernel
theorem dX3_append_1 : decode cX3_append 1 = .ok (.getfield 21, 3) := by decide +kernel
theorem dX3_append_4 : decode cX3_append 4 = .ok (.istore 4, 2) := by decide +kernel
theorem dX3_append_6 : decode cX3_append 6 = .ok (.aload_n 0, 1) := by decide +kernel
theorem dX3_append_7 : decode cX3_append 7 = .ok (.getfield 9, 3) := by decide +kernel
theorem dX3_append_10 : decode cX3_append 10 = .ok (.iload 4, 2) := by decide +kernel
theorem dX3_append_12 : decode cX3_append 12 = .ok (.iload_n 1, 1) := by decide +kernel
theorem dX3_append_13 : decode cX3_append 13 = .ok (.iastore, 1) := by decide +kernel
theorem dX3_append_14 : decode cX3_append 14 = .ok (.aload_n 0, 1) := by decide +kernel
theorem dX3_append_15 : decode cX3_append 15 = .ok (.getfield 15, 3) := by decide +kernel
theorem dX3_append_18 : decode cX3_append 18 = .ok (.iload 4, 2) := by decide +kernel
theorem dX3_append_20 : decode cX3_append 20 = .ok (.iload_n 2, 1) := by decide +kernel
theorem dX3_append_21 : decode cX3_append 21 = .ok (.iastore, 1) := by decide +kernel
theorem dX3_append_22 : decode cX3_append 22 = .ok (.aload_n 0, 1) := by decide +kernel
theorem dX3_append_23 : decode cX3_append 23 = .ok (.getfield 18, 3) := by decide +kernel
theorem dX3_append_26 : decode cX3_append 26 = .ok (.iload 4, 2) := by decide +kernel
theorem dX3_append_28 : decode cX3_append 28 = .ok (.iload_n 3, 1) := by decide +kernel
theorem dX3_append_29 : decode cX3_append 29 = .ok (.iastore, 1) := by decide +kernel
theorem dX3_append_30 : decode cX3_append 30 = .ok (.aload_n 0, 1) := by decide +kernel
theorem dX3_append_31 : decode cX3_append 31 = .ok (.dup, 1) := by decide +kernel
theorem dX3_append_32 : decode cX3_append 32 = .ok (.getfield 25, 3) := by decide +kernel
theorem dX3_append_35 : decode cX3_append 35 = .ok (.iconst 1, 1) := by decide +kernel
theorem dX3_append_36 : decode cX3_append 36 = .ok (.iload 4, 2) := by decide +kernel
theorem dX3_append_38 : decode cX3_append 38 = .ok (.ishl, 1) := by decide +kernel
theorem dX3_append_39 : decode cX3_append 39 = .ok (.ior, 1) := by decide +kernel
theorem dX3_append_40 : decode cX3_append 40 = .ok (.putfield 25, 3) := by decide +kernel
theorem dX3_append_43 : decode cX3_append 43 = .ok (.aload_n 0, 1) := by decide +kernel
theorem dX3_append_44 : decode cX3_append 44 = .ok (.dup, 1) := by decide +kernel
theorem dX3_append_45 : decode cX3_append 45 = .ok (.getfield 21, 3) := by decide +kernel
theorem dX3_append_48 : decode cX3_append 48 = .ok (.iconst 1, 1) := by decide +kernel
theorem dX3_append_49 : decode cX3_append 49 = .ok (.iadd, 1) := by decide +kernel
theorem dX3_append_50 : decode cX3_append 50 = .ok (.putfield 21, 3) := by decide +kernel
theorem dX3_append_53 : decode cX3_append 53 = .ok (.iload 4, 2) := by decide +kernel
theorem dX3_append_55 : decode cX3_append 55 = .ok (.ireturn, 1) := by decide +kernel
theorem dX3_dropLast_0 : decode cX3_dropLast 0 = .ok (.aload_n 0, 1) := by decide +kernel
theorem dX3_dropLast_1 : decode cX3_dropLast 1 = .ok (.dup, 1) := by decide +kernel
theorem dX3_dropLast_2 : decode cX3_dropLast 2 = .ok (.getfield 21, 3) := by decide +kernel
theorem dX3_dropLast_5 : decode cX3_dropLast 5 = .ok (.iconst 1, 1) := by decide +kernel
theorem dX3_dropLast_6 : decode cX3_dropLast 6 = .ok (.isub, 1) := by decide +kernel
theorem dX3_dropLast_7 : decode cX3_dropLast 7 = .ok (.putfield 21, 3) := by decide +kernel
theorem dX3_dropLast_10 : decode cX3_dropLast 10 = .ok (.aload_n 0, 1) := by decide +kernel
theorem dX3_dropLast_11 : decode cX3_dropLast 11 = .ok (.dup, 1) := by decide +kernel
theorem dX3_dropLast_12 : decode cX3_dropLast 12 = .ok (.getfield 25, 3) := by decide +kernel
theorem dX3_dropLast_15 : decode cX3_dropLast 15 = .ok (.iconst 1, 1) := by decide +kernel
theorem dX3_dropLast_16 : decode cX3_dropLast 16 = .ok (.aload_n 0, 1) := by decide +kernel
theorem dX3_dropLast_17 : decode cX3_dropLast 17 = .ok (.getfield 21, 3) := by decide +kernel
theorem dX3_dropLast_20 : decode cX3_dropLast 20 = .ok (.ishl, 1) := by decide +kernel
theorem dX3_dropLast_21 : decode cX3_dropLast 21 = .ok (.iconst (-1), 1) := by decide +kernel
theorem dX3_dropLast_22 : decode cX3_dropLast 22 = .ok (.ixor, 1) := by decide +kernel
theorem dX3_dropLast_23 : decode cX3_dropLast 23 = .ok (.iand, 1) := by decide +kernel
theorem dX3_dropLast_24 : decode cX3_dropLast 24 = .ok (.putfield 25, 3) := by decide +kernel
theorem dX3_dropLast_27 : decode cX3_dropLast 27 = .ok (.return_, 1) := by decide +kernel
theorem dX3_holdFor_0 : decode cX3_holdFor 0 = .ok (.iconst 0, 1) := by decide +kernel
theorem dX3_holdFor_1 : decode cX3_holdFor 1 = .ok (.istore_n 2, 1) := by decide +kernel
theorem dX3_holdFor_2 : decode cX3_holdFor 2 = .ok (.iload_n 2, 1) := by decide +kernel
theorem dX3_holdFor_3 : decode cX3_holdFor 3 = .ok (.aload_n 0, 1) := by decide +kernel
theorem dX3_holdFor_4 : decode cX3_holdFor 4 = .ok (.getfield 21, 3) := by decide +kernel
theorem dX3_holdFor_7 : decode cX3_holdFor 7 = .ok (.if_icmp .ge 31, 3) := by decide +kernel
theorem dX3_holdFor_10 : decode cX3_holdFor 10 = .ok (.aload_n 0, 1) := by decide +kernel
theorem dX3_holdFor_11 : decode cX3_holdFor 11 = .ok (.getfield 25, 3) := by decide +kernel
theorem dX3_holdFor_14 : decode cX3_holdFor 14 = .ok (.iload_n 2, 1) := by decide +kernel
theorem dX3_holdFor_15 : decode cX3_holdFor 15 = .ok (.invokestatic 28, 3) := by decide +kernel
theorem dX3_holdFor_18 : decode cX3_holdFor 18 = .ok (.ifCond .eq 14, 3) := by decide +kernel
theorem dX3_holdFor_21 : decode cX3_holdFor 21 = .ok (.aload_n 0, 1) := by decide +kernel
theorem dX3_holdFor_22 : decode cX3_holdFor 22 = .ok (.iload_n 2, 1) := by decide +kernel
theorem dX3_holdFor_23 : decode cX3_holdFor 23 = .ok (.iload_n 1, 1) := by decide +kernel
theorem dX3_holdFor_24 : decode cX3_holdFor 24 = .ok (.invokevirtual 32, 3) := by decide +kernel
theorem dX3_holdFor_27 : decode cX3_holdFor 27 = .ok (.ifCond .ne 5, 3) := by decide +kernel
theorem dX3_holdFor_30 : decode cX3_holdFor 30 = .ok (.iconst 0, 1) := by decide +kernel
theorem dX3_holdFor_31 : decode cX3_holdFor 31 = .ok (.ireturn, 1) := by decide +kernel
theorem dX3_holdFor_32 : decode cX3_holdFor 32 = .ok (.iinc 2 1, 3) := by decide +kernel
theorem dX3_holdFor_35 : decode cX3_holdFor 35 = .ok (.goto (-33), 3) := by decide +kernel
theorem dX3_holdFor_38 : decode cX3_holdFor 38 = .ok (.iconst 1, 1) := by decide +kernel
theorem dX3_holdFor_39 : decode cX3_holdFor 39 = .ok (.ireturn, 1) := by decide +kernel
theorem dX3_holdAt_0 : decode cX3_holdAt 0 = .ok (.iconst 0, 1) := by decide +kernel
theorem dX3_holdAt_1 : decode cX3_holdAt 1 = .ok (.istore_n 3, 1) := by decide +kernel
theorem dX3_holdAt_2 : decode cX3_holdAt 2 = .ok (.iload_n 3, 1) := by decide +kernel
theorem dX3_holdAt_3 : decode cX3_holdAt 3 = .ok (.aload_n 0, 1) := by decide +kernel
theorem dX3_holdAt_4 : decode cX3_holdAt 4 = .ok (.getfield 21, 3) := by decide +kernel
theorem dX3_holdAt_7 : decode cX3_holdAt 7 = .ok (.if_icmp .ge 41, 3) := by decide +kernel
theorem dX3_holdAt_10 : decode cX3_holdAt 10 = .ok (.aload_n 0, 1) := by decide +kernel
theorem dX3_holdAt_11 : decode cX3_holdAt 11 = .ok (.getfield 18, 3) := by decide +kernel
theorem dX3_holdAt_14 : decode cX3_holdAt 14 = .ok (.iload_n 3, 1) := by decide +kernel
theorem dX3_holdAt_15 : decode cX3_holdAt 15 = .ok (.iaload, 1) := by decide +kernel
theorem dX3_holdAt_16 : decode cX3_holdAt 16 = .ok (.iload_n 1, 1) := by decide +kernel
theorem dX3_holdAt_17 : decode cX3_holdAt 17 = .ok (.if_icmp .ne 25, 3) := by decide +kernel
theorem dX3_holdAt_20 : decode cX3_holdAt 20 = .ok (.aload_n 0, 1) := by decide +kernel
theorem dX3_holdAt_21 : decode cX3_holdAt 21 = .ok (.getfield 25, 3) := by decide +kernel
theorem dX3_holdAt_24 : decode cX3_holdAt 24 = .ok (.iload_n 3, 1) := by decide +kernel
theorem dX3_holdAt_25 : decode cX3_holdAt 25 = .ok (.invokestatic 28, 3) := by decide +kernel
theorem dX3_holdAt_28 : decode cX3_holdAt 28 = .ok (.ifCond .eq 14, 3) := by decide +kernel
theorem dX3_holdAt_31 : decode cX3_holdAt 31 = .ok (.aload_n 0, 1) := by decide +kernel
theorem dX3_holdAt_32 : decode cX3_holdAt 32 = .ok (.iload_n 3, 1) := by decide +kernel
theorem dX3_holdAt_33 : decode cX3_holdAt 33 = .ok (.iload_n 2, 1) := by decide +kernel
theorem dX3_holdAt_34 : decode cX3_holdAt 34 = .ok (.invokevirtual 32, 3) := by decide +kernel
theorem dX3_holdAt_37 : decode cX3_holdAt 37 = .ok (.ifCond .ne 5, 3) := by decide +kernel
theorem dX3_holdAt_40 : decode cX3_holdAt 40 = .ok (.iconst 0, 1) := by decide +kernel
theorem dX3_holdAt_41 : decode cX3_holdAt 41 = .ok (.ireturn, 1) := by decide +kernel
theorem dX3_holdAt_42 : decode cX3_holdAt 42 = .ok (.iinc 3 1, 3) := by decide +kernel
theorem dX3_holdAt_45 : decode cX3_holdAt 45 = .ok (.goto (-43), 3) := by decide +kernel
theorem dX3_holdAt_48 : decode cX3_holdAt 48 = .ok (.iconst 1, 1) := by decide +kernel
theorem dX3_holdAt_49 : decode cX3_holdAt 49 = .ok (.ireturn, 1) := by decide +kernel
theorem dX3_holdsFor_0 : decode cX3_holdsFor 0 = .ok (.aload_n 0, 1) := by decide +kernel
theorem dX3_holdsFor_1 : decode cX3_holdsFor 1 = .ok (.getfield 9, 3) := by decide +kernel
theorem dX3_holdsFor_4 : decode cX3_holdsFor 4 = .ok (.iload_n 1, 1) := by decide +kernel
theorem dX3_holdsFor_5 : decode cX3_holdsFor 5 = .ok (.iaload, 1) := by decide +kernel
theorem dX3_holdsFor_6 : decode cX3_holdsFor 6 = .ok (.iload_n 2, 1) := by decide +kernel
theorem dX3_holdsFor_7 : decode cX3_holdsFor 7 = .ok (.iand, 1) := by decide +kernel
theorem dX3_holdsFor_8 : decode cX3_holdsFor 8 = .ok (.aload_n 0, 1) := by decide +kernel
theorem dX3_holdsFor_9 : decode cX3_holdsFor 9 = .ok (.getfield 15, 3) := by decide +kernel
theorem dX3_holdsFor_12 : decode cX3_holdsFor 12 = .ok (.iload_n 1, 1) := by decide +kernel
theorem dX3_holdsFor_13 : decode cX3_holdsFor 13 = .ok (.iaload, 1) := by decide +kernel
theorem dX3_holdsFor_14 : decode cX3_holdsFor 14 = .ok (.iload_n 2, 1) := by decide +kernel
theorem dX3_holdsFor_15 : decode cX3_holdsFor 15 = .ok (.iconst (-1), 1) := by decide +kernel
theorem dX3_holdsFor_16 : decode cX3_holdsFor 16 = .ok (.ixor, 1) := by decide +kernel
theorem dX3_holdsFor_17 : decode cX3_holdsFor 17 = .ok (.iand, 1) := by decide +kernel
theorem dX3_holdsFor_18 : decode cX3_holdsFor 18 = .ok (.ior, 1) := by decide +kernel
theorem dX3_holdsFor_19 : decode cX3_holdsFor 19 = .ok (.ifCond .eq 7, 3) := by decide +kernel
theorem dX3_holdsFor_22 : decode cX3_holdsFor 22 = .ok (.iconst 1, 1) := by decide +kernel
theorem dX3_holdsFor_23 : decode cX3_holdsFor 23 = .ok (.goto 4, 3) := by decide +kernel
theorem dX3_holdsFor_26 : decode cX3_holdsFor 26 = .ok (.iconst 0, 1) := by decide +kernel
theorem dX3_holdsFor_27 : decode cX3_holdsFor 27 = .ok (.ireturn, 1) := by decide +kernel
theorem dX3_lastKeptBy_0 : decode cX3_lastKeptBy 0 = .ok (.iconst 1, 1) := by decide +kernel
theorem dX3_lastKeptBy_1 : decode cX3_lastKeptBy 1 = .ok (.iload_n 1, 1) := by decide +kernel
theorem dX3_lastKeptBy_2 : decode cX3_lastKeptBy 2 = .ok (.ishl, 1) := by decide +kernel
theorem dX3_lastKeptBy_3 : decode cX3_lastKeptBy 3 = .ok (.istore 4, 2) := by decide +kernel
theorem dX3_lastKeptBy_5 : decode cX3_lastKeptBy 5 = .ok (.iconst 0, 1) := by decide +kernel
theorem dX3_lastKeptBy_6 : decode cX3_lastKeptBy 6 = .ok (.istore 5, 2) := by decide +kernel
theorem dX3_lastKeptBy_8 : decode cX3_lastKeptBy 8 = .ok (.iload 5, 2) := by decide +kernel
theorem dX3_lastKeptBy_10 : decode cX3_lastKeptBy 10 = .ok (.aload_n 0, 1) := by decide +kernel
theorem dX3_lastKeptBy_11 : decode cX3_lastKeptBy 11 = .ok (.getfield 21, 3) := by decide +kernel
theorem dX3_lastKeptBy_14 : decode cX3_lastKeptBy 14 = .ok (.if_icmp .ge 56, 3) := by decide +kernel
theorem dX3_lastKeptBy_17 : decode cX3_lastKeptBy 17 = .ok (.aload_n 0, 1) := by decide +kernel
theorem dX3_lastKeptBy_18 : decode cX3_lastKeptBy 18 = .ok (.getfield 9, 3) := by decide +kernel
theorem dX3_lastKeptBy_21 : decode cX3_lastKeptBy 21 = .ok (.iload 5, 2) := by decide +kernel
theorem dX3_lastKeptBy_23 : decode cX3_lastKeptBy 23 = .ok (.iaload, 1) := by decide +kernel
theorem dX3_lastKeptBy_24 : decode cX3_lastKeptBy 24 = .ok (.iload_n 3, 1) := by decide +kernel
theorem dX3_lastKeptBy_25 : decode cX3_lastKeptBy 25 = .ok (.iconst (-1), 1) := by decide +kernel
theorem dX3_lastKeptBy_26 : decode cX3_lastKeptBy 26 = .ok (.ixor, 1) := by decide +kernel
theorem dX3_lastKeptBy_27 : decode cX3_lastKeptBy 27 = .ok (.iand, 1) := by decide +kernel
theorem dX3_lastKeptBy_28 : decode cX3_lastKeptBy 28 = .ok (.aload_n 0, 1) := by decide +kernel
theorem dX3_lastKeptBy_29 : decode cX3_lastKeptBy 29 = .ok (.getfield 15, 3) := by decide +kernel
theorem dX3_lastKeptBy_32 : decode cX3_lastKeptBy 32 = .ok (.iload 5, 2) := by decide +kernel
theorem dX3_lastKeptBy_34 : decode cX3_lastKeptBy 34 = .ok (.iaload, 1) := by decide +kernel
theorem dX3_lastKeptBy_35 : decode cX3_lastKeptBy 35 = .ok (.iload_n 2, 1) := by decide +kernel
theorem dX3_lastKeptBy_36 : decode cX3_lastKeptBy 36 = .ok (.iconst (-1), 1) := by decide +kernel
theorem dX3_lastKeptBy_37 : decode cX3_lastKeptBy 37 = .ok (.ixor, 1) := by decide +kernel
theorem dX3_lastKeptBy_38 : decode cX3_lastKeptBy 38 = .ok (.iand, 1) := by decide +kernel
theorem dX3_lastKeptBy_39 : decode cX3_lastKeptBy 39 = .ok (.ior, 1) := by decide +kernel
theorem dX3_lastKeptBy_40 : decode cX3_lastKeptBy 40 = .ok (.istore 6, 2) := by decide +kernel
theorem dX3_lastKeptBy_42 : decode cX3_lastKeptBy 42 = .ok (.iload 6, 2) := by decide +kernel
theorem dX3_lastKeptBy_44 : decode cX3_lastKeptBy 44 = .ok (.iload 4, 2) := by decide +kernel
theorem dX3_lastKeptBy_46 : decode cX3_lastKeptBy 46 = .ok (.if_icmp .ne 18, 3) := by decide +kernel
theorem dX3_lastKeptBy_49 : decode cX3_lastKeptBy 49 = .ok (.aload_n 0, 1) := by decide +kernel
theorem dX3_lastKeptBy_50 : decode cX3_lastKeptBy 50 = .ok (.getfield 25, 3) := by decide +kernel
theorem dX3_lastKeptBy_53 : decode cX3_lastKeptBy 53 = .ok (.iload 5, 2) := by decide +kernel
theorem dX3_lastKeptBy_55 : decode cX3_lastKeptBy 55 = .ok (.invokestatic 28, 3) := by decide +kernel
theorem dX3_lastKeptBy_58 : decode cX3_lastKeptBy 58 = .ok (.ifCond .eq 6, 3) := by decide +kernel
theorem dX3_lastKeptBy_61 : decode cX3_lastKeptBy 61 = .ok (.iload 5, 2) := by decide +kernel
theorem dX3_lastKeptBy_63 : decode cX3_lastKeptBy 63 = .ok (.ireturn, 1) := by decide +kernel
theorem dX3_lastKeptBy_64 : decode cX3_lastKeptBy 64 = .ok (.iinc 5 1, 3) := by decide +kernel
theorem dX3_lastKeptBy_67 : decode cX3_lastKeptBy 67 = .ok (.goto (-59), 3) := by decide +kernel
theorem dX3_lastKeptBy_70 : decode cX3_lastKeptBy 70 = .ok (.iconst (-1), 1) := by decide +kernel
theorem dX3_lastKeptBy_71 : decode cX3_lastKeptBy 71 = .ok (.ireturn, 1) := by decide +kernel
theorem dX4_reaches_0 : decode cX4_reaches 0 = .ok (.iload_n 2, 1) := by decide +kernel
theorem dX4_reaches_1 : decode cX4_reaches 1 = .ok (.aload_n 0, 1) := by decide +kernel
theorem dX4_reaches_2 : decode cX4_reaches 2 = .ok (.getfield 9, 3) := by decide +kernel
theorem dX4_reaches_5 : decode cX4_reaches 5 = .ok (.if_icmp .lt 5, 3) := by decide +kernel
theorem dX4_reaches_8 : decode cX4_reaches 8 = .ok (.iconst 1, 1) := by decide +kernel
theorem dX4_reaches_9 : decode cX4_reaches 9 = .ok (.ireturn, 1) := by decide +kernel
theorem dX4_reaches_10 : decode cX4_reaches 10 = .ok (.iload_n 3, 1) := by decide +kernel
theorem dX4_reaches_11 : decode cX4_reaches 11 = .ok (.iconst 1, 1) := by decide +kernel
theorem dX4_reaches_12 : decode cX4_reaches 12 = .ok (.iload_n 2, 1) := by decide +kernel
theorem dX4_reaches_13 : decode cX4_reaches 13 = .ok (.ishl, 1) := by decide +kernel
theorem dX4_reaches_14 : decode cX4_reaches 14 = .ok (.ior, 1) := by decide +kernel
theorem dX4_reaches_15 : decode cX4_reaches 15 = .ok (.istore 6, 2) := by decide +kernel
theorem dX4_reaches_17 : decode cX4_reaches 17 = .ok (.aload_n 0, 1) := by decide +kernel
theorem dX4_reaches_18 : decode cX4_reaches 18 = .ok (.aload_n 1, 1) := by decide +kernel
theorem dX4_reaches_19 : decode cX4_reaches 19 = .ok (.iload_n 2, 1) := by decide +kernel
theorem dX4_reaches_20 : decode cX4_reaches 20 = .ok (.iload_n 3, 1) := by decide +kernel
theorem dX4_reaches_21 : decode cX4_reaches 21 = .ok (.iload 4, 2) := by decide +kernel
theorem dX4_reaches_23 : decode cX4_reaches 23 = .ok (.invokestatic 15, 3) := by decide +kernel
theorem dX4_reaches_26 : decode cX4_reaches 26 = .ok (.ifCond .eq 19, 3) := by decide +kernel
theorem dX4_reaches_29 : decode cX4_reaches 29 = .ok (.aload_n 0, 1) := by decide +kernel
theorem dX4_reaches_30 : decode cX4_reaches 30 = .ok (.aload_n 1, 1) := by decide +kernel
theorem dX4_reaches_31 : decode cX4_reaches 31 = .ok (.iload_n 2, 1) := by decide +kernel
theorem dX4_reaches_32 : decode cX4_reaches 32 = .ok (.iconst 1, 1) := by decide +kernel
theorem dX4_reaches_33 : decode cX4_reaches 33 = .ok (.iadd, 1) := by decide +kernel
theorem dX4_reaches_34 : decode cX4_reaches 34 = .ok (.iload_n 3, 1) := by decide +kernel
theorem dX4_reaches_35 : decode cX4_reaches 35 = .ok (.iload 4, 2) := by decide +kernel
theorem dX4_reaches_37 : decode cX4_reaches 37 = .ok (.iload 5, 2) := by decide +kernel
theorem dX4_reaches_39 : decode cX4_reaches 39 = .ok (.invokestatic 21, 3) := by decide +kernel
theorem dX4_reaches_42 : decode cX4_reaches 42 = .ok (.ifCond .ne 32, 3) := by decide +kernel
theorem dX4_reaches_45 : decode cX4_reaches 45 = .ok (.aload_n 0, 1) := by decide +kernel
theorem dX4_reaches_46 : decode cX4_reaches 46 = .ok (.aload_n 1, 1) := by decide +kernel
theorem dX4_reaches_47 : decode cX4_reaches 47 = .ok (.iload_n 2, 1) := by decide +kernel
theorem dX4_reaches_48 : decode cX4_reaches 48 = .ok (.iload_n 3, 1) := by decide +kernel
theorem dX4_reaches_49 : decode cX4_reaches 49 = .ok (.iload 5, 2) := by decide +kernel
theorem dX4_reaches_51 : decode cX4_reaches 51 = .ok (.invokestatic 25, 3) := by decide +kernel
theorem dX4_reaches_54 : decode cX4_reaches 54 = .ok (.ifCond .eq 24, 3) := by decide +kernel
theorem dX4_reaches_57 : decode cX4_reaches 57 = .ok (.aload_n 0, 1) := by decide +kernel
theorem dX4_reaches_58 : decode cX4_reaches 58 = .ok (.aload_n 1, 1) := by decide +kernel
theorem dX4_reaches_59 : decode cX4_reaches 59 = .ok (.iload_n 2, 1) := by decide +kernel
theorem dX4_reaches_60 : decode cX4_reaches 60 = .ok (.iconst 1, 1) := by decide +kernel
theorem dX4_reaches_61 : decode cX4_reaches 61 = .ok (.iadd, 1) := by decide +kernel
theorem dX4_reaches_62 : decode cX4_reaches 62 = .ok (.iload 6, 2) := by decide +kernel
theorem dX4_reaches_64 : decode cX4_reaches 64 = .ok (.iload 4, 2) := by decide +kernel
theorem dX4_reaches_66 : decode cX4_reaches 66 = .ok (.iload 5, 2) := by decide +kernel
theorem dX4_reaches_68 : decode cX4_reaches 68 = .ok (.invokestatic 21, 3) := by decide +kernel
theorem dX4_reaches_71 : decode cX4_reaches 71 = .ok (.ifCond .eq 7, 3) := by decide +kernel
theorem dX4_reaches_74 : decode cX4_reaches 74 = .ok (.iconst 1, 1) := by decide +kernel
theorem dX4_reaches_75 : decode cX4_reaches 75 = .ok (.goto 4, 3) := by decide +kernel
theorem dX4_reaches_78 : decode cX4_reaches 78 = .ok (.iconst 0, 1) := by decide +kernel
theorem dX4_reaches_79 : decode cX4_reaches 79 = .ok (.ireturn, 1) := by decide +kernel
theorem dX4_countFrom_0 : decode cX4_countFrom 0 = .ok (.iload_n 2, 1) := by decide +kernel
theorem dX4_countFrom_1 : decode cX4_countFrom 1 = .ok (.aload_n 0, 1) := by decide +kernel
theorem dX4_countFrom_2 : decode cX4_countFrom 2 = .ok (.getfield 9, 3) := by decide +kernel
theorem dX4_countFrom_5 : decode cX4_countFrom 5 = .ok (.if_icmp .lt 5, 3) := by decide +kernel
theorem dX4_countFrom_8 : decode cX4_countFrom 8 = .ok (.lconst 1, 1) := by decide +kernel
theorem dX4_countFrom_9 : decode cX4_countFrom 9 = .ok (.lreturn, 1) := by decide +kernel
theorem dX4_countFrom_10 : decode cX4_countFrom 10 = .ok (.lconst 0, 1) := by decide +kernel
theorem dX4_countFrom_11 : decode cX4_countFrom 11 = .ok (.lstore 6, 2) := by decide +kernel
theorem dX4_countFrom_13 : decode cX4_countFrom 13 = .ok (.aload_n 0, 1) := by decide +kernel
theorem dX4_countFrom_14 : decode cX4_countFrom 14 = .ok (.aload_n 1, 1) := by decide +kernel
theorem dX4_countFrom_15 : decode cX4_countFrom 15 = .ok (.iload_n 2, 1) := by decide +kernel
theorem dX4_countFrom_16 : decode cX4_countFrom 16 = .ok (.iload_n 3, 1) := by decide +kernel
theorem dX4_countFrom_17 : decode cX4_countFrom 17 = .ok (.iload 4, 2) := by decide +kernel
theorem dX4_countFrom_19 : decode cX4_countFrom 19 = .ok (.invokestatic 15, 3) := by decide +kernel
theorem dX4_countFrom_22 : decode cX4_countFrom 22 = .ok (.ifCond .eq 21, 3) := by decide +kernel
theorem dX4_countFrom_25 : decode cX4_countFrom 25 = .ok (.lload 6, 2) := by decide +kernel
theorem dX4_countFrom_27 : decode cX4_countFrom 27 = .ok (.aload_n 0, 1) := by decide +kernel
theorem dX4_countFrom_28 : decode cX4_countFrom 28 = .ok (.aload_n 1, 1) := by decide +kernel
theorem dX4_countFrom_29 : decode cX4_countFrom 29 = .ok (.iload_n 2, 1) := by decide +kernel
theorem dX4_countFrom_30 : decode cX4_countFrom 30 = .ok (.iconst 1, 1) := by decide +kernel
theorem dX4_countFrom_31 : decode cX4_countFrom 31 = .ok (.iadd, 1) := by decide +kernel
theorem dX4_countFrom_32 : decode cX4_countFrom 32 = .ok (.iload_n 3, 1) := by decide +kernel
theorem dX4_countFrom_33 : decode cX4_countFrom 33 = .ok (.iload 4, 2) := by decide +kernel
theorem dX4_countFrom_35 : decode cX4_countFrom 35 = .ok (.iload 5, 2) := by decide +kernel
theorem dX4_countFrom_37 : decode cX4_countFrom 37 = .ok (.invokestatic 28, 3) := by decide +kernel
theorem dX4_countFrom_40 : decode cX4_countFrom 40 = .ok (.ladd, 1) := by decide +kernel
theorem dX4_countFrom_41 : decode cX4_countFrom 41 = .ok (.lstore 6, 2) := by decide +kernel
theorem dX4_countFrom_43 : decode cX4_countFrom 43 = .ok (.aload_n 0, 1) := by decide +kernel
theorem dX4_countFrom_44 : decode cX4_countFrom 44 = .ok (.aload_n 1, 1) := by decide +kernel
theorem dX4_countFrom_45 : decode cX4_countFrom 45 = .ok (.iload_n 2, 1) := by decide +kernel
theorem dX4_countFrom_46 : decode cX4_countFrom 46 = .ok (.iload_n 3, 1) := by decide +kernel
theorem dX4_countFrom_47 : decode cX4_countFrom 47 = .ok (.iload 5, 2) := by decide +kernel
theorem dX4_countFrom_49 : decode cX4_countFrom 49 = .ok (.invokestatic 25, 3) := by decide +kernel
theorem dX4_countFrom_52 : decode cX4_countFrom 52 = .ok (.ifCond .eq 25, 3) := by decide +kernel
theorem dX4_countFrom_55 : decode cX4_countFrom 55 = .ok (.lload 6, 2) := by decide +kernel
theorem dX4_countFrom_57 : decode cX4_countFrom 57 = .ok (.aload_n 0, 1) := by decide +kernel
theorem dX4_countFrom_58 : decode cX4_countFrom 58 = .ok (.aload_n 1, 1) := by decide +kernel
theorem dX4_countFrom_59 : decode cX4_countFrom 59 = .ok (.iload_n 2, 1) := by decide +kernel
theorem dX4_countFrom_60 : decode cX4_countFrom 60 = .ok (.iconst 1, 1) := by decide +kernel
theorem dX4_countFrom_61 : decode cX4_countFrom 61 = .ok (.iadd, 1) := by decide +kernel
theorem dX4_countFrom_62 : decode cX4_countFrom 62 = .ok (.iload_n 3, 1) := by decide +kernel
theorem dX4_countFrom_63 : decode cX4_countFrom 63 = .ok (.iconst 1, 1) := by decide +kernel
theorem dX4_countFrom_64 : decode cX4_countFrom 64 = .ok (.iload_n 2, 1) := by decide +kernel
theorem dX4_countFrom_65 : decode cX4_countFrom 65 = .ok (.ishl, 1) := by decide +kernel
theorem dX4_countFrom_66 : decode cX4_countFrom 66 = .ok (.ior, 1) := by decide +kernel
theorem dX4_countFrom_67 : decode cX4_countFrom 67 = .ok (.iload 4, 2) := by decide +kernel
theorem dX4_countFrom_69 : decode cX4_countFrom 69 = .ok (.iload 5, 2) := by decide +kernel
theorem dX4_countFrom_71 : decode cX4_countFrom 71 = .ok (.invokestatic 28, 3) := by decide +kernel
theorem dX4_countFrom_74 : decode cX4_countFrom 74 = .ok (.ladd, 1) := by decide +kernel
theorem dX4_countFrom_75 : decode cX4_countFrom 75 = .ok (.lstore 6, 2) := by decide +kernel
theorem dX4_countFrom_77 : decode cX4_countFrom 77 = .ok (.lload 6, 2) := by decide +kernel
theorem dX4_countFrom_79 : decode cX4_countFrom 79 = .ok (.lreturn, 1) := by decide +kernel
theorem dX4_canTake_0 : decode cX4_canTake 0 = .ok (.iload 4, 2) := by decide +kernel
theorem dX4_canTake_2 : decode cX4_canTake 2 = .ok (.iload_n 2, 1) := by decide +kernel
theorem dX4_canTake_3 : decode cX4_canTake 3 = .ok (.invokestatic 42, 3) := by decide +kernel
theorem dX4_canTake_6 : decode cX4_canTake 6 = .ok (.ifCond .ne 29, 3) := by decide +kernel
theorem dX4_canTake_9 : decode cX4_canTake 9 = .ok (.aload_n 0, 1) := by decide +kernel
theorem dX4_canTake_10 : decode cX4_canTake 10 = .ok (.iload_n 2, 1) := by decide +kernel
theorem dX4_canTake_11 : decode cX4_canTake 11 = .ok (.iload_n 3, 1) := by decide +kernel
theorem dX4_canTake_12 : decode cX4_canTake 12 = .ok (.invokevirtual 46, 3) := by decide +kernel
theorem dX4_canTake_15 : decode cX4_canTake 15 = .ok (.ifCond .eq 20, 3) := by decide +kernel
theorem dX4_canTake_18 : decode cX4_canTake 18 = .ok (.aload_n 1, 1) := by decide +kernel
theorem dX4_canTake_19 : decode cX4_canTake 19 = .ok (.iload_n 2, 1) := by decide +kernel
theorem dX4_canTake_20 : decode cX4_canTake 20 = .ok (.iload_n 3, 1) := by decide +kernel
theorem dX4_canTake_21 : decode cX4_canTake 21 = .ok (.iconst 1, 1) := by decide +kernel
theorem dX4_canTake_22 : decode cX4_canTake 22 = .ok (.iload_n 2, 1) := by decide +kernel
theorem dX4_canTake_23 : decode cX4_canTake 23 = .ok (.ishl, 1) := by decide +kernel
theorem dX4_canTake_24 : decode cX4_canTake 24 = .ok (.ior, 1) := by decide +kernel
theorem dX4_canTake_25 : decode cX4_canTake 25 = .ok (.invokevirtual 49, 3) := by decide +kernel
theorem dX4_canTake_28 : decode cX4_canTake 28 = .ok (.ifCond .eq 7, 3) := by decide +kernel
theorem dX4_canTake_31 : decode cX4_canTake 31 = .ok (.iconst 1, 1) := by decide +kernel
theorem dX4_canTake_32 : decode cX4_canTake 32 = .ok (.goto 4, 3) := by decide +kernel
theorem dX4_canTake_35 : decode cX4_canTake 35 = .ok (.iconst 0, 1) := by decide +kernel
theorem dX4_canTake_36 : decode cX4_canTake 36 = .ok (.ireturn, 1) := by decide +kernel
theorem dX4_canLeave_0 : decode cX4_canLeave 0 = .ok (.iload 4, 2) := by decide +kernel
theorem dX4_canLeave_2 : decode cX4_canLeave 2 = .ok (.iload_n 2, 1) := by decide +kernel
theorem dX4_canLeave_3 : decode cX4_canLeave 3 = .ok (.invokestatic 42, 3) := by decide +kernel
theorem dX4_canLeave_6 : decode cX4_canLeave 6 = .ok (.ifCond .ne 25, 3) := by decide +kernel
theorem dX4_canLeave_9 : decode cX4_canLeave 9 = .ok (.aload_n 0, 1) := by decide +kernel
theorem dX4_canLeave_10 : decode cX4_canLeave 10 = .ok (.iload_n 2, 1) := by decide +kernel
theorem dX4_canLeave_11 : decode cX4_canLeave 11 = .ok (.iload_n 3, 1) := by decide +kernel
theorem dX4_canLeave_12 : decode cX4_canLeave 12 = .ok (.invokevirtual 54, 3) := by decide +kernel
theorem dX4_canLeave_15 : decode cX4_canLeave 15 = .ok (.ifCond .eq 16, 3) := by decide +kernel
theorem dX4_canLeave_18 : decode cX4_canLeave 18 = .ok (.aload_n 1, 1) := by decide +kernel
theorem dX4_canLeave_19 : decode cX4_canLeave 19 = .ok (.iload_n 2, 1) := by decide +kernel
theorem dX4_canLeave_20 : decode cX4_canLeave 20 = .ok (.iload_n 3, 1) := by decide +kernel
theorem dX4_canLeave_21 : decode cX4_canLeave 21 = .ok (.invokevirtual 49, 3) := by decide +kernel
theorem dX4_canLeave_24 : decode cX4_canLeave 24 = .ok (.ifCond .eq 7, 3) := by decide +kernel
theorem dX4_canLeave_27 : decode cX4_canLeave 27 = .ok (.iconst 1, 1) := by decide +kernel
theorem dX4_canLeave_28 : decode cX4_canLeave 28 = .ok (.goto 4, 3) := by decide +kernel
theorem dX4_canLeave_31 : decode cX4_canLeave 31 = .ok (.iconst 0, 1) := by decide +kernel
theorem dX4_canLeave_32 : decode cX4_canLeave 32 = .ok (.ireturn, 1) := by decide +kernel
theorem dX5_init_0 : decode cX5_init 0 = .ok (.aload_n 0, 1) := by decide +kernel
theorem dX5_init_1 : decode cX5_init 1 = .ok (.invokespecial 3, 3) := by decide +kernel
theorem dX5_init_4 : decode cX5_init 4 = .ok (.aload_n 0, 1) := by decide +kernel
theorem dX5_init_5 : decode cX5_init 5 = .ok (.bipush 12, 2) := by decide +kernel
theorem dX5_init_7 : decode cX5_init 7 = .ok (.newarray .int, 2) := by decide +kernel
theorem dX5_init_9 : decode cX5_init 9 = .ok (.putfield 9, 3) := by decide +kernel
theorem dX5_init_12 : decode cX5_init 12 = .ok (.aload_n 0, 1) := by decide +kernel
theorem dX5_init_13 : decode cX5_init 13 = .ok (.bipush 12, 2) := by decide +kernel
theorem dX5_init_15 : decode cX5_init 15 = .ok (.newarray .int, 2) := by decide +kernel
theorem dX5_init_17 : decode cX5_init 17 = .ok (.putfield 15, 3) := by decide +kernel
theorem dX5_init_20 : decode cX5_init 20 = .ok (.aload_n 0, 1) := by decide +kernel
theorem dX5_init_21 : decode cX5_init 21 = .ok (.bipush 12, 2) := by decide +kernel
theorem dX5_init_23 : decode cX5_init 23 = .ok (.newarray .int, 2) := by decide +kernel
theorem dX5_init_25 : decode cX5_init 25 = .ok (.putfield 18, 3) := by decide +kernel
theorem dX5_init_28 : decode cX5_init 28 = .ok (.aload_n 0, 1) := by decide +kernel
theorem dX5_init_29 : decode cX5_init 29 = .ok (.bipush 12, 2) := by decide +kernel
theorem dX5_init_31 : decode cX5_init 31 = .ok (.newarray .int, 2) := by decide +kernel
theorem dX5_init_33 : decode cX5_init 33 = .ok (.putfield 21, 3) := by decide +kernel
theorem dX5_init_36 : decode cX5_init 36 = .ok (.aload_n 0, 1) := by decide +kernel
theorem dX5_init_37 : decode cX5_init 37 = .ok (.getfield 9, 3) := by decide +kernel
theorem dX5_init_40 : decode cX5_init 40 = .ok (.iconst 0, 1) := by decide +kernel
theorem dX5_init_41 : decode cX5_init 41 = .ok (.iconst (-1), 1) := by decide +kernel
theorem dX5_init_42 : decode cX5_init 42 = .ok (.iastore, 1) := by decide +kernel
theorem dX5_init_43 : decode cX5_init 43 = .ok (.aload_n 0, 1) := by decide +kernel
theorem dX5_init_44 : decode cX5_init 44 = .ok (.getfield 21, 3) := by decide +kernel
theorem dX5_init_47 : decode cX5_init 47 = .ok (.iconst 0, 1) := by decide +kernel
theorem dX5_init_48 : decode cX5_init 48 = .ok (.bipush 12, 2) := by decide +kernel
theorem dX5_init_50 : decode cX5_init 50 = .ok (.iastore, 1) := by decide +kernel
theorem dX5_init_51 : decode cX5_init 51 = .ok (.aload_n 0, 1) := by decide +kernel
theorem dX5_init_52 : decode cX5_init 52 = .ok (.iconst 1, 1) := by decide +kernel
theorem dX5_init_53 : decode cX5_init 53 = .ok (.putfield 24, 3) := by decide +kernel
theorem dX5_init_56 : decode cX5_init 56 = .ok (.return_, 1) := by decide +kernel
theorem dX5_grow_0 : decode cX5_grow 0 = .ok (.aload_n 0, 1) := by decide +kernel
theorem dX5_grow_1 : decode cX5_grow 1 = .ok (.getfield 24, 3) := by decide +kernel
theorem dX5_grow_4 : decode cX5_grow 4 = .ok (.istore_n 2, 1) := by decide +kernel
theorem dX5_grow_5 : decode cX5_grow 5 = .ok (.aload_n 0, 1) := by decide +kernel
theorem dX5_grow_6 : decode cX5_grow 6 = .ok (.getfield 9, 3) := by decide +kernel
theorem dX5_grow_9 : decode cX5_grow 9 = .ok (.iload_n 2, 1) := by decide +kernel
theorem dX5_grow_10 : decode cX5_grow 10 = .ok (.iload_n 1, 1) := by decide +kernel
theorem dX5_grow_11 : decode cX5_grow 11 = .ok (.iastore, 1) := by decide +kernel
theorem dX5_grow_12 : decode cX5_grow 12 = .ok (.aload_n 0, 1) := by decide +kernel
theorem dX5_grow_13 : decode cX5_grow 13 = .ok (.getfield 15, 3) := by decide +kernel
theorem dX5_grow_16 : decode cX5_grow 16 = .ok (.iload_n 1, 1) := by decide +kernel
theorem dX5_grow_17 : decode cX5_grow 17 = .ok (.dup2, 1) := by decide +kernel
theorem dX5_grow_18 : decode cX5_grow 18 = .ok (.iaload, 1) := by decide +kernel
theorem dX5_grow_19 : decode cX5_grow 19 = .ok (.iconst 1, 1) := by decide +kernel
theorem dX5_grow_20 : decode cX5_grow 20 = .ok (.iload_n 2, 1) := by decide +kernel
theorem dX5_grow_21 : decode cX5_grow 21 = .ok (.ishl, 1) := by decide +kernel
theorem dX5_grow_22 : decode cX5_grow 22 = .ok (.ior, 1) := by decide +kernel
theorem dX5_grow_23 : decode cX5_grow 23 = .ok (.iastore, 1) := by decide +kernel
theorem dX5_grow_24 : decode cX5_grow 24 = .ok (.aload_n 0, 1) := by decide +kernel
theorem dX5_grow_25 : decode cX5_grow 25 = .ok (.getfield 21, 3) := by decide +kernel
theorem dX5_grow_28 : decode cX5_grow 28 = .ok (.iload_n 2, 1) := by decide +kernel
theorem dX5_grow_29 : decode cX5_grow 29 = .ok (.bipush 12, 2) := by decide +kernel
theorem dX5_grow_31 : decode cX5_grow 31 = .ok (.iastore, 1) := by decide +kernel
theorem dX5_grow_32 : decode cX5_grow 32 = .ok (.aload_n 0, 1) := by decide +kernel
theorem dX5_grow_33 : decode cX5_grow 33 = .ok (.dup, 1) := by decide +kernel
theorem dX5_grow_34 : decode cX5_grow 34 = .ok (.getfield 24, 3) := by decide +kernel
theorem dX5_grow_37 : decode cX5_grow 37 = .ok (.iconst 1, 1) := by decide +kernel
theorem dX5_grow_38 : decode cX5_grow 38 = .ok (.iadd, 1) := by decide +kernel
theorem dX5_grow_39 : decode cX5_grow 39 = .ok (.putfield 24, 3) := by decide +kernel
theorem dX5_grow_42 : decode cX5_grow 42 = .ok (.iload_n 2, 1) := by decide +kernel
theorem dX5_grow_43 : decode cX5_grow 43 = .ok (.ireturn, 1) := by decide +kernel
theorem dX5_allFeatures_0 : decode cX5_allFeatures 0 = .ok (.iconst 1, 1) := by decide +kernel
theorem dX5_allFeatures_1 : decode cX5_allFeatures 1 = .ok (.aload_n 0, 1) := by decide +kernel
theorem dX5_allFeatures_2 : decode cX5_allFeatures 2 = .ok (.getfield 24, 3) := by decide +kernel
theorem dX5_allFeatures_5 : decode cX5_allFeatures 5 = .ok (.ishl, 1) := by decide +kernel
theorem dX5_allFeatures_6 : decode cX5_allFeatures 6 = .ok (.iconst 1, 1) := by decide +kernel
theorem dX5_allFeatures_7 : decode cX5_allFeatures 7 = .ok (.isub, 1) := by decide +kernel
theorem dX5_allFeatures_8 : decode cX5_allFeatures 8 = .ok (.ireturn, 1) := by decide +kernel
theorem dX5_allows_0 : decode cX5_allows 0 = .ok (.iload_n 1, 1) := by decide +kernel
theorem dX5_allows_1 : decode cX5_allows 1 = .ok (.iconst 0, 1) := by decide +kernel
theorem dX5_allows_2 : decode cX5_allows 2 = .ok (.invokestatic 28, 3) := by decide +kernel
theorem dX5_allows_5 : decode cX5_allows 5 = .ok (.ifCond .ne 5, 3) := by decide +kernel
theorem dX5_allows_8 : decode cX5_allows 8 = .ok (.iconst 0, 1) := by decide +kernel
theorem dX5_allows_9 : decode cX5_allows 9 = .ok (.ireturn, 1) := by decide +kernel
theorem dX5_allows_10 : decode cX5_allows 10 = .ok (.iconst 0, 1) := by decide +kernel
theorem dX5_allows_11 : decode cX5_allows 11 = .ok (.istore_n 2, 1) := by decide +kernel
theorem dX5_allows_12 : decode cX5_allows 12 = .ok (.iload_n 2, 1) := by decide +kernel
theorem dX5_allows_13 : decode cX5_allows 13 = .ok (.aload_n 0, 1) := by decide +kernel
theorem dX5_allows_14 : decode cX5_allows 14 = .ok (.getfield 24, 3) := by decide +kernel
theorem dX5_allows_17 : decode cX5_allows 17 = .ok (.if_icmp .ge 28, 3) := by decide +kernel
theorem dX5_allows_20 : decode cX5_allows 20 = .ok (.iload_n 1, 1) := by decide +kernel
theorem dX5_allows_21 : decode cX5_allows 21 = .ok (.iload_n 2, 1) := by decide +kernel
theorem dX5_allows_22 : decode cX5_allows 22 = .ok (.invokestatic 28, 3) := by decide +kernel
theorem dX5_allows_25 : decode cX5_allows 25 = .ok (.ifCond .eq 14, 3) := by decide +kernel
theorem dX5_allows_28 : decode cX5_allows 28 = .ok (.aload_n 0, 1) := by decide +kernel
theorem dX5_allows_29 : decode cX5_allows 29 = .ok (.iload_n 2, 1) := by decide +kernel
theorem dX5_allows_30 : decode cX5_allows 30 = .ok (.iload_n 1, 1) := by decide +kernel
theorem dX5_allows_31 : decode cX5_allows 31 = .ok (.invokevirtual 32, 3) := by decide +kernel
theorem dX5_allows_34 : decode cX5_allows 34 = .ok (.ifCond .ne 5, 3) := by decide +kernel
theorem dX5_allows_37 : decode cX5_allows 37 = .ok (.iconst 0, 1) := by decide +kernel
theorem dX5_allows_38 : decode cX5_allows 38 = .ok (.ireturn, 1) := by decide +kernel
theorem dX5_allows_39 : decode cX5_allows 39 = .ok (.iinc 2 1, 3) := by decide +kernel
theorem dX5_allows_42 : decode cX5_allows 42 = .ok (.goto (-30), 3) := by decide +kernel
theorem dX5_allows_45 : decode cX5_allows 45 = .ok (.iconst 1, 1) := by decide +kernel
theorem dX5_allows_46 : decode cX5_allows 46 = .ok (.ireturn, 1) := by decide +kernel
theorem dX5_allowsAt_0 : decode cX5_allowsAt 0 = .ok (.aload_n 0, 1) := by decide +kernel
theorem dX5_allowsAt_1 : decode cX5_allowsAt 1 = .ok (.getfield 9, 3) := by decide +kernel
theorem dX5_allowsAt_4 : decode cX5_allowsAt 4 = .ok (.iload_n 1, 1) := by decide +kernel
theorem dX5_allowsAt_5 : decode cX5_allowsAt 5 = .ok (.iaload, 1) := by decide +kernel
theorem dX5_allowsAt_6 : decode cX5_allowsAt 6 = .ok (.istore_n 3, 1) := by decide +kernel
theorem dX5_allowsAt_7 : decode cX5_allowsAt 7 = .ok (.iload_n 3, 1) := by decide +kernel
theorem dX5_allowsAt_8 : decode cX5_allowsAt 8 = .ok (.ifCond .lt 13, 3) := by decide +kernel
theorem dX5_allowsAt_11 : decode cX5_allowsAt 11 = .ok (.iload_n 2, 1) := by decide +kernel
theorem dX5_allowsAt_12 : decode cX5_allowsAt 12 = .ok (.iload_n 3, 1) := by decide +kernel
theorem dX5_allowsAt_13 : decode cX5_allowsAt 13 = .ok (.invokestatic 28, 3) := by decide +kernel
theorem dX5_allowsAt_16 : decode cX5_allowsAt 16 = .ok (.ifCond .ne 5, 3) := by decide +kernel
theorem dX5_allowsAt_19 : decode cX5_allowsAt 19 = .ok (.iconst 0, 1) := by decide +kernel
theorem dX5_allowsAt_20 : decode cX5_allowsAt 20 = .ok (.ireturn, 1) := by decide +kernel
theorem dX5_allowsAt_21 : decode cX5_allowsAt 21 = .ok (.aload_n 0, 1) := by decide +kernel
theorem dX5_allowsAt_22 : decode cX5_allowsAt 22 = .ok (.getfield 15, 3) := by decide +kernel
theorem dX5_allowsAt_25 : decode cX5_allowsAt 25 = .ok (.iload_n 1, 1) := by decide +kernel
theorem dX5_allowsAt_26 : decode cX5_allowsAt 26 = .ok (.iaload, 1) := by decide +kernel
theorem dX5_allowsAt_27 : decode cX5_allowsAt 27 = .ok (.istore 4, 2) := by decide +kernel
theorem dX5_allowsAt_29 : decode cX5_allowsAt 29 = .ok (.iload 4, 2) := by decide +kernel
theorem dX5_allowsAt_31 : decode cX5_allowsAt 31 = .ok (.iload_n 2, 1) := by decide +kernel
theorem dX5_allowsAt_32 : decode cX5_allowsAt 32 = .ok (.iand, 1) := by decide +kernel
theorem dX5_allowsAt_33 : decode cX5_allowsAt 33 = .ok (.invokestatic 35, 3) := by decide +kernel
theorem dX5_allowsAt_36 : decode cX5_allowsAt 36 = .ok (.istore 5, 2) := by decide +kernel
theorem dX5_allowsAt_38 : decode cX5_allowsAt 38 = .ok (.iload 4, 2) := by decide +kernel
theorem dX5_allowsAt_40 : decode cX5_allowsAt 40 = .ok (.aload_n 0, 1) := by decide +kernel
theorem dX5_allowsAt_41 : decode cX5_allowsAt 41 = .ok (.getfield 41, 3) := by decide +kernel
theorem dX5_allowsAt_44 : decode cX5_allowsAt 44 = .ok (.iand, 1) := by decide +kernel
theorem dX5_allowsAt_45 : decode cX5_allowsAt 45 = .ok (.iload_n 2, 1) := by decide +kernel
theorem dX5_allowsAt_46 : decode cX5_allowsAt 46 = .ok (.iconst (-1), 1) := by decide +kernel
theorem dX5_allowsAt_47 : decode cX5_allowsAt 47 = .ok (.ixor, 1) := by decide +kernel
theorem dX5_allowsAt_48 : decode cX5_allowsAt 48 = .ok (.iand, 1) := by decide +kernel
theorem dX5_allowsAt_49 : decode cX5_allowsAt 49 = .ok (.ifCond .ne 29, 3) := by decide +kernel
theorem dX5_allowsAt_52 : decode cX5_allowsAt 52 = .ok (.iload 5, 2) := by decide +kernel
theorem dX5_allowsAt_54 : decode cX5_allowsAt 54 = .ok (.aload_n 0, 1) := by decide +kernel
theorem dX5_allowsAt_55 : decode cX5_allowsAt 55 = .ok (.getfield 18, 3) := by decide +kernel
theorem dX5_allowsAt_58 : decode cX5_allowsAt 58 = .ok (.iload_n 1, 1) := by decide +kernel
theorem dX5_allowsAt_59 : decode cX5_allowsAt 59 = .ok (.iaload, 1) := by decide +kernel
theorem dX5_allowsAt_60 : decode cX5_allowsAt 60 = .ok (.if_icmp .lt 18, 3) := by decide +kernel
theorem dX5_allowsAt_63 : decode cX5_allowsAt 63 = .ok (.iload 5, 2) := by decide +kernel
theorem dX5_allowsAt_65 : decode cX5_allowsAt 65 = .ok (.aload_n 0, 1) := by decide +kernel
theorem dX5_allowsAt_66 : decode cX5_allowsAt 66 = .ok (.getfield 21, 3) := by decide +kernel
theorem dX5_allowsAt_69 : decode cX5_allowsAt 69 = .ok (.iload_n 1, 1) := by decide +kernel
theorem dX5_allowsAt_70 : decode cX5_allowsAt 70 = .ok (.iaload, 1) := by decide +kernel
theorem dX5_allowsAt_71 : decode cX5_allowsAt 71 = .ok (.if_icmp .gt 7, 3) := by decide +kernel
theorem dX5_allowsAt_74 : decode cX5_allowsAt 74 = .ok (.iconst 1, 1) := by decide +kernel
theorem dX5_allowsAt_75 : decode cX5_allowsAt 75 = .ok (.goto 4, 3) := by decide +kernel
theorem dX5_allowsAt_78 : decode cX5_allowsAt 78 = .ok (.iconst 0, 1) := by decide +kernel
theorem dX5_allowsAt_79 : decode cX5_allowsAt 79 = .ok (.ireturn, 1) := by decide +kernel
theorem dX5_mayBeIn_0 : decode cX5_mayBeIn 0 = .ok (.aload_n 0, 1) := by decide +kernel
theorem dX5_mayBeIn_1 : decode cX5_mayBeIn 1 = .ok (.getfield 15, 3) := by decide +kernel
theorem dX5_mayBeIn_4 : decode cX5_mayBeIn 4 = .ok (.iload_n 1, 1) := by decide +kernel
theorem dX5_mayBeIn_5 : decode cX5_mayBeIn 5 = .ok (.iaload, 1) := by decide +kernel
theorem dX5_mayBeIn_6 : decode cX5_mayBeIn 6 = .ok (.invokestatic 35, 3) := by decide +kernel
theorem dX5_mayBeIn_9 : decode cX5_mayBeIn 9 = .ok (.aload_n 0, 1) := by decide +kernel
theorem dX5_mayBeIn_10 : decode cX5_mayBeIn 10 = .ok (.getfield 18, 3) := by decide +kernel
theorem dX5_mayBeIn_13 : decode cX5_mayBeIn 13 = .ok (.iload_n 1, 1) := by decide +kernel
theorem dX5_mayBeIn_14 : decode cX5_mayBeIn 14 = .ok (.iaload, 1) := by decide +kernel
theorem dX5_mayBeIn_15 : decode cX5_mayBeIn 15 = .ok (.if_icmp .ge 5, 3) := by decide +kernel
theorem dX5_mayBeIn_18 : decode cX5_mayBeIn 18 = .ok (.iconst 0, 1) := by decide +kernel
theorem dX5_mayBeIn_19 : decode cX5_mayBeIn 19 = .ok (.ireturn, 1) := by decide +kernel
theorem dX5_mayBeIn_20 : decode cX5_mayBeIn 20 = .ok (.aload_n 0, 1) := by decide +kernel
theorem dX5_mayBeIn_21 : decode cX5_mayBeIn 21 = .ok (.getfield 9, 3) := by decide +kernel
theorem dX5_mayBeIn_24 : decode cX5_mayBeIn 24 = .ok (.iload_n 1, 1) := by decide +kernel
theorem dX5_mayBeIn_25 : decode cX5_mayBeIn 25 = .ok (.iaload, 1) := by decide +kernel
theorem dX5_mayBeIn_26 : decode cX5_mayBeIn 26 = .ok (.istore_n 3, 1) := by decide +kernel
theorem dX5_mayBeIn_27 : decode cX5_mayBeIn 27 = .ok (.iload_n 3, 1) := by decide +kernel
theorem dX5_mayBeIn_28 : decode cX5_mayBeIn 28 = .ok (.ifCond .lt 31, 3) := by decide +kernel
theorem dX5_mayBeIn_31 : decode cX5_mayBeIn 31 = .ok (.iload_n 2, 1) := by decide +kernel
theorem dX5_mayBeIn_32 : decode cX5_mayBeIn 32 = .ok (.iload_n 3, 1) := by decide +kernel
theorem dX5_mayBeIn_33 : decode cX5_mayBeIn 33 = .ok (.invokestatic 28, 3) := by decide +kernel
theorem dX5_mayBeIn_36 : decode cX5_mayBeIn 36 = .ok (.ifCond .eq 27, 3) := by decide +kernel
theorem dX5_mayBeIn_39 : decode cX5_mayBeIn 39 = .ok (.aload_n 0, 1) := by decide +kernel
theorem dX5_mayBeIn_40 : decode cX5_mayBeIn 40 = .ok (.getfield 15, 3) := by decide +kernel
theorem dX5_mayBeIn_43 : decode cX5_mayBeIn 43 = .ok (.iload_n 3, 1) := by decide +kernel
theorem dX5_mayBeIn_44 : decode cX5_mayBeIn 44 = .ok (.iaload, 1) := by decide +kernel
theorem dX5_mayBeIn_45 : decode cX5_mayBeIn 45 = .ok (.iload_n 2, 1) := by decide +kernel
theorem dX5_mayBeIn_46 : decode cX5_mayBeIn 46 = .ok (.iand, 1) := by decide +kernel
theorem dX5_mayBeIn_47 : decode cX5_mayBeIn 47 = .ok (.invokestatic 35, 3) := by decide +kernel
theorem dX5_mayBeIn_50 : decode cX5_mayBeIn 50 = .ok (.aload_n 0, 1) := by decide +kernel
theorem dX5_mayBeIn_51 : decode cX5_mayBeIn 51 = .ok (.getfield 21, 3) := by decide +kernel
theorem dX5_mayBeIn_54 : decode cX5_mayBeIn 54 = .ok (.iload_n 3, 1) := by decide +kernel
theorem dX5_mayBeIn_55 : decode cX5_mayBeIn 55 = .ok (.iaload, 1) := by decide +kernel
theorem dX5_mayBeIn_56 : decode cX5_mayBeIn 56 = .ok (.if_icmp .ge 7, 3) := by decide +kernel
theorem dX5_mayBeIn_59 : decode cX5_mayBeIn 59 = .ok (.iconst 1, 1) := by decide +kernel
theorem dX5_mayBeIn_60 : decode cX5_mayBeIn 60 = .ok (.goto 4, 3) := by decide +kernel
theorem dX5_mayBeIn_63 : decode cX5_mayBeIn 63 = .ok (.iconst 0, 1) := by decide +kernel
theorem dX5_mayBeIn_64 : decode cX5_mayBeIn 64 = .ok (.ireturn, 1) := by decide +kernel
theorem dX5_mayBeOut_0 : decode cX5_mayBeOut 0 = .ok (.aload_n 0, 1) := by decide +kernel
theorem dX5_mayBeOut_1 : decode cX5_mayBeOut 1 = .ok (.getfield 9, 3) := by decide +kernel
theorem dX5_mayBeOut_4 : decode cX5_mayBeOut 4 = .ok (.iload_n 1, 1) := by decide +kernel
theorem dX5_mayBeOut_5 : decode cX5_mayBeOut 5 = .ok (.iaload, 1) := by decide +kernel
theorem dX5_mayBeOut_6 : decode cX5_mayBeOut 6 = .ok (.istore_n 3, 1) := by decide +kernel
theorem dX5_mayBeOut_7 : decode cX5_mayBeOut 7 = .ok (.iload_n 3, 1) := by decide +kernel
theorem dX5_mayBeOut_8 : decode cX5_mayBeOut 8 = .ok (.ifCond .ge 5, 3) := by decide +kernel
theorem dX5_mayBeOut_11 : decode cX5_mayBeOut 11 = .ok (.iconst 0, 1) := by decide +kernel
theorem dX5_mayBeOut_12 : decode cX5_mayBeOut 12 = .ok (.ireturn, 1) := by decide +kernel
theorem dX5_mayBeOut_13 : decode cX5_mayBeOut 13 = .ok (.iload_n 2, 1) := by decide +kernel
theorem dX5_mayBeOut_14 : decode cX5_mayBeOut 14 = .ok (.iload_n 3, 1) := by decide +kernel
theorem dX5_mayBeOut_15 : decode cX5_mayBeOut 15 = .ok (.invokestatic 28, 3) := by decide +kernel
theorem dX5_mayBeOut_18 : decode cX5_mayBeOut 18 = .ok (.ifCond .ne 5, 3) := by decide +kernel
theorem dX5_mayBeOut_21 : decode cX5_mayBeOut 21 = .ok (.iconst 1, 1) := by decide +kernel
theorem dX5_mayBeOut_22 : decode cX5_mayBeOut 22 = .ok (.ireturn, 1) := by decide +kernel
theorem dX5_mayBeOut_23 : decode cX5_mayBeOut 23 = .ok (.aload_n 0, 1) := by decide +kernel
theorem dX5_mayBeOut_24 : decode cX5_mayBeOut 24 = .ok (.getfield 15, 3) := by decide +kernel
theorem dX5_mayBeOut_27 : decode cX5_mayBeOut 27 = .ok (.iload_n 3, 1) := by decide +kernel
theorem dX5_mayBeOut_28 : decode cX5_mayBeOut 28 = .ok (.iaload, 1) := by decide +kernel
theorem dX5_mayBeOut_29 : decode cX5_mayBeOut 29 = .ok (.iload_n 2, 1) := by decide +kernel
theorem dX5_mayBeOut_30 : decode cX5_mayBeOut 30 = .ok (.iand, 1) := by decide +kernel
theorem dX5_mayBeOut_31 : decode cX5_mayBeOut 31 = .ok (.invokestatic 35, 3) := by decide +kernel
theorem dX5_mayBeOut_34 : decode cX5_mayBeOut 34 = .ok (.istore 4, 2) := by decide +kernel
theorem dX5_mayBeOut_36 : decode cX5_mayBeOut 36 = .ok (.aload_n 0, 1) := by decide +kernel
theorem dX5_mayBeOut_37 : decode cX5_mayBeOut 37 = .ok (.getfield 15, 3) := by decide +kernel
theorem dX5_mayBeOut_40 : decode cX5_mayBeOut 40 = .ok (.iload_n 3, 1) := by decide +kernel
theorem dX5_mayBeOut_41 : decode cX5_mayBeOut 41 = .ok (.iaload, 1) := by decide +kernel
theorem dX5_mayBeOut_42 : decode cX5_mayBeOut 42 = .ok (.iload_n 1, 1) := by decide +kernel
theorem dX5_mayBeOut_43 : decode cX5_mayBeOut 43 = .ok (.iconst 1, 1) := by decide +kernel
theorem dX5_mayBeOut_44 : decode cX5_mayBeOut 44 = .ok (.iadd, 1) := by decide +kernel
theorem dX5_mayBeOut_45 : decode cX5_mayBeOut 45 = .ok (.ishr, 1) := by decide +kernel
theorem dX5_mayBeOut_46 : decode cX5_mayBeOut 46 = .ok (.invokestatic 35, 3) := by decide +kernel
theorem dX5_mayBeOut_49 : decode cX5_mayBeOut 49 = .ok (.istore 5, 2) := by decide +kernel
theorem dX5_mayBeOut_51 : decode cX5_mayBeOut 51 = .ok (.aload_n 0, 1) := by decide +kernel
theorem dX5_mayBeOut_52 : decode cX5_mayBeOut 52 = .ok (.getfield 41, 3) := by decide +kernel
theorem dX5_mayBeOut_55 : decode cX5_mayBeOut 55 = .ok (.iload_n 1, 1) := by decide +kernel
theorem dX5_mayBeOut_56 : decode cX5_mayBeOut 56 = .ok (.invokestatic 28, 3) := by decide +kernel
theorem dX5_mayBeOut_59 : decode cX5_mayBeOut 59 = .ok (.ifCond .ne 21, 3) := by decide +kernel
theorem dX5_mayBeOut_62 : decode cX5_mayBeOut 62 = .ok (.iload 4, 2) := by decide +kernel
theorem dX5_mayBeOut_64 : decode cX5_mayBeOut 64 = .ok (.iload 5, 2) := by decide +kernel
theorem dX5_mayBeOut_66 : decode cX5_mayBeOut 66 = .ok (.iadd, 1) := by decide +kernel
theorem dX5_mayBeOut_67 : decode cX5_mayBeOut 67 = .ok (.aload_n 0, 1) := by decide +kernel
theorem dX5_mayBeOut_68 : decode cX5_mayBeOut 68 = .ok (.getfield 18, 3) := by decide +kernel
theorem dX5_mayBeOut_71 : decode cX5_mayBeOut 71 = .ok (.iload_n 3, 1) := by decide +kernel
theorem dX5_mayBeOut_72 : decode cX5_mayBeOut 72 = .ok (.iaload, 1) := by decide +kernel
theorem dX5_mayBeOut_73 : decode cX5_mayBeOut 73 = .ok (.if_icmp .lt 7, 3) := by decide +kernel
theorem dX5_mayBeOut_76 : decode cX5_mayBeOut 76 = .ok (.iconst 1, 1) := by decide +kernel
theorem dX5_mayBeOut_77 : decode cX5_mayBeOut 77 = .ok (.goto 4, 3) := by decide +kernel
theorem dX5_mayBeOut_80 : decode cX5_mayBeOut 80 = .ok (.iconst 0, 1) := by decide +kernel
theorem dX5_mayBeOut_81 : decode cX5_mayBeOut 81 = .ok (.ireturn, 1) := by decide +kernel
theorem dX6_init_0 : decode cX6_init 0 = .ok (.aload_n 0, 1) := by decide +kernel
theorem dX6_init_1 : decode cX6_init 1 = .ok (.invokespecial 1, 3) := by decide +kernel
theorem dX6_init_4 : decode cX6_init 4 = .ok (.aload_n 0, 1) := by decide +kernel
theorem dX6_init_5 : decode cX6_init 5 = .ok (.new 7, 3) := by decide +kernel
theorem dX6_init_8 : decode cX6_init 8 = .ok (.dup, 1) := by decide +kernel
theorem dX6_init_9 : decode cX6_init 9 = .ok (.invokespecial 9, 3) := by decide +kernel
theorem dX6_init_12 : decode cX6_init 12 = .ok (.putfield 10, 3) := by decide +kernel
theorem dX6_init_15 : decode cX6_init 15 = .ok (.aload_n 0, 1) := by decide +kernel
theorem dX6_init_16 : decode cX6_init 16 = .ok (.new 16, 3) := by decide +kernel
theorem dX6_init_19 : decode cX6_init 19 = .ok (.dup, 1) := by decide +kernel
theorem dX6_init_20 : decode cX6_init 20 = .ok (.invokespecial 18, 3) := by decide +kernel
theorem dX6_init_23 : decode cX6_init 23 = .ok (.putfield 19, 3) := by decide +kernel
theorem dX6_init_26 : decode cX6_init 26 = .ok (.aload_n 0, 1) := by decide +kernel
theorem dX6_init_27 : decode cX6_init 27 = .ok (.new 23, 3) := by decide +kernel
theorem dX6_init_30 : decode cX6_init 30 = .ok (.dup, 1) := by decide +kernel
theorem dX6_init_31 : decode cX6_init 31 = .ok (.invokespecial 25, 3) := by decide +kernel
theorem dX6_init_34 : decode cX6_init 34 = .ok (.putfield 26, 3) := by decide +kernel
theorem dX6_init_37 : decode cX6_init 37 = .ok (.aload_n 0, 1) := by decide +kernel
theorem dX6_init_38 : decode cX6_init 38 = .ok (.new 30, 3) := by decide +kernel
theorem dX6_init_41 : decode cX6_init 41 = .ok (.dup, 1) := by decide +kernel
theorem dX6_init_42 : decode cX6_init 42 = .ok (.invokespecial 32, 3) := by decide +kernel
theorem dX6_init_45 : decode cX6_init 45 = .ok (.putfield 33, 3) := by decide +kernel
theorem dX6_init_48 : decode cX6_init 48 = .ok (.aload_n 0, 1) := by decide +kernel
theorem dX6_init_49 : decode cX6_init 49 = .ok (.new 37, 3) := by decide +kernel
theorem dX6_init_52 : decode cX6_init 52 = .ok (.dup, 1) := by decide +kernel
theorem dX6_init_53 : decode cX6_init 53 = .ok (.invokespecial 39, 3) := by decide +kernel
theorem dX6_init_56 : decode cX6_init 56 = .ok (.putfield 40, 3) := by decide +kernel
theorem dX6_init_59 : decode cX6_init 59 = .ok (.return_, 1) := by decide +kernel
theorem dX6_addFeature_0 : decode cX6_addFeature 0 = .ok (.aload_n 0, 1) := by decide +kernel
theorem dX6_addFeature_1 : decode cX6_addFeature 1 = .ok (.iload_n 1, 1) := by decide +kernel
theorem dX6_addFeature_2 : decode cX6_addFeature 2 = .ok (.invokevirtual 44, 3) := by decide +kernel
theorem dX6_addFeature_5 : decode cX6_addFeature 5 = .ok (.iload_n 2, 1) := by decide +kernel
theorem dX6_addFeature_6 : decode cX6_addFeature 6 = .ok (.ifCond .lt 10, 3) := by decide +kernel
theorem dX6_addFeature_9 : decode cX6_addFeature 9 = .ok (.iload_n 2, 1) := by decide +kernel
theorem dX6_addFeature_10 : decode cX6_addFeature 10 = .ok (.sipush 999, 3) := by decide +kernel
theorem dX6_addFeature_13 : decode cX6_addFeature 13 = .ok (.if_icmp .le 13, 3) := by decide +kernel
theorem dX6_addFeature_16 : decode cX6_addFeature 16 = .ok (.new 48, 3) := by decide +kernel
theorem dX6_addFeature_19 : decode cX6_addFeature 19 = .ok (.dup, 1) := by decide +kernel
theorem dX6_addFeature_20 : decode cX6_addFeature 20 = .ok (.ldc 50, 2) := by decide +kernel
theorem dX6_addFeature_22 : decode cX6_addFeature 22 = .ok (.invokespecial 52, 3) := by decide +kernel
theorem dX6_addFeature_25 : decode cX6_addFeature 25 = .ok (.athrow, 1) := by decide +kernel
theorem dX6_addFeature_26 : decode cX6_addFeature 26 = .ok (.aload_n 0, 1) := by decide +kernel
theorem dX6_addFeature_27 : decode cX6_addFeature 27 = .ok (.getfield 10, 3) := by decide +kernel
theorem dX6_addFeature_30 : decode cX6_addFeature 30 = .ok (.getfield 55, 3) := by decide +kernel
theorem dX6_addFeature_33 : decode cX6_addFeature 33 = .ok (.bipush 12, 2) := by decide +kernel
theorem dX6_addFeature_35 : decode cX6_addFeature 35 = .ok (.if_icmp .lt 13, 3) := by decide +kernel
theorem dX6_addFeature_38 : decode cX6_addFeature 38 = .ok (.new 59, 3) := by decide +kernel
theorem dX6_addFeature_41 : decode cX6_addFeature 41 = .ok (.dup, 1) := by decide +kernel
theorem dX6_addFeature_42 : decode cX6_addFeature 42 = .ok (.ldc 61, 2) := by decide +kernel
theorem dX6_addFeature_44 : decode cX6_addFeature 44 = .ok (.invokespecial 63, 3) := by decide +kernel
theorem dX6_addFeature_47 : decode cX6_addFeature 47 = .ok (.athrow, 1) := by decide +kernel
theorem dX6_addFeature_48 : decode cX6_addFeature 48 = .ok (.aload_n 0, 1) := by decide +kernel
theorem dX6_addFeature_49 : decode cX6_addFeature 49 = .ok (.getfield 10, 3) := by decide +kernel
theorem dX6_addFeature_52 : decode cX6_addFeature 52 = .ok (.iload_n 1, 1) := by decide +kernel
theorem dX6_addFeature_53 : decode cX6_addFeature 53 = .ok (.invokevirtual 64, 3) := by decide +kernel
theorem dX6_addFeature_56 : decode cX6_addFeature 56 = .ok (.istore_n 3, 1) := by decide +kernel
theorem dX6_addFeature_57 : decode cX6_addFeature 57 = .ok (.aload_n 0, 1) := by decide +kernel
theorem dX6_addFeature_58 : decode cX6_addFeature 58 = .ok (.getfield 26, 3) := by decide +kernel
theorem dX6_addFeature_61 : decode cX6_addFeature 61 = .ok (.iload_n 3, 1) := by decide +kernel
theorem dX6_addFeature_62 : decode cX6_addFeature 62 = .ok (.iload_n 2, 1) := by decide +kernel
theorem dX6_addFeature_63 : decode cX6_addFeature 63 = .ok (.invokevirtual 68, 3) := by decide +kernel
theorem dX6_addFeature_66 : decode cX6_addFeature 66 = .ok (.iload_n 3, 1) := by decide +kernel
theorem dX6_addFeature_67 : decode cX6_addFeature 67 = .ok (.ireturn, 1) := by decide +kernel
theorem dX6_setMandatory_0 : decode cX6_setMandatory 0 = .ok (.aload_n 0, 1) := by decide +kernel
theorem dX6_setMandatory_1 : decode cX6_setMandatory 1 = .ok (.iload_n 1, 1) := by decide +kernel
theorem dX6_setMandatory_2 : decode cX6_setMandatory 2 = .ok (.invokevirtual 44, 3) := by decide +kernel
theorem dX6_setMandatory_5 : decode cX6_setMandatory 5 = .ok (.aload_n 0, 1) := by decide +kernel
theorem dX6_setMandatory_6 : decode cX6_setMandatory 6 = .ok (.iload_n 1, 1) := by decide +kernel
theorem dX6_setMandatory_7 : decode cX6_setMandatory 7 = .ok (.invokevirtual 72, 3) := by decide +kernel
theorem dX6_setMandatory_10 : decode cX6_setMandatory 10 = .ok (.aload_n 0, 1) := by decide +kernel
theorem dX6_setMandatory_11 : decode cX6_setMandatory 11 = .ok (.getfield 10, 3) := by decide +kernel
theorem dX6_setMandatory_14 : decode cX6_setMandatory 14 = .ok (.getfield 75, 3) := by decide +kernel
theorem dX6_setMandatory_17 : decode cX6_setMandatory 17 = .ok (.istore_n 3, 1) := by decide +kernel
theorem dX6_setMandatory_18 : decode cX6_setMandatory 18 = .ok (.iconst 1, 1) := by decide +kernel
theorem dX6_setMandatory_19 : decode cX6_setMandatory 19 = .ok (.iload_n 1, 1) := by decide +kernel
theorem dX6_setMandatory_20 : decode cX6_setMandatory 20 = .ok (.ishl, 1) := by decide +kernel
theorem dX6_setMandatory_21 : decode cX6_setMandatory 21 = .ok (.istore 4, 2) := by decide +kernel
theorem dX6_setMandatory_23 : decode cX6_setMandatory 23 = .ok (.aload_n 0, 1) := by decide +kernel
theorem dX6_setMandatory_24 : decode cX6_setMandatory 24 = .ok (.getfield 10, 3) := by decide +kernel
theorem dX6_setMandatory_27 : decode cX6_setMandatory 27 = .ok (.iload_n 2, 1) := by decide +kernel
theorem dX6_setMandatory_28 : decode cX6_setMandatory 28 = .ok (.ifCond .eq 10, 3) := by decide +kernel
theorem dX6_setMandatory_31 : decode cX6_setMandatory 31 = .ok (.iload_n 3, 1) := by decide +kernel
theorem dX6_setMandatory_32 : decode cX6_setMandatory 32 = .ok (.iload 4, 2) := by decide +kernel
theorem dX6_setMandatory_34 : decode cX6_setMandatory 34 = .ok (.ior, 1) := by decide +kernel
theorem dX6_setMandatory_35 : decode cX6_setMandatory 35 = .ok (.goto 9, 3) := by decide +kernel
theorem dX6_setMandatory_38 : decode cX6_setMandatory 38 = .ok (.iload_n 3, 1) := by decide +kernel
theorem dX6_setMandatory_39 : decode cX6_setMandatory 39 = .ok (.iload 4, 2) := by decide +kernel
theorem dX6_setMandatory_41 : decode cX6_setMandatory 41 = .ok (.iconst (-1), 1) := by decide +kernel
theorem dX6_setMandatory_42 : decode cX6_setMandatory 42 = .ok (.ixor, 1) := by decide +kernel
theorem dX6_setMandatory_43 : decode cX6_setMandatory 43 = .ok (.iand, 1) := by decide +kernel
theorem dX6_setMandatory_44 : decode cX6_setMandatory 44 = .ok (.putfield 75, 3) := by decide +kernel
theorem dX6_setMandatory_47 : decode cX6_setMandatory 47 = .ok (.aload_n 0, 1) := by decide +kernel
theorem dX6_setMandatory_48 : decode cX6_setMandatory 48 = .ok (.invokevirtual 78, 3) := by decide +kernel
theorem dX6_setMandatory_51 : decode cX6_setMandatory 51 = .ok (.ifCond .ne 21, 3) := by decide +kernel
theorem dX6_setMandatory_54 : decode cX6_setMandatory 54 = .ok (.aload_n 0, 1) := by decide +kernel
theorem dX6_setMandatory_55 : decode cX6_setMandatory 55 = .ok (.getfield 10, 3) := by decide +kernel
theorem dX6_setMandatory_58 : decode cX6_setMandatory 58 = .ok (.iload_n 3, 1) := by decide +kernel
theorem dX6_setMandatory_59 : decode cX6_setMandatory 59 = .ok (.putfield 75, 3) := by decide +kernel
theorem dX6_setMandatory_62 : decode cX6_setMandatory 62 = .ok (.new 82, 3) := by decide +kernel
theorem dX6_setMandatory_65 : decode cX6_setMandatory 65 = .ok (.dup, 1) := by decide +kernel
theorem dX6_setMandatory_66 : decode cX6_setMandatory 66 = .ok (.ldc 84, 2) := by decide +kernel
theorem dX6_setMandatory_68 : decode cX6_setMandatory 68 = .ok (.invokespecial 86, 3) := by decide +kernel
theorem dX6_setMandatory_71 : decode cX6_setMandatory 71 = .ok (.athrow, 1) := by decide +kernel
theorem dX6_setMandatory_72 : decode cX6_setMandatory 72 = .ok (.iload_n 3, 1) := by decide +kernel
theorem dX6_setMandatory_73 : decode cX6_setMandatory 73 = .ok (.iload_n 1, 1) := by decide +kernel
theorem dX6_setMandatory_74 : decode cX6_setMandatory 74 = .ok (.invokestatic 87, 3) := by decide +kernel
theorem dX6_setMandatory_77 : decode cX6_setMandatory 77 = .ok (.ireturn, 1) := by decide +kernel
theorem dX6_setGroup_0 : decode cX6_setGroup 0 = .ok (.aload_n 0, 1) := by decide +kernel
theorem dX6_setGroup_1 : decode cX6_setGroup 1 = .ok (.iload_n 1, 1) := by decide +kernel
theorem dX6_setGroup_2 : decode cX6_setGroup 2 = .ok (.invokevirtual 44, 3) := by decide +kernel
