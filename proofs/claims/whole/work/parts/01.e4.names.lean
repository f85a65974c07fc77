theorem dX7_known_46 : decode cX7_known 46 = .ok (.ifCond .eq 8, 3) := by decide +kernel
theorem dX7_known_49 : decode cX7_known 49 = .ok (.bipush 110, 2) := by decide +kernel
theorem dX7_known_51 : decode cX7_known 51 = .ok (.goto 5, 3) := by decide +kernel
theorem dX7_known_54 : decode cX7_known 54 = .ok (.bipush 117, 2) := by decide +kernel
theorem dX7_known_56 : decode cX7_known 56 = .ok (.ireturn, 1) := by decide +kernel
theorem dX7_reasonOf_0 : decode cX7_reasonOf 0 = .ok (.aload_n 0, 1) := by decide +kernel
theorem dX7_reasonOf_1 : decode cX7_reasonOf 1 = .ok (.invokevirtual 153, 3) := by decide +kernel
theorem dX7_reasonOf_4 : decode cX7_reasonOf 4 = .ok (.aload_n 0, 1) := by decide +kernel
theorem dX7_reasonOf_5 : decode cX7_reasonOf 5 = .ok (.aload_n 0, 1) := by decide +kernel
theorem dX7_reasonOf_6 : decode cX7_reasonOf 6 = .ok (.iload_n 1, 1) := by decide +kernel
theorem dX7_reasonOf_7 : decode cX7_reasonOf 7 = .ok (.invokevirtual 94, 3) := by decide +kernel
theorem dX7_reasonOf_10 : decode cX7_reasonOf 10 = .ok (.iconst 1, 1) := by decide +kernel
theorem dX7_reasonOf_11 : decode cX7_reasonOf 11 = .ok (.invokevirtual 97, 3) := by decide +kernel
theorem dX7_reasonOf_14 : decode cX7_reasonOf 14 = .ok (.ifCond .ne 27, 3) := by decide +kernel
theorem dX7_reasonOf_17 : decode cX7_reasonOf 17 = .ok (.aload_n 0, 1) := by decide +kernel
theorem dX7_reasonOf_18 : decode cX7_reasonOf 18 = .ok (.aload_n 0, 1) := by decide +kernel
theorem dX7_reasonOf_19 : decode cX7_reasonOf 19 = .ok (.getfield 36, 3) := by decide +kernel
theorem dX7_reasonOf_22 : decode cX7_reasonOf 22 = .ok (.iload_n 1, 1) := by decide +kernel
theorem dX7_reasonOf_23 : decode cX7_reasonOf 23 = .ok (.caload, 1) := by decide +kernel
theorem dX7_reasonOf_24 : decode cX7_reasonOf 24 = .ok (.bipush 45, 2) := by decide +kernel
theorem dX7_reasonOf_26 : decode cX7_reasonOf 26 = .ok (.if_icmp .ne 7, 3) := by decide +kernel
theorem dX7_reasonOf_29 : decode cX7_reasonOf 29 = .ok (.iconst 1, 1) := by decide +kernel
theorem dX7_reasonOf_30 : decode cX7_reasonOf 30 = .ok (.goto 4, 3) := by decide +kernel
theorem dX7_reasonOf_33 : decode cX7_reasonOf 33 = .ok (.iconst 0, 1) := by decide +kernel
theorem dX7_reasonOf_34 : decode cX7_reasonOf 34 = .ok (.iconst 2, 1) := by decide +kernel
theorem dX7_reasonOf_35 : decode cX7_reasonOf 35 = .ok (.invokevirtual 97, 3) := by decide +kernel
theorem dX7_reasonOf_38 : decode cX7_reasonOf 38 = .ok (.ifCond .eq 8, 3) := by decide +kernel
theorem dX7_reasonOf_41 : decode cX7_reasonOf 41 = .ok (.bipush 45, 2) := by decide +kernel
theorem dX7_reasonOf_43 : decode cX7_reasonOf 43 = .ok (.goto 9, 3) := by decide +kernel
theorem dX7_reasonOf_46 : decode cX7_reasonOf 46 = .ok (.aload_n 0, 1) := by decide +kernel
theorem dX7_reasonOf_47 : decode cX7_reasonOf 47 = .ok (.getfield 36, 3) := by decide +kernel
theorem dX7_reasonOf_50 : decode cX7_reasonOf 50 = .ok (.iload_n 1, 1) := by decide +kernel
theorem dX7_reasonOf_51 : decode cX7_reasonOf 51 = .ok (.caload, 1) := by decide +kernel
theorem dX7_reasonOf_52 : decode cX7_reasonOf 52 = .ok (.ireturn, 1) := by decide +kernel
theorem dX7_reasonRule_0 : decode cX7_reasonRule 0 = .ok (.aload_n 0, 1) := by decide +kernel
theorem dX7_reasonRule_1 : decode cX7_reasonRule 1 = .ok (.invokevirtual 153, 3) := by decide +kernel
theorem dX7_reasonRule_4 : decode cX7_reasonRule 4 = .ok (.aload_n 0, 1) := by decide +kernel
theorem dX7_reasonRule_5 : decode cX7_reasonRule 5 = .ok (.aload_n 0, 1) := by decide +kernel
theorem dX7_reasonRule_6 : decode cX7_reasonRule 6 = .ok (.iload_n 1, 1) := by decide +kernel
theorem dX7_reasonRule_7 : decode cX7_reasonRule 7 = .ok (.invokevirtual 94, 3) := by decide +kernel
theorem dX7_reasonRule_10 : decode cX7_reasonRule 10 = .ok (.iconst 1, 1) := by decide +kernel
theorem dX7_reasonRule_11 : decode cX7_reasonRule 11 = .ok (.invokevirtual 97, 3) := by decide +kernel
theorem dX7_reasonRule_14 : decode cX7_reasonRule 14 = .ok (.ifCond .ne 27, 3) := by decide +kernel
theorem dX7_reasonRule_17 : decode cX7_reasonRule 17 = .ok (.aload_n 0, 1) := by decide +kernel
theorem dX7_reasonRule_18 : decode cX7_reasonRule 18 = .ok (.aload_n 0, 1) := by decide +kernel
theorem dX7_reasonRule_19 : decode cX7_reasonRule 19 = .ok (.getfield 36, 3) := by decide +kernel
theorem dX7_reasonRule_22 : decode cX7_reasonRule 22 = .ok (.iload_n 1, 1) := by decide +kernel
theorem dX7_reasonRule_23 : decode cX7_reasonRule 23 = .ok (.caload, 1) := by decide +kernel
theorem dX7_reasonRule_24 : decode cX7_reasonRule 24 = .ok (.bipush 114, 2) := by decide +kernel
theorem dX7_reasonRule_26 : decode cX7_reasonRule 26 = .ok (.if_icmp .eq 7, 3) := by decide +kernel
theorem dX7_reasonRule_29 : decode cX7_reasonRule 29 = .ok (.iconst 1, 1) := by decide +kernel
theorem dX7_reasonRule_30 : decode cX7_reasonRule 30 = .ok (.goto 4, 3) := by decide +kernel
theorem dX7_reasonRule_33 : decode cX7_reasonRule 33 = .ok (.iconst 0, 1) := by decide +kernel
theorem dX7_reasonRule_34 : decode cX7_reasonRule 34 = .ok (.iconst 2, 1) := by decide +kernel
theorem dX7_reasonRule_35 : decode cX7_reasonRule 35 = .ok (.invokevirtual 97, 3) := by decide +kernel
theorem dX7_reasonRule_38 : decode cX7_reasonRule 38 = .ok (.ifCond .eq 7, 3) := by decide +kernel
theorem dX7_reasonRule_41 : decode cX7_reasonRule 41 = .ok (.iconst 0, 1) := by decide +kernel
theorem dX7_reasonRule_42 : decode cX7_reasonRule 42 = .ok (.goto 9, 3) := by decide +kernel
theorem dX7_reasonRule_45 : decode cX7_reasonRule 45 = .ok (.aload_n 0, 1) := by decide +kernel
theorem dX7_reasonRule_46 : decode cX7_reasonRule 46 = .ok (.getfield 57, 3) := by decide +kernel
theorem dX7_reasonRule_49 : decode cX7_reasonRule 49 = .ok (.iload_n 1, 1) := by decide +kernel
theorem dX7_reasonRule_50 : decode cX7_reasonRule 50 = .ok (.iaload, 1) := by decide +kernel
theorem dX7_reasonRule_51 : decode cX7_reasonRule 51 = .ok (.ireturn, 1) := by decide +kernel
theorem dX7_unknown_0 : decode cX7_unknown 0 = .ok (.aload_n 0, 1) := by decide +kernel
theorem dX7_unknown_1 : decode cX7_unknown 1 = .ok (.iconst 0, 1) := by decide +kernel
theorem dX7_unknown_2 : decode cX7_unknown 2 = .ok (.putfield 64, 3) := by decide +kernel
theorem dX7_unknown_5 : decode cX7_unknown 5 = .ok (.aload_n 0, 1) := by decide +kernel
theorem dX7_unknown_6 : decode cX7_unknown 6 = .ok (.invokevirtual 112, 3) := by decide +kernel
theorem dX7_unknown_9 : decode cX7_unknown 9 = .ok (.ireturn, 1) := by decide +kernel
theorem dX7_isNoSet_0 : decode cX7_isNoSet 0 = .ok (.aload_n 0, 1) := by decide +kernel
theorem dX7_isNoSet_1 : decode cX7_isNoSet 1 = .ok (.iload_n 1, 1) := by decide +kernel
theorem dX7_isNoSet_2 : decode cX7_isNoSet 2 = .ok (.ifCond .lt 13, 3) := by decide +kernel
theorem dX7_isNoSet_5 : decode cX7_isNoSet 5 = .ok (.iload_n 1, 1) := by decide +kernel
theorem dX7_isNoSet_6 : decode cX7_isNoSet 6 = .ok (.iconst 1, 1) := by decide +kernel
theorem dX7_isNoSet_7 : decode cX7_isNoSet 7 = .ok (.aload_n 0, 1) := by decide +kernel
theorem dX7_isNoSet_8 : decode cX7_isNoSet 8 = .ok (.getfield 60, 3) := by decide +kernel
theorem dX7_isNoSet_11 : decode cX7_isNoSet 11 = .ok (.ishl, 1) := by decide +kernel
theorem dX7_isNoSet_12 : decode cX7_isNoSet 12 = .ok (.if_icmp .lt 7, 3) := by decide +kernel
theorem dX7_isNoSet_15 : decode cX7_isNoSet 15 = .ok (.iconst 1, 1) := by decide +kernel
theorem dX7_isNoSet_16 : decode cX7_isNoSet 16 = .ok (.goto 4, 3) := by decide +kernel
theorem dX7_isNoSet_19 : decode cX7_isNoSet 19 = .ok (.iconst 0, 1) := by decide +kernel
theorem dX7_isNoSet_20 : decode cX7_isNoSet 20 = .ok (.iconst 1, 1) := by decide +kernel
theorem dX7_isNoSet_21 : decode cX7_isNoSet 21 = .ok (.invokevirtual 97, 3) := by decide +kernel
theorem dX7_isNoSet_24 : decode cX7_isNoSet 24 = .ok (.ireturn, 1) := by decide +kernel
theorem dX7_isConfiguration_0 : decode cX7_isConfiguration 0 = .ok (.aload_n 0, 1) := by decide +kernel
theorem dX7_isConfiguration_1 : decode cX7_isConfiguration 1 = .ok (.iload_n 1, 1) := by decide +kernel
theorem dX7_isConfiguration_2 : decode cX7_isConfiguration 2 = .ok (.invokevirtual 156, 3) := by decide +kernel
theorem dX7_isConfiguration_5 : decode cX7_isConfiguration 5 = .ok (.ifCond .ne 15, 3) := by decide +kernel
theorem dX7_isConfiguration_8 : decode cX7_isConfiguration 8 = .ok (.aload_n 0, 1) := by decide +kernel
theorem dX7_isConfiguration_9 : decode cX7_isConfiguration 9 = .ok (.iload_n 1, 1) := by decide +kernel
theorem dX7_isConfiguration_10 : decode cX7_isConfiguration 10 = .ok (.invokevirtual 87, 3) := by decide +kernel
theorem dX7_isConfiguration_13 : decode cX7_isConfiguration 13 = .ok (.ifCond .eq 7, 3) := by decide +kernel
theorem dX7_isConfiguration_16 : decode cX7_isConfiguration 16 = .ok (.iconst 1, 1) := by decide +kernel
theorem dX7_isConfiguration_17 : decode cX7_isConfiguration 17 = .ok (.goto 4, 3) := by decide +kernel
theorem dX7_isConfiguration_20 : decode cX7_isConfiguration 20 = .ok (.iconst 0, 1) := by decide +kernel
theorem dX7_isConfiguration_21 : decode cX7_isConfiguration 21 = .ok (.ireturn, 1) := by decide +kernel
theorem dX7_completions_0 : decode cX7_completions 0 = .ok (.aload_n 0, 1) := by decide +kernel
theorem dX7_completions_1 : decode cX7_completions 1 = .ok (.iconst 0, 1) := by decide +kernel
theorem dX7_completions_2 : decode cX7_completions 2 = .ok (.putfield 64, 3) := by decide +kernel
theorem dX7_completions_5 : decode cX7_completions 5 = .ok (.lconst 0, 1) := by decide +kernel
theorem dX7_completions_6 : decode cX7_completions 6 = .ok (.lstore_n 1, 1) := by decide +kernel
theorem dX7_completions_7 : decode cX7_completions 7 = .ok (.iconst 1, 1) := by decide +kernel
theorem dX7_completions_8 : decode cX7_completions 8 = .ok (.istore_n 3, 1) := by decide +kernel
theorem dX7_completions_9 : decode cX7_completions 9 = .ok (.iload_n 3, 1) := by decide +kernel
theorem dX7_completions_10 : decode cX7_completions 10 = .ok (.iconst 1, 1) := by decide +kernel
theorem dX7_completions_11 : decode cX7_completions 11 = .ok (.aload_n 0, 1) := by decide +kernel
theorem dX7_completions_12 : decode cX7_completions 12 = .ok (.getfield 60, 3) := by decide +kernel
theorem dX7_completions_15 : decode cX7_completions 15 = .ok (.ishl, 1) := by decide +kernel
theorem dX7_completions_16 : decode cX7_completions 16 = .ok (.if_icmp .ge 25, 3) := by decide +kernel
theorem dX7_completions_19 : decode cX7_completions 19 = .ok (.lload_n 1, 1) := by decide +kernel
theorem dX7_completions_20 : decode cX7_completions 20 = .ok (.aload_n 0, 1) := by decide +kernel
theorem dX7_completions_21 : decode cX7_completions 21 = .ok (.iload_n 3, 1) := by decide +kernel
theorem dX7_completions_22 : decode cX7_completions 22 = .ok (.invokevirtual 91, 3) := by decide +kernel
theorem dX7_completions_25 : decode cX7_completions 25 = .ok (.ifCond .eq 7, 3) := by decide +kernel
theorem dX7_completions_28 : decode cX7_completions 28 = .ok (.lconst 1, 1) := by decide +kernel
theorem dX7_completions_29 : decode cX7_completions 29 = .ok (.goto 4, 3) := by decide +kernel
theorem dX7_completions_32 : decode cX7_completions 32 = .ok (.lconst 0, 1) := by decide +kernel
theorem dX7_completions_33 : decode cX7_completions 33 = .ok (.ladd, 1) := by decide +kernel
theorem dX7_completions_34 : decode cX7_completions 34 = .ok (.lstore_n 1, 1) := by decide +kernel
theorem dX7_completions_35 : decode cX7_completions 35 = .ok (.iinc 3 2, 3) := by decide +kernel
theorem dX7_completions_38 : decode cX7_completions 38 = .ok (.goto (-29), 3) := by decide +kernel
theorem dX7_completions_41 : decode cX7_completions 41 = .ok (.lload_n 1, 1) := by decide +kernel
theorem dX7_completions_42 : decode cX7_completions 42 = .ok (.lreturn, 1) := by decide +kernel
theorem dX7_completionsByAll_0 : decode cX7_completionsByAll 0 = .ok (.aload_n 0, 1) := by decide +kernel
theorem dX7_completionsByAll_1 : decode cX7_completionsByAll 1 = .ok (.invokevirtual 159, 3) := by decide +kernel
theorem dX7_completionsByAll_4 : decode cX7_completionsByAll 4 = .ok (.lreturn, 1) := by decide +kernel
theorem dX7_layer_0 : decode cX7_layer 0 = .ok (.aload_n 0, 1) := by decide +kernel
theorem dX7_layer_1 : decode cX7_layer 1 = .ok (.getfield 33, 3) := by decide +kernel
theorem dX7_layer_4 : decode cX7_layer 4 = .ok (.aload_n 0, 1) := by decide +kernel
theorem dX7_layer_5 : decode cX7_layer 5 = .ok (.getfield 163, 3) := by decide +kernel
theorem dX7_layer_8 : decode cX7_layer 8 = .ok (.iload_n 1, 1) := by decide +kernel
theorem dX7_layer_9 : decode cX7_layer 9 = .ok (.castore, 1) := by decide +kernel
theorem dX7_layer_10 : decode cX7_layer 10 = .ok (.aload_n 0, 1) := by decide +kernel
theorem dX7_layer_11 : decode cX7_layer 11 = .ok (.getfield 48, 3) := by decide +kernel
theorem dX7_layer_14 : decode cX7_layer 14 = .ok (.aload_n 0, 1) := by decide +kernel
theorem dX7_layer_15 : decode cX7_layer 15 = .ok (.getfield 163, 3) := by decide +kernel
theorem dX7_layer_18 : decode cX7_layer 18 = .ok (.iload_n 2, 1) := by decide +kernel
theorem dX7_layer_19 : decode cX7_layer 19 = .ok (.iastore, 1) := by decide +kernel
theorem dX7_layer_20 : decode cX7_layer 20 = .ok (.aload_n 0, 1) := by decide +kernel
theorem dX7_layer_21 : decode cX7_layer 21 = .ok (.getfield 51, 3) := by decide +kernel
theorem dX7_layer_24 : decode cX7_layer 24 = .ok (.aload_n 0, 1) := by decide +kernel
theorem dX7_layer_25 : decode cX7_layer 25 = .ok (.getfield 163, 3) := by decide +kernel
theorem dX7_layer_28 : decode cX7_layer 28 = .ok (.iload_n 3, 1) := by decide +kernel
theorem dX7_layer_29 : decode cX7_layer 29 = .ok (.iastore, 1) := by decide +kernel
theorem dX7_layer_30 : decode cX7_layer 30 = .ok (.aload_n 0, 1) := by decide +kernel
theorem dX7_layer_31 : decode cX7_layer 31 = .ok (.getfield 54, 3) := by decide +kernel
theorem dX7_layer_34 : decode cX7_layer 34 = .ok (.aload_n 0, 1) := by decide +kernel
theorem dX7_layer_35 : decode cX7_layer 35 = .ok (.getfield 163, 3) := by decide +kernel
theorem dX7_layer_38 : decode cX7_layer 38 = .ok (.iload 4, 2) := by decide +kernel
theorem dX7_layer_40 : decode cX7_layer 40 = .ok (.iastore, 1) := by decide +kernel
theorem dX7_layer_41 : decode cX7_layer 41 = .ok (.aload_n 0, 1) := by decide +kernel
theorem dX7_layer_42 : decode cX7_layer 42 = .ok (.dup, 1) := by decide +kernel
theorem dX7_layer_43 : decode cX7_layer 43 = .ok (.getfield 163, 3) := by decide +kernel
theorem dX7_layer_46 : decode cX7_layer 46 = .ok (.iconst 1, 1) := by decide +kernel
theorem dX7_layer_47 : decode cX7_layer 47 = .ok (.iadd, 1) := by decide +kernel
theorem dX7_layer_48 : decode cX7_layer 48 = .ok (.putfield 163, 3) := by decide +kernel
theorem dX7_layer_51 : decode cX7_layer 51 = .ok (.aload_n 0, 1) := by decide +kernel
theorem dX7_layer_52 : decode cX7_layer 52 = .ok (.getfield 163, 3) := by decide +kernel
theorem dX7_layer_55 : decode cX7_layer 55 = .ok (.iconst 1, 1) := by decide +kernel
theorem dX7_layer_56 : decode cX7_layer 56 = .ok (.iadd, 1) := by decide +kernel
theorem dX7_layer_57 : decode cX7_layer 57 = .ok (.ireturn, 1) := by decide +kernel
theorem dX7_addBundle_0 : decode cX7_addBundle 0 = .ok (.aload_n 0, 1) := by decide +kernel
theorem dX7_addBundle_1 : decode cX7_addBundle 1 = .ok (.aload_n 0, 1) := by decide +kernel
theorem dX7_addBundle_2 : decode cX7_addBundle 2 = .ok (.iload_n 1, 1) := by decide +kernel
theorem dX7_addBundle_3 : decode cX7_addBundle 3 = .ok (.invokevirtual 94, 3) := by decide +kernel
theorem dX7_addBundle_6 : decode cX7_addBundle 6 = .ok (.ifCond .ne 11, 3) := by decide +kernel
theorem dX7_addBundle_9 : decode cX7_addBundle 9 = .ok (.aload_n 0, 1) := by decide +kernel
theorem dX7_addBundle_10 : decode cX7_addBundle 10 = .ok (.iload_n 2, 1) := by decide +kernel
theorem dX7_addBundle_11 : decode cX7_addBundle 11 = .ok (.invokevirtual 94, 3) := by decide +kernel
theorem dX7_addBundle_14 : decode cX7_addBundle 14 = .ok (.ifCond .eq 7, 3) := by decide +kernel
theorem dX7_addBundle_17 : decode cX7_addBundle 17 = .ok (.iconst 1, 1) := by decide +kernel
theorem dX7_addBundle_18 : decode cX7_addBundle 18 = .ok (.goto 4, 3) := by decide +kernel
theorem dX7_addBundle_21 : decode cX7_addBundle 21 = .ok (.iconst 0, 1) := by decide +kernel
theorem dX7_addBundle_22 : decode cX7_addBundle 22 = .ok (.iconst 1, 1) := by decide +kernel
theorem dX7_addBundle_23 : decode cX7_addBundle 23 = .ok (.invokevirtual 97, 3) := by decide +kernel
theorem dX7_addBundle_26 : decode cX7_addBundle 26 = .ok (.ifCond .ne 49, 3) := by decide +kernel
theorem dX7_addBundle_29 : decode cX7_addBundle 29 = .ok (.aload_n 0, 1) := by decide +kernel
theorem dX7_addBundle_30 : decode cX7_addBundle 30 = .ok (.iload_n 3, 1) := by decide +kernel
theorem dX7_addBundle_31 : decode cX7_addBundle 31 = .ok (.iconst 0, 1) := by decide +kernel
theorem dX7_addBundle_32 : decode cX7_addBundle 32 = .ok (.sipush 999, 3) := by decide +kernel
theorem dX7_addBundle_35 : decode cX7_addBundle 35 = .ok (.invokestatic 67, 3) := by decide +kernel
theorem dX7_addBundle_38 : decode cX7_addBundle 38 = .ok (.ifCond .ne 7, 3) := by decide +kernel
theorem dX7_addBundle_41 : decode cX7_addBundle 41 = .ok (.iconst 1, 1) := by decide +kernel
theorem dX7_addBundle_42 : decode cX7_addBundle 42 = .ok (.goto 4, 3) := by decide +kernel
theorem dX7_addBundle_45 : decode cX7_addBundle 45 = .ok (.iconst 0, 1) := by decide +kernel
theorem dX7_addBundle_46 : decode cX7_addBundle 46 = .ok (.iconst 2, 1) := by decide +kernel
theorem dX7_addBundle_47 : decode cX7_addBundle 47 = .ok (.invokevirtual 97, 3) := by decide +kernel
theorem dX7_addBundle_50 : decode cX7_addBundle 50 = .ok (.ifCond .ne 25, 3) := by decide +kernel
theorem dX7_addBundle_53 : decode cX7_addBundle 53 = .ok (.aload_n 0, 1) := by decide +kernel
theorem dX7_addBundle_54 : decode cX7_addBundle 54 = .ok (.aload_n 0, 1) := by decide +kernel
theorem dX7_addBundle_55 : decode cX7_addBundle 55 = .ok (.getfield 163, 3) := by decide +kernel
theorem dX7_addBundle_58 : decode cX7_addBundle 58 = .ok (.bipush 6, 2) := by decide +kernel
theorem dX7_addBundle_60 : decode cX7_addBundle 60 = .ok (.if_icmp .ne 7, 3) := by decide +kernel
theorem dX7_addBundle_63 : decode cX7_addBundle 63 = .ok (.iconst 1, 1) := by decide +kernel
theorem dX7_addBundle_64 : decode cX7_addBundle 64 = .ok (.goto 4, 3) := by decide +kernel
theorem dX7_addBundle_67 : decode cX7_addBundle 67 = .ok (.iconst 0, 1) := by decide +kernel
theorem dX7_addBundle_68 : decode cX7_addBundle 68 = .ok (.iconst 3, 1) := by decide +kernel
theorem dX7_addBundle_69 : decode cX7_addBundle 69 = .ok (.invokevirtual 97, 3) := by decide +kernel
theorem dX7_addBundle_72 : decode cX7_addBundle 72 = .ok (.ifCond .eq 7, 3) := by decide +kernel
theorem dX7_addBundle_75 : decode cX7_addBundle 75 = .ok (.iconst 0, 1) := by decide +kernel
theorem dX7_addBundle_76 : decode cX7_addBundle 76 = .ok (.goto 12, 3) := by decide +kernel
theorem dX7_addBundle_79 : decode cX7_addBundle 79 = .ok (.aload_n 0, 1) := by decide +kernel
theorem dX7_addBundle_80 : decode cX7_addBundle 80 = .ok (.bipush 98, 2) := by decide +kernel
theorem dX7_addBundle_82 : decode cX7_addBundle 82 = .ok (.iload_n 1, 1) := by decide +kernel
theorem dX7_addBundle_83 : decode cX7_addBundle 83 = .ok (.iload_n 2, 1) := by decide +kernel
theorem dX7_addBundle_84 : decode cX7_addBundle 84 = .ok (.iload_n 3, 1) := by decide +kernel
theorem dX7_addBundle_85 : decode cX7_addBundle 85 = .ok (.invokevirtual 166, 3) := by decide +kernel
theorem dX7_addBundle_88 : decode cX7_addBundle 88 = .ok (.ireturn, 1) := by decide +kernel
theorem dX7_addPercent_0 : decode cX7_addPercent 0 = .ok (.aload_n 0, 1) := by decide +kernel
theorem dX7_addPercent_1 : decode cX7_addPercent 1 = .ok (.iload_n 1, 1) := by decide +kernel
theorem dX7_addPercent_2 : decode cX7_addPercent 2 = .ok (.iconst 0, 1) := by decide +kernel
theorem dX7_addPercent_3 : decode cX7_addPercent 3 = .ok (.bipush 100, 2) := by decide +kernel
theorem dX7_addPercent_5 : decode cX7_addPercent 5 = .ok (.invokestatic 67, 3) := by decide +kernel
theorem dX7_addPercent_8 : decode cX7_addPercent 8 = .ok (.ifCond .ne 7, 3) := by decide +kernel
theorem dX7_addPercent_11 : decode cX7_addPercent 11 = .ok (.iconst 1, 1) := by decide +kernel
theorem dX7_addPercent_12 : decode cX7_addPercent 12 = .ok (.goto 4, 3) := by decide +kernel
theorem dX7_addPercent_15 : decode cX7_addPercent 15 = .ok (.iconst 0, 1) := by decide +kernel
theorem dX7_addPercent_16 : decode cX7_addPercent 16 = .ok (.iconst 1, 1) := by decide +kernel
theorem dX7_addPercent_17 : decode cX7_addPercent 17 = .ok (.invokevirtual 97, 3) := by decide +kernel
theorem dX7_addPercent_20 : decode cX7_addPercent 20 = .ok (.ifCond .ne 25, 3) := by decide +kernel
theorem dX7_addPercent_23 : decode cX7_addPercent 23 = .ok (.aload_n 0, 1) := by decide +kernel
theorem dX7_addPercent_24 : decode cX7_addPercent 24 = .ok (.aload_n 0, 1) := by decide +kernel
theorem dX7_addPercent_25 : decode cX7_addPercent 25 = .ok (.getfield 163, 3) := by decide +kernel
theorem dX7_addPercent_28 : decode cX7_addPercent 28 = .ok (.bipush 6, 2) := by decide +kernel
theorem dX7_addPercent_30 : decode cX7_addPercent 30 = .ok (.if_icmp .ne 7, 3) := by decide +kernel
theorem dX7_addPercent_33 : decode cX7_addPercent 33 = .ok (.iconst 1, 1) := by decide +kernel
theorem dX7_addPercent_34 : decode cX7_addPercent 34 = .ok (.goto 4, 3) := by decide +kernel
theorem dX7_addPercent_37 : decode cX7_addPercent 37 = .ok (.iconst 0, 1) := by decide +kernel
theorem dX7_addPercent_38 : decode cX7_addPercent 38 = .ok (.iconst 2, 1) := by decide +kernel
theorem dX7_addPercent_39 : decode cX7_addPercent 39 = .ok (.invokevirtual 97, 3) := by decide +kernel
theorem dX7_addPercent_42 : decode cX7_addPercent 42 = .ok (.ifCond .eq 7, 3) := by decide +kernel
theorem dX7_addPercent_45 : decode cX7_addPercent 45 = .ok (.iconst 0, 1) := by decide +kernel
theorem dX7_addPercent_46 : decode cX7_addPercent 46 = .ok (.goto 12, 3) := by decide +kernel
theorem dX7_addPercent_49 : decode cX7_addPercent 49 = .ok (.aload_n 0, 1) := by decide +kernel
theorem dX7_addPercent_50 : decode cX7_addPercent 50 = .ok (.bipush 112, 2) := by decide +kernel
theorem dX7_addPercent_52 : decode cX7_addPercent 52 = .ok (.iconst 0, 1) := by decide +kernel
theorem dX7_addPercent_53 : decode cX7_addPercent 53 = .ok (.iconst 0, 1) := by decide +kernel
theorem dX7_addPercent_54 : decode cX7_addPercent 54 = .ok (.iload_n 1, 1) := by decide +kernel
theorem dX7_addPercent_55 : decode cX7_addPercent 55 = .ok (.invokevirtual 166, 3) := by decide +kernel
theorem dX7_addPercent_58 : decode cX7_addPercent 58 = .ok (.ireturn, 1) := by decide +kernel
theorem dX7_addSurcharge_0 : decode cX7_addSurcharge 0 = .ok (.aload_n 0, 1) := by decide +kernel
theorem dX7_addSurcharge_1 : decode cX7_addSurcharge 1 = .ok (.iload_n 1, 1) := by decide +kernel
theorem dX7_addSurcharge_2 : decode cX7_addSurcharge 2 = .ok (.iconst 0, 1) := by decide +kernel
theorem dX7_addSurcharge_3 : decode cX7_addSurcharge 3 = .ok (.bipush 12, 2) := by decide +kernel
theorem dX7_addSurcharge_5 : decode cX7_addSurcharge 5 = .ok (.invokestatic 67, 3) := by decide +kernel
theorem dX7_addSurcharge_8 : decode cX7_addSurcharge 8 = .ok (.ifCond .eq 14, 3) := by decide +kernel
theorem dX7_addSurcharge_11 : decode cX7_addSurcharge 11 = .ok (.iload_n 2, 1) := by decide +kernel
theorem dX7_addSurcharge_12 : decode cX7_addSurcharge 12 = .ok (.iconst 0, 1) := by decide +kernel
theorem dX7_addSurcharge_13 : decode cX7_addSurcharge 13 = .ok (.sipush 999, 3) := by decide +kernel
theorem dX7_addSurcharge_16 : decode cX7_addSurcharge 16 = .ok (.invokestatic 67, 3) := by decide +kernel
theorem dX7_addSurcharge_19 : decode cX7_addSurcharge 19 = .ok (.ifCond .ne 7, 3) := by decide +kernel
theorem dX7_addSurcharge_22 : decode cX7_addSurcharge 22 = .ok (.iconst 1, 1) := by decide +kernel
theorem dX7_addSurcharge_23 : decode cX7_addSurcharge 23 = .ok (.goto 4, 3) := by decide +kernel
theorem dX7_addSurcharge_26 : decode cX7_addSurcharge 26 = .ok (.iconst 0, 1) := by decide +kernel
theorem dX7_addSurcharge_27 : decode cX7_addSurcharge 27 = .ok (.iconst 1, 1) := by decide +kernel
theorem dX7_addSurcharge_28 : decode cX7_addSurcharge 28 = .ok (.invokevirtual 97, 3) := by decide +kernel
theorem dX7_addSurcharge_31 : decode cX7_addSurcharge 31 = .ok (.ifCond .ne 25, 3) := by decide +kernel
theorem dX7_addSurcharge_34 : decode cX7_addSurcharge 34 = .ok (.aload_n 0, 1) := by decide +kernel
theorem dX7_addSurcharge_35 : decode cX7_addSurcharge 35 = .ok (.aload_n 0, 1) := by decide +kernel
theorem dX7_addSurcharge_36 : decode cX7_addSurcharge 36 = .ok (.getfield 163, 3) := by decide +kernel
theorem dX7_addSurcharge_39 : decode cX7_addSurcharge 39 = .ok (.bipush 6, 2) := by decide +kernel
theorem dX7_addSurcharge_41 : decode cX7_addSurcharge 41 = .ok (.if_icmp .ne 7, 3) := by decide +kernel
theorem dX7_addSurcharge_44 : decode cX7_addSurcharge 44 = .ok (.iconst 1, 1) := by decide +kernel
theorem dX7_addSurcharge_45 : decode cX7_addSurcharge 45 = .ok (.goto 4, 3) := by decide +kernel
theorem dX7_addSurcharge_48 : decode cX7_addSurcharge 48 = .ok (.iconst 0, 1) := by decide +kernel
theorem dX7_addSurcharge_49 : decode cX7_addSurcharge 49 = .ok (.iconst 2, 1) := by decide +kernel
theorem dX7_addSurcharge_50 : decode cX7_addSurcharge 50 = .ok (.invokevirtual 97, 3) := by decide +kernel
theorem dX7_addSurcharge_53 : decode cX7_addSurcharge 53 = .ok (.ifCond .eq 7, 3) := by decide +kernel
theorem dX7_addSurcharge_56 : decode cX7_addSurcharge 56 = .ok (.iconst 0, 1) := by decide +kernel
theorem dX7_addSurcharge_57 : decode cX7_addSurcharge 57 = .ok (.goto 12, 3) := by decide +kernel
theorem dX7_addSurcharge_60 : decode cX7_addSurcharge 60 = .ok (.aload_n 0, 1) := by decide +kernel
theorem dX7_addSurcharge_61 : decode cX7_addSurcharge 61 = .ok (.bipush 115, 2) := by decide +kernel
theorem dX7_addSurcharge_63 : decode cX7_addSurcharge 63 = .ok (.iload_n 1, 1) := by decide +kernel
theorem dX7_addSurcharge_64 : decode cX7_addSurcharge 64 = .ok (.iconst 0, 1) := by decide +kernel
theorem dX7_addSurcharge_65 : decode cX7_addSurcharge 65 = .ok (.iload_n 2, 1) := by decide +kernel
theorem dX7_addSurcharge_66 : decode cX7_addSurcharge 66 = .ok (.invokevirtual 166, 3) := by decide +kernel
theorem dX7_addSurcharge_69 : decode cX7_addSurcharge 69 = .ok (.ireturn, 1) := by decide +kernel
theorem dX7_removeLayer_0 : decode cX7_removeLayer 0 = .ok (.aload_n 0, 1) := by decide +kernel
theorem dX7_removeLayer_1 : decode cX7_removeLayer 1 = .ok (.aload_n 0, 1) := by decide +kernel
theorem dX7_removeLayer_2 : decode cX7_removeLayer 2 = .ok (.getfield 163, 3) := by decide +kernel
theorem dX7_removeLayer_5 : decode cX7_removeLayer 5 = .ok (.ifCond .ne 7, 3) := by decide +kernel
theorem dX7_removeLayer_8 : decode cX7_removeLayer 8 = .ok (.iconst 1, 1) := by decide +kernel
theorem dX7_removeLayer_9 : decode cX7_removeLayer 9 = .ok (.goto 4, 3) := by decide +kernel
theorem dX7_removeLayer_12 : decode cX7_removeLayer 12 = .ok (.iconst 0, 1) := by decide +kernel
theorem dX7_removeLayer_13 : decode cX7_removeLayer 13 = .ok (.iconst 1, 1) := by decide +kernel
theorem dX7_removeLayer_14 : decode cX7_removeLayer 14 = .ok (.invokevirtual 97, 3) := by decide +kernel
theorem dX7_removeLayer_17 : decode cX7_removeLayer 17 = .ok (.ifCond .eq 5, 3) := by decide +kernel
theorem dX7_removeLayer_20 : decode cX7_removeLayer 20 = .ok (.iconst 0, 1) := by decide +kernel
theorem dX7_removeLayer_21 : decode cX7_removeLayer 21 = .ok (.ireturn, 1) := by decide +kernel
theorem dX7_removeLayer_22 : decode cX7_removeLayer 22 = .ok (.aload_n 0, 1) := by decide +kernel
theorem dX7_removeLayer_23 : decode cX7_removeLayer 23 = .ok (.dup, 1) := by decide +kernel
theorem dX7_removeLayer_24 : decode cX7_removeLayer 24 = .ok (.getfield 163, 3) := by decide +kernel
theorem dX7_removeLayer_27 : decode cX7_removeLayer 27 = .ok (.iconst 1, 1) := by decide +kernel
theorem dX7_removeLayer_28 : decode cX7_removeLayer 28 = .ok (.isub, 1) := by decide +kernel
theorem dX7_removeLayer_29 : decode cX7_removeLayer 29 = .ok (.putfield 163, 3) := by decide +kernel
theorem dX7_removeLayer_32 : decode cX7_removeLayer 32 = .ok (.aload_n 0, 1) := by decide +kernel
theorem dX7_removeLayer_33 : decode cX7_removeLayer 33 = .ok (.getfield 163, 3) := by decide +kernel
theorem dX7_removeLayer_36 : decode cX7_removeLayer 36 = .ok (.iconst 1, 1) := by decide +kernel
theorem dX7_removeLayer_37 : decode cX7_removeLayer 37 = .ok (.iadd, 1) := by decide +kernel
theorem dX7_removeLayer_38 : decode cX7_removeLayer 38 = .ok (.ireturn, 1) := by decide +kernel
theorem dX7_priced_0 : decode cX7_priced 0 = .ok (.iconst 0, 1) := by decide +kernel
theorem dX7_priced_1 : decode cX7_priced 1 = .ok (.istore_n 2, 1) := by decide +kernel
theorem dX7_priced_2 : decode cX7_priced 2 = .ok (.iconst 0, 1) := by decide +kernel
theorem dX7_priced_3 : decode cX7_priced 3 = .ok (.istore_n 3, 1) := by decide +kernel
theorem dX7_priced_4 : decode cX7_priced 4 = .ok (.iload_n 3, 1) := by decide +kernel
theorem dX7_priced_5 : decode cX7_priced 5 = .ok (.aload_n 0, 1) := by decide +kernel
theorem dX7_priced_6 : decode cX7_priced 6 = .ok (.getfield 60, 3) := by decide +kernel
theorem dX7_priced_9 : decode cX7_priced 9 = .ok (.if_icmp .ge 30, 3) := by decide +kernel
theorem dX7_priced_12 : decode cX7_priced 12 = .ok (.iload_n 2, 1) := by decide +kernel
theorem dX7_priced_13 : decode cX7_priced 13 = .ok (.iload_n 1, 1) := by decide +kernel
theorem dX7_priced_14 : decode cX7_priced 14 = .ok (.iload_n 3, 1) := by decide +kernel
theorem dX7_priced_15 : decode cX7_priced 15 = .ok (.invokestatic 71, 3) := by decide +kernel
theorem dX7_priced_18 : decode cX7_priced 18 = .ok (.ifCond .eq 12, 3) := by decide +kernel
theorem dX7_priced_21 : decode cX7_priced 21 = .ok (.aload_n 0, 1) := by decide +kernel
theorem dX7_priced_22 : decode cX7_priced 22 = .ok (.getfield 13, 3) := by decide +kernel
theorem dX7_priced_25 : decode cX7_priced 25 = .ok (.iload_n 3, 1) := by decide +kernel
theorem dX7_priced_26 : decode cX7_priced 26 = .ok (.iaload, 1) := by decide +kernel
theorem dX7_priced_27 : decode cX7_priced 27 = .ok (.goto 4, 3) := by decide +kernel
theorem dX7_priced_30 : decode cX7_priced 30 = .ok (.iconst 0, 1) := by decide +kernel
theorem dX7_priced_31 : decode cX7_priced 31 = .ok (.iadd, 1) := by decide +kernel
theorem dX7_priced_32 : decode cX7_priced 32 = .ok (.istore_n 2, 1) := by decide +kernel
theorem dX7_priced_33 : decode cX7_priced 33 = .ok (.iinc 3 1, 3) := by decide +kernel
theorem dX7_priced_36 : decode cX7_priced 36 = .ok (.goto (-32), 3) := by decide +kernel
theorem dX7_priced_39 : decode cX7_priced 39 = .ok (.iconst 0, 1) := by decide +kernel
theorem dX7_priced_40 : decode cX7_priced 40 = .ok (.istore_n 3, 1) := by decide +kernel
theorem dX7_priced_41 : decode cX7_priced 41 = .ok (.iload_n 3, 1) := by decide +kernel
theorem dX7_priced_42 : decode cX7_priced 42 = .ok (.aload_n 0, 1) := by decide +kernel
theorem dX7_priced_43 : decode cX7_priced 43 = .ok (.getfield 163, 3) := by decide +kernel
theorem dX7_priced_46 : decode cX7_priced 46 = .ok (.if_icmp .ge 128, 3) := by decide +kernel
theorem dX7_priced_49 : decode cX7_priced 49 = .ok (.iload_n 2, 1) := by decide +kernel
theorem dX7_priced_50 : decode cX7_priced 50 = .ok (.aload_n 0, 1) := by decide +kernel
theorem dX7_priced_51 : decode cX7_priced 51 = .ok (.getfield 33, 3) := by decide +kernel
theorem dX7_priced_54 : decode cX7_priced 54 = .ok (.iload_n 3, 1) := by decide +kernel
theorem dX7_priced_55 : decode cX7_priced 55 = .ok (.caload, 1) := by decide +kernel
theorem dX7_priced_56 : decode cX7_priced 56 = .ok (.bipush 98, 2) := by decide +kernel
theorem dX7_priced_58 : decode cX7_priced 58 = .ok (.if_icmp .ne 38, 3) := by decide +kernel
theorem dX7_priced_61 : decode cX7_priced 61 = .ok (.iload_n 1, 1) := by decide +kernel
theorem dX7_priced_62 : decode cX7_priced 62 = .ok (.aload_n 0, 1) := by decide +kernel
theorem dX7_priced_63 : decode cX7_priced 63 = .ok (.getfield 48, 3) := by decide +kernel
theorem dX7_priced_66 : decode cX7_priced 66 = .ok (.iload_n 3, 1) := by decide +kernel
theorem dX7_priced_67 : decode cX7_priced 67 = .ok (.iaload, 1) := by decide +kernel
theorem dX7_priced_68 : decode cX7_priced 68 = .ok (.invokestatic 71, 3) := by decide +kernel
theorem dX7_priced_71 : decode cX7_priced 71 = .ok (.ifCond .eq 25, 3) := by decide +kernel
theorem dX7_priced_74 : decode cX7_priced 74 = .ok (.iload_n 1, 1) := by decide +kernel
theorem dX7_priced_75 : decode cX7_priced 75 = .ok (.aload_n 0, 1) := by decide +kernel
theorem dX7_priced_76 : decode cX7_priced 76 = .ok (.getfield 51, 3) := by decide +kernel
theorem dX7_priced_79 : decode cX7_priced 79 = .ok (.iload_n 3, 1) := by decide +kernel
theorem dX7_priced_80 : decode cX7_priced 80 = .ok (.iaload, 1) := by decide +kernel
theorem dX7_priced_81 : decode cX7_priced 81 = .ok (.invokestatic 71, 3) := by decide +kernel
theorem dX7_priced_84 : decode cX7_priced 84 = .ok (.ifCond .eq 12, 3) := by decide +kernel
theorem dX7_priced_87 : decode cX7_priced 87 = .ok (.aload_n 0, 1) := by decide +kernel
theorem dX7_priced_88 : decode cX7_priced 88 = .ok (.getfield 54, 3) := by decide +kernel
theorem dX7_priced_91 : decode cX7_priced 91 = .ok (.iload_n 3, 1) := by decide +kernel
theorem dX7_priced_92 : decode cX7_priced 92 = .ok (.iaload, 1) := by decide +kernel
theorem dX7_priced_93 : decode cX7_priced 93 = .ok (.goto 4, 3) := by decide +kernel
theorem dX7_priced_96 : decode cX7_priced 96 = .ok (.iconst 0, 1) := by decide +kernel
theorem dX7_priced_97 : decode cX7_priced 97 = .ok (.isub, 1) := by decide +kernel
theorem dX7_priced_98 : decode cX7_priced 98 = .ok (.istore_n 2, 1) := by decide +kernel
theorem dX7_priced_99 : decode cX7_priced 99 = .ok (.iload_n 2, 1) := by decide +kernel
theorem dX7_priced_100 : decode cX7_priced 100 = .ok (.aload_n 0, 1) := by decide +kernel
theorem dX7_priced_101 : decode cX7_priced 101 = .ok (.getfield 33, 3) := by decide +kernel
theorem dX7_priced_104 : decode cX7_priced 104 = .ok (.iload_n 3, 1) := by decide +kernel
theorem dX7_priced_105 : decode cX7_priced 105 = .ok (.caload, 1) := by decide +kernel
theorem dX7_priced_106 : decode cX7_priced 106 = .ok (.bipush 112, 2) := by decide +kernel
theorem dX7_priced_108 : decode cX7_priced 108 = .ok (.if_icmp .ne 17, 3) := by decide +kernel
theorem dX7_priced_111 : decode cX7_priced 111 = .ok (.iload_n 2, 1) := by decide +kernel
theorem dX7_priced_112 : decode cX7_priced 112 = .ok (.aload_n 0, 1) := by decide +kernel
theorem dX7_priced_113 : decode cX7_priced 113 = .ok (.getfield 54, 3) := by decide +kernel
theorem dX7_priced_116 : decode cX7_priced 116 = .ok (.iload_n 3, 1) := by decide +kernel
theorem dX7_priced_117 : decode cX7_priced 117 = .ok (.iaload, 1) := by decide +kernel
theorem dX7_priced_118 : decode cX7_priced 118 = .ok (.imul, 1) := by decide +kernel
theorem dX7_priced_119 : decode cX7_priced 119 = .ok (.bipush 100, 2) := by decide +kernel
theorem dX7_priced_121 : decode cX7_priced 121 = .ok (.idiv, 1) := by decide +kernel
theorem dX7_priced_122 : decode cX7_priced 122 = .ok (.goto 4, 3) := by decide +kernel
theorem dX7_priced_125 : decode cX7_priced 125 = .ok (.iconst 0, 1) := by decide +kernel
theorem dX7_priced_126 : decode cX7_priced 126 = .ok (.isub, 1) := by decide +kernel
theorem dX7_priced_127 : decode cX7_priced 127 = .ok (.istore_n 2, 1) := by decide +kernel
theorem dX7_priced_128 : decode cX7_priced 128 = .ok (.iload_n 2, 1) := by decide +kernel
theorem dX7_priced_129 : decode cX7_priced 129 = .ok (.aload_n 0, 1) := by decide +kernel
theorem dX7_priced_130 : decode cX7_priced 130 = .ok (.getfield 33, 3) := by decide +kernel
theorem dX7_priced_133 : decode cX7_priced 133 = .ok (.iload_n 3, 1) := by decide +kernel
theorem dX7_priced_134 : decode cX7_priced 134 = .ok (.caload, 1) := by decide +kernel
theorem dX7_priced_135 : decode cX7_priced 135 = .ok (.bipush 115, 2) := by decide +kernel
theorem dX7_priced_137 : decode cX7_priced 137 = .ok (.if_icmp .ne 28, 3) := by decide +kernel
theorem dX7_priced_140 : decode cX7_priced 140 = .ok (.aload_n 0, 1) := by decide +kernel
theorem dX7_priced_141 : decode cX7_priced 141 = .ok (.getfield 54, 3) := by decide +kernel
theorem dX7_priced_144 : decode cX7_priced 144 = .ok (.iload_n 3, 1) := by decide +kernel
theorem dX7_priced_145 : decode cX7_priced 145 = .ok (.iaload, 1) := by decide +kernel
theorem dX7_priced_146 : decode cX7_priced 146 = .ok (.iconst 0, 1) := by decide +kernel
theorem dX7_priced_147 : decode cX7_priced 147 = .ok (.iload_n 1, 1) := by decide +kernel
theorem dX7_priced_148 : decode cX7_priced 148 = .ok (.invokestatic 120, 3) := by decide +kernel
theorem dX7_priced_151 : decode cX7_priced 151 = .ok (.aload_n 0, 1) := by decide +kernel
theorem dX7_priced_152 : decode cX7_priced 152 = .ok (.getfield 48, 3) := by decide +kernel
theorem dX7_priced_155 : decode cX7_priced 155 = .ok (.iload_n 3, 1) := by decide +kernel
theorem dX7_priced_156 : decode cX7_priced 156 = .ok (.iaload, 1) := by decide +kernel
theorem dX7_priced_157 : decode cX7_priced 157 = .ok (.isub, 1) := by decide +kernel
theorem dX7_priced_158 : decode cX7_priced 158 = .ok (.invokestatic 169, 3) := by decide +kernel
theorem dX7_priced_161 : decode cX7_priced 161 = .ok (.imul, 1) := by decide +kernel
theorem dX7_priced_162 : decode cX7_priced 162 = .ok (.goto 4, 3) := by decide +kernel
theorem dX7_priced_165 : decode cX7_priced 165 = .ok (.iconst 0, 1) := by decide +kernel
theorem dX7_priced_166 : decode cX7_priced 166 = .ok (.iadd, 1) := by decide +kernel
theorem dX7_priced_167 : decode cX7_priced 167 = .ok (.istore_n 2, 1) := by decide +kernel
theorem dX7_priced_168 : decode cX7_priced 168 = .ok (.iinc 3 1, 3) := by decide +kernel
theorem dX7_priced_171 : decode cX7_priced 171 = .ok (.goto (-130), 3) := by decide +kernel
theorem dX7_priced_174 : decode cX7_priced 174 = .ok (.iload_n 2, 1) := by decide +kernel
theorem dX7_priced_175 : decode cX7_priced 175 = .ok (.ireturn, 1) := by decide +kernel
theorem dX7_price_0 : decode cX7_price 0 = .ok (.aload_n 0, 1) := by decide +kernel
theorem dX7_price_1 : decode cX7_price 1 = .ok (.iload_n 1, 1) := by decide +kernel
theorem dX7_price_2 : decode cX7_price 2 = .ok (.invokevirtual 156, 3) := by decide +kernel
theorem dX7_price_5 : decode cX7_price 5 = .ok (.ifCond .eq 7, 3) := by decide +kernel
theorem dX7_price_8 : decode cX7_price 8 = .ok (.iconst 0, 1) := by decide +kernel
theorem dX7_price_9 : decode cX7_price 9 = .ok (.goto 8, 3) := by decide +kernel
theorem dX7_price_12 : decode cX7_price 12 = .ok (.aload_n 0, 1) := by decide +kernel
theorem dX7_price_13 : decode cX7_price 13 = .ok (.iload_n 1, 1) := by decide +kernel
theorem dX7_price_14 : decode cX7_price 14 = .ok (.invokevirtual 174, 3) := by decide +kernel
theorem dX7_price_17 : decode cX7_price 17 = .ok (.ireturn, 1) := by decide +kernel
theorem dX7_isCheaper_0 : decode cX7_isCheaper 0 = .ok (.aload_n 0, 1) := by decide +kernel
theorem dX7_isCheaper_1 : decode cX7_isCheaper 1 = .ok (.iload_n 1, 1) := by decide +kernel
theorem dX7_isCheaper_2 : decode cX7_isCheaper 2 = .ok (.invokevirtual 174, 3) := by decide +kernel
theorem dX7_isCheaper_5 : decode cX7_isCheaper 5 = .ok (.istore_n 3, 1) := by decide +kernel
theorem dX7_isCheaper_6 : decode cX7_isCheaper 6 = .ok (.aload_n 0, 1) := by decide +kernel
theorem dX7_isCheaper_7 : decode cX7_isCheaper 7 = .ok (.iload_n 2, 1) := by decide +kernel
theorem dX7_isCheaper_8 : decode cX7_isCheaper 8 = .ok (.invokevirtual 174, 3) := by decide +kernel
theorem dX7_isCheaper_11 : decode cX7_isCheaper 11 = .ok (.istore 4, 2) := by decide +kernel
theorem dX7_isCheaper_13 : decode cX7_isCheaper 13 = .ok (.iload_n 1, 1) := by decide +kernel
theorem dX7_isCheaper_14 : decode cX7_isCheaper 14 = .ok (.invokestatic 120, 3) := by decide +kernel
theorem dX7_isCheaper_17 : decode cX7_isCheaper 17 = .ok (.istore 5, 2) := by decide +kernel
theorem dX7_isCheaper_19 : decode cX7_isCheaper 19 = .ok (.iload_n 2, 1) := by decide +kernel
theorem dX7_isCheaper_20 : decode cX7_isCheaper 20 = .ok (.invokestatic 120, 3) := by decide +kernel
theorem dX7_isCheaper_23 : decode cX7_isCheaper 23 = .ok (.istore 6, 2) := by decide +kernel
theorem dX7_isCheaper_25 : decode cX7_isCheaper 25 = .ok (.iload_n 3, 1) := by decide +kernel
theorem dX7_isCheaper_26 : decode cX7_isCheaper 26 = .ok (.iload 4, 2) := by decide +kernel
theorem dX7_isCheaper_28 : decode cX7_isCheaper 28 = .ok (.if_icmp .lt 28, 3) := by decide +kernel
theorem dX7_isCheaper_31 : decode cX7_isCheaper 31 = .ok (.iload_n 3, 1) := by decide +kernel
theorem dX7_isCheaper_32 : decode cX7_isCheaper 32 = .ok (.iload 4, 2) := by decide +kernel
theorem dX7_isCheaper_34 : decode cX7_isCheaper 34 = .ok (.if_icmp .ne 26, 3) := by decide +kernel
theorem dX7_isCheaper_37 : decode cX7_isCheaper 37 = .ok (.iload 5, 2) := by decide +kernel
theorem dX7_isCheaper_39 : decode cX7_isCheaper 39 = .ok (.iload 6, 2) := by decide +kernel
theorem dX7_isCheaper_41 : decode cX7_isCheaper 41 = .ok (.if_icmp .lt 15, 3) := by decide +kernel
theorem dX7_isCheaper_44 : decode cX7_isCheaper 44 = .ok (.iload 5, 2) := by decide +kernel
theorem dX7_isCheaper_46 : decode cX7_isCheaper 46 = .ok (.iload 6, 2) := by decide +kernel
theorem dX7_isCheaper_48 : decode cX7_isCheaper 48 = .ok (.if_icmp .ne 12, 3) := by decide +kernel
theorem dX7_isCheaper_51 : decode cX7_isCheaper 51 = .ok (.iload_n 1, 1) := by decide +kernel
theorem dX7_isCheaper_52 : decode cX7_isCheaper 52 = .ok (.iload_n 2, 1) := by decide +kernel
theorem dX7_isCheaper_53 : decode cX7_isCheaper 53 = .ok (.if_icmp .ge 7, 3) := by decide +kernel
theorem dX7_isCheaper_56 : decode cX7_isCheaper 56 = .ok (.iconst 1, 1) := by decide +kernel
theorem dX7_isCheaper_57 : decode cX7_isCheaper 57 = .ok (.goto 4, 3) := by decide +kernel
theorem dX7_isCheaper_60 : decode cX7_isCheaper 60 = .ok (.iconst 0, 1) := by decide +kernel
theorem dX7_isCheaper_61 : decode cX7_isCheaper 61 = .ok (.ireturn, 1) := by decide +kernel
theorem dX7_cheapest_0 : decode cX7_cheapest 0 = .ok (.aload_n 0, 1) := by decide +kernel
theorem dX7_cheapest_1 : decode cX7_cheapest 1 = .ok (.iconst 0, 1) := by decide +kernel
theorem dX7_cheapest_2 : decode cX7_cheapest 2 = .ok (.putfield 64, 3) := by decide +kernel
theorem dX7_cheapest_5 : decode cX7_cheapest 5 = .ok (.iconst (-1), 1) := by decide +kernel
theorem dX7_cheapest_6 : decode cX7_cheapest 6 = .ok (.istore_n 1, 1) := by decide +kernel
theorem dX7_cheapest_7 : decode cX7_cheapest 7 = .ok (.iconst 1, 1) := by decide +kernel
theorem dX7_cheapest_8 : decode cX7_cheapest 8 = .ok (.istore_n 2, 1) := by decide +kernel
theorem dX7_cheapest_9 : decode cX7_cheapest 9 = .ok (.iload_n 2, 1) := by decide +kernel
theorem dX7_cheapest_10 : decode cX7_cheapest 10 = .ok (.iconst 1, 1) := by decide +kernel
theorem dX7_cheapest_11 : decode cX7_cheapest 11 = .ok (.aload_n 0, 1) := by decide +kernel
theorem dX7_cheapest_12 : decode cX7_cheapest 12 = .ok (.getfield 60, 3) := by decide +kernel
theorem dX7_cheapest_15 : decode cX7_cheapest 15 = .ok (.ishl, 1) := by decide +kernel
theorem dX7_cheapest_16 : decode cX7_cheapest 16 = .ok (.if_icmp .ge 36, 3) := by decide +kernel
theorem dX7_cheapest_19 : decode cX7_cheapest 19 = .ok (.aload_n 0, 1) := by decide +kernel
theorem dX7_cheapest_20 : decode cX7_cheapest 20 = .ok (.iload_n 2, 1) := by decide +kernel
theorem dX7_cheapest_21 : decode cX7_cheapest 21 = .ok (.invokevirtual 91, 3) := by decide +kernel
theorem dX7_cheapest_24 : decode cX7_cheapest 24 = .ok (.ifCond .eq 20, 3) := by decide +kernel
theorem dX7_cheapest_27 : decode cX7_cheapest 27 = .ok (.iload_n 1, 1) := by decide +kernel
theorem dX7_cheapest_28 : decode cX7_cheapest 28 = .ok (.ifCond .lt 12, 3) := by decide +kernel
theorem dX7_cheapest_31 : decode cX7_cheapest 31 = .ok (.aload_n 0, 1) := by decide +kernel
theorem dX7_cheapest_32 : decode cX7_cheapest 32 = .ok (.iload_n 2, 1) := by decide +kernel
theorem dX7_cheapest_33 : decode cX7_cheapest 33 = .ok (.iload_n 1, 1) := by decide +kernel
theorem dX7_cheapest_34 : decode cX7_cheapest 34 = .ok (.invokevirtual 177, 3) := by decide +kernel
theorem dX7_cheapest_37 : decode cX7_cheapest 37 = .ok (.ifCond .eq 7, 3) := by decide +kernel
theorem dX7_cheapest_40 : decode cX7_cheapest 40 = .ok (.iload_n 2, 1) := by decide +kernel
theorem dX7_cheapest_41 : decode cX7_cheapest 41 = .ok (.goto 4, 3) := by decide +kernel
theorem dX7_cheapest_44 : decode cX7_cheapest 44 = .ok (.iload_n 1, 1) := by decide +kernel
theorem dX7_cheapest_45 : decode cX7_cheapest 45 = .ok (.istore_n 1, 1) := by decide +kernel
theorem dX7_cheapest_46 : decode cX7_cheapest 46 = .ok (.iinc 2 2, 3) := by decide +kernel
theorem dX7_cheapest_49 : decode cX7_cheapest 49 = .ok (.goto (-40), 3) := by decide +kernel
theorem dX7_cheapest_52 : decode cX7_cheapest 52 = .ok (.iload_n 1, 1) := by decide +kernel
theorem dX7_cheapest_53 : decode cX7_cheapest 53 = .ok (.ireturn, 1) := by decide +kernel
theorem dX7_cheapestByAll_0 : decode cX7_cheapestByAll 0 = .ok (.aload_n 0, 1) := by decide +kernel
theorem dX7_cheapestByAll_1 : decode cX7_cheapestByAll 1 = .ok (.invokevirtual 180, 3) := by decide +kernel
theorem dX7_cheapestByAll_4 : decode cX7_cheapestByAll 4 = .ok (.ireturn, 1) := by decide +kernel
theorem dX7_complete_0 : decode cX7_complete 0 = .ok (.aload_n 0, 1) := by decide +kernel
theorem dX7_complete_1 : decode cX7_complete 1 = .ok (.invokevirtual 180, 3) := by decide +kernel
theorem dX7_complete_4 : decode cX7_complete 4 = .ok (.istore_n 1, 1) := by decide +kernel
theorem dX7_complete_5 : decode cX7_complete 5 = .ok (.iconst 1, 1) := by decide +kernel
theorem dX7_complete_6 : decode cX7_complete 6 = .ok (.istore_n 2, 1) := by decide +kernel
theorem dX7_complete_7 : decode cX7_complete 7 = .ok (.iload_n 2, 1) := by decide +kernel
theorem dX7_complete_8 : decode cX7_complete 8 = .ok (.aload_n 0, 1) := by decide +kernel
theorem dX7_complete_9 : decode cX7_complete 9 = .ok (.getfield 60, 3) := by decide +kernel
theorem dX7_complete_12 : decode cX7_complete 12 = .ok (.if_icmp .ge 57, 3) := by decide +kernel
theorem dX7_complete_15 : decode cX7_complete 15 = .ok (.aload_n 0, 1) := by decide +kernel
theorem dX7_complete_16 : decode cX7_complete 16 = .ok (.dup, 1) := by decide +kernel
theorem dX7_complete_17 : decode cX7_complete 17 = .ok (.getfield 81, 3) := by decide +kernel
theorem dX7_complete_20 : decode cX7_complete 20 = .ok (.iload_n 1, 1) := by decide +kernel
theorem dX7_complete_21 : decode cX7_complete 21 = .ok (.iload_n 2, 1) := by decide +kernel
theorem dX7_complete_22 : decode cX7_complete 22 = .ok (.invokestatic 71, 3) := by decide +kernel
theorem dX7_complete_25 : decode cX7_complete 25 = .ok (.ifCond .eq 9, 3) := by decide +kernel
theorem dX7_complete_28 : decode cX7_complete 28 = .ok (.iconst 1, 1) := by decide +kernel
theorem dX7_complete_29 : decode cX7_complete 29 = .ok (.iload_n 2, 1) := by decide +kernel
theorem dX7_complete_30 : decode cX7_complete 30 = .ok (.ishl, 1) := by decide +kernel
theorem dX7_complete_31 : decode cX7_complete 31 = .ok (.goto 4, 3) := by decide +kernel
theorem dX7_complete_34 : decode cX7_complete 34 = .ok (.iconst 0, 1) := by decide +kernel
theorem dX7_complete_35 : decode cX7_complete 35 = .ok (.ior, 1) := by decide +kernel
theorem dX7_complete_36 : decode cX7_complete 36 = .ok (.putfield 81, 3) := by decide +kernel
theorem dX7_complete_39 : decode cX7_complete 39 = .ok (.aload_n 0, 1) := by decide +kernel
theorem dX7_complete_40 : decode cX7_complete 40 = .ok (.dup, 1) := by decide +kernel
theorem dX7_complete_41 : decode cX7_complete 41 = .ok (.getfield 84, 3) := by decide +kernel
theorem dX7_complete_44 : decode cX7_complete 44 = .ok (.iload_n 1, 1) := by decide +kernel
theorem dX7_complete_45 : decode cX7_complete 45 = .ok (.iload_n 2, 1) := by decide +kernel
theorem dX7_complete_46 : decode cX7_complete 46 = .ok (.invokestatic 71, 3) := by decide +kernel
theorem dX7_complete_49 : decode cX7_complete 49 = .ok (.ifCond .eq 7, 3) := by decide +kernel
theorem dX7_complete_52 : decode cX7_complete 52 = .ok (.iconst 0, 1) := by decide +kernel
theorem dX7_complete_53 : decode cX7_complete 53 = .ok (.goto 6, 3) := by decide +kernel
theorem dX7_complete_56 : decode cX7_complete 56 = .ok (.iconst 1, 1) := by decide +kernel
theorem dX7_complete_57 : decode cX7_complete 57 = .ok (.iload_n 2, 1) := by decide +kernel
theorem dX7_complete_58 : decode cX7_complete 58 = .ok (.ishl, 1) := by decide +kernel
theorem dX7_complete_59 : decode cX7_complete 59 = .ok (.ior, 1) := by decide +kernel
theorem dX7_complete_60 : decode cX7_complete 60 = .ok (.putfield 84, 3) := by decide +kernel
theorem dX7_complete_63 : decode cX7_complete 63 = .ok (.iinc 2 1, 3) := by decide +kernel
theorem dX7_complete_66 : decode cX7_complete 66 = .ok (.goto (-59), 3) := by decide +kernel
theorem dX7_complete_69 : decode cX7_complete 69 = .ok (.aload_n 0, 1) := by decide +kernel
theorem dX7_complete_70 : decode cX7_complete 70 = .ok (.iload_n 1, 1) := by decide +kernel
theorem dX7_complete_71 : decode cX7_complete 71 = .ok (.invokevirtual 174, 3) := by decide +kernel
theorem dX7_complete_74 : decode cX7_complete 74 = .ok (.ireturn, 1) := by decide +kernel
theorem dX7_wrong_0 : decode cX7_wrong 0 = .ok (.iconst (-1), 1) := by decide +kernel
theorem dX7_wrong_1 : decode cX7_wrong 1 = .ok (.istore_n 3, 1) := by decide +kernel
theorem dX7_wrong_2 : decode cX7_wrong 2 = .ok (.iconst 1, 1) := by decide +kernel
theorem dX7_wrong_3 : decode cX7_wrong 3 = .ok (.istore 4, 2) := by decide +kernel
theorem dX7_wrong_5 : decode cX7_wrong 5 = .ok (.iload 4, 2) := by decide +kernel
theorem dX7_wrong_7 : decode cX7_wrong 7 = .ok (.iconst 1, 1) := by decide +kernel
theorem dX7_wrong_8 : decode cX7_wrong 8 = .ok (.aload_n 0, 1) := by decide +kernel
theorem dX7_wrong_9 : decode cX7_wrong 9 = .ok (.getfield 60, 3) := by decide +kernel
theorem dX7_wrong_12 : decode cX7_wrong 12 = .ok (.ishl, 1) := by decide +kernel
theorem dX7_wrong_13 : decode cX7_wrong 13 = .ok (.if_icmp .ge 90, 3) := by decide +kernel
theorem dX7_wrong_16 : decode cX7_wrong 16 = .ok (.iload 4, 2) := by decide +kernel
theorem dX7_wrong_18 : decode cX7_wrong 18 = .ok (.iload_n 1, 1) := by decide +kernel
theorem dX7_wrong_19 : decode cX7_wrong 19 = .ok (.invokestatic 71, 3) := by decide +kernel
theorem dX7_wrong_22 : decode cX7_wrong 22 = .ok (.iload_n 2, 1) := by decide +kernel
theorem dX7_wrong_23 : decode cX7_wrong 23 = .ok (.if_icmp .ne 74, 3) := by decide +kernel
theorem dX7_wrong_26 : decode cX7_wrong 26 = .ok (.aload_n 0, 1) := by decide +kernel
theorem dX7_wrong_27 : decode cX7_wrong 27 = .ok (.iload 4, 2) := by decide +kernel
theorem dX7_wrong_29 : decode cX7_wrong 29 = .ok (.invokevirtual 87, 3) := by decide +kernel
theorem dX7_wrong_32 : decode cX7_wrong 32 = .ok (.ifCond .eq 65, 3) := by decide +kernel
theorem dX7_wrong_35 : decode cX7_wrong 35 = .ok (.aload_n 0, 1) := by decide +kernel
theorem dX7_wrong_36 : decode cX7_wrong 36 = .ok (.getfield 81, 3) := by decide +kernel
theorem dX7_wrong_39 : decode cX7_wrong 39 = .ok (.iload 4, 2) := by decide +kernel
theorem dX7_wrong_41 : decode cX7_wrong 41 = .ok (.iconst (-1), 1) := by decide +kernel
theorem dX7_wrong_42 : decode cX7_wrong 42 = .ok (.ixor, 1) := by decide +kernel
theorem dX7_wrong_43 : decode cX7_wrong 43 = .ok (.iand, 1) := by decide +kernel
theorem dX7_wrong_44 : decode cX7_wrong 44 = .ok (.aload_n 0, 1) := by decide +kernel
theorem dX7_wrong_45 : decode cX7_wrong 45 = .ok (.getfield 84, 3) := by decide +kernel
theorem dX7_wrong_48 : decode cX7_wrong 48 = .ok (.iload 4, 2) := by decide +kernel
theorem dX7_wrong_50 : decode cX7_wrong 50 = .ok (.iand, 1) := by decide +kernel
theorem dX7_wrong_51 : decode cX7_wrong 51 = .ok (.ior, 1) := by decide +kernel
theorem dX7_wrong_52 : decode cX7_wrong 52 = .ok (.istore 5, 2) := by decide +kernel
theorem dX7_wrong_54 : decode cX7_wrong 54 = .ok (.iload_n 3, 1) := by decide +kernel
theorem dX7_wrong_55 : decode cX7_wrong 55 = .ok (.ifCond .ge 7, 3) := by decide +kernel
theorem dX7_wrong_58 : decode cX7_wrong 58 = .ok (.iconst (-1), 1) := by decide +kernel
theorem dX7_wrong_59 : decode cX7_wrong 59 = .ok (.goto 13, 3) := by decide +kernel
theorem dX7_wrong_62 : decode cX7_wrong 62 = .ok (.iload 5, 2) := by decide +kernel
theorem dX7_wrong_64 : decode cX7_wrong 64 = .ok (.invokestatic 120, 3) := by decide +kernel
theorem dX7_wrong_67 : decode cX7_wrong 67 = .ok (.iload_n 3, 1) := by decide +kernel
theorem dX7_wrong_68 : decode cX7_wrong 68 = .ok (.invokestatic 120, 3) := by decide +kernel
theorem dX7_wrong_71 : decode cX7_wrong 71 = .ok (.isub, 1) := by decide +kernel
theorem dX7_wrong_72 : decode cX7_wrong 72 = .ok (.istore 6, 2) := by decide +kernel
theorem dX7_wrong_74 : decode cX7_wrong 74 = .ok (.iload 6, 2) := by decide +kernel
theorem dX7_wrong_76 : decode cX7_wrong 76 = .ok (.ifCond .lt 14, 3) := by decide +kernel
theorem dX7_wrong_79 : decode cX7_wrong 79 = .ok (.iload 6, 2) := by decide +kernel
theorem dX7_wrong_81 : decode cX7_wrong 81 = .ok (.ifCond .ne 14, 3) := by decide +kernel
theorem dX7_wrong_84 : decode cX7_wrong 84 = .ok (.iload 5, 2) := by decide +kernel
theorem dX7_wrong_86 : decode cX7_wrong 86 = .ok (.iload_n 3, 1) := by decide +kernel
theorem dX7_wrong_87 : decode cX7_wrong 87 = .ok (.if_icmp .ge 8, 3) := by decide +kernel
theorem dX7_wrong_90 : decode cX7_wrong 90 = .ok (.iload 5, 2) := by decide +kernel
theorem dX7_wrong_92 : decode cX7_wrong 92 = .ok (.goto 4, 3) := by decide +kernel
theorem dX7_wrong_95 : decode cX7_wrong 95 = .ok (.iload_n 3, 1) := by decide +kernel
theorem dX7_wrong_96 : decode cX7_wrong 96 = .ok (.istore_n 3, 1) := by decide +kernel
theorem dX7_wrong_97 : decode cX7_wrong 97 = .ok (.iinc 4 2, 3) := by decide +kernel
theorem dX7_wrong_100 : decode cX7_wrong 100 = .ok (.goto (-95), 3) := by decide +kernel
theorem dX7_wrong_103 : decode cX7_wrong 103 = .ok (.iload_n 3, 1) := by decide +kernel
theorem dX7_wrong_104 : decode cX7_wrong 104 = .ok (.ireturn, 1) := by decide +kernel
theorem dX7_isNoWish_0 : decode cX7_isNoWish 0 = .ok (.aload_n 0, 1) := by decide +kernel
theorem dX7_isNoWish_1 : decode cX7_isNoWish 1 = .ok (.aload_n 0, 1) := by decide +kernel
theorem dX7_isNoWish_2 : decode cX7_isNoWish 2 = .ok (.iload_n 1, 1) := by decide +kernel
theorem dX7_isNoWish_3 : decode cX7_isNoWish 3 = .ok (.iload_n 2, 1) := by decide +kernel
theorem dX7_isNoWish_4 : decode cX7_isNoWish 4 = .ok (.invokevirtual 183, 3) := by decide +kernel
theorem dX7_isNoWish_7 : decode cX7_isNoWish 7 = .ok (.ifCond .ge 7, 3) := by decide +kernel
theorem dX7_isNoWish_10 : decode cX7_isNoWish 10 = .ok (.iconst 1, 1) := by decide +kernel
theorem dX7_isNoWish_11 : decode cX7_isNoWish 11 = .ok (.goto 4, 3) := by decide +kernel
theorem dX7_isNoWish_14 : decode cX7_isNoWish 14 = .ok (.iconst 0, 1) := by decide +kernel
theorem dX7_isNoWish_15 : decode cX7_isNoWish 15 = .ok (.iload_n 3, 1) := by decide +kernel
theorem dX7_isNoWish_16 : decode cX7_isNoWish 16 = .ok (.invokevirtual 97, 3) := by decide +kernel
theorem dX7_isNoWish_19 : decode cX7_isNoWish 19 = .ok (.ireturn, 1) := by decide +kernel
theorem dX7_fewest_0 : decode cX7_fewest 0 = .ok (.aload_n 0, 1) := by decide +kernel
theorem dX7_fewest_1 : decode cX7_fewest 1 = .ok (.aload_n 0, 1) := by decide +kernel
theorem dX7_fewest_2 : decode cX7_fewest 2 = .ok (.iload_n 1, 1) := by decide +kernel
theorem dX7_fewest_3 : decode cX7_fewest 3 = .ok (.invokevirtual 94, 3) := by decide +kernel
theorem dX7_fewest_6 : decode cX7_fewest 6 = .ok (.iconst 1, 1) := by decide +kernel
theorem dX7_fewest_7 : decode cX7_fewest 7 = .ok (.invokevirtual 97, 3) := by decide +kernel
theorem dX7_fewest_10 : decode cX7_fewest 10 = .ok (.ifCond .ne 13, 3) := by decide +kernel
theorem dX7_fewest_13 : decode cX7_fewest 13 = .ok (.aload_n 0, 1) := by decide +kernel
theorem dX7_fewest_14 : decode cX7_fewest 14 = .ok (.iload_n 1, 1) := by decide +kernel
theorem dX7_fewest_15 : decode cX7_fewest 15 = .ok (.iload_n 2, 1) := by decide +kernel
theorem dX7_fewest_16 : decode cX7_fewest 16 = .ok (.iconst 2, 1) := by decide +kernel
theorem dX7_fewest_17 : decode cX7_fewest 17 = .ok (.invokevirtual 186, 3) := by decide +kernel
theorem dX7_fewest_20 : decode cX7_fewest 20 = .ok (.ifCond .eq 7, 3) := by decide +kernel
theorem dX7_fewest_23 : decode cX7_fewest 23 = .ok (.iconst 0, 1) := by decide +kernel
theorem dX7_fewest_24 : decode cX7_fewest 24 = .ok (.goto 12, 3) := by decide +kernel
theorem dX7_fewest_27 : decode cX7_fewest 27 = .ok (.aload_n 0, 1) := by decide +kernel
theorem dX7_fewest_28 : decode cX7_fewest 28 = .ok (.iload_n 1, 1) := by decide +kernel
theorem dX7_fewest_29 : decode cX7_fewest 29 = .ok (.iload_n 2, 1) := by decide +kernel
theorem dX7_fewest_30 : decode cX7_fewest 30 = .ok (.invokevirtual 183, 3) := by decide +kernel
theorem dX7_fewest_33 : decode cX7_fewest 33 = .ok (.invokestatic 120, 3) := by decide +kernel
theorem dX7_fewest_36 : decode cX7_fewest 36 = .ok (.ireturn, 1) := by decide +kernel
theorem dX7_toRetract_0 : decode cX7_toRetract 0 = .ok (.aload_n 0, 1) := by decide +kernel
theorem dX7_toRetract_1 : decode cX7_toRetract 1 = .ok (.aload_n 0, 1) := by decide +kernel
theorem dX7_toRetract_2 : decode cX7_toRetract 2 = .ok (.iload_n 1, 1) := by decide +kernel
theorem dX7_toRetract_3 : decode cX7_toRetract 3 = .ok (.invokevirtual 94, 3) := by decide +kernel
theorem dX7_toRetract_6 : decode cX7_toRetract 6 = .ok (.iconst 1, 1) := by decide +kernel
theorem dX7_toRetract_7 : decode cX7_toRetract 7 = .ok (.invokevirtual 97, 3) := by decide +kernel
theorem dX7_toRetract_10 : decode cX7_toRetract 10 = .ok (.ifCond .ne 13, 3) := by decide +kernel
theorem dX7_toRetract_13 : decode cX7_toRetract 13 = .ok (.aload_n 0, 1) := by decide +kernel
theorem dX7_toRetract_14 : decode cX7_toRetract 14 = .ok (.iload_n 1, 1) := by decide +kernel
theorem dX7_toRetract_15 : decode cX7_toRetract 15 = .ok (.iload_n 2, 1) := by decide +kernel
theorem dX7_toRetract_16 : decode cX7_toRetract 16 = .ok (.iconst 2, 1) := by decide +kernel
theorem dX7_toRetract_17 : decode cX7_toRetract 17 = .ok (.invokevirtual 186, 3) := by decide +kernel
theorem dX7_toRetract_20 : decode cX7_toRetract 20 = .ok (.ifCond .eq 7, 3) := by decide +kernel
theorem dX7_toRetract_23 : decode cX7_toRetract 23 = .ok (.iconst 0, 1) := by decide +kernel
theorem dX7_toRetract_24 : decode cX7_toRetract 24 = .ok (.goto 9, 3) := by decide +kernel
theorem dX7_toRetract_27 : decode cX7_toRetract 27 = .ok (.aload_n 0, 1) := by decide +kernel
theorem dX7_toRetract_28 : decode cX7_toRetract 28 = .ok (.iload_n 1, 1) := by decide +kernel
theorem dX7_toRetract_29 : decode cX7_toRetract 29 = .ok (.iload_n 2, 1) := by decide +kernel
theorem dX7_toRetract_30 : decode cX7_toRetract 30 = .ok (.invokevirtual 183, 3) := by decide +kernel
theorem dX7_toRetract_33 : decode cX7_toRetract 33 = .ok (.ireturn, 1) := by decide +kernel
theorem dX7_force_0 : decode cX7_force 0 = .ok (.aload_n 0, 1) := by decide +kernel
theorem dX7_force_1 : decode cX7_force 1 = .ok (.aload_n 0, 1) := by decide +kernel
theorem dX7_force_2 : decode cX7_force 2 = .ok (.iload_n 1, 1) := by decide +kernel
theorem dX7_force_3 : decode cX7_force 3 = .ok (.invokevirtual 94, 3) := by decide +kernel
theorem dX7_force_6 : decode cX7_force 6 = .ok (.iconst 1, 1) := by decide +kernel
theorem dX7_force_7 : decode cX7_force 7 = .ok (.invokevirtual 97, 3) := by decide +kernel
theorem dX7_force_10 : decode cX7_force 10 = .ok (.ifCond .ne 30, 3) := by decide +kernel
theorem dX7_force_13 : decode cX7_force 13 = .ok (.aload_n 0, 1) := by decide +kernel
theorem dX7_force_14 : decode cX7_force 14 = .ok (.iload_n 1, 1) := by decide +kernel
theorem dX7_force_15 : decode cX7_force 15 = .ok (.ifCond .ne 7, 3) := by decide +kernel
theorem dX7_force_18 : decode cX7_force 18 = .ok (.iconst 1, 1) := by decide +kernel
theorem dX7_force_19 : decode cX7_force 19 = .ok (.goto 4, 3) := by decide +kernel
theorem dX7_force_22 : decode cX7_force 22 = .ok (.iconst 0, 1) := by decide +kernel
theorem dX7_force_23 : decode cX7_force 23 = .ok (.iconst 2, 1) := by decide +kernel
theorem dX7_force_24 : decode cX7_force 24 = .ok (.invokevirtual 97, 3) := by decide +kernel
theorem dX7_force_27 : decode cX7_force 27 = .ok (.ifCond .ne 13, 3) := by decide +kernel
theorem dX7_force_30 : decode cX7_force 30 = .ok (.aload_n 0, 1) := by decide +kernel
theorem dX7_force_31 : decode cX7_force 31 = .ok (.iload_n 1, 1) := by decide +kernel
theorem dX7_force_32 : decode cX7_force 32 = .ok (.iload_n 2, 1) := by decide +kernel
theorem dX7_force_33 : decode cX7_force 33 = .ok (.iconst 3, 1) := by decide +kernel
theorem dX7_force_34 : decode cX7_force 34 = .ok (.invokevirtual 186, 3) := by decide +kernel
theorem dX7_force_37 : decode cX7_force 37 = .ok (.ifCond .eq 5, 3) := by decide +kernel
theorem dX7_force_40 : decode cX7_force 40 = .ok (.iconst 0, 1) := by decide +kernel
theorem dX7_force_41 : decode cX7_force 41 = .ok (.ireturn, 1) := by decide +kernel
theorem dX7_force_42 : decode cX7_force 42 = .ok (.aload_n 0, 1) := by decide +kernel
theorem dX7_force_43 : decode cX7_force 43 = .ok (.iload_n 1, 1) := by decide +kernel
theorem dX7_force_44 : decode cX7_force 44 = .ok (.iload_n 2, 1) := by decide +kernel
theorem dX7_force_45 : decode cX7_force 45 = .ok (.invokevirtual 183, 3) := by decide +kernel
theorem dX7_force_48 : decode cX7_force 48 = .ok (.istore_n 3, 1) := by decide +kernel
theorem dX7_force_49 : decode cX7_force 49 = .ok (.aload_n 0, 1) := by decide +kernel
theorem dX7_force_50 : decode cX7_force 50 = .ok (.dup, 1) := by decide +kernel
theorem dX7_force_51 : decode cX7_force 51 = .ok (.getfield 81, 3) := by decide +kernel
theorem dX7_force_54 : decode cX7_force 54 = .ok (.iload_n 3, 1) := by decide +kernel
theorem dX7_force_55 : decode cX7_force 55 = .ok (.iconst (-1), 1) := by decide +kernel
theorem dX7_force_56 : decode cX7_force 56 = .ok (.ixor, 1) := by decide +kernel
theorem dX7_force_57 : decode cX7_force 57 = .ok (.iand, 1) := by decide +kernel
theorem dX7_force_58 : decode cX7_force 58 = .ok (.putfield 81, 3) := by decide +kernel
theorem dX7_force_61 : decode cX7_force 61 = .ok (.aload_n 0, 1) := by decide +kernel
theorem dX7_force_62 : decode cX7_force 62 = .ok (.dup, 1) := by decide +kernel
theorem dX7_force_63 : decode cX7_force 63 = .ok (.getfield 84, 3) := by decide +kernel
theorem dX7_force_66 : decode cX7_force 66 = .ok (.iload_n 3, 1) := by decide +kernel
theorem dX7_force_67 : decode cX7_force 67 = .ok (.iconst (-1), 1) := by decide +kernel
theorem dX7_force_68 : decode cX7_force 68 = .ok (.ixor, 1) := by decide +kernel
theorem dX7_force_69 : decode cX7_force 69 = .ok (.iand, 1) := by decide +kernel
theorem dX7_force_70 : decode cX7_force 70 = .ok (.putfield 84, 3) := by decide +kernel
theorem dX7_force_73 : decode cX7_force 73 = .ok (.aload_n 0, 1) := by decide +kernel
theorem dX7_force_74 : decode cX7_force 74 = .ok (.dup, 1) := by decide +kernel
theorem dX7_force_75 : decode cX7_force 75 = .ok (.getfield 81, 3) := by decide +kernel
theorem dX7_force_78 : decode cX7_force 78 = .ok (.iload_n 2, 1) := by decide +kernel
theorem dX7_force_79 : decode cX7_force 79 = .ok (.ifCond .eq 9, 3) := by decide +kernel
theorem dX7_force_82 : decode cX7_force 82 = .ok (.iconst 1, 1) := by decide +kernel
theorem dX7_force_83 : decode cX7_force 83 = .ok (.iload_n 1, 1) := by decide +kernel
theorem dX7_force_84 : decode cX7_force 84 = .ok (.ishl, 1) := by decide +kernel
theorem dX7_force_85 : decode cX7_force 85 = .ok (.goto 4, 3) := by decide +kernel
theorem dX7_force_88 : decode cX7_force 88 = .ok (.iconst 0, 1) := by decide +kernel
theorem dX7_force_89 : decode cX7_force 89 = .ok (.ior, 1) := by decide +kernel
theorem dX7_force_90 : decode cX7_force 90 = .ok (.putfield 81, 3) := by decide +kernel
theorem dX7_force_93 : decode cX7_force 93 = .ok (.aload_n 0, 1) := by decide +kernel
theorem dX7_force_94 : decode cX7_force 94 = .ok (.dup, 1) := by decide +kernel
theorem dX7_force_95 : decode cX7_force 95 = .ok (.getfield 84, 3) := by decide +kernel
theorem dX7_force_98 : decode cX7_force 98 = .ok (.iload_n 2, 1) := by decide +kernel
theorem dX7_force_99 : decode cX7_force 99 = .ok (.ifCond .eq 7, 3) := by decide +kernel
theorem dX7_force_102 : decode cX7_force 102 = .ok (.iconst 0, 1) := by decide +kernel
theorem dX7_force_103 : decode cX7_force 103 = .ok (.goto 6, 3) := by decide +kernel
theorem dX7_force_106 : decode cX7_force 106 = .ok (.iconst 1, 1) := by decide +kernel
theorem dX7_force_107 : decode cX7_force 107 = .ok (.iload_n 1, 1) := by decide +kernel
theorem dX7_force_108 : decode cX7_force 108 = .ok (.ishl, 1) := by decide +kernel
theorem dX7_force_109 : decode cX7_force 109 = .ok (.ior, 1) := by decide +kernel
theorem dX7_force_110 : decode cX7_force 110 = .ok (.putfield 84, 3) := by decide +kernel
theorem dX7_force_113 : decode cX7_force 113 = .ok (.iload_n 3, 1) := by decide +kernel
theorem dX7_force_114 : decode cX7_force 114 = .ok (.invokestatic 120, 3) := by decide +kernel
theorem dX7_force_117 : decode cX7_force 117 = .ok (.ireturn, 1) := by decide +kernel
theorem dX7_line_0 : decode cX7_line 0 = .ok (.aload_n 0, 1) := by decide +kernel
theorem dX7_line_1 : decode cX7_line 1 = .ok (.invokevirtual 153, 3) := by decide +kernel
theorem dX7_line_4 : decode cX7_line 4 = .ok (.new 190, 3) := by decide +kernel
theorem dX7_line_7 : decode cX7_line 7 = .ok (.dup, 1) := by decide +kernel
theorem dX7_line_8 : decode cX7_line 8 = .ok (.invokespecial 192, 3) := by decide +kernel
theorem dX7_line_11 : decode cX7_line 11 = .ok (.astore_n 1, 1) := by decide +kernel
theorem dX7_line_12 : decode cX7_line 12 = .ok (.iconst 0, 1) := by decide +kernel
theorem dX7_line_13 : decode cX7_line 13 = .ok (.istore_n 2, 1) := by decide +kernel
theorem dX7_line_14 : decode cX7_line 14 = .ok (.iload_n 2, 1) := by decide +kernel
theorem dX7_line_15 : decode cX7_line 15 = .ok (.aload_n 0, 1) := by decide +kernel
theorem dX7_line_16 : decode cX7_line 16 = .ok (.getfield 60, 3) := by decide +kernel
theorem dX7_line_19 : decode cX7_line 19 = .ok (.if_icmp .ge 87, 3) := by decide +kernel
theorem dX7_line_22 : decode cX7_line 22 = .ok (.iload_n 2, 1) := by decide +kernel
theorem dX7_line_23 : decode cX7_line 23 = .ok (.ifCond .le 10, 3) := by decide +kernel
theorem dX7_line_26 : decode cX7_line 26 = .ok (.aload_n 1, 1) := by decide +kernel
theorem dX7_line_27 : decode cX7_line 27 = .ok (.bipush 32, 2) := by decide +kernel
theorem dX7_line_29 : decode cX7_line 29 = .ok (.invokevirtual 193, 3) := by decide +kernel
theorem dX7_line_32 : decode cX7_line 32 = .ok (.pop, 1) := by decide +kernel
theorem dX7_line_33 : decode cX7_line 33 = .ok (.aload_n 1, 1) := by decide +kernel
theorem dX7_line_34 : decode cX7_line 34 = .ok (.iload_n 2, 1) := by decide +kernel
theorem dX7_line_35 : decode cX7_line 35 = .ok (.invokevirtual 197, 3) := by decide +kernel
theorem dX7_line_38 : decode cX7_line 38 = .ok (.pop, 1) := by decide +kernel
theorem dX7_line_39 : decode cX7_line 39 = .ok (.aload_n 0, 1) := by decide +kernel
theorem dX7_line_40 : decode cX7_line 40 = .ok (.getfield 36, 3) := by decide +kernel
theorem dX7_line_43 : decode cX7_line 43 = .ok (.iload_n 2, 1) := by decide +kernel
theorem dX7_line_44 : decode cX7_line 44 = .ok (.caload, 1) := by decide +kernel
theorem dX7_line_45 : decode cX7_line 45 = .ok (.bipush 45, 2) := by decide +kernel
theorem dX7_line_47 : decode cX7_line 47 = .ok (.if_icmp .eq 14, 3) := by decide +kernel
theorem dX7_line_50 : decode cX7_line 50 = .ok (.aload_n 1, 1) := by decide +kernel
theorem dX7_line_51 : decode cX7_line 51 = .ok (.aload_n 0, 1) := by decide +kernel
theorem dX7_line_52 : decode cX7_line 52 = .ok (.getfield 36, 3) := by decide +kernel
theorem dX7_line_55 : decode cX7_line 55 = .ok (.iload_n 2, 1) := by decide +kernel
theorem dX7_line_56 : decode cX7_line 56 = .ok (.caload, 1) := by decide +kernel
theorem dX7_line_57 : decode cX7_line 57 = .ok (.invokevirtual 193, 3) := by decide +kernel
theorem dX7_line_60 : decode cX7_line 60 = .ok (.pop, 1) := by decide +kernel
theorem dX7_line_61 : decode cX7_line 61 = .ok (.aload_n 1, 1) := by decide +kernel
theorem dX7_line_62 : decode cX7_line 62 = .ok (.aload_n 0, 1) := by decide +kernel
theorem dX7_line_63 : decode cX7_line 63 = .ok (.getfield 130, 3) := by decide +kernel
theorem dX7_line_66 : decode cX7_line 66 = .ok (.iload_n 2, 1) := by decide +kernel
theorem dX7_line_67 : decode cX7_line 67 = .ok (.invokestatic 71, 3) := by decide +kernel
theorem dX7_line_70 : decode cX7_line 70 = .ok (.ifCond .eq 8, 3) := by decide +kernel
theorem dX7_line_73 : decode cX7_line 73 = .ok (.bipush 43, 2) := by decide +kernel
theorem dX7_line_75 : decode cX7_line 75 = .ok (.goto 21, 3) := by decide +kernel
theorem dX7_line_78 : decode cX7_line 78 = .ok (.aload_n 0, 1) := by decide +kernel
theorem dX7_line_79 : decode cX7_line 79 = .ok (.getfield 133, 3) := by decide +kernel
theorem dX7_line_82 : decode cX7_line 82 = .ok (.iload_n 2, 1) := by decide +kernel
theorem dX7_line_83 : decode cX7_line 83 = .ok (.invokestatic 71, 3) := by decide +kernel
theorem dX7_line_86 : decode cX7_line 86 = .ok (.ifCond .eq 8, 3) := by decide +kernel
theorem dX7_line_89 : decode cX7_line 89 = .ok (.bipush 45, 2) := by decide +kernel
theorem dX7_line_91 : decode cX7_line 91 = .ok (.goto 5, 3) := by decide +kernel
theorem dX7_line_94 : decode cX7_line 94 = .ok (.bipush 63, 2) := by decide +kernel
theorem dX7_line_96 : decode cX7_line 96 = .ok (.invokevirtual 193, 3) := by decide +kernel
theorem dX7_line_99 : decode cX7_line 99 = .ok (.pop, 1) := by decide +kernel
theorem dX7_line_100 : decode cX7_line 100 = .ok (.iinc 2 1, 3) := by decide +kernel
theorem dX7_line_103 : decode cX7_line 103 = .ok (.goto (-89), 3) := by decide +kernel
theorem dX7_line_106 : decode cX7_line 106 = .ok (.aload_n 1, 1) := by decide +kernel
theorem dX7_line_107 : decode cX7_line 107 = .ok (.invokevirtual 200, 3) := by decide +kernel
theorem dX7_line_110 : decode cX7_line 110 = .ok (.areturn, 1) := by decide +kernel
theorem dX7_lineLength_0 : decode cX7_lineLength 0 = .ok (.aload_n 0, 1) := by decide +kernel
theorem dX7_lineLength_1 : decode cX7_lineLength 1 = .ok (.iconst 0, 1) := by decide +kernel
theorem dX7_lineLength_2 : decode cX7_lineLength 2 = .ok (.putfield 64, 3) := by decide +kernel
theorem dX7_lineLength_5 : decode cX7_lineLength 5 = .ok (.aload_n 0, 1) := by decide +kernel
theorem dX7_lineLength_6 : decode cX7_lineLength 6 = .ok (.invokevirtual 204, 3) := by decide +kernel
theorem dX7_lineLength_9 : decode cX7_lineLength 9 = .ok (.invokevirtual 207, 3) := by decide +kernel
theorem dX7_lineLength_12 : decode cX7_lineLength 12 = .ok (.ireturn, 1) := by decide +kernel
theorem dX7_lineAt_0 : decode cX7_lineAt 0 = .ok (.aload_n 0, 1) := by decide +kernel
theorem dX7_lineAt_1 : decode cX7_lineAt 1 = .ok (.invokevirtual 204, 3) := by decide +kernel
theorem dX7_lineAt_4 : decode cX7_lineAt 4 = .ok (.astore_n 2, 1) := by decide +kernel
theorem dX7_lineAt_5 : decode cX7_lineAt 5 = .ok (.aload_n 0, 1) := by decide +kernel
theorem dX7_lineAt_6 : decode cX7_lineAt 6 = .ok (.iload_n 1, 1) := by decide +kernel
theorem dX7_lineAt_7 : decode cX7_lineAt 7 = .ok (.iconst 0, 1) := by decide +kernel
theorem dX7_lineAt_8 : decode cX7_lineAt 8 = .ok (.aload_n 2, 1) := by decide +kernel
theorem dX7_lineAt_9 : decode cX7_lineAt 9 = .ok (.invokevirtual 207, 3) := by decide +kernel
theorem dX7_lineAt_12 : decode cX7_lineAt 12 = .ok (.iconst 1, 1) := by decide +kernel
theorem dX7_lineAt_13 : decode cX7_lineAt 13 = .ok (.isub, 1) := by decide +kernel
theorem dX7_lineAt_14 : decode cX7_lineAt 14 = .ok (.invokestatic 67, 3) := by decide +kernel
theorem dX7_lineAt_17 : decode cX7_lineAt 17 = .ok (.ifCond .ne 7, 3) := by decide +kernel
theorem dX7_lineAt_20 : decode cX7_lineAt 20 = .ok (.iconst 1, 1) := by decide +kernel
theorem dX7_lineAt_21 : decode cX7_lineAt 21 = .ok (.goto 4, 3) := by decide +kernel
theorem dX7_lineAt_24 : decode cX7_lineAt 24 = .ok (.iconst 0, 1) := by decide +kernel
theorem dX7_lineAt_25 : decode cX7_lineAt 25 = .ok (.iconst 1, 1) := by decide +kernel
theorem dX7_lineAt_26 : decode cX7_lineAt 26 = .ok (.invokevirtual 97, 3) := by decide +kernel
theorem dX7_lineAt_29 : decode cX7_lineAt 29 = .ok (.ifCond .eq 8, 3) := by decide +kernel
theorem dX7_lineAt_32 : decode cX7_lineAt 32 = .ok (.bipush 45, 2) := by decide +kernel
theorem dX7_lineAt_34 : decode cX7_lineAt 34 = .ok (.goto 8, 3) := by decide +kernel
theorem dX7_lineAt_37 : decode cX7_lineAt 37 = .ok (.aload_n 2, 1) := by decide +kernel
theorem dX7_lineAt_38 : decode cX7_lineAt 38 = .ok (.iload_n 1, 1) := by decide +kernel
theorem dX7_lineAt_39 : decode cX7_lineAt 39 = .ok (.invokevirtual 212, 3) := by decide +kernel
theorem dX7_lineAt_42 : decode cX7_lineAt 42 = .ok (.ireturn, 1) := by decide +kernel
theorem dX7_knownShare_0 : decode cX7_knownShare 0 = .ok (.aload_n 0, 1) := by decide +kernel
theorem dX7_knownShare_1 : decode cX7_knownShare 1 = .ok (.iconst 0, 1) := by decide +kernel
theorem dX7_knownShare_2 : decode cX7_knownShare 2 = .ok (.putfield 64, 3) := by decide +kernel
theorem dX7_knownShare_5 : decode cX7_knownShare 5 = .ok (.aload_n 0, 1) := by decide +kernel
theorem dX7_knownShare_6 : decode cX7_knownShare 6 = .ok (.getfield 60, 3) := by decide +kernel
theorem dX7_knownShare_9 : decode cX7_knownShare 9 = .ok (.aload_n 0, 1) := by decide +kernel
theorem dX7_knownShare_10 : decode cX7_knownShare 10 = .ok (.invokevirtual 112, 3) := by decide +kernel
theorem dX7_knownShare_13 : decode cX7_knownShare 13 = .ok (.isub, 1) := by decide +kernel
theorem dX7_knownShare_14 : decode cX7_knownShare 14 = .ok (.i2f, 1) := by decide +kernel
theorem dX7_knownShare_15 : decode cX7_knownShare 15 = .ok (.aload_n 0, 1) := by decide +kernel
theorem dX7_knownShare_16 : decode cX7_knownShare 16 = .ok (.getfield 60, 3) := by decide +kernel
theorem dX7_knownShare_19 : decode cX7_knownShare 19 = .ok (.i2f, 1) := by decide +kernel
theorem dX7_knownShare_20 : decode cX7_knownShare 20 = .ok (.fdiv, 1) := by decide +kernel
theorem dX7_knownShare_21 : decode cX7_knownShare 21 = .ok (.freturn, 1) := by decide +kernel
theorem dX7_meanPrice_0 : decode cX7_meanPrice 0 = .ok (.aload_n 0, 1) := by decide +kernel
theorem dX7_meanPrice_1 : decode cX7_meanPrice 1 = .ok (.iconst 0, 1) := by decide +kernel
theorem dX7_meanPrice_2 : decode cX7_meanPrice 2 = .ok (.putfield 64, 3) := by decide +kernel
theorem dX7_meanPrice_5 : decode cX7_meanPrice 5 = .ok (.iconst 0, 1) := by decide +kernel
theorem dX7_meanPrice_6 : decode cX7_meanPrice 6 = .ok (.istore_n 1, 1) := by decide +kernel
theorem dX7_meanPrice_7 : decode cX7_meanPrice 7 = .ok (.iconst 0, 1) := by decide +kernel
theorem dX7_meanPrice_8 : decode cX7_meanPrice 8 = .ok (.istore_n 2, 1) := by decide +kernel
theorem dX7_meanPrice_9 : decode cX7_meanPrice 9 = .ok (.iconst 1, 1) := by decide +kernel
theorem dX7_meanPrice_10 : decode cX7_meanPrice 10 = .ok (.istore_n 3, 1) := by decide +kernel
theorem dX7_meanPrice_11 : decode cX7_meanPrice 11 = .ok (.iload_n 3, 1) := by decide +kernel
theorem dX7_meanPrice_12 : decode cX7_meanPrice 12 = .ok (.iconst 1, 1) := by decide +kernel
theorem dX7_meanPrice_13 : decode cX7_meanPrice 13 = .ok (.aload_n 0, 1) := by decide +kernel
theorem dX7_meanPrice_14 : decode cX7_meanPrice 14 = .ok (.getfield 60, 3) := by decide +kernel
theorem dX7_meanPrice_17 : decode cX7_meanPrice 17 = .ok (.ishl, 1) := by decide +kernel
theorem dX7_meanPrice_18 : decode cX7_meanPrice 18 = .ok (.if_icmp .ge 46, 3) := by decide +kernel
theorem dX7_meanPrice_21 : decode cX7_meanPrice 21 = .ok (.aload_n 0, 1) := by decide +kernel
theorem dX7_meanPrice_22 : decode cX7_meanPrice 22 = .ok (.iload_n 3, 1) := by decide +kernel
theorem dX7_meanPrice_23 : decode cX7_meanPrice 23 = .ok (.invokevirtual 91, 3) := by decide +kernel
theorem dX7_meanPrice_26 : decode cX7_meanPrice 26 = .ok (.istore 4, 2) := by decide +kernel
theorem dX7_meanPrice_28 : decode cX7_meanPrice 28 = .ok (.iload_n 1, 1) := by decide +kernel
theorem dX7_meanPrice_29 : decode cX7_meanPrice 29 = .ok (.iload 4, 2) := by decide +kernel
theorem dX7_meanPrice_31 : decode cX7_meanPrice 31 = .ok (.ifCond .eq 11, 3) := by decide +kernel
theorem dX7_meanPrice_34 : decode cX7_meanPrice 34 = .ok (.aload_n 0, 1) := by decide +kernel
theorem dX7_meanPrice_35 : decode cX7_meanPrice 35 = .ok (.iload_n 3, 1) := by decide +kernel
theorem dX7_meanPrice_36 : decode cX7_meanPrice 36 = .ok (.invokevirtual 174, 3) := by decide +kernel
theorem dX7_meanPrice_39 : decode cX7_meanPrice 39 = .ok (.goto 4, 3) := by decide +kernel
theorem dX7_meanPrice_42 : decode cX7_meanPrice 42 = .ok (.iconst 0, 1) := by decide +kernel
theorem dX7_meanPrice_43 : decode cX7_meanPrice 43 = .ok (.iadd, 1) := by decide +kernel
theorem dX7_meanPrice_44 : decode cX7_meanPrice 44 = .ok (.istore_n 1, 1) := by decide +kernel
theorem dX7_meanPrice_45 : decode cX7_meanPrice 45 = .ok (.iload_n 2, 1) := by decide +kernel
theorem dX7_meanPrice_46 : decode cX7_meanPrice 46 = .ok (.iload 4, 2) := by decide +kernel
theorem dX7_meanPrice_48 : decode cX7_meanPrice 48 = .ok (.ifCond .eq 7, 3) := by decide +kernel
theorem dX7_meanPrice_51 : decode cX7_meanPrice 51 = .ok (.iconst 1, 1) := by decide +kernel
theorem dX7_meanPrice_52 : decode cX7_meanPrice 52 = .ok (.goto 4, 3) := by decide +kernel
theorem dX7_meanPrice_55 : decode cX7_meanPrice 55 = .ok (.iconst 0, 1) := by decide +kernel
theorem dX7_meanPrice_56 : decode cX7_meanPrice 56 = .ok (.iadd, 1) := by decide +kernel
theorem dX7_meanPrice_57 : decode cX7_meanPrice 57 = .ok (.istore_n 2, 1) := by decide +kernel
theorem dX7_meanPrice_58 : decode cX7_meanPrice 58 = .ok (.iinc 3 2, 3) := by decide +kernel
theorem dX7_meanPrice_61 : decode cX7_meanPrice 61 = .ok (.goto (-50), 3) := by decide +kernel
theorem dX7_meanPrice_64 : decode cX7_meanPrice 64 = .ok (.iload_n 1, 1) := by decide +kernel
theorem dX7_meanPrice_65 : decode cX7_meanPrice 65 = .ok (.i2d, 1) := by decide +kernel
theorem dX7_meanPrice_66 : decode cX7_meanPrice 66 = .ok (.iload_n 2, 1) := by decide +kernel
theorem dX7_meanPrice_67 : decode cX7_meanPrice 67 = .ok (.i2d, 1) := by decide +kernel
theorem dX7_meanPrice_68 : decode cX7_meanPrice 68 = .ok (.ddiv, 1) := by decide +kernel
theorem dX7_meanPrice_69 : decode cX7_meanPrice 69 = .ok (.dreturn, 1) := by decide +kernel
theorem dX7_isSound_0 : decode cX7_isSound 0 = .ok (.aload_n 0, 1) := by decide +kernel
theorem dX7_isSound_1 : decode cX7_isSound 1 = .ok (.iconst 0, 1) := by decide +kernel
theorem dX7_isSound_2 : decode cX7_isSound 2 = .ok (.putfield 64, 3) := by decide +kernel
theorem dX7_isSound_5 : decode cX7_isSound 5 = .ok (.iconst 1, 1) := by decide +kernel
theorem dX7_isSound_6 : decode cX7_isSound 6 = .ok (.ireturn, 1) := by decide +kernel
theorem dJ6_compare_7cf53_0 : decode cJ6_compare_7cf53 0 = .ok (.iload_n 0, 1) := by decide +kernel
theorem dJ6_compare_7cf53_1 : decode cJ6_compare_7cf53 1 = .ok (.iload_n 1, 1) := by decide +kernel
theorem dJ6_compare_7cf53_2 : decode cJ6_compare_7cf53 2 = .ok (.if_icmp .ge 7, 3) := by decide +kernel
theorem dJ6_compare_7cf53_5 : decode cJ6_compare_7cf53 5 = .ok (.iconst (-1), 1) := by decide +kernel
theorem dJ6_compare_7cf53_6 : decode cJ6_compare_7cf53 6 = .ok (.goto 13, 3) := by decide +kernel
theorem dJ6_compare_7cf53_9 : decode cJ6_compare_7cf53 9 = .ok (.iload_n 0, 1) := by decide +kernel
theorem dJ6_compare_7cf53_10 : decode cJ6_compare_7cf53 10 = .ok (.iload_n 1, 1) := by decide +kernel
theorem dJ6_compare_7cf53_11 : decode cJ6_compare_7cf53 11 = .ok (.if_icmp .ne 7, 3) := by decide +kernel
theorem dJ6_compare_7cf53_14 : decode cJ6_compare_7cf53 14 = .ok (.iconst 0, 1) := by decide +kernel
theorem dJ6_compare_7cf53_15 : decode cJ6_compare_7cf53 15 = .ok (.goto 4, 3) := by decide +kernel
theorem dJ6_compare_7cf53_18 : decode cJ6_compare_7cf53 18 = .ok (.iconst 1, 1) := by decide +kernel
theorem dJ6_compare_7cf53_19 : decode cJ6_compare_7cf53 19 = .ok (.ireturn, 1) := by decide +kernel
theorem dJ6_bitCount_0f7a4_0 : decode cJ6_bitCount_0f7a4 0 = .ok (.iload_n 0, 1) := by decide +kernel
theorem dJ6_bitCount_0f7a4_1 : decode cJ6_bitCount_0f7a4 1 = .ok (.iload_n 0, 1) := by decide +kernel
theorem dJ6_bitCount_0f7a4_2 : decode cJ6_bitCount_0f7a4 2 = .ok (.iconst 1, 1) := by decide +kernel
theorem dJ6_bitCount_0f7a4_3 : decode cJ6_bitCount_0f7a4 3 = .ok (.iushr, 1) := by decide +kernel
theorem dJ6_bitCount_0f7a4_4 : decode cJ6_bitCount_0f7a4 4 = .ok (.ldc_w 265, 3) := by decide +kernel
theorem dJ6_bitCount_0f7a4_7 : decode cJ6_bitCount_0f7a4 7 = .ok (.iand, 1) := by decide +kernel
theorem dJ6_bitCount_0f7a4_8 : decode cJ6_bitCount_0f7a4 8 = .ok (.isub, 1) := by decide +kernel
theorem dJ6_bitCount_0f7a4_9 : decode cJ6_bitCount_0f7a4 9 = .ok (.istore_n 0, 1) := by decide +kernel
theorem dJ6_bitCount_0f7a4_10 : decode cJ6_bitCount_0f7a4 10 = .ok (.iload_n 0, 1) := by decide +kernel
theorem dJ6_bitCount_0f7a4_11 : decode cJ6_bitCount_0f7a4 11 = .ok (.ldc_w 266, 3) := by decide +kernel
theorem dJ6_bitCount_0f7a4_14 : decode cJ6_bitCount_0f7a4 14 = .ok (.iand, 1) := by decide +kernel
theorem dJ6_bitCount_0f7a4_15 : decode cJ6_bitCount_0f7a4 15 = .ok (.iload_n 0, 1) := by decide +kernel
theorem dJ6_bitCount_0f7a4_16 : decode cJ6_bitCount_0f7a4 16 = .ok (.iconst 2, 1) := by decide +kernel
theorem dJ6_bitCount_0f7a4_17 : decode cJ6_bitCount_0f7a4 17 = .ok (.iushr, 1) := by decide +kernel
theorem dJ6_bitCount_0f7a4_18 : decode cJ6_bitCount_0f7a4 18 = .ok (.ldc_w 266, 3) := by decide +kernel
theorem dJ6_bitCount_0f7a4_21 : decode cJ6_bitCount_0f7a4 21 = .ok (.iand, 1) := by decide +kernel
theorem dJ6_bitCount_0f7a4_22 : decode cJ6_bitCount_0f7a4 22 = .ok (.iadd, 1) := by decide +kernel
theorem dJ6_bitCount_0f7a4_23 : decode cJ6_bitCount_0f7a4 23 = .ok (.istore_n 0, 1) := by decide +kernel
theorem dJ6_bitCount_0f7a4_24 : decode cJ6_bitCount_0f7a4 24 = .ok (.iload_n 0, 1) := by decide +kernel
theorem dJ6_bitCount_0f7a4_25 : decode cJ6_bitCount_0f7a4 25 = .ok (.iload_n 0, 1) := by decide +kernel
theorem dJ6_bitCount_0f7a4_26 : decode cJ6_bitCount_0f7a4 26 = .ok (.iconst 4, 1) := by decide +kernel
theorem dJ6_bitCount_0f7a4_27 : decode cJ6_bitCount_0f7a4 27 = .ok (.iushr, 1) := by decide +kernel
theorem dJ6_bitCount_0f7a4_28 : decode cJ6_bitCount_0f7a4 28 = .ok (.iadd, 1) := by decide +kernel
theorem dJ6_bitCount_0f7a4_29 : decode cJ6_bitCount_0f7a4 29 = .ok (.ldc_w 267, 3) := by decide +kernel
theorem dJ6_bitCount_0f7a4_32 : decode cJ6_bitCount_0f7a4 32 = .ok (.iand, 1) := by decide +kernel
theorem dJ6_bitCount_0f7a4_33 : decode cJ6_bitCount_0f7a4 33 = .ok (.istore_n 0, 1) := by decide +kernel
theorem dJ6_bitCount_0f7a4_34 : decode cJ6_bitCount_0f7a4 34 = .ok (.iload_n 0, 1) := by decide +kernel
theorem dJ6_bitCount_0f7a4_35 : decode cJ6_bitCount_0f7a4 35 = .ok (.iload_n 0, 1) := by decide +kernel
theorem dJ6_bitCount_0f7a4_36 : decode cJ6_bitCount_0f7a4 36 = .ok (.bipush 8, 2) := by decide +kernel
theorem dJ6_bitCount_0f7a4_38 : decode cJ6_bitCount_0f7a4 38 = .ok (.iushr, 1) := by decide +kernel
theorem dJ6_bitCount_0f7a4_39 : decode cJ6_bitCount_0f7a4 39 = .ok (.iadd, 1) := by decide +kernel
theorem dJ6_bitCount_0f7a4_40 : decode cJ6_bitCount_0f7a4 40 = .ok (.istore_n 0, 1) := by decide +kernel
theorem dJ6_bitCount_0f7a4_41 : decode cJ6_bitCount_0f7a4 41 = .ok (.iload_n 0, 1) := by decide +kernel
theorem dJ6_bitCount_0f7a4_42 : decode cJ6_bitCount_0f7a4 42 = .ok (.iload_n 0, 1) := by decide +kernel
theorem dJ6_bitCount_0f7a4_43 : decode cJ6_bitCount_0f7a4 43 = .ok (.bipush 16, 2) := by decide +kernel
theorem dJ6_bitCount_0f7a4_45 : decode cJ6_bitCount_0f7a4 45 = .ok (.iushr, 1) := by decide +kernel
theorem dJ6_bitCount_0f7a4_46 : decode cJ6_bitCount_0f7a4 46 = .ok (.iadd, 1) := by decide +kernel
theorem dJ6_bitCount_0f7a4_47 : decode cJ6_bitCount_0f7a4 47 = .ok (.istore_n 0, 1) := by decide +kernel
theorem dJ6_bitCount_0f7a4_48 : decode cJ6_bitCount_0f7a4 48 = .ok (.iload_n 0, 1) := by decide +kernel
theorem dJ6_bitCount_0f7a4_49 : decode cJ6_bitCount_0f7a4 49 = .ok (.bipush 63, 2) := by decide +kernel
theorem dJ6_bitCount_0f7a4_51 : decode cJ6_bitCount_0f7a4 51 = .ok (.iand, 1) := by decide +kernel
theorem dJ6_bitCount_0f7a4_52 : decode cJ6_bitCount_0f7a4 52 = .ok (.ireturn, 1) := by decide +kernel
