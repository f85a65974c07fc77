theorem dX6_lineAt_0 : decode cX6_lineAt 0 = .ok (.aload_n 0, 1) := by decide +kernel
theorem dX6_lineAt_1 : decode cX6_lineAt 1 = .ok (.invokevirtual 237, 3) := by decide +kernel
theorem dX6_lineAt_4 : decode cX6_lineAt 4 = .ok (.iload_n 1, 1) := by decide +kernel
theorem dX6_lineAt_5 : decode cX6_lineAt 5 = .ok (.ifCond .lt 14, 3) := by decide +kernel
theorem dX6_lineAt_8 : decode cX6_lineAt 8 = .ok (.iload_n 1, 1) := by decide +kernel
theorem dX6_lineAt_9 : decode cX6_lineAt 9 = .ok (.aload_n 0, 1) := by decide +kernel
theorem dX6_lineAt_10 : decode cX6_lineAt 10 = .ok (.getfield 40, 3) := by decide +kernel
theorem dX6_lineAt_13 : decode cX6_lineAt 13 = .ok (.getfield 240, 3) := by decide +kernel
theorem dX6_lineAt_16 : decode cX6_lineAt 16 = .ok (.if_icmp .lt 13, 3) := by decide +kernel
theorem dX6_lineAt_19 : decode cX6_lineAt 19 = .ok (.new 243, 3) := by decide +kernel
theorem dX6_lineAt_22 : decode cX6_lineAt 22 = .ok (.dup, 1) := by decide +kernel
theorem dX6_lineAt_23 : decode cX6_lineAt 23 = .ok (.ldc 245, 2) := by decide +kernel
theorem dX6_lineAt_25 : decode cX6_lineAt 25 = .ok (.invokespecial 247, 3) := by decide +kernel
theorem dX6_lineAt_28 : decode cX6_lineAt 28 = .ok (.athrow, 1) := by decide +kernel
theorem dX6_lineAt_29 : decode cX6_lineAt 29 = .ok (.aload_n 0, 1) := by decide +kernel
theorem dX6_lineAt_30 : decode cX6_lineAt 30 = .ok (.getfield 40, 3) := by decide +kernel
theorem dX6_lineAt_33 : decode cX6_lineAt 33 = .ok (.getfield 248, 3) := by decide +kernel
theorem dX6_lineAt_36 : decode cX6_lineAt 36 = .ok (.iload_n 1, 1) := by decide +kernel
theorem dX6_lineAt_37 : decode cX6_lineAt 37 = .ok (.caload, 1) := by decide +kernel
theorem dX6_lineAt_38 : decode cX6_lineAt 38 = .ok (.ireturn, 1) := by decide +kernel
theorem dX6_knownShare_0 : decode cX6_knownShare 0 = .ok (.aload_n 0, 1) := by decide +kernel
theorem dX6_knownShare_1 : decode cX6_knownShare 1 = .ok (.getfield 10, 3) := by decide +kernel
theorem dX6_knownShare_4 : decode cX6_knownShare 4 = .ok (.getfield 55, 3) := by decide +kernel
theorem dX6_knownShare_7 : decode cX6_knownShare 7 = .ok (.istore_n 1, 1) := by decide +kernel
theorem dX6_knownShare_8 : decode cX6_knownShare 8 = .ok (.iload_n 1, 1) := by decide +kernel
theorem dX6_knownShare_9 : decode cX6_knownShare 9 = .ok (.aload_n 0, 1) := by decide +kernel
theorem dX6_knownShare_10 : decode cX6_knownShare 10 = .ok (.invokevirtual 147, 3) := by decide +kernel
theorem dX6_knownShare_13 : decode cX6_knownShare 13 = .ok (.isub, 1) := by decide +kernel
theorem dX6_knownShare_14 : decode cX6_knownShare 14 = .ok (.istore_n 2, 1) := by decide +kernel
theorem dX6_knownShare_15 : decode cX6_knownShare 15 = .ok (.iload_n 1, 1) := by decide +kernel
theorem dX6_knownShare_16 : decode cX6_knownShare 16 = .ok (.ifCond .le 11, 3) := by decide +kernel
theorem dX6_knownShare_19 : decode cX6_knownShare 19 = .ok (.iload_n 2, 1) := by decide +kernel
theorem dX6_knownShare_20 : decode cX6_knownShare 20 = .ok (.i2f, 1) := by decide +kernel
theorem dX6_knownShare_21 : decode cX6_knownShare 21 = .ok (.iload_n 1, 1) := by decide +kernel
theorem dX6_knownShare_22 : decode cX6_knownShare 22 = .ok (.i2f, 1) := by decide +kernel
theorem dX6_knownShare_23 : decode cX6_knownShare 23 = .ok (.fdiv, 1) := by decide +kernel
theorem dX6_knownShare_24 : decode cX6_knownShare 24 = .ok (.goto 4, 3) := by decide +kernel
theorem dX6_knownShare_27 : decode cX6_knownShare 27 = .ok (.fconst 0, 1) := by decide +kernel
theorem dX6_knownShare_28 : decode cX6_knownShare 28 = .ok (.freturn, 1) := by decide +kernel
theorem dX6_meanPrice_0 : decode cX6_meanPrice 0 = .ok (.lconst 0, 1) := by decide +kernel
theorem dX6_meanPrice_1 : decode cX6_meanPrice 1 = .ok (.lstore_n 1, 1) := by decide +kernel
theorem dX6_meanPrice_2 : decode cX6_meanPrice 2 = .ok (.lconst 0, 1) := by decide +kernel
theorem dX6_meanPrice_3 : decode cX6_meanPrice 3 = .ok (.lstore_n 3, 1) := by decide +kernel
theorem dX6_meanPrice_4 : decode cX6_meanPrice 4 = .ok (.aload_n 0, 1) := by decide +kernel
theorem dX6_meanPrice_5 : decode cX6_meanPrice 5 = .ok (.getfield 10, 3) := by decide +kernel
theorem dX6_meanPrice_8 : decode cX6_meanPrice 8 = .ok (.invokevirtual 200, 3) := by decide +kernel
theorem dX6_meanPrice_11 : decode cX6_meanPrice 11 = .ok (.istore 5, 2) := by decide +kernel
theorem dX6_meanPrice_13 : decode cX6_meanPrice 13 = .ok (.iconst 0, 1) := by decide +kernel
theorem dX6_meanPrice_14 : decode cX6_meanPrice 14 = .ok (.istore 6, 2) := by decide +kernel
theorem dX6_meanPrice_16 : decode cX6_meanPrice 16 = .ok (.iload 6, 2) := by decide +kernel
theorem dX6_meanPrice_18 : decode cX6_meanPrice 18 = .ok (.iload 5, 2) := by decide +kernel
theorem dX6_meanPrice_20 : decode cX6_meanPrice 20 = .ok (.if_icmp .gt 35, 3) := by decide +kernel
theorem dX6_meanPrice_23 : decode cX6_meanPrice 23 = .ok (.aload_n 0, 1) := by decide +kernel
theorem dX6_meanPrice_24 : decode cX6_meanPrice 24 = .ok (.iload 6, 2) := by decide +kernel
theorem dX6_meanPrice_26 : decode cX6_meanPrice 26 = .ok (.invokevirtual 203, 3) := by decide +kernel
theorem dX6_meanPrice_29 : decode cX6_meanPrice 29 = .ok (.ifCond .eq 20, 3) := by decide +kernel
theorem dX6_meanPrice_32 : decode cX6_meanPrice 32 = .ok (.lload_n 1, 1) := by decide +kernel
theorem dX6_meanPrice_33 : decode cX6_meanPrice 33 = .ok (.aload_n 0, 1) := by decide +kernel
theorem dX6_meanPrice_34 : decode cX6_meanPrice 34 = .ok (.getfield 26, 3) := by decide +kernel
theorem dX6_meanPrice_37 : decode cX6_meanPrice 37 = .ok (.iload 6, 2) := by decide +kernel
theorem dX6_meanPrice_39 : decode cX6_meanPrice 39 = .ok (.invokevirtual 220, 3) := by decide +kernel
theorem dX6_meanPrice_42 : decode cX6_meanPrice 42 = .ok (.i2l, 1) := by decide +kernel
theorem dX6_meanPrice_43 : decode cX6_meanPrice 43 = .ok (.ladd, 1) := by decide +kernel
theorem dX6_meanPrice_44 : decode cX6_meanPrice 44 = .ok (.lstore_n 1, 1) := by decide +kernel
theorem dX6_meanPrice_45 : decode cX6_meanPrice 45 = .ok (.lload_n 3, 1) := by decide +kernel
theorem dX6_meanPrice_46 : decode cX6_meanPrice 46 = .ok (.lconst 1, 1) := by decide +kernel
theorem dX6_meanPrice_47 : decode cX6_meanPrice 47 = .ok (.ladd, 1) := by decide +kernel
theorem dX6_meanPrice_48 : decode cX6_meanPrice 48 = .ok (.lstore_n 3, 1) := by decide +kernel
theorem dX6_meanPrice_49 : decode cX6_meanPrice 49 = .ok (.iinc 6 1, 3) := by decide +kernel
theorem dX6_meanPrice_52 : decode cX6_meanPrice 52 = .ok (.goto (-36), 3) := by decide +kernel
theorem dX6_meanPrice_55 : decode cX6_meanPrice 55 = .ok (.lload_n 3, 1) := by decide +kernel
theorem dX6_meanPrice_56 : decode cX6_meanPrice 56 = .ok (.lconst 0, 1) := by decide +kernel
theorem dX6_meanPrice_57 : decode cX6_meanPrice 57 = .ok (.lcmp, 1) := by decide +kernel
theorem dX6_meanPrice_58 : decode cX6_meanPrice 58 = .ok (.ifCond .le 11, 3) := by decide +kernel
theorem dX6_meanPrice_61 : decode cX6_meanPrice 61 = .ok (.lload_n 1, 1) := by decide +kernel
theorem dX6_meanPrice_62 : decode cX6_meanPrice 62 = .ok (.l2d, 1) := by decide +kernel
theorem dX6_meanPrice_63 : decode cX6_meanPrice 63 = .ok (.lload_n 3, 1) := by decide +kernel
theorem dX6_meanPrice_64 : decode cX6_meanPrice 64 = .ok (.l2d, 1) := by decide +kernel
theorem dX6_meanPrice_65 : decode cX6_meanPrice 65 = .ok (.ddiv, 1) := by decide +kernel
theorem dX6_meanPrice_66 : decode cX6_meanPrice 66 = .ok (.goto 4, 3) := by decide +kernel
theorem dX6_meanPrice_69 : decode cX6_meanPrice 69 = .ok (.dconst 0, 1) := by decide +kernel
theorem dX6_meanPrice_70 : decode cX6_meanPrice 70 = .ok (.dreturn, 1) := by decide +kernel
theorem dX6_isSound_0 : decode cX6_isSound 0 = .ok (.aload_n 0, 1) := by decide +kernel
theorem dX6_isSound_1 : decode cX6_isSound 1 = .ok (.invokevirtual 251, 3) := by decide +kernel
theorem dX6_isSound_4 : decode cX6_isSound 4 = .ok (.lstore_n 1, 1) := by decide +kernel
theorem dX6_isSound_5 : decode cX6_isSound 5 = .ok (.aload_n 0, 1) := by decide +kernel
theorem dX6_isSound_6 : decode cX6_isSound 6 = .ok (.invokevirtual 163, 3) := by decide +kernel
theorem dX6_isSound_9 : decode cX6_isSound 9 = .ok (.istore_n 3, 1) := by decide +kernel
theorem dX6_isSound_10 : decode cX6_isSound 10 = .ok (.aload_n 0, 1) := by decide +kernel
theorem dX6_isSound_11 : decode cX6_isSound 11 = .ok (.invokevirtual 160, 3) := by decide +kernel
theorem dX6_isSound_14 : decode cX6_isSound 14 = .ok (.istore 4, 2) := by decide +kernel
theorem dX6_isSound_16 : decode cX6_isSound 16 = .ok (.lload_n 1, 1) := by decide +kernel
theorem dX6_isSound_17 : decode cX6_isSound 17 = .ok (.lconst 0, 1) := by decide +kernel
theorem dX6_isSound_18 : decode cX6_isSound 18 = .ok (.lcmp, 1) := by decide +kernel
theorem dX6_isSound_19 : decode cX6_isSound 19 = .ok (.ifCond .le 47, 3) := by decide +kernel
theorem dX6_isSound_22 : decode cX6_isSound 22 = .ok (.lload_n 1, 1) := by decide +kernel
theorem dX6_isSound_23 : decode cX6_isSound 23 = .ok (.aload_n 0, 1) := by decide +kernel
theorem dX6_isSound_24 : decode cX6_isSound 24 = .ok (.invokevirtual 255, 3) := by decide +kernel
theorem dX6_isSound_27 : decode cX6_isSound 27 = .ok (.lcmp, 1) := by decide +kernel
theorem dX6_isSound_28 : decode cX6_isSound 28 = .ok (.ifCond .ne 38, 3) := by decide +kernel
theorem dX6_isSound_31 : decode cX6_isSound 31 = .ok (.aload_n 0, 1) := by decide +kernel
theorem dX6_isSound_32 : decode cX6_isSound 32 = .ok (.invokevirtual 230, 3) := by decide +kernel
theorem dX6_isSound_35 : decode cX6_isSound 35 = .ok (.aload_n 0, 1) := by decide +kernel
theorem dX6_isSound_36 : decode cX6_isSound 36 = .ok (.invokevirtual 258, 3) := by decide +kernel
theorem dX6_isSound_39 : decode cX6_isSound 39 = .ok (.if_icmp .ne 27, 3) := by decide +kernel
theorem dX6_isSound_42 : decode cX6_isSound 42 = .ok (.aload_n 0, 1) := by decide +kernel
theorem dX6_isSound_43 : decode cX6_isSound 43 = .ok (.iload_n 3, 1) := by decide +kernel
theorem dX6_isSound_44 : decode cX6_isSound 44 = .ok (.iload 4, 2) := by decide +kernel
theorem dX6_isSound_46 : decode cX6_isSound 46 = .ok (.invokevirtual 261, 3) := by decide +kernel
theorem dX6_isSound_49 : decode cX6_isSound 49 = .ok (.ifCond .eq 17, 3) := by decide +kernel
theorem dX6_isSound_52 : decode cX6_isSound 52 = .ok (.aload_n 0, 1) := by decide +kernel
theorem dX6_isSound_53 : decode cX6_isSound 53 = .ok (.iload_n 3, 1) := by decide +kernel
theorem dX6_isSound_54 : decode cX6_isSound 54 = .ok (.iload 4, 2) := by decide +kernel
theorem dX6_isSound_56 : decode cX6_isSound 56 = .ok (.invokevirtual 264, 3) := by decide +kernel
theorem dX6_isSound_59 : decode cX6_isSound 59 = .ok (.ifCond .eq 7, 3) := by decide +kernel
theorem dX6_isSound_62 : decode cX6_isSound 62 = .ok (.iconst 1, 1) := by decide +kernel
theorem dX6_isSound_63 : decode cX6_isSound 63 = .ok (.goto 4, 3) := by decide +kernel
theorem dX6_isSound_66 : decode cX6_isSound 66 = .ok (.iconst 0, 1) := by decide +kernel
theorem dX6_isSound_67 : decode cX6_isSound 67 = .ok (.ireturn, 1) := by decide +kernel
theorem dX6_checkFeature_0 : decode cX6_checkFeature 0 = .ok (.iload_n 1, 1) := by decide +kernel
theorem dX6_checkFeature_1 : decode cX6_checkFeature 1 = .ok (.ifCond .lt 14, 3) := by decide +kernel
theorem dX6_checkFeature_4 : decode cX6_checkFeature 4 = .ok (.iload_n 1, 1) := by decide +kernel
theorem dX6_checkFeature_5 : decode cX6_checkFeature 5 = .ok (.aload_n 0, 1) := by decide +kernel
theorem dX6_checkFeature_6 : decode cX6_checkFeature 6 = .ok (.getfield 10, 3) := by decide +kernel
theorem dX6_checkFeature_9 : decode cX6_checkFeature 9 = .ok (.getfield 55, 3) := by decide +kernel
theorem dX6_checkFeature_12 : decode cX6_checkFeature 12 = .ok (.if_icmp .lt 14, 3) := by decide +kernel
theorem dX6_checkFeature_15 : decode cX6_checkFeature 15 = .ok (.new 243, 3) := by decide +kernel
theorem dX6_checkFeature_18 : decode cX6_checkFeature 18 = .ok (.dup, 1) := by decide +kernel
theorem dX6_checkFeature_19 : decode cX6_checkFeature 19 = .ok (.ldc_w 267, 3) := by decide +kernel
theorem dX6_checkFeature_22 : decode cX6_checkFeature 22 = .ok (.invokespecial 247, 3) := by decide +kernel
theorem dX6_checkFeature_25 : decode cX6_checkFeature 25 = .ok (.athrow, 1) := by decide +kernel
theorem dX6_checkFeature_26 : decode cX6_checkFeature 26 = .ok (.return_, 1) := by decide +kernel
theorem dX6_checkNotRoot_0 : decode cX6_checkNotRoot 0 = .ok (.iload_n 1, 1) := by decide +kernel
theorem dX6_checkNotRoot_1 : decode cX6_checkNotRoot 1 = .ok (.ifCond .ne 14, 3) := by decide +kernel
theorem dX6_checkNotRoot_4 : decode cX6_checkNotRoot 4 = .ok (.new 48, 3) := by decide +kernel
theorem dX6_checkNotRoot_7 : decode cX6_checkNotRoot 7 = .ok (.dup, 1) := by decide +kernel
theorem dX6_checkNotRoot_8 : decode cX6_checkNotRoot 8 = .ok (.ldc_w 269, 3) := by decide +kernel
theorem dX6_checkNotRoot_11 : decode cX6_checkNotRoot 11 = .ok (.invokespecial 52, 3) := by decide +kernel
theorem dX6_checkNotRoot_14 : decode cX6_checkNotRoot 14 = .ok (.athrow, 1) := by decide +kernel
theorem dX6_checkNotRoot_15 : decode cX6_checkNotRoot 15 = .ok (.return_, 1) := by decide +kernel
theorem dX6_checkDifferent_0 : decode cX6_checkDifferent 0 = .ok (.iload_n 1, 1) := by decide +kernel
theorem dX6_checkDifferent_1 : decode cX6_checkDifferent 1 = .ok (.iload_n 2, 1) := by decide +kernel
theorem dX6_checkDifferent_2 : decode cX6_checkDifferent 2 = .ok (.if_icmp .ne 14, 3) := by decide +kernel
theorem dX6_checkDifferent_5 : decode cX6_checkDifferent 5 = .ok (.new 48, 3) := by decide +kernel
theorem dX6_checkDifferent_8 : decode cX6_checkDifferent 8 = .ok (.dup, 1) := by decide +kernel
theorem dX6_checkDifferent_9 : decode cX6_checkDifferent 9 = .ok (.ldc_w 271, 3) := by decide +kernel
theorem dX6_checkDifferent_12 : decode cX6_checkDifferent 12 = .ok (.invokespecial 52, 3) := by decide +kernel
theorem dX6_checkDifferent_15 : decode cX6_checkDifferent 15 = .ok (.athrow, 1) := by decide +kernel
theorem dX6_checkDifferent_16 : decode cX6_checkDifferent 16 = .ok (.return_, 1) := by decide +kernel
theorem dX6_checkDecidable_0 : decode cX6_checkDecidable 0 = .ok (.aload_n 0, 1) := by decide +kernel
theorem dX6_checkDecidable_1 : decode cX6_checkDecidable 1 = .ok (.iload_n 1, 1) := by decide +kernel
theorem dX6_checkDecidable_2 : decode cX6_checkDecidable 2 = .ok (.invokevirtual 44, 3) := by decide +kernel
theorem dX6_checkDecidable_5 : decode cX6_checkDecidable 5 = .ok (.aload_n 0, 1) := by decide +kernel
theorem dX6_checkDecidable_6 : decode cX6_checkDecidable 6 = .ok (.iload_n 1, 1) := by decide +kernel
theorem dX6_checkDecidable_7 : decode cX6_checkDecidable 7 = .ok (.invokevirtual 72, 3) := by decide +kernel
theorem dX6_checkDecidable_10 : decode cX6_checkDecidable 10 = .ok (.aload_n 0, 1) := by decide +kernel
theorem dX6_checkDecidable_11 : decode cX6_checkDecidable 11 = .ok (.getfield 135, 3) := by decide +kernel
theorem dX6_checkDecidable_14 : decode cX6_checkDecidable 14 = .ok (.aload_n 0, 1) := by decide +kernel
theorem dX6_checkDecidable_15 : decode cX6_checkDecidable 15 = .ok (.getfield 138, 3) := by decide +kernel
theorem dX6_checkDecidable_18 : decode cX6_checkDecidable 18 = .ok (.ior, 1) := by decide +kernel
theorem dX6_checkDecidable_19 : decode cX6_checkDecidable 19 = .ok (.iload_n 1, 1) := by decide +kernel
theorem dX6_checkDecidable_20 : decode cX6_checkDecidable 20 = .ok (.invokestatic 87, 3) := by decide +kernel
theorem dX6_checkDecidable_23 : decode cX6_checkDecidable 23 = .ok (.ifCond .eq 14, 3) := by decide +kernel
theorem dX6_checkDecidable_26 : decode cX6_checkDecidable 26 = .ok (.new 59, 3) := by decide +kernel
theorem dX6_checkDecidable_29 : decode cX6_checkDecidable 29 = .ok (.dup, 1) := by decide +kernel
theorem dX6_checkDecidable_30 : decode cX6_checkDecidable 30 = .ok (.ldc_w 273, 3) := by decide +kernel
theorem dX6_checkDecidable_33 : decode cX6_checkDecidable 33 = .ok (.invokespecial 63, 3) := by decide +kernel
theorem dX6_checkDecidable_36 : decode cX6_checkDecidable 36 = .ok (.athrow, 1) := by decide +kernel
theorem dX6_checkDecidable_37 : decode cX6_checkDecidable 37 = .ok (.return_, 1) := by decide +kernel
theorem dX6_checkSet_0 : decode cX6_checkSet 0 = .ok (.iload_n 1, 1) := by decide +kernel
theorem dX6_checkSet_1 : decode cX6_checkSet 1 = .ok (.ifCond .lt 14, 3) := by decide +kernel
theorem dX6_checkSet_4 : decode cX6_checkSet 4 = .ok (.iload_n 1, 1) := by decide +kernel
theorem dX6_checkSet_5 : decode cX6_checkSet 5 = .ok (.aload_n 0, 1) := by decide +kernel
theorem dX6_checkSet_6 : decode cX6_checkSet 6 = .ok (.getfield 10, 3) := by decide +kernel
theorem dX6_checkSet_9 : decode cX6_checkSet 9 = .ok (.invokevirtual 200, 3) := by decide +kernel
theorem dX6_checkSet_12 : decode cX6_checkSet 12 = .ok (.if_icmp .le 14, 3) := by decide +kernel
theorem dX6_checkSet_15 : decode cX6_checkSet 15 = .ok (.new 48, 3) := by decide +kernel
theorem dX6_checkSet_18 : decode cX6_checkSet 18 = .ok (.dup, 1) := by decide +kernel
theorem dX6_checkSet_19 : decode cX6_checkSet 19 = .ok (.ldc_w 275, 3) := by decide +kernel
theorem dX6_checkSet_22 : decode cX6_checkSet 22 = .ok (.invokespecial 52, 3) := by decide +kernel
theorem dX6_checkSet_25 : decode cX6_checkSet 25 = .ok (.athrow, 1) := by decide +kernel
theorem dX6_checkSet_26 : decode cX6_checkSet 26 = .ok (.return_, 1) := by decide +kernel
theorem dX6_has_0 : decode cX6_has 0 = .ok (.iload_n 0, 1) := by decide +kernel
theorem dX6_has_1 : decode cX6_has 1 = .ok (.iload_n 1, 1) := by decide +kernel
theorem dX6_has_2 : decode cX6_has 2 = .ok (.ishr, 1) := by decide +kernel
theorem dX6_has_3 : decode cX6_has 3 = .ok (.iconst 1, 1) := by decide +kernel
theorem dX6_has_4 : decode cX6_has 4 = .ok (.iand, 1) := by decide +kernel
theorem dX6_has_5 : decode cX6_has 5 = .ok (.ifCond .eq 7, 3) := by decide +kernel
theorem dX6_has_8 : decode cX6_has 8 = .ok (.iconst 1, 1) := by decide +kernel
theorem dX6_has_9 : decode cX6_has 9 = .ok (.goto 4, 3) := by decide +kernel
theorem dX6_has_12 : decode cX6_has 12 = .ok (.iconst 0, 1) := by decide +kernel
theorem dX6_has_13 : decode cX6_has 13 = .ok (.ireturn, 1) := by decide +kernel
theorem dX6_stateLetter_0 : decode cX6_stateLetter 0 = .ok (.aload_n 0, 1) := by decide +kernel
theorem dX6_stateLetter_1 : decode cX6_stateLetter 1 = .ok (.getfield 135, 3) := by decide +kernel
theorem dX6_stateLetter_4 : decode cX6_stateLetter 4 = .ok (.aload_n 0, 1) := by decide +kernel
theorem dX6_stateLetter_5 : decode cX6_stateLetter 5 = .ok (.getfield 138, 3) := by decide +kernel
theorem dX6_stateLetter_8 : decode cX6_stateLetter 8 = .ok (.ior, 1) := by decide +kernel
theorem dX6_stateLetter_9 : decode cX6_stateLetter 9 = .ok (.iload_n 1, 1) := by decide +kernel
theorem dX6_stateLetter_10 : decode cX6_stateLetter 10 = .ok (.invokestatic 87, 3) := by decide +kernel
theorem dX6_stateLetter_13 : decode cX6_stateLetter 13 = .ok (.ifCond .eq 22, 3) := by decide +kernel
theorem dX6_stateLetter_16 : decode cX6_stateLetter 16 = .ok (.aload_n 0, 1) := by decide +kernel
theorem dX6_stateLetter_17 : decode cX6_stateLetter 17 = .ok (.getfield 135, 3) := by decide +kernel
theorem dX6_stateLetter_20 : decode cX6_stateLetter 20 = .ok (.iload_n 1, 1) := by decide +kernel
theorem dX6_stateLetter_21 : decode cX6_stateLetter 21 = .ok (.invokestatic 87, 3) := by decide +kernel
theorem dX6_stateLetter_24 : decode cX6_stateLetter 24 = .ok (.ifCond .eq 8, 3) := by decide +kernel
theorem dX6_stateLetter_27 : decode cX6_stateLetter 27 = .ok (.bipush 99, 2) := by decide +kernel
theorem dX6_stateLetter_29 : decode cX6_stateLetter 29 = .ok (.goto 5, 3) := by decide +kernel
theorem dX6_stateLetter_32 : decode cX6_stateLetter 32 = .ok (.bipush 114, 2) := by decide +kernel
theorem dX6_stateLetter_34 : decode cX6_stateLetter 34 = .ok (.ireturn, 1) := by decide +kernel
theorem dX6_stateLetter_35 : decode cX6_stateLetter 35 = .ok (.iload_n 2, 1) := by decide +kernel
theorem dX6_stateLetter_36 : decode cX6_stateLetter 36 = .ok (.ifCond .eq 15, 3) := by decide +kernel
theorem dX6_stateLetter_39 : decode cX6_stateLetter 39 = .ok (.iload_n 3, 1) := by decide +kernel
theorem dX6_stateLetter_40 : decode cX6_stateLetter 40 = .ok (.ifCond .eq 8, 3) := by decide +kernel
theorem dX6_stateLetter_43 : decode cX6_stateLetter 43 = .ok (.bipush 111, 2) := by decide +kernel
theorem dX6_stateLetter_45 : decode cX6_stateLetter 45 = .ok (.goto 5, 3) := by decide +kernel
theorem dX6_stateLetter_48 : decode cX6_stateLetter 48 = .ok (.bipush 97, 2) := by decide +kernel
theorem dX6_stateLetter_50 : decode cX6_stateLetter 50 = .ok (.ireturn, 1) := by decide +kernel
theorem dX6_stateLetter_51 : decode cX6_stateLetter 51 = .ok (.bipush 120, 2) := by decide +kernel
theorem dX6_stateLetter_53 : decode cX6_stateLetter 53 = .ok (.ireturn, 1) := by decide +kernel
theorem dX6_hasCompletion_0 : decode cX6_hasCompletion 0 = .ok (.aload_n 0, 1) := by decide +kernel
theorem dX6_hasCompletion_1 : decode cX6_hasCompletion 1 = .ok (.getfield 10, 3) := by decide +kernel
theorem dX6_hasCompletion_4 : decode cX6_hasCompletion 4 = .ok (.aload_n 0, 1) := by decide +kernel
theorem dX6_hasCompletion_5 : decode cX6_hasCompletion 5 = .ok (.getfield 19, 3) := by decide +kernel
theorem dX6_hasCompletion_8 : decode cX6_hasCompletion 8 = .ok (.iconst 0, 1) := by decide +kernel
theorem dX6_hasCompletion_9 : decode cX6_hasCompletion 9 = .ok (.iconst 0, 1) := by decide +kernel
theorem dX6_hasCompletion_10 : decode cX6_hasCompletion 10 = .ok (.aload_n 0, 1) := by decide +kernel
theorem dX6_hasCompletion_11 : decode cX6_hasCompletion 11 = .ok (.getfield 135, 3) := by decide +kernel
theorem dX6_hasCompletion_14 : decode cX6_hasCompletion 14 = .ok (.aload_n 0, 1) := by decide +kernel
theorem dX6_hasCompletion_15 : decode cX6_hasCompletion 15 = .ok (.getfield 138, 3) := by decide +kernel
theorem dX6_hasCompletion_18 : decode cX6_hasCompletion 18 = .ok (.invokestatic 141, 3) := by decide +kernel
theorem dX6_hasCompletion_21 : decode cX6_hasCompletion 21 = .ok (.ireturn, 1) := by decide +kernel
theorem dX6_isAllowed_0 : decode cX6_isAllowed 0 = .ok (.aload_n 0, 1) := by decide +kernel
theorem dX6_isAllowed_1 : decode cX6_isAllowed 1 = .ok (.getfield 10, 3) := by decide +kernel
theorem dX6_isAllowed_4 : decode cX6_isAllowed 4 = .ok (.iload_n 1, 1) := by decide +kernel
theorem dX6_isAllowed_5 : decode cX6_isAllowed 5 = .ok (.invokevirtual 277, 3) := by decide +kernel
theorem dX6_isAllowed_8 : decode cX6_isAllowed 8 = .ok (.ifCond .eq 18, 3) := by decide +kernel
theorem dX6_isAllowed_11 : decode cX6_isAllowed 11 = .ok (.aload_n 0, 1) := by decide +kernel
theorem dX6_isAllowed_12 : decode cX6_isAllowed 12 = .ok (.getfield 19, 3) := by decide +kernel
theorem dX6_isAllowed_15 : decode cX6_isAllowed 15 = .ok (.iload_n 1, 1) := by decide +kernel
theorem dX6_isAllowed_16 : decode cX6_isAllowed 16 = .ok (.invokevirtual 280, 3) := by decide +kernel
theorem dX6_isAllowed_19 : decode cX6_isAllowed 19 = .ok (.ifCond .eq 7, 3) := by decide +kernel
theorem dX6_isAllowed_22 : decode cX6_isAllowed 22 = .ok (.iconst 1, 1) := by decide +kernel
theorem dX6_isAllowed_23 : decode cX6_isAllowed 23 = .ok (.goto 4, 3) := by decide +kernel
theorem dX6_isAllowed_26 : decode cX6_isAllowed 26 = .ok (.iconst 0, 1) := by decide +kernel
theorem dX6_isAllowed_27 : decode cX6_isAllowed 27 = .ok (.ireturn, 1) := by decide +kernel
theorem dX6_isCompletion_0 : decode cX6_isCompletion 0 = .ok (.aload_n 0, 1) := by decide +kernel
theorem dX6_isCompletion_1 : decode cX6_isCompletion 1 = .ok (.getfield 135, 3) := by decide +kernel
theorem dX6_isCompletion_4 : decode cX6_isCompletion 4 = .ok (.iload_n 1, 1) := by decide +kernel
theorem dX6_isCompletion_5 : decode cX6_isCompletion 5 = .ok (.iconst (-1), 1) := by decide +kernel
theorem dX6_isCompletion_6 : decode cX6_isCompletion 6 = .ok (.ixor, 1) := by decide +kernel
theorem dX6_isCompletion_7 : decode cX6_isCompletion 7 = .ok (.iand, 1) := by decide +kernel
theorem dX6_isCompletion_8 : decode cX6_isCompletion 8 = .ok (.ifCond .ne 24, 3) := by decide +kernel
theorem dX6_isCompletion_11 : decode cX6_isCompletion 11 = .ok (.aload_n 0, 1) := by decide +kernel
theorem dX6_isCompletion_12 : decode cX6_isCompletion 12 = .ok (.getfield 138, 3) := by decide +kernel
theorem dX6_isCompletion_15 : decode cX6_isCompletion 15 = .ok (.iload_n 1, 1) := by decide +kernel
theorem dX6_isCompletion_16 : decode cX6_isCompletion 16 = .ok (.iand, 1) := by decide +kernel
theorem dX6_isCompletion_17 : decode cX6_isCompletion 17 = .ok (.ifCond .ne 15, 3) := by decide +kernel
theorem dX6_isCompletion_20 : decode cX6_isCompletion 20 = .ok (.aload_n 0, 1) := by decide +kernel
theorem dX6_isCompletion_21 : decode cX6_isCompletion 21 = .ok (.iload_n 1, 1) := by decide +kernel
theorem dX6_isCompletion_22 : decode cX6_isCompletion 22 = .ok (.invokevirtual 193, 3) := by decide +kernel
theorem dX6_isCompletion_25 : decode cX6_isCompletion 25 = .ok (.ifCond .eq 7, 3) := by decide +kernel
theorem dX6_isCompletion_28 : decode cX6_isCompletion 28 = .ok (.iconst 1, 1) := by decide +kernel
theorem dX6_isCompletion_29 : decode cX6_isCompletion 29 = .ok (.goto 4, 3) := by decide +kernel
theorem dX6_isCompletion_32 : decode cX6_isCompletion 32 = .ok (.iconst 0, 1) := by decide +kernel
theorem dX6_isCompletion_33 : decode cX6_isCompletion 33 = .ok (.ireturn, 1) := by decide +kernel
theorem dX6_featuresInAll_0 : decode cX6_featuresInAll 0 = .ok (.aload_n 0, 1) := by decide +kernel
theorem dX6_featuresInAll_1 : decode cX6_featuresInAll 1 = .ok (.getfield 10, 3) := by decide +kernel
theorem dX6_featuresInAll_4 : decode cX6_featuresInAll 4 = .ok (.invokevirtual 200, 3) := by decide +kernel
theorem dX6_featuresInAll_7 : decode cX6_featuresInAll 7 = .ok (.istore_n 1, 1) := by decide +kernel
theorem dX6_featuresInAll_8 : decode cX6_featuresInAll 8 = .ok (.iload_n 1, 1) := by decide +kernel
theorem dX6_featuresInAll_9 : decode cX6_featuresInAll 9 = .ok (.istore_n 2, 1) := by decide +kernel
theorem dX6_featuresInAll_10 : decode cX6_featuresInAll 10 = .ok (.iconst 0, 1) := by decide +kernel
theorem dX6_featuresInAll_11 : decode cX6_featuresInAll 11 = .ok (.istore_n 3, 1) := by decide +kernel
theorem dX6_featuresInAll_12 : decode cX6_featuresInAll 12 = .ok (.iload_n 3, 1) := by decide +kernel
theorem dX6_featuresInAll_13 : decode cX6_featuresInAll 13 = .ok (.iload_n 1, 1) := by decide +kernel
theorem dX6_featuresInAll_14 : decode cX6_featuresInAll 14 = .ok (.if_icmp .gt 21, 3) := by decide +kernel
theorem dX6_featuresInAll_17 : decode cX6_featuresInAll 17 = .ok (.aload_n 0, 1) := by decide +kernel
theorem dX6_featuresInAll_18 : decode cX6_featuresInAll 18 = .ok (.iload_n 3, 1) := by decide +kernel
theorem dX6_featuresInAll_19 : decode cX6_featuresInAll 19 = .ok (.invokevirtual 203, 3) := by decide +kernel
theorem dX6_featuresInAll_22 : decode cX6_featuresInAll 22 = .ok (.ifCond .eq 7, 3) := by decide +kernel
theorem dX6_featuresInAll_25 : decode cX6_featuresInAll 25 = .ok (.iload_n 2, 1) := by decide +kernel
theorem dX6_featuresInAll_26 : decode cX6_featuresInAll 26 = .ok (.iload_n 3, 1) := by decide +kernel
theorem dX6_featuresInAll_27 : decode cX6_featuresInAll 27 = .ok (.iand, 1) := by decide +kernel
theorem dX6_featuresInAll_28 : decode cX6_featuresInAll 28 = .ok (.istore_n 2, 1) := by decide +kernel
theorem dX6_featuresInAll_29 : decode cX6_featuresInAll 29 = .ok (.iinc 3 1, 3) := by decide +kernel
theorem dX6_featuresInAll_32 : decode cX6_featuresInAll 32 = .ok (.goto (-20), 3) := by decide +kernel
theorem dX6_featuresInAll_35 : decode cX6_featuresInAll 35 = .ok (.iload_n 2, 1) := by decide +kernel
theorem dX6_featuresInAll_36 : decode cX6_featuresInAll 36 = .ok (.ireturn, 1) := by decide +kernel
theorem dX6_featuresInSome_0 : decode cX6_featuresInSome 0 = .ok (.iconst 0, 1) := by decide +kernel
theorem dX6_featuresInSome_1 : decode cX6_featuresInSome 1 = .ok (.istore_n 1, 1) := by decide +kernel
theorem dX6_featuresInSome_2 : decode cX6_featuresInSome 2 = .ok (.aload_n 0, 1) := by decide +kernel
theorem dX6_featuresInSome_3 : decode cX6_featuresInSome 3 = .ok (.getfield 10, 3) := by decide +kernel
theorem dX6_featuresInSome_6 : decode cX6_featuresInSome 6 = .ok (.invokevirtual 200, 3) := by decide +kernel
theorem dX6_featuresInSome_9 : decode cX6_featuresInSome 9 = .ok (.istore_n 2, 1) := by decide +kernel
theorem dX6_featuresInSome_10 : decode cX6_featuresInSome 10 = .ok (.iconst 0, 1) := by decide +kernel
theorem dX6_featuresInSome_11 : decode cX6_featuresInSome 11 = .ok (.istore_n 3, 1) := by decide +kernel
theorem dX6_featuresInSome_12 : decode cX6_featuresInSome 12 = .ok (.iload_n 3, 1) := by decide +kernel
theorem dX6_featuresInSome_13 : decode cX6_featuresInSome 13 = .ok (.iload_n 2, 1) := by decide +kernel
theorem dX6_featuresInSome_14 : decode cX6_featuresInSome 14 = .ok (.if_icmp .gt 21, 3) := by decide +kernel
theorem dX6_featuresInSome_17 : decode cX6_featuresInSome 17 = .ok (.aload_n 0, 1) := by decide +kernel
theorem dX6_featuresInSome_18 : decode cX6_featuresInSome 18 = .ok (.iload_n 3, 1) := by decide +kernel
theorem dX6_featuresInSome_19 : decode cX6_featuresInSome 19 = .ok (.invokevirtual 203, 3) := by decide +kernel
theorem dX6_featuresInSome_22 : decode cX6_featuresInSome 22 = .ok (.ifCond .eq 7, 3) := by decide +kernel
theorem dX6_featuresInSome_25 : decode cX6_featuresInSome 25 = .ok (.iload_n 1, 1) := by decide +kernel
theorem dX6_featuresInSome_26 : decode cX6_featuresInSome 26 = .ok (.iload_n 3, 1) := by decide +kernel
theorem dX6_featuresInSome_27 : decode cX6_featuresInSome 27 = .ok (.ior, 1) := by decide +kernel
theorem dX6_featuresInSome_28 : decode cX6_featuresInSome 28 = .ok (.istore_n 1, 1) := by decide +kernel
theorem dX6_featuresInSome_29 : decode cX6_featuresInSome 29 = .ok (.iinc 3 1, 3) := by decide +kernel
theorem dX6_featuresInSome_32 : decode cX6_featuresInSome 32 = .ok (.goto (-20), 3) := by decide +kernel
theorem dX6_featuresInSome_35 : decode cX6_featuresInSome 35 = .ok (.iload_n 1, 1) := by decide +kernel
theorem dX6_featuresInSome_36 : decode cX6_featuresInSome 36 = .ok (.ireturn, 1) := by decide +kernel
theorem dX6_addRule_0 : decode cX6_addRule 0 = .ok (.aload_n 0, 1) := by decide +kernel
theorem dX6_addRule_1 : decode cX6_addRule 1 = .ok (.getfield 19, 3) := by decide +kernel
theorem dX6_addRule_4 : decode cX6_addRule 4 = .ok (.getfield 121, 3) := by decide +kernel
theorem dX6_addRule_7 : decode cX6_addRule 7 = .ok (.bipush 20, 2) := by decide +kernel
theorem dX6_addRule_9 : decode cX6_addRule 9 = .ok (.if_icmp .lt 14, 3) := by decide +kernel
theorem dX6_addRule_12 : decode cX6_addRule 12 = .ok (.new 59, 3) := by decide +kernel
theorem dX6_addRule_15 : decode cX6_addRule 15 = .ok (.dup, 1) := by decide +kernel
theorem dX6_addRule_16 : decode cX6_addRule 16 = .ok (.ldc_w 283, 3) := by decide +kernel
theorem dX6_addRule_19 : decode cX6_addRule 19 = .ok (.invokespecial 63, 3) := by decide +kernel
theorem dX6_addRule_22 : decode cX6_addRule 22 = .ok (.athrow, 1) := by decide +kernel
theorem dX6_addRule_23 : decode cX6_addRule 23 = .ok (.aload_n 0, 1) := by decide +kernel
theorem dX6_addRule_24 : decode cX6_addRule 24 = .ok (.getfield 19, 3) := by decide +kernel
theorem dX6_addRule_27 : decode cX6_addRule 27 = .ok (.iload_n 1, 1) := by decide +kernel
theorem dX6_addRule_28 : decode cX6_addRule 28 = .ok (.iload_n 2, 1) := by decide +kernel
theorem dX6_addRule_29 : decode cX6_addRule 29 = .ok (.iload_n 3, 1) := by decide +kernel
theorem dX6_addRule_30 : decode cX6_addRule 30 = .ok (.invokevirtual 285, 3) := by decide +kernel
theorem dX6_addRule_33 : decode cX6_addRule 33 = .ok (.istore 4, 2) := by decide +kernel
theorem dX6_addRule_35 : decode cX6_addRule 35 = .ok (.aload_n 0, 1) := by decide +kernel
theorem dX6_addRule_36 : decode cX6_addRule 36 = .ok (.invokevirtual 78, 3) := by decide +kernel
theorem dX6_addRule_39 : decode cX6_addRule 39 = .ok (.ifCond .ne 20, 3) := by decide +kernel
theorem dX6_addRule_42 : decode cX6_addRule 42 = .ok (.aload_n 0, 1) := by decide +kernel
theorem dX6_addRule_43 : decode cX6_addRule 43 = .ok (.getfield 19, 3) := by decide +kernel
theorem dX6_addRule_46 : decode cX6_addRule 46 = .ok (.invokevirtual 288, 3) := by decide +kernel
theorem dX6_addRule_49 : decode cX6_addRule 49 = .ok (.new 82, 3) := by decide +kernel
theorem dX6_addRule_52 : decode cX6_addRule 52 = .ok (.dup, 1) := by decide +kernel
theorem dX6_addRule_53 : decode cX6_addRule 53 = .ok (.ldc 84, 2) := by decide +kernel
theorem dX6_addRule_55 : decode cX6_addRule 55 = .ok (.invokespecial 86, 3) := by decide +kernel
theorem dX6_addRule_58 : decode cX6_addRule 58 = .ok (.athrow, 1) := by decide +kernel
theorem dX6_addRule_59 : decode cX6_addRule 59 = .ok (.iload 4, 2) := by decide +kernel
theorem dX6_addRule_61 : decode cX6_addRule 61 = .ok (.ireturn, 1) := by decide +kernel
theorem dX6_addLayer_0 : decode cX6_addLayer 0 = .ok (.aload_n 0, 1) := by decide +kernel
theorem dX6_addLayer_1 : decode cX6_addLayer 1 = .ok (.getfield 26, 3) := by decide +kernel
theorem dX6_addLayer_4 : decode cX6_addLayer 4 = .ok (.getfield 215, 3) := by decide +kernel
theorem dX6_addLayer_7 : decode cX6_addLayer 7 = .ok (.bipush 6, 2) := by decide +kernel
theorem dX6_addLayer_9 : decode cX6_addLayer 9 = .ok (.if_icmp .lt 14, 3) := by decide +kernel
theorem dX6_addLayer_12 : decode cX6_addLayer 12 = .ok (.new 59, 3) := by decide +kernel
theorem dX6_addLayer_15 : decode cX6_addLayer 15 = .ok (.dup, 1) := by decide +kernel
theorem dX6_addLayer_16 : decode cX6_addLayer 16 = .ok (.ldc_w 291, 3) := by decide +kernel
theorem dX6_addLayer_19 : decode cX6_addLayer 19 = .ok (.invokespecial 63, 3) := by decide +kernel
theorem dX6_addLayer_22 : decode cX6_addLayer 22 = .ok (.athrow, 1) := by decide +kernel
theorem dX6_addLayer_23 : decode cX6_addLayer 23 = .ok (.aload_n 0, 1) := by decide +kernel
theorem dX6_addLayer_24 : decode cX6_addLayer 24 = .ok (.getfield 26, 3) := by decide +kernel
theorem dX6_addLayer_27 : decode cX6_addLayer 27 = .ok (.iload_n 1, 1) := by decide +kernel
theorem dX6_addLayer_28 : decode cX6_addLayer 28 = .ok (.iload_n 2, 1) := by decide +kernel
theorem dX6_addLayer_29 : decode cX6_addLayer 29 = .ok (.iload_n 3, 1) := by decide +kernel
theorem dX6_addLayer_30 : decode cX6_addLayer 30 = .ok (.invokevirtual 293, 3) := by decide +kernel
theorem dX6_addLayer_33 : decode cX6_addLayer 33 = .ok (.aload_n 0, 1) := by decide +kernel
theorem dX6_addLayer_34 : decode cX6_addLayer 34 = .ok (.getfield 26, 3) := by decide +kernel
theorem dX6_addLayer_37 : decode cX6_addLayer 37 = .ok (.getfield 215, 3) := by decide +kernel
theorem dX6_addLayer_40 : decode cX6_addLayer 40 = .ok (.iconst 1, 1) := by decide +kernel
theorem dX6_addLayer_41 : decode cX6_addLayer 41 = .ok (.iadd, 1) := by decide +kernel
theorem dX6_addLayer_42 : decode cX6_addLayer 42 = .ok (.ireturn, 1) := by decide +kernel
theorem dX6_takeBack_0 : decode cX6_takeBack 0 = .ok (.aload_n 0, 1) := by decide +kernel
theorem dX6_takeBack_1 : decode cX6_takeBack 1 = .ok (.dup, 1) := by decide +kernel
theorem dX6_takeBack_2 : decode cX6_takeBack 2 = .ok (.getfield 135, 3) := by decide +kernel
theorem dX6_takeBack_5 : decode cX6_takeBack 5 = .ok (.iload_n 1, 1) := by decide +kernel
theorem dX6_takeBack_6 : decode cX6_takeBack 6 = .ok (.iconst (-1), 1) := by decide +kernel
theorem dX6_takeBack_7 : decode cX6_takeBack 7 = .ok (.ixor, 1) := by decide +kernel
theorem dX6_takeBack_8 : decode cX6_takeBack 8 = .ok (.iand, 1) := by decide +kernel
theorem dX6_takeBack_9 : decode cX6_takeBack 9 = .ok (.putfield 135, 3) := by decide +kernel
theorem dX6_takeBack_12 : decode cX6_takeBack 12 = .ok (.aload_n 0, 1) := by decide +kernel
theorem dX6_takeBack_13 : decode cX6_takeBack 13 = .ok (.dup, 1) := by decide +kernel
theorem dX6_takeBack_14 : decode cX6_takeBack 14 = .ok (.getfield 138, 3) := by decide +kernel
theorem dX6_takeBack_17 : decode cX6_takeBack 17 = .ok (.iload_n 1, 1) := by decide +kernel
theorem dX6_takeBack_18 : decode cX6_takeBack 18 = .ok (.iconst (-1), 1) := by decide +kernel
theorem dX6_takeBack_19 : decode cX6_takeBack 19 = .ok (.ixor, 1) := by decide +kernel
theorem dX6_takeBack_20 : decode cX6_takeBack 20 = .ok (.iand, 1) := by decide +kernel
theorem dX6_takeBack_21 : decode cX6_takeBack 21 = .ok (.putfield 138, 3) := by decide +kernel
theorem dX6_takeBack_24 : decode cX6_takeBack 24 = .ok (.return_, 1) := by decide +kernel
theorem dX6_deduce_0 : decode cX6_deduce 0 = .ok (.aload_n 0, 1) := by decide +kernel
theorem dX6_deduce_1 : decode cX6_deduce 1 = .ok (.getfield 33, 3) := by decide +kernel
theorem dX6_deduce_4 : decode cX6_deduce 4 = .ok (.aload_n 0, 1) := by decide +kernel
theorem dX6_deduce_5 : decode cX6_deduce 5 = .ok (.getfield 10, 3) := by decide +kernel
theorem dX6_deduce_8 : decode cX6_deduce 8 = .ok (.aload_n 0, 1) := by decide +kernel
theorem dX6_deduce_9 : decode cX6_deduce 9 = .ok (.getfield 19, 3) := by decide +kernel
theorem dX6_deduce_12 : decode cX6_deduce 12 = .ok (.aload_n 0, 1) := by decide +kernel
theorem dX6_deduce_13 : decode cX6_deduce 13 = .ok (.getfield 135, 3) := by decide +kernel
theorem dX6_deduce_16 : decode cX6_deduce 16 = .ok (.aload_n 0, 1) := by decide +kernel
theorem dX6_deduce_17 : decode cX6_deduce 17 = .ok (.getfield 138, 3) := by decide +kernel
theorem dX6_deduce_20 : decode cX6_deduce 20 = .ok (.invokevirtual 296, 3) := by decide +kernel
theorem dX6_deduce_23 : decode cX6_deduce 23 = .ok (.return_, 1) := by decide +kernel
theorem dX6_countUnknown_0 : decode cX6_countUnknown 0 = .ok (.aload_n 0, 1) := by decide +kernel
theorem dX6_countUnknown_1 : decode cX6_countUnknown 1 = .ok (.invokevirtual 166, 3) := by decide +kernel
theorem dX6_countUnknown_4 : decode cX6_countUnknown 4 = .ok (.aload_n 0, 1) := by decide +kernel
theorem dX6_countUnknown_5 : decode cX6_countUnknown 5 = .ok (.getfield 10, 3) := by decide +kernel
theorem dX6_countUnknown_8 : decode cX6_countUnknown 8 = .ok (.getfield 55, 3) := by decide +kernel
theorem dX6_countUnknown_11 : decode cX6_countUnknown 11 = .ok (.aload_n 0, 1) := by decide +kernel
theorem dX6_countUnknown_12 : decode cX6_countUnknown 12 = .ok (.getfield 33, 3) := by decide +kernel
theorem dX6_countUnknown_15 : decode cX6_countUnknown 15 = .ok (.getfield 169, 3) := by decide +kernel
theorem dX6_countUnknown_18 : decode cX6_countUnknown 18 = .ok (.aload_n 0, 1) := by decide +kernel
theorem dX6_countUnknown_19 : decode cX6_countUnknown 19 = .ok (.getfield 33, 3) := by decide +kernel
theorem dX6_countUnknown_22 : decode cX6_countUnknown 22 = .ok (.getfield 172, 3) := by decide +kernel
theorem dX6_countUnknown_25 : decode cX6_countUnknown 25 = .ok (.ior, 1) := by decide +kernel
theorem dX6_countUnknown_26 : decode cX6_countUnknown 26 = .ok (.invokestatic 103, 3) := by decide +kernel
theorem dX6_countUnknown_29 : decode cX6_countUnknown 29 = .ok (.isub, 1) := by decide +kernel
theorem dX6_countUnknown_30 : decode cX6_countUnknown 30 = .ok (.ireturn, 1) := by decide +kernel
theorem dX6_writeLine_0 : decode cX6_writeLine 0 = .ok (.aload_n 0, 1) := by decide +kernel
theorem dX6_writeLine_1 : decode cX6_writeLine 1 = .ok (.invokevirtual 166, 3) := by decide +kernel
theorem dX6_writeLine_4 : decode cX6_writeLine 4 = .ok (.aload_n 0, 1) := by decide +kernel
theorem dX6_writeLine_5 : decode cX6_writeLine 5 = .ok (.getfield 40, 3) := by decide +kernel
theorem dX6_writeLine_8 : decode cX6_writeLine 8 = .ok (.aload_n 0, 1) := by decide +kernel
theorem dX6_writeLine_9 : decode cX6_writeLine 9 = .ok (.getfield 10, 3) := by decide +kernel
theorem dX6_writeLine_12 : decode cX6_writeLine 12 = .ok (.getfield 55, 3) := by decide +kernel
theorem dX6_writeLine_15 : decode cX6_writeLine 15 = .ok (.aload_n 0, 1) := by decide +kernel
theorem dX6_writeLine_16 : decode cX6_writeLine 16 = .ok (.getfield 33, 3) := by decide +kernel
theorem dX6_writeLine_19 : decode cX6_writeLine 19 = .ok (.invokevirtual 300, 3) := by decide +kernel
theorem dX6_writeLine_22 : decode cX6_writeLine 22 = .ok (.return_, 1) := by decide +kernel
theorem dX6_decisionsAgainst_0 : decode cX6_decisionsAgainst 0 = .ok (.iconst (-1), 1) := by decide +kernel
theorem dX6_decisionsAgainst_1 : decode cX6_decisionsAgainst 1 = .ok (.istore_n 3, 1) := by decide +kernel
theorem dX6_decisionsAgainst_2 : decode cX6_decisionsAgainst 2 = .ok (.aload_n 0, 1) := by decide +kernel
theorem dX6_decisionsAgainst_3 : decode cX6_decisionsAgainst 3 = .ok (.getfield 10, 3) := by decide +kernel
theorem dX6_decisionsAgainst_6 : decode cX6_decisionsAgainst 6 = .ok (.invokevirtual 200, 3) := by decide +kernel
theorem dX6_decisionsAgainst_9 : decode cX6_decisionsAgainst 9 = .ok (.istore 4, 2) := by decide +kernel
theorem dX6_decisionsAgainst_11 : decode cX6_decisionsAgainst 11 = .ok (.iconst 0, 1) := by decide +kernel
theorem dX6_decisionsAgainst_12 : decode cX6_decisionsAgainst 12 = .ok (.istore 5, 2) := by decide +kernel
theorem dX6_decisionsAgainst_14 : decode cX6_decisionsAgainst 14 = .ok (.iload 5, 2) := by decide +kernel
theorem dX6_decisionsAgainst_16 : decode cX6_decisionsAgainst 16 = .ok (.iload 4, 2) := by decide +kernel
theorem dX6_decisionsAgainst_18 : decode cX6_decisionsAgainst 18 = .ok (.if_icmp .gt 50, 3) := by decide +kernel
theorem dX6_decisionsAgainst_21 : decode cX6_decisionsAgainst 21 = .ok (.iload 5, 2) := by decide +kernel
theorem dX6_decisionsAgainst_23 : decode cX6_decisionsAgainst 23 = .ok (.iload_n 1, 1) := by decide +kernel
theorem dX6_decisionsAgainst_24 : decode cX6_decisionsAgainst 24 = .ok (.invokestatic 87, 3) := by decide +kernel
theorem dX6_decisionsAgainst_27 : decode cX6_decisionsAgainst 27 = .ok (.iload_n 2, 1) := by decide +kernel
theorem dX6_decisionsAgainst_28 : decode cX6_decisionsAgainst 28 = .ok (.if_icmp .ne 34, 3) := by decide +kernel
theorem dX6_decisionsAgainst_31 : decode cX6_decisionsAgainst 31 = .ok (.aload_n 0, 1) := by decide +kernel
theorem dX6_decisionsAgainst_32 : decode cX6_decisionsAgainst 32 = .ok (.iload 5, 2) := by decide +kernel
theorem dX6_decisionsAgainst_34 : decode cX6_decisionsAgainst 34 = .ok (.invokevirtual 193, 3) := by decide +kernel
theorem dX6_decisionsAgainst_37 : decode cX6_decisionsAgainst 37 = .ok (.ifCond .eq 25, 3) := by decide +kernel
theorem dX6_decisionsAgainst_40 : decode cX6_decisionsAgainst 40 = .ok (.iload_n 3, 1) := by decide +kernel
theorem dX6_decisionsAgainst_41 : decode cX6_decisionsAgainst 41 = .ok (.aload_n 0, 1) := by decide +kernel
theorem dX6_decisionsAgainst_42 : decode cX6_decisionsAgainst 42 = .ok (.getfield 135, 3) := by decide +kernel
theorem dX6_decisionsAgainst_45 : decode cX6_decisionsAgainst 45 = .ok (.iload 5, 2) := by decide +kernel
theorem dX6_decisionsAgainst_47 : decode cX6_decisionsAgainst 47 = .ok (.iconst (-1), 1) := by decide +kernel
theorem dX6_decisionsAgainst_48 : decode cX6_decisionsAgainst 48 = .ok (.ixor, 1) := by decide +kernel
theorem dX6_decisionsAgainst_49 : decode cX6_decisionsAgainst 49 = .ok (.iand, 1) := by decide +kernel
theorem dX6_decisionsAgainst_50 : decode cX6_decisionsAgainst 50 = .ok (.aload_n 0, 1) := by decide +kernel
theorem dX6_decisionsAgainst_51 : decode cX6_decisionsAgainst 51 = .ok (.getfield 138, 3) := by decide +kernel
theorem dX6_decisionsAgainst_54 : decode cX6_decisionsAgainst 54 = .ok (.iload 5, 2) := by decide +kernel
theorem dX6_decisionsAgainst_56 : decode cX6_decisionsAgainst 56 = .ok (.iand, 1) := by decide +kernel
theorem dX6_decisionsAgainst_57 : decode cX6_decisionsAgainst 57 = .ok (.ior, 1) := by decide +kernel
theorem dX6_decisionsAgainst_58 : decode cX6_decisionsAgainst 58 = .ok (.invokestatic 304, 3) := by decide +kernel
theorem dX6_decisionsAgainst_61 : decode cX6_decisionsAgainst 61 = .ok (.istore_n 3, 1) := by decide +kernel
theorem dX6_decisionsAgainst_62 : decode cX6_decisionsAgainst 62 = .ok (.iinc 5 1, 3) := by decide +kernel
theorem dX6_decisionsAgainst_65 : decode cX6_decisionsAgainst 65 = .ok (.goto (-51), 3) := by decide +kernel
theorem dX6_decisionsAgainst_68 : decode cX6_decisionsAgainst 68 = .ok (.iload_n 3, 1) := by decide +kernel
theorem dX6_decisionsAgainst_69 : decode cX6_decisionsAgainst 69 = .ok (.iconst (-1), 1) := by decide +kernel
theorem dX6_decisionsAgainst_70 : decode cX6_decisionsAgainst 70 = .ok (.if_icmp .ne 14, 3) := by decide +kernel
theorem dX6_decisionsAgainst_73 : decode cX6_decisionsAgainst 73 = .ok (.new 122, 3) := by decide +kernel
theorem dX6_decisionsAgainst_76 : decode cX6_decisionsAgainst 76 = .ok (.dup, 1) := by decide +kernel
theorem dX6_decisionsAgainst_77 : decode cX6_decisionsAgainst 77 = .ok (.ldc_w 307, 3) := by decide +kernel
theorem dX6_decisionsAgainst_80 : decode cX6_decisionsAgainst 80 = .ok (.invokespecial 126, 3) := by decide +kernel
theorem dX6_decisionsAgainst_83 : decode cX6_decisionsAgainst 83 = .ok (.athrow, 1) := by decide +kernel
theorem dX6_decisionsAgainst_84 : decode cX6_decisionsAgainst 84 = .ok (.iload_n 3, 1) := by decide +kernel
theorem dX6_decisionsAgainst_85 : decode cX6_decisionsAgainst 85 = .ok (.ireturn, 1) := by decide +kernel
theorem dX6_smallerOf_0 : decode cX6_smallerOf 0 = .ok (.iload_n 0, 1) := by decide +kernel
theorem dX6_smallerOf_1 : decode cX6_smallerOf 1 = .ok (.iconst (-1), 1) := by decide +kernel
theorem dX6_smallerOf_2 : decode cX6_smallerOf 2 = .ok (.if_icmp .ne 5, 3) := by decide +kernel
theorem dX6_smallerOf_5 : decode cX6_smallerOf 5 = .ok (.iload_n 1, 1) := by decide +kernel
theorem dX6_smallerOf_6 : decode cX6_smallerOf 6 = .ok (.ireturn, 1) := by decide +kernel
theorem dX6_smallerOf_7 : decode cX6_smallerOf 7 = .ok (.iload_n 1, 1) := by decide +kernel
theorem dX6_smallerOf_8 : decode cX6_smallerOf 8 = .ok (.invokestatic 103, 3) := by decide +kernel
theorem dX6_smallerOf_11 : decode cX6_smallerOf 11 = .ok (.iload_n 0, 1) := by decide +kernel
theorem dX6_smallerOf_12 : decode cX6_smallerOf 12 = .ok (.invokestatic 103, 3) := by decide +kernel
theorem dX6_smallerOf_15 : decode cX6_smallerOf 15 = .ok (.isub, 1) := by decide +kernel
theorem dX6_smallerOf_16 : decode cX6_smallerOf 16 = .ok (.istore_n 2, 1) := by decide +kernel
theorem dX6_smallerOf_17 : decode cX6_smallerOf 17 = .ok (.iload_n 2, 1) := by decide +kernel
theorem dX6_smallerOf_18 : decode cX6_smallerOf 18 = .ok (.ifCond .lt 12, 3) := by decide +kernel
theorem dX6_smallerOf_21 : decode cX6_smallerOf 21 = .ok (.iload_n 2, 1) := by decide +kernel
theorem dX6_smallerOf_22 : decode cX6_smallerOf 22 = .ok (.ifCond .ne 12, 3) := by decide +kernel
theorem dX6_smallerOf_25 : decode cX6_smallerOf 25 = .ok (.iload_n 1, 1) := by decide +kernel
theorem dX6_smallerOf_26 : decode cX6_smallerOf 26 = .ok (.iload_n 0, 1) := by decide +kernel
theorem dX6_smallerOf_27 : decode cX6_smallerOf 27 = .ok (.if_icmp .ge 7, 3) := by decide +kernel
theorem dX6_smallerOf_30 : decode cX6_smallerOf 30 = .ok (.iload_n 1, 1) := by decide +kernel
theorem dX6_smallerOf_31 : decode cX6_smallerOf 31 = .ok (.goto 4, 3) := by decide +kernel
theorem dX6_smallerOf_34 : decode cX6_smallerOf 34 = .ok (.iload_n 0, 1) := by decide +kernel
theorem dX6_smallerOf_35 : decode cX6_smallerOf 35 = .ok (.ireturn, 1) := by decide +kernel
theorem dX6_statesAgree_0 : decode cX6_statesAgree 0 = .ok (.iconst 0, 1) := by decide +kernel
theorem dX6_statesAgree_1 : decode cX6_statesAgree 1 = .ok (.istore_n 3, 1) := by decide +kernel
theorem dX6_statesAgree_2 : decode cX6_statesAgree 2 = .ok (.iload_n 3, 1) := by decide +kernel
theorem dX6_statesAgree_3 : decode cX6_statesAgree 3 = .ok (.aload_n 0, 1) := by decide +kernel
theorem dX6_statesAgree_4 : decode cX6_statesAgree 4 = .ok (.getfield 10, 3) := by decide +kernel
theorem dX6_statesAgree_7 : decode cX6_statesAgree 7 = .ok (.getfield 55, 3) := by decide +kernel
theorem dX6_statesAgree_10 : decode cX6_statesAgree 10 = .ok (.if_icmp .ge 50, 3) := by decide +kernel
theorem dX6_statesAgree_13 : decode cX6_statesAgree 13 = .ok (.iload_n 2, 1) := by decide +kernel
theorem dX6_statesAgree_14 : decode cX6_statesAgree 14 = .ok (.iload_n 3, 1) := by decide +kernel
theorem dX6_statesAgree_15 : decode cX6_statesAgree 15 = .ok (.invokestatic 87, 3) := by decide +kernel
theorem dX6_statesAgree_18 : decode cX6_statesAgree 18 = .ok (.istore 4, 2) := by decide +kernel
theorem dX6_statesAgree_20 : decode cX6_statesAgree 20 = .ok (.iload_n 1, 1) := by decide +kernel
theorem dX6_statesAgree_21 : decode cX6_statesAgree 21 = .ok (.iload_n 3, 1) := by decide +kernel
theorem dX6_statesAgree_22 : decode cX6_statesAgree 22 = .ok (.invokestatic 87, 3) := by decide +kernel
theorem dX6_statesAgree_25 : decode cX6_statesAgree 25 = .ok (.ifCond .ne 7, 3) := by decide +kernel
theorem dX6_statesAgree_28 : decode cX6_statesAgree 28 = .ok (.iconst 1, 1) := by decide +kernel
theorem dX6_statesAgree_29 : decode cX6_statesAgree 29 = .ok (.goto 4, 3) := by decide +kernel
theorem dX6_statesAgree_32 : decode cX6_statesAgree 32 = .ok (.iconst 0, 1) := by decide +kernel
theorem dX6_statesAgree_33 : decode cX6_statesAgree 33 = .ok (.istore 5, 2) := by decide +kernel
theorem dX6_statesAgree_35 : decode cX6_statesAgree 35 = .ok (.aload_n 0, 1) := by decide +kernel
theorem dX6_statesAgree_36 : decode cX6_statesAgree 36 = .ok (.iload_n 3, 1) := by decide +kernel
theorem dX6_statesAgree_37 : decode cX6_statesAgree 37 = .ok (.invokevirtual 309, 3) := by decide +kernel
theorem dX6_statesAgree_40 : decode cX6_statesAgree 40 = .ok (.aload_n 0, 1) := by decide +kernel
theorem dX6_statesAgree_41 : decode cX6_statesAgree 41 = .ok (.iload_n 3, 1) := by decide +kernel
theorem dX6_statesAgree_42 : decode cX6_statesAgree 42 = .ok (.iload 4, 2) := by decide +kernel
theorem dX6_statesAgree_44 : decode cX6_statesAgree 44 = .ok (.iload 5, 2) := by decide +kernel
theorem dX6_statesAgree_46 : decode cX6_statesAgree 46 = .ok (.invokevirtual 156, 3) := by decide +kernel
theorem dX6_statesAgree_49 : decode cX6_statesAgree 49 = .ok (.if_icmp .eq 5, 3) := by decide +kernel
theorem dX6_statesAgree_52 : decode cX6_statesAgree 52 = .ok (.iconst 0, 1) := by decide +kernel
theorem dX6_statesAgree_53 : decode cX6_statesAgree 53 = .ok (.ireturn, 1) := by decide +kernel
theorem dX6_statesAgree_54 : decode cX6_statesAgree 54 = .ok (.iinc 3 1, 3) := by decide +kernel
theorem dX6_statesAgree_57 : decode cX6_statesAgree 57 = .ok (.goto (-55), 3) := by decide +kernel
theorem dX6_statesAgree_60 : decode cX6_statesAgree 60 = .ok (.iconst 1, 1) := by decide +kernel
theorem dX6_statesAgree_61 : decode cX6_statesAgree 61 = .ok (.ireturn, 1) := by decide +kernel
theorem dX6_knowledgeAgrees_0 : decode cX6_knowledgeAgrees 0 = .ok (.aload_n 0, 1) := by decide +kernel
theorem dX6_knowledgeAgrees_1 : decode cX6_knowledgeAgrees 1 = .ok (.invokevirtual 166, 3) := by decide +kernel
theorem dX6_knowledgeAgrees_4 : decode cX6_knowledgeAgrees 4 = .ok (.aload_n 0, 1) := by decide +kernel
theorem dX6_knowledgeAgrees_5 : decode cX6_knowledgeAgrees 5 = .ok (.getfield 33, 3) := by decide +kernel
theorem dX6_knowledgeAgrees_8 : decode cX6_knowledgeAgrees 8 = .ok (.getfield 169, 3) := by decide +kernel
theorem dX6_knowledgeAgrees_11 : decode cX6_knowledgeAgrees 11 = .ok (.iload_n 1, 1) := by decide +kernel
theorem dX6_knowledgeAgrees_12 : decode cX6_knowledgeAgrees 12 = .ok (.iconst (-1), 1) := by decide +kernel
theorem dX6_knowledgeAgrees_13 : decode cX6_knowledgeAgrees 13 = .ok (.ixor, 1) := by decide +kernel
theorem dX6_knowledgeAgrees_14 : decode cX6_knowledgeAgrees 14 = .ok (.iand, 1) := by decide +kernel
theorem dX6_knowledgeAgrees_15 : decode cX6_knowledgeAgrees 15 = .ok (.ifCond .ne 19, 3) := by decide +kernel
theorem dX6_knowledgeAgrees_18 : decode cX6_knowledgeAgrees 18 = .ok (.aload_n 0, 1) := by decide +kernel
theorem dX6_knowledgeAgrees_19 : decode cX6_knowledgeAgrees 19 = .ok (.getfield 33, 3) := by decide +kernel
theorem dX6_knowledgeAgrees_22 : decode cX6_knowledgeAgrees 22 = .ok (.getfield 172, 3) := by decide +kernel
theorem dX6_knowledgeAgrees_25 : decode cX6_knowledgeAgrees 25 = .ok (.iload_n 2, 1) := by decide +kernel
theorem dX6_knowledgeAgrees_26 : decode cX6_knowledgeAgrees 26 = .ok (.iand, 1) := by decide +kernel
theorem dX6_knowledgeAgrees_27 : decode cX6_knowledgeAgrees 27 = .ok (.ifCond .ne 7, 3) := by decide +kernel
theorem dX6_knowledgeAgrees_30 : decode cX6_knowledgeAgrees 30 = .ok (.iconst 1, 1) := by decide +kernel
theorem dX6_knowledgeAgrees_31 : decode cX6_knowledgeAgrees 31 = .ok (.goto 4, 3) := by decide +kernel
theorem dX6_knowledgeAgrees_34 : decode cX6_knowledgeAgrees 34 = .ok (.iconst 0, 1) := by decide +kernel
theorem dX6_knowledgeAgrees_35 : decode cX6_knowledgeAgrees 35 = .ok (.ireturn, 1) := by decide +kernel
theorem dX7_init_0 : decode cX7_init 0 = .ok (.aload_n 0, 1) := by decide +kernel
theorem dX7_init_1 : decode cX7_init 1 = .ok (.invokespecial 1, 3) := by decide +kernel
theorem dX7_init_4 : decode cX7_init 4 = .ok (.aload_n 0, 1) := by decide +kernel
theorem dX7_init_5 : decode cX7_init 5 = .ok (.bipush 12, 2) := by decide +kernel
theorem dX7_init_7 : decode cX7_init 7 = .ok (.newarray .int, 2) := by decide +kernel
theorem dX7_init_9 : decode cX7_init 9 = .ok (.putfield 9, 3) := by decide +kernel
theorem dX7_init_12 : decode cX7_init 12 = .ok (.aload_n 0, 1) := by decide +kernel
theorem dX7_init_13 : decode cX7_init 13 = .ok (.bipush 12, 2) := by decide +kernel
theorem dX7_init_15 : decode cX7_init 15 = .ok (.newarray .int, 2) := by decide +kernel
theorem dX7_init_17 : decode cX7_init 17 = .ok (.putfield 13, 3) := by decide +kernel
theorem dX7_init_20 : decode cX7_init 20 = .ok (.aload_n 0, 1) := by decide +kernel
theorem dX7_init_21 : decode cX7_init 21 = .ok (.bipush 12, 2) := by decide +kernel
theorem dX7_init_23 : decode cX7_init 23 = .ok (.newarray .int, 2) := by decide +kernel
theorem dX7_init_25 : decode cX7_init 25 = .ok (.putfield 16, 3) := by decide +kernel
theorem dX7_init_28 : decode cX7_init 28 = .ok (.aload_n 0, 1) := by decide +kernel
theorem dX7_init_29 : decode cX7_init 29 = .ok (.bipush 12, 2) := by decide +kernel
theorem dX7_init_31 : decode cX7_init 31 = .ok (.newarray .int, 2) := by decide +kernel
theorem dX7_init_33 : decode cX7_init 33 = .ok (.putfield 19, 3) := by decide +kernel
theorem dX7_init_36 : decode cX7_init 36 = .ok (.aload_n 0, 1) := by decide +kernel
theorem dX7_init_37 : decode cX7_init 37 = .ok (.bipush 12, 2) := by decide +kernel
theorem dX7_init_39 : decode cX7_init 39 = .ok (.newarray .boolean, 2) := by decide +kernel
theorem dX7_init_41 : decode cX7_init 41 = .ok (.putfield 22, 3) := by decide +kernel
theorem dX7_init_44 : decode cX7_init 44 = .ok (.aload_n 0, 1) := by decide +kernel
theorem dX7_init_45 : decode cX7_init 45 = .ok (.bipush 20, 2) := by decide +kernel
theorem dX7_init_47 : decode cX7_init 47 = .ok (.newarray .boolean, 2) := by decide +kernel
theorem dX7_init_49 : decode cX7_init 49 = .ok (.putfield 26, 3) := by decide +kernel
theorem dX7_init_52 : decode cX7_init 52 = .ok (.aload_n 0, 1) := by decide +kernel
theorem dX7_init_53 : decode cX7_init 53 = .ok (.bipush 20, 2) := by decide +kernel
theorem dX7_init_55 : decode cX7_init 55 = .ok (.newarray .char, 2) := by decide +kernel
theorem dX7_init_57 : decode cX7_init 57 = .ok (.putfield 29, 3) := by decide +kernel
theorem dX7_init_60 : decode cX7_init 60 = .ok (.aload_n 0, 1) := by decide +kernel
theorem dX7_init_61 : decode cX7_init 61 = .ok (.bipush 6, 2) := by decide +kernel
theorem dX7_init_63 : decode cX7_init 63 = .ok (.newarray .char, 2) := by decide +kernel
theorem dX7_init_65 : decode cX7_init 65 = .ok (.putfield 33, 3) := by decide +kernel
theorem dX7_init_68 : decode cX7_init 68 = .ok (.aload_n 0, 1) := by decide +kernel
theorem dX7_init_69 : decode cX7_init 69 = .ok (.bipush 12, 2) := by decide +kernel
theorem dX7_init_71 : decode cX7_init 71 = .ok (.newarray .char, 2) := by decide +kernel
theorem dX7_init_73 : decode cX7_init 73 = .ok (.putfield 36, 3) := by decide +kernel
theorem dX7_init_76 : decode cX7_init 76 = .ok (.aload_n 0, 1) := by decide +kernel
theorem dX7_init_77 : decode cX7_init 77 = .ok (.bipush 20, 2) := by decide +kernel
theorem dX7_init_79 : decode cX7_init 79 = .ok (.newarray .int, 2) := by decide +kernel
theorem dX7_init_81 : decode cX7_init 81 = .ok (.putfield 39, 3) := by decide +kernel
theorem dX7_init_84 : decode cX7_init 84 = .ok (.aload_n 0, 1) := by decide +kernel
theorem dX7_init_85 : decode cX7_init 85 = .ok (.bipush 20, 2) := by decide +kernel
theorem dX7_init_87 : decode cX7_init 87 = .ok (.newarray .int, 2) := by decide +kernel
theorem dX7_init_89 : decode cX7_init 89 = .ok (.putfield 42, 3) := by decide +kernel
theorem dX7_init_92 : decode cX7_init 92 = .ok (.aload_n 0, 1) := by decide +kernel
theorem dX7_init_93 : decode cX7_init 93 = .ok (.bipush 20, 2) := by decide +kernel
theorem dX7_init_95 : decode cX7_init 95 = .ok (.newarray .int, 2) := by decide +kernel
theorem dX7_init_97 : decode cX7_init 97 = .ok (.putfield 45, 3) := by decide +kernel
theorem dX7_init_100 : decode cX7_init 100 = .ok (.aload_n 0, 1) := by decide +kernel
theorem dX7_init_101 : decode cX7_init 101 = .ok (.bipush 6, 2) := by decide +kernel
theorem dX7_init_103 : decode cX7_init 103 = .ok (.newarray .int, 2) := by decide +kernel
theorem dX7_init_105 : decode cX7_init 105 = .ok (.putfield 48, 3) := by decide +kernel
theorem dX7_init_108 : decode cX7_init 108 = .ok (.aload_n 0, 1) := by decide +kernel
theorem dX7_init_109 : decode cX7_init 109 = .ok (.bipush 6, 2) := by decide +kernel
theorem dX7_init_111 : decode cX7_init 111 = .ok (.newarray .int, 2) := by decide +kernel
theorem dX7_init_113 : decode cX7_init 113 = .ok (.putfield 51, 3) := by decide +kernel
theorem dX7_init_116 : decode cX7_init 116 = .ok (.aload_n 0, 1) := by decide +kernel
theorem dX7_init_117 : decode cX7_init 117 = .ok (.bipush 6, 2) := by decide +kernel
theorem dX7_init_119 : decode cX7_init 119 = .ok (.newarray .int, 2) := by decide +kernel
theorem dX7_init_121 : decode cX7_init 121 = .ok (.putfield 54, 3) := by decide +kernel
theorem dX7_init_124 : decode cX7_init 124 = .ok (.aload_n 0, 1) := by decide +kernel
theorem dX7_init_125 : decode cX7_init 125 = .ok (.bipush 12, 2) := by decide +kernel
theorem dX7_init_127 : decode cX7_init 127 = .ok (.newarray .int, 2) := by decide +kernel
theorem dX7_init_129 : decode cX7_init 129 = .ok (.putfield 57, 3) := by decide +kernel
theorem dX7_init_132 : decode cX7_init 132 = .ok (.aload_n 0, 1) := by decide +kernel
theorem dX7_init_133 : decode cX7_init 133 = .ok (.iconst 1, 1) := by decide +kernel
theorem dX7_init_134 : decode cX7_init 134 = .ok (.putfield 60, 3) := by decide +kernel
theorem dX7_init_137 : decode cX7_init 137 = .ok (.aload_n 0, 1) := by decide +kernel
theorem dX7_init_138 : decode cX7_init 138 = .ok (.getfield 9, 3) := by decide +kernel
theorem dX7_init_141 : decode cX7_init 141 = .ok (.iconst 0, 1) := by decide +kernel
theorem dX7_init_142 : decode cX7_init 142 = .ok (.iconst (-1), 1) := by decide +kernel
theorem dX7_init_143 : decode cX7_init 143 = .ok (.iastore, 1) := by decide +kernel
theorem dX7_init_144 : decode cX7_init 144 = .ok (.aload_n 0, 1) := by decide +kernel
theorem dX7_init_145 : decode cX7_init 145 = .ok (.getfield 19, 3) := by decide +kernel
theorem dX7_init_148 : decode cX7_init 148 = .ok (.iconst 0, 1) := by decide +kernel
theorem dX7_init_149 : decode cX7_init 149 = .ok (.bipush 12, 2) := by decide +kernel
theorem dX7_init_151 : decode cX7_init 151 = .ok (.iastore, 1) := by decide +kernel
theorem dX7_init_152 : decode cX7_init 152 = .ok (.return_, 1) := by decide +kernel
theorem dX7_thrown_0 : decode cX7_thrown 0 = .ok (.aload_n 0, 1) := by decide +kernel
theorem dX7_thrown_1 : decode cX7_thrown 1 = .ok (.getfield 64, 3) := by decide +kernel
theorem dX7_thrown_4 : decode cX7_thrown 4 = .ok (.ireturn, 1) := by decide +kernel
theorem dX7_isIn_0 : decode cX7_isIn 0 = .ok (.iload_n 0, 1) := by decide +kernel
theorem dX7_isIn_1 : decode cX7_isIn 1 = .ok (.iload_n 1, 1) := by decide +kernel
theorem dX7_isIn_2 : decode cX7_isIn 2 = .ok (.if_icmp .lt 12, 3) := by decide +kernel
theorem dX7_isIn_5 : decode cX7_isIn 5 = .ok (.iload_n 0, 1) := by decide +kernel
theorem dX7_isIn_6 : decode cX7_isIn 6 = .ok (.iload_n 2, 1) := by decide +kernel
theorem dX7_isIn_7 : decode cX7_isIn 7 = .ok (.if_icmp .gt 7, 3) := by decide +kernel
theorem dX7_isIn_10 : decode cX7_isIn 10 = .ok (.iconst 1, 1) := by decide +kernel
theorem dX7_isIn_11 : decode cX7_isIn 11 = .ok (.goto 4, 3) := by decide +kernel
theorem dX7_isIn_14 : decode cX7_isIn 14 = .ok (.iconst 0, 1) := by decide +kernel
theorem dX7_isIn_15 : decode cX7_isIn 15 = .ok (.ireturn, 1) := by decide +kernel
theorem dX7_isThrown_0 : decode cX7_isThrown 0 = .ok (.aload_n 0, 1) := by decide +kernel
theorem dX7_isThrown_1 : decode cX7_isThrown 1 = .ok (.iload_n 1, 1) := by decide +kernel
theorem dX7_isThrown_2 : decode cX7_isThrown 2 = .ok (.ifCond .eq 7, 3) := by decide +kernel
theorem dX7_isThrown_5 : decode cX7_isThrown 5 = .ok (.iload_n 2, 1) := by decide +kernel
theorem dX7_isThrown_6 : decode cX7_isThrown 6 = .ok (.goto 4, 3) := by decide +kernel
theorem dX7_isThrown_9 : decode cX7_isThrown 9 = .ok (.iconst 0, 1) := by decide +kernel
theorem dX7_isThrown_10 : decode cX7_isThrown 10 = .ok (.putfield 64, 3) := by decide +kernel
theorem dX7_isThrown_13 : decode cX7_isThrown 13 = .ok (.iload_n 1, 1) := by decide +kernel
theorem dX7_isThrown_14 : decode cX7_isThrown 14 = .ok (.ireturn, 1) := by decide +kernel
theorem dX7_isNone_0 : decode cX7_isNone 0 = .ok (.iload_n 1, 1) := by decide +kernel
theorem dX7_isNone_1 : decode cX7_isNone 1 = .ok (.iconst 0, 1) := by decide +kernel
theorem dX7_isNone_2 : decode cX7_isNone 2 = .ok (.aload_n 0, 1) := by decide +kernel
theorem dX7_isNone_3 : decode cX7_isNone 3 = .ok (.getfield 60, 3) := by decide +kernel
theorem dX7_isNone_6 : decode cX7_isNone 6 = .ok (.iconst 1, 1) := by decide +kernel
theorem dX7_isNone_7 : decode cX7_isNone 7 = .ok (.isub, 1) := by decide +kernel
theorem dX7_isNone_8 : decode cX7_isNone 8 = .ok (.invokestatic 67, 3) := by decide +kernel
theorem dX7_isNone_11 : decode cX7_isNone 11 = .ok (.ifCond .ne 7, 3) := by decide +kernel
theorem dX7_isNone_14 : decode cX7_isNone 14 = .ok (.iconst 1, 1) := by decide +kernel
theorem dX7_isNone_15 : decode cX7_isNone 15 = .ok (.goto 4, 3) := by decide +kernel
theorem dX7_isNone_18 : decode cX7_isNone 18 = .ok (.iconst 0, 1) := by decide +kernel
theorem dX7_isNone_19 : decode cX7_isNone 19 = .ok (.ireturn, 1) := by decide +kernel
theorem dX7_has_0 : decode cX7_has 0 = .ok (.iload_n 0, 1) := by decide +kernel
theorem dX7_has_1 : decode cX7_has 1 = .ok (.iload_n 1, 1) := by decide +kernel
theorem dX7_has_2 : decode cX7_has 2 = .ok (.ishr, 1) := by decide +kernel
theorem dX7_has_3 : decode cX7_has 3 = .ok (.iconst 1, 1) := by decide +kernel
theorem dX7_has_4 : decode cX7_has 4 = .ok (.iand, 1) := by decide +kernel
theorem dX7_has_5 : decode cX7_has 5 = .ok (.iconst 1, 1) := by decide +kernel
theorem dX7_has_6 : decode cX7_has 6 = .ok (.if_icmp .ne 7, 3) := by decide +kernel
theorem dX7_has_9 : decode cX7_has 9 = .ok (.iconst 1, 1) := by decide +kernel
theorem dX7_has_10 : decode cX7_has 10 = .ok (.goto 4, 3) := by decide +kernel
theorem dX7_has_13 : decode cX7_has 13 = .ok (.iconst 0, 1) := by decide +kernel
theorem dX7_has_14 : decode cX7_has 14 = .ok (.ireturn, 1) := by decide +kernel
theorem dX7_keeps_0 : decode cX7_keeps 0 = .ok (.aload_n 0, 1) := by decide +kernel
theorem dX7_keeps_1 : decode cX7_keeps 1 = .ok (.getfield 29, 3) := by decide +kernel
theorem dX7_keeps_4 : decode cX7_keeps 4 = .ok (.iload_n 1, 1) := by decide +kernel
theorem dX7_keeps_5 : decode cX7_keeps 5 = .ok (.caload, 1) := by decide +kernel
theorem dX7_keeps_6 : decode cX7_keeps 6 = .ok (.bipush 114, 2) := by decide +kernel
theorem dX7_keeps_8 : decode cX7_keeps 8 = .ok (.if_icmp .ne 37, 3) := by decide +kernel
theorem dX7_keeps_11 : decode cX7_keeps 11 = .ok (.iload_n 2, 1) := by decide +kernel
theorem dX7_keeps_12 : decode cX7_keeps 12 = .ok (.aload_n 0, 1) := by decide +kernel
theorem dX7_keeps_13 : decode cX7_keeps 13 = .ok (.getfield 39, 3) := by decide +kernel
theorem dX7_keeps_16 : decode cX7_keeps 16 = .ok (.iload_n 1, 1) := by decide +kernel
theorem dX7_keeps_17 : decode cX7_keeps 17 = .ok (.iaload, 1) := by decide +kernel
theorem dX7_keeps_18 : decode cX7_keeps 18 = .ok (.invokestatic 71, 3) := by decide +kernel
theorem dX7_keeps_21 : decode cX7_keeps 21 = .ok (.ifCond .eq 16, 3) := by decide +kernel
theorem dX7_keeps_24 : decode cX7_keeps 24 = .ok (.iload_n 2, 1) := by decide +kernel
theorem dX7_keeps_25 : decode cX7_keeps 25 = .ok (.aload_n 0, 1) := by decide +kernel
theorem dX7_keeps_26 : decode cX7_keeps 26 = .ok (.getfield 42, 3) := by decide +kernel
theorem dX7_keeps_29 : decode cX7_keeps 29 = .ok (.iload_n 1, 1) := by decide +kernel
theorem dX7_keeps_30 : decode cX7_keeps 30 = .ok (.iaload, 1) := by decide +kernel
theorem dX7_keeps_31 : decode cX7_keeps 31 = .ok (.invokestatic 71, 3) := by decide +kernel
theorem dX7_keeps_34 : decode cX7_keeps 34 = .ok (.ifCond .eq 7, 3) := by decide +kernel
theorem dX7_keeps_37 : decode cX7_keeps 37 = .ok (.iconst 1, 1) := by decide +kernel
theorem dX7_keeps_38 : decode cX7_keeps 38 = .ok (.goto 96, 3) := by decide +kernel
theorem dX7_keeps_41 : decode cX7_keeps 41 = .ok (.iconst 0, 1) := by decide +kernel
theorem dX7_keeps_42 : decode cX7_keeps 42 = .ok (.goto 92, 3) := by decide +kernel
theorem dX7_keeps_45 : decode cX7_keeps 45 = .ok (.aload_n 0, 1) := by decide +kernel
theorem dX7_keeps_46 : decode cX7_keeps 46 = .ok (.getfield 29, 3) := by decide +kernel
theorem dX7_keeps_49 : decode cX7_keeps 49 = .ok (.iload_n 1, 1) := by decide +kernel
theorem dX7_keeps_50 : decode cX7_keeps 50 = .ok (.caload, 1) := by decide +kernel
theorem dX7_keeps_51 : decode cX7_keeps 51 = .ok (.bipush 101, 2) := by decide +kernel
theorem dX7_keeps_53 : decode cX7_keeps 53 = .ok (.if_icmp .ne 37, 3) := by decide +kernel
theorem dX7_keeps_56 : decode cX7_keeps 56 = .ok (.iload_n 2, 1) := by decide +kernel
theorem dX7_keeps_57 : decode cX7_keeps 57 = .ok (.aload_n 0, 1) := by decide +kernel
theorem dX7_keeps_58 : decode cX7_keeps 58 = .ok (.getfield 39, 3) := by decide +kernel
theorem dX7_keeps_61 : decode cX7_keeps 61 = .ok (.iload_n 1, 1) := by decide +kernel
theorem dX7_keeps_62 : decode cX7_keeps 62 = .ok (.iaload, 1) := by decide +kernel
theorem dX7_keeps_63 : decode cX7_keeps 63 = .ok (.invokestatic 71, 3) := by decide +kernel
theorem dX7_keeps_66 : decode cX7_keeps 66 = .ok (.ifCond .eq 16, 3) := by decide +kernel
theorem dX7_keeps_69 : decode cX7_keeps 69 = .ok (.iload_n 2, 1) := by decide +kernel
theorem dX7_keeps_70 : decode cX7_keeps 70 = .ok (.aload_n 0, 1) := by decide +kernel
theorem dX7_keeps_71 : decode cX7_keeps 71 = .ok (.getfield 42, 3) := by decide +kernel
theorem dX7_keeps_74 : decode cX7_keeps 74 = .ok (.iload_n 1, 1) := by decide +kernel
theorem dX7_keeps_75 : decode cX7_keeps 75 = .ok (.iaload, 1) := by decide +kernel
theorem dX7_keeps_76 : decode cX7_keeps 76 = .ok (.invokestatic 71, 3) := by decide +kernel
theorem dX7_keeps_79 : decode cX7_keeps 79 = .ok (.ifCond .ne 7, 3) := by decide +kernel
theorem dX7_keeps_82 : decode cX7_keeps 82 = .ok (.iconst 1, 1) := by decide +kernel
theorem dX7_keeps_83 : decode cX7_keeps 83 = .ok (.goto 51, 3) := by decide +kernel
theorem dX7_keeps_86 : decode cX7_keeps 86 = .ok (.iconst 0, 1) := by decide +kernel
theorem dX7_keeps_87 : decode cX7_keeps 87 = .ok (.goto 47, 3) := by decide +kernel
theorem dX7_keeps_90 : decode cX7_keeps 90 = .ok (.iload_n 2, 1) := by decide +kernel
theorem dX7_keeps_91 : decode cX7_keeps 91 = .ok (.aload_n 0, 1) := by decide +kernel
theorem dX7_keeps_92 : decode cX7_keeps 92 = .ok (.getfield 39, 3) := by decide +kernel
theorem dX7_keeps_95 : decode cX7_keeps 95 = .ok (.iload_n 1, 1) := by decide +kernel
theorem dX7_keeps_96 : decode cX7_keeps 96 = .ok (.iaload, 1) := by decide +kernel
theorem dX7_keeps_97 : decode cX7_keeps 97 = .ok (.invokestatic 71, 3) := by decide +kernel
theorem dX7_keeps_100 : decode cX7_keeps 100 = .ok (.ifCond .ne 29, 3) := by decide +kernel
theorem dX7_keeps_103 : decode cX7_keeps 103 = .ok (.iload_n 2, 1) := by decide +kernel
theorem dX7_keeps_104 : decode cX7_keeps 104 = .ok (.aload_n 0, 1) := by decide +kernel
theorem dX7_keeps_105 : decode cX7_keeps 105 = .ok (.getfield 42, 3) := by decide +kernel
theorem dX7_keeps_108 : decode cX7_keeps 108 = .ok (.iload_n 1, 1) := by decide +kernel
theorem dX7_keeps_109 : decode cX7_keeps 109 = .ok (.iaload, 1) := by decide +kernel
theorem dX7_keeps_110 : decode cX7_keeps 110 = .ok (.invokestatic 71, 3) := by decide +kernel
theorem dX7_keeps_113 : decode cX7_keeps 113 = .ok (.ifCond .ne 16, 3) := by decide +kernel
theorem dX7_keeps_116 : decode cX7_keeps 116 = .ok (.iload_n 2, 1) := by decide +kernel
theorem dX7_keeps_117 : decode cX7_keeps 117 = .ok (.aload_n 0, 1) := by decide +kernel
theorem dX7_keeps_118 : decode cX7_keeps 118 = .ok (.getfield 45, 3) := by decide +kernel
theorem dX7_keeps_121 : decode cX7_keeps 121 = .ok (.iload_n 1, 1) := by decide +kernel
theorem dX7_keeps_122 : decode cX7_keeps 122 = .ok (.iaload, 1) := by decide +kernel
theorem dX7_keeps_123 : decode cX7_keeps 123 = .ok (.invokestatic 71, 3) := by decide +kernel
theorem dX7_keeps_126 : decode cX7_keeps 126 = .ok (.ifCond .eq 7, 3) := by decide +kernel
theorem dX7_keeps_129 : decode cX7_keeps 129 = .ok (.iconst 1, 1) := by decide +kernel
theorem dX7_keeps_130 : decode cX7_keeps 130 = .ok (.goto 4, 3) := by decide +kernel
theorem dX7_keeps_133 : decode cX7_keeps 133 = .ok (.iconst 0, 1) := by decide +kernel
theorem dX7_keeps_134 : decode cX7_keeps 134 = .ok (.ireturn, 1) := by decide +kernel
theorem dX7_isGood_0 : decode cX7_isGood 0 = .ok (.iload_n 1, 1) := by decide +kernel
theorem dX7_isGood_1 : decode cX7_isGood 1 = .ok (.iconst 0, 1) := by decide +kernel
theorem dX7_isGood_2 : decode cX7_isGood 2 = .ok (.invokestatic 71, 3) := by decide +kernel
theorem dX7_isGood_5 : decode cX7_isGood 5 = .ok (.istore_n 2, 1) := by decide +kernel
theorem dX7_isGood_6 : decode cX7_isGood 6 = .ok (.iconst 0, 1) := by decide +kernel
theorem dX7_isGood_7 : decode cX7_isGood 7 = .ok (.istore_n 3, 1) := by decide +kernel
theorem dX7_isGood_8 : decode cX7_isGood 8 = .ok (.iload_n 3, 1) := by decide +kernel
theorem dX7_isGood_9 : decode cX7_isGood 9 = .ok (.aload_n 0, 1) := by decide +kernel
theorem dX7_isGood_10 : decode cX7_isGood 10 = .ok (.getfield 60, 3) := by decide +kernel
theorem dX7_isGood_13 : decode cX7_isGood 13 = .ok (.if_icmp .ge 179, 3) := by decide +kernel
theorem dX7_isGood_16 : decode cX7_isGood 16 = .ok (.iload_n 2, 1) := by decide +kernel
theorem dX7_isGood_17 : decode cX7_isGood 17 = .ok (.ifCond .eq 175, 3) := by decide +kernel
theorem dX7_isGood_20 : decode cX7_isGood 20 = .ok (.iconst 0, 1) := by decide +kernel
theorem dX7_isGood_21 : decode cX7_isGood 21 = .ok (.istore 4, 2) := by decide +kernel
theorem dX7_isGood_23 : decode cX7_isGood 23 = .ok (.iconst 1, 1) := by decide +kernel
theorem dX7_isGood_24 : decode cX7_isGood 24 = .ok (.istore 5, 2) := by decide +kernel
theorem dX7_isGood_26 : decode cX7_isGood 26 = .ok (.iload 5, 2) := by decide +kernel
theorem dX7_isGood_28 : decode cX7_isGood 28 = .ok (.aload_n 0, 1) := by decide +kernel
theorem dX7_isGood_29 : decode cX7_isGood 29 = .ok (.getfield 60, 3) := by decide +kernel
theorem dX7_isGood_32 : decode cX7_isGood 32 = .ok (.if_icmp .ge 85, 3) := by decide +kernel
theorem dX7_isGood_35 : decode cX7_isGood 35 = .ok (.iload 4, 2) := by decide +kernel
theorem dX7_isGood_37 : decode cX7_isGood 37 = .ok (.aload_n 0, 1) := by decide +kernel
theorem dX7_isGood_38 : decode cX7_isGood 38 = .ok (.getfield 9, 3) := by decide +kernel
theorem dX7_isGood_41 : decode cX7_isGood 41 = .ok (.iload 5, 2) := by decide +kernel
theorem dX7_isGood_43 : decode cX7_isGood 43 = .ok (.iaload, 1) := by decide +kernel
theorem dX7_isGood_44 : decode cX7_isGood 44 = .ok (.iload_n 3, 1) := by decide +kernel
theorem dX7_isGood_45 : decode cX7_isGood 45 = .ok (.if_icmp .ne 16, 3) := by decide +kernel
theorem dX7_isGood_48 : decode cX7_isGood 48 = .ok (.iload_n 1, 1) := by decide +kernel
theorem dX7_isGood_49 : decode cX7_isGood 49 = .ok (.iload 5, 2) := by decide +kernel
theorem dX7_isGood_51 : decode cX7_isGood 51 = .ok (.invokestatic 71, 3) := by decide +kernel
theorem dX7_isGood_54 : decode cX7_isGood 54 = .ok (.ifCond .eq 7, 3) := by decide +kernel
theorem dX7_isGood_57 : decode cX7_isGood 57 = .ok (.iconst 1, 1) := by decide +kernel
theorem dX7_isGood_58 : decode cX7_isGood 58 = .ok (.goto 4, 3) := by decide +kernel
theorem dX7_isGood_61 : decode cX7_isGood 61 = .ok (.iconst 0, 1) := by decide +kernel
theorem dX7_isGood_62 : decode cX7_isGood 62 = .ok (.iadd, 1) := by decide +kernel
theorem dX7_isGood_63 : decode cX7_isGood 63 = .ok (.istore 4, 2) := by decide +kernel
theorem dX7_isGood_65 : decode cX7_isGood 65 = .ok (.iload_n 2, 1) := by decide +kernel
theorem dX7_isGood_66 : decode cX7_isGood 66 = .ok (.aload_n 0, 1) := by decide +kernel
theorem dX7_isGood_67 : decode cX7_isGood 67 = .ok (.getfield 9, 3) := by decide +kernel
theorem dX7_isGood_70 : decode cX7_isGood 70 = .ok (.iload 5, 2) := by decide +kernel
theorem dX7_isGood_72 : decode cX7_isGood 72 = .ok (.iaload, 1) := by decide +kernel
theorem dX7_isGood_73 : decode cX7_isGood 73 = .ok (.iload_n 3, 1) := by decide +kernel
theorem dX7_isGood_74 : decode cX7_isGood 74 = .ok (.if_icmp .ne 30, 3) := by decide +kernel
theorem dX7_isGood_77 : decode cX7_isGood 77 = .ok (.aload_n 0, 1) := by decide +kernel
theorem dX7_isGood_78 : decode cX7_isGood 78 = .ok (.getfield 22, 3) := by decide +kernel
theorem dX7_isGood_81 : decode cX7_isGood 81 = .ok (.iload 5, 2) := by decide +kernel
theorem dX7_isGood_83 : decode cX7_isGood 83 = .ok (.baload, 1) := by decide +kernel
theorem dX7_isGood_84 : decode cX7_isGood 84 = .ok (.ifCond .eq 20, 3) := by decide +kernel
theorem dX7_isGood_87 : decode cX7_isGood 87 = .ok (.iload_n 1, 1) := by decide +kernel
theorem dX7_isGood_88 : decode cX7_isGood 88 = .ok (.iload_n 3, 1) := by decide +kernel
theorem dX7_isGood_89 : decode cX7_isGood 89 = .ok (.invokestatic 71, 3) := by decide +kernel
theorem dX7_isGood_92 : decode cX7_isGood 92 = .ok (.ifCond .eq 12, 3) := by decide +kernel
theorem dX7_isGood_95 : decode cX7_isGood 95 = .ok (.iload_n 1, 1) := by decide +kernel
theorem dX7_isGood_96 : decode cX7_isGood 96 = .ok (.iload 5, 2) := by decide +kernel
theorem dX7_isGood_98 : decode cX7_isGood 98 = .ok (.invokestatic 71, 3) := by decide +kernel
theorem dX7_isGood_101 : decode cX7_isGood 101 = .ok (.ifCond .eq 7, 3) := by decide +kernel
theorem dX7_isGood_104 : decode cX7_isGood 104 = .ok (.iconst 1, 1) := by decide +kernel
theorem dX7_isGood_105 : decode cX7_isGood 105 = .ok (.goto 4, 3) := by decide +kernel
theorem dX7_isGood_108 : decode cX7_isGood 108 = .ok (.iconst 0, 1) := by decide +kernel
theorem dX7_isGood_109 : decode cX7_isGood 109 = .ok (.iand, 1) := by decide +kernel
theorem dX7_isGood_110 : decode cX7_isGood 110 = .ok (.istore_n 2, 1) := by decide +kernel
theorem dX7_isGood_111 : decode cX7_isGood 111 = .ok (.iinc 5 1, 3) := by decide +kernel
theorem dX7_isGood_114 : decode cX7_isGood 114 = .ok (.goto (-88), 3) := by decide +kernel
theorem dX7_isGood_117 : decode cX7_isGood 117 = .ok (.iload_n 2, 1) := by decide +kernel
theorem dX7_isGood_118 : decode cX7_isGood 118 = .ok (.iload_n 1, 1) := by decide +kernel
theorem dX7_isGood_119 : decode cX7_isGood 119 = .ok (.iload_n 3, 1) := by decide +kernel
theorem dX7_isGood_120 : decode cX7_isGood 120 = .ok (.invokestatic 71, 3) := by decide +kernel
theorem dX7_isGood_123 : decode cX7_isGood 123 = .ok (.ifCond .eq 20, 3) := by decide +kernel
theorem dX7_isGood_126 : decode cX7_isGood 126 = .ok (.iload_n 3, 1) := by decide +kernel
theorem dX7_isGood_127 : decode cX7_isGood 127 = .ok (.ifCond .eq 16, 3) := by decide +kernel
theorem dX7_isGood_130 : decode cX7_isGood 130 = .ok (.iload_n 1, 1) := by decide +kernel
theorem dX7_isGood_131 : decode cX7_isGood 131 = .ok (.aload_n 0, 1) := by decide +kernel
theorem dX7_isGood_132 : decode cX7_isGood 132 = .ok (.getfield 9, 3) := by decide +kernel
theorem dX7_isGood_135 : decode cX7_isGood 135 = .ok (.iload_n 3, 1) := by decide +kernel
theorem dX7_isGood_136 : decode cX7_isGood 136 = .ok (.iaload, 1) := by decide +kernel
theorem dX7_isGood_137 : decode cX7_isGood 137 = .ok (.invokestatic 71, 3) := by decide +kernel
theorem dX7_isGood_140 : decode cX7_isGood 140 = .ok (.ifCond .eq 7, 3) := by decide +kernel
theorem dX7_isGood_143 : decode cX7_isGood 143 = .ok (.iconst 1, 1) := by decide +kernel
theorem dX7_isGood_144 : decode cX7_isGood 144 = .ok (.goto 4, 3) := by decide +kernel
theorem dX7_isGood_147 : decode cX7_isGood 147 = .ok (.iconst 0, 1) := by decide +kernel
theorem dX7_isGood_148 : decode cX7_isGood 148 = .ok (.iand, 1) := by decide +kernel
theorem dX7_isGood_149 : decode cX7_isGood 149 = .ok (.istore_n 2, 1) := by decide +kernel
theorem dX7_isGood_150 : decode cX7_isGood 150 = .ok (.iload_n 2, 1) := by decide +kernel
theorem dX7_isGood_151 : decode cX7_isGood 151 = .ok (.iload_n 1, 1) := by decide +kernel
theorem dX7_isGood_152 : decode cX7_isGood 152 = .ok (.iload_n 3, 1) := by decide +kernel
theorem dX7_isGood_153 : decode cX7_isGood 153 = .ok (.invokestatic 71, 3) := by decide +kernel
theorem dX7_isGood_156 : decode cX7_isGood 156 = .ok (.ifCond .eq 23, 3) := by decide +kernel
theorem dX7_isGood_159 : decode cX7_isGood 159 = .ok (.iload 4, 2) := by decide +kernel
theorem dX7_isGood_161 : decode cX7_isGood 161 = .ok (.aload_n 0, 1) := by decide +kernel
theorem dX7_isGood_162 : decode cX7_isGood 162 = .ok (.getfield 16, 3) := by decide +kernel
theorem dX7_isGood_165 : decode cX7_isGood 165 = .ok (.iload_n 3, 1) := by decide +kernel
theorem dX7_isGood_166 : decode cX7_isGood 166 = .ok (.iaload, 1) := by decide +kernel
theorem dX7_isGood_167 : decode cX7_isGood 167 = .ok (.aload_n 0, 1) := by decide +kernel
theorem dX7_isGood_168 : decode cX7_isGood 168 = .ok (.getfield 19, 3) := by decide +kernel
theorem dX7_isGood_171 : decode cX7_isGood 171 = .ok (.iload_n 3, 1) := by decide +kernel
theorem dX7_isGood_172 : decode cX7_isGood 172 = .ok (.iaload, 1) := by decide +kernel
theorem dX7_isGood_173 : decode cX7_isGood 173 = .ok (.invokestatic 67, 3) := by decide +kernel
theorem dX7_isGood_176 : decode cX7_isGood 176 = .ok (.ifCond .eq 7, 3) := by decide +kernel
theorem dX7_isGood_179 : decode cX7_isGood 179 = .ok (.iconst 1, 1) := by decide +kernel
theorem dX7_isGood_180 : decode cX7_isGood 180 = .ok (.goto 4, 3) := by decide +kernel
theorem dX7_isGood_183 : decode cX7_isGood 183 = .ok (.iconst 0, 1) := by decide +kernel
theorem dX7_isGood_184 : decode cX7_isGood 184 = .ok (.iand, 1) := by decide +kernel
theorem dX7_isGood_185 : decode cX7_isGood 185 = .ok (.istore_n 2, 1) := by decide +kernel
theorem dX7_isGood_186 : decode cX7_isGood 186 = .ok (.iinc 3 1, 3) := by decide +kernel
theorem dX7_isGood_189 : decode cX7_isGood 189 = .ok (.goto (-181), 3) := by decide +kernel
theorem dX7_isGood_192 : decode cX7_isGood 192 = .ok (.iconst 0, 1) := by decide +kernel
theorem dX7_isGood_193 : decode cX7_isGood 193 = .ok (.istore_n 3, 1) := by decide +kernel
theorem dX7_isGood_194 : decode cX7_isGood 194 = .ok (.iload_n 3, 1) := by decide +kernel
theorem dX7_isGood_195 : decode cX7_isGood 195 = .ok (.aload_n 0, 1) := by decide +kernel
theorem dX7_isGood_196 : decode cX7_isGood 196 = .ok (.getfield 75, 3) := by decide +kernel
theorem dX7_isGood_199 : decode cX7_isGood 199 = .ok (.if_icmp .ge 37, 3) := by decide +kernel
theorem dX7_isGood_202 : decode cX7_isGood 202 = .ok (.iload_n 2, 1) := by decide +kernel
theorem dX7_isGood_203 : decode cX7_isGood 203 = .ok (.ifCond .eq 33, 3) := by decide +kernel
theorem dX7_isGood_206 : decode cX7_isGood 206 = .ok (.aload_n 0, 1) := by decide +kernel
theorem dX7_isGood_207 : decode cX7_isGood 207 = .ok (.getfield 26, 3) := by decide +kernel
theorem dX7_isGood_210 : decode cX7_isGood 210 = .ok (.iload_n 3, 1) := by decide +kernel
theorem dX7_isGood_211 : decode cX7_isGood 211 = .ok (.baload, 1) := by decide +kernel
theorem dX7_isGood_212 : decode cX7_isGood 212 = .ok (.ifCond .ne 12, 3) := by decide +kernel
theorem dX7_isGood_215 : decode cX7_isGood 215 = .ok (.aload_n 0, 1) := by decide +kernel
theorem dX7_isGood_216 : decode cX7_isGood 216 = .ok (.iload_n 3, 1) := by decide +kernel
theorem dX7_isGood_217 : decode cX7_isGood 217 = .ok (.iload_n 1, 1) := by decide +kernel
theorem dX7_isGood_218 : decode cX7_isGood 218 = .ok (.invokevirtual 78, 3) := by decide +kernel
theorem dX7_isGood_221 : decode cX7_isGood 221 = .ok (.ifCond .eq 7, 3) := by decide +kernel
theorem dX7_isGood_224 : decode cX7_isGood 224 = .ok (.iconst 1, 1) := by decide +kernel
theorem dX7_isGood_225 : decode cX7_isGood 225 = .ok (.goto 4, 3) := by decide +kernel
theorem dX7_isGood_228 : decode cX7_isGood 228 = .ok (.iconst 0, 1) := by decide +kernel
theorem dX7_isGood_229 : decode cX7_isGood 229 = .ok (.istore_n 2, 1) := by decide +kernel
theorem dX7_isGood_230 : decode cX7_isGood 230 = .ok (.iinc 3 1, 3) := by decide +kernel
theorem dX7_isGood_233 : decode cX7_isGood 233 = .ok (.goto (-39), 3) := by decide +kernel
theorem dX7_isGood_236 : decode cX7_isGood 236 = .ok (.iload_n 2, 1) := by decide +kernel
theorem dX7_isGood_237 : decode cX7_isGood 237 = .ok (.ireturn, 1) := by decide +kernel
theorem dX7_completes_0 : decode cX7_completes 0 = .ok (.iload_n 1, 1) := by decide +kernel
theorem dX7_completes_1 : decode cX7_completes 1 = .ok (.aload_n 0, 1) := by decide +kernel
theorem dX7_completes_2 : decode cX7_completes 2 = .ok (.getfield 81, 3) := by decide +kernel
theorem dX7_completes_5 : decode cX7_completes 5 = .ok (.iand, 1) := by decide +kernel
theorem dX7_completes_6 : decode cX7_completes 6 = .ok (.aload_n 0, 1) := by decide +kernel
theorem dX7_completes_7 : decode cX7_completes 7 = .ok (.getfield 81, 3) := by decide +kernel
theorem dX7_completes_10 : decode cX7_completes 10 = .ok (.if_icmp .ne 24, 3) := by decide +kernel
theorem dX7_completes_13 : decode cX7_completes 13 = .ok (.iload_n 1, 1) := by decide +kernel
theorem dX7_completes_14 : decode cX7_completes 14 = .ok (.aload_n 0, 1) := by decide +kernel
theorem dX7_completes_15 : decode cX7_completes 15 = .ok (.getfield 84, 3) := by decide +kernel
theorem dX7_completes_18 : decode cX7_completes 18 = .ok (.iand, 1) := by decide +kernel
theorem dX7_completes_19 : decode cX7_completes 19 = .ok (.ifCond .ne 15, 3) := by decide +kernel
theorem dX7_completes_22 : decode cX7_completes 22 = .ok (.aload_n 0, 1) := by decide +kernel
theorem dX7_completes_23 : decode cX7_completes 23 = .ok (.iload_n 1, 1) := by decide +kernel
theorem dX7_completes_24 : decode cX7_completes 24 = .ok (.invokevirtual 87, 3) := by decide +kernel
theorem dX7_completes_27 : decode cX7_completes 27 = .ok (.ifCond .eq 7, 3) := by decide +kernel
theorem dX7_completes_30 : decode cX7_completes 30 = .ok (.iconst 1, 1) := by decide +kernel
theorem dX7_completes_31 : decode cX7_completes 31 = .ok (.goto 4, 3) := by decide +kernel
theorem dX7_completes_34 : decode cX7_completes 34 = .ok (.iconst 0, 1) := by decide +kernel
theorem dX7_completes_35 : decode cX7_completes 35 = .ok (.ireturn, 1) := by decide +kernel
theorem dX7_isNoneLeft_0 : decode cX7_isNoneLeft 0 = .ok (.iconst 1, 1) := by decide +kernel
theorem dX7_isNoneLeft_1 : decode cX7_isNoneLeft 1 = .ok (.istore_n 1, 1) := by decide +kernel
theorem dX7_isNoneLeft_2 : decode cX7_isNoneLeft 2 = .ok (.iload_n 1, 1) := by decide +kernel
theorem dX7_isNoneLeft_3 : decode cX7_isNoneLeft 3 = .ok (.iconst 1, 1) := by decide +kernel
theorem dX7_isNoneLeft_4 : decode cX7_isNoneLeft 4 = .ok (.aload_n 0, 1) := by decide +kernel
theorem dX7_isNoneLeft_5 : decode cX7_isNoneLeft 5 = .ok (.getfield 60, 3) := by decide +kernel
theorem dX7_isNoneLeft_8 : decode cX7_isNoneLeft 8 = .ok (.ishl, 1) := by decide +kernel
theorem dX7_isNoneLeft_9 : decode cX7_isNoneLeft 9 = .ok (.if_icmp .ge 19, 3) := by decide +kernel
theorem dX7_isNoneLeft_12 : decode cX7_isNoneLeft 12 = .ok (.aload_n 0, 1) := by decide +kernel
theorem dX7_isNoneLeft_13 : decode cX7_isNoneLeft 13 = .ok (.iload_n 1, 1) := by decide +kernel
theorem dX7_isNoneLeft_14 : decode cX7_isNoneLeft 14 = .ok (.invokevirtual 91, 3) := by decide +kernel
theorem dX7_isNoneLeft_17 : decode cX7_isNoneLeft 17 = .ok (.ifCond .eq 5, 3) := by decide +kernel
theorem dX7_isNoneLeft_20 : decode cX7_isNoneLeft 20 = .ok (.iconst 0, 1) := by decide +kernel
theorem dX7_isNoneLeft_21 : decode cX7_isNoneLeft 21 = .ok (.ireturn, 1) := by decide +kernel
theorem dX7_isNoneLeft_22 : decode cX7_isNoneLeft 22 = .ok (.iinc 1 2, 3) := by decide +kernel
theorem dX7_isNoneLeft_25 : decode cX7_isNoneLeft 25 = .ok (.goto (-23), 3) := by decide +kernel
theorem dX7_isNoneLeft_28 : decode cX7_isNoneLeft 28 = .ok (.iconst 1, 1) := by decide +kernel
theorem dX7_isNoneLeft_29 : decode cX7_isNoneLeft 29 = .ok (.ireturn, 1) := by decide +kernel
theorem dX7_addFeature_0 : decode cX7_addFeature 0 = .ok (.aload_n 0, 1) := by decide +kernel
theorem dX7_addFeature_1 : decode cX7_addFeature 1 = .ok (.aload_n 0, 1) := by decide +kernel
theorem dX7_addFeature_2 : decode cX7_addFeature 2 = .ok (.iload_n 1, 1) := by decide +kernel
theorem dX7_addFeature_3 : decode cX7_addFeature 3 = .ok (.invokevirtual 94, 3) := by decide +kernel
theorem dX7_addFeature_6 : decode cX7_addFeature 6 = .ok (.iconst 1, 1) := by decide +kernel
theorem dX7_addFeature_7 : decode cX7_addFeature 7 = .ok (.invokevirtual 97, 3) := by decide +kernel
theorem dX7_addFeature_10 : decode cX7_addFeature 10 = .ok (.ifCond .ne 49, 3) := by decide +kernel
theorem dX7_addFeature_13 : decode cX7_addFeature 13 = .ok (.aload_n 0, 1) := by decide +kernel
theorem dX7_addFeature_14 : decode cX7_addFeature 14 = .ok (.iload_n 2, 1) := by decide +kernel
theorem dX7_addFeature_15 : decode cX7_addFeature 15 = .ok (.iconst 0, 1) := by decide +kernel
theorem dX7_addFeature_16 : decode cX7_addFeature 16 = .ok (.sipush 999, 3) := by decide +kernel
theorem dX7_addFeature_19 : decode cX7_addFeature 19 = .ok (.invokestatic 67, 3) := by decide +kernel
theorem dX7_addFeature_22 : decode cX7_addFeature 22 = .ok (.ifCond .ne 7, 3) := by decide +kernel
theorem dX7_addFeature_25 : decode cX7_addFeature 25 = .ok (.iconst 1, 1) := by decide +kernel
theorem dX7_addFeature_26 : decode cX7_addFeature 26 = .ok (.goto 4, 3) := by decide +kernel
theorem dX7_addFeature_29 : decode cX7_addFeature 29 = .ok (.iconst 0, 1) := by decide +kernel
theorem dX7_addFeature_30 : decode cX7_addFeature 30 = .ok (.iconst 2, 1) := by decide +kernel
theorem dX7_addFeature_31 : decode cX7_addFeature 31 = .ok (.invokevirtual 97, 3) := by decide +kernel
theorem dX7_addFeature_34 : decode cX7_addFeature 34 = .ok (.ifCond .ne 25, 3) := by decide +kernel
theorem dX7_addFeature_37 : decode cX7_addFeature 37 = .ok (.aload_n 0, 1) := by decide +kernel
theorem dX7_addFeature_38 : decode cX7_addFeature 38 = .ok (.aload_n 0, 1) := by decide +kernel
theorem dX7_addFeature_39 : decode cX7_addFeature 39 = .ok (.getfield 60, 3) := by decide +kernel
theorem dX7_addFeature_42 : decode cX7_addFeature 42 = .ok (.bipush 12, 2) := by decide +kernel
theorem dX7_addFeature_44 : decode cX7_addFeature 44 = .ok (.if_icmp .ne 7, 3) := by decide +kernel
theorem dX7_addFeature_47 : decode cX7_addFeature 47 = .ok (.iconst 1, 1) := by decide +kernel
theorem dX7_addFeature_48 : decode cX7_addFeature 48 = .ok (.goto 4, 3) := by decide +kernel
theorem dX7_addFeature_51 : decode cX7_addFeature 51 = .ok (.iconst 0, 1) := by decide +kernel
theorem dX7_addFeature_52 : decode cX7_addFeature 52 = .ok (.iconst 3, 1) := by decide +kernel
theorem dX7_addFeature_53 : decode cX7_addFeature 53 = .ok (.invokevirtual 97, 3) := by decide +kernel
theorem dX7_addFeature_56 : decode cX7_addFeature 56 = .ok (.ifCond .eq 5, 3) := by decide +kernel
theorem dX7_addFeature_59 : decode cX7_addFeature 59 = .ok (.iconst 0, 1) := by decide +kernel
theorem dX7_addFeature_60 : decode cX7_addFeature 60 = .ok (.ireturn, 1) := by decide +kernel
theorem dX7_addFeature_61 : decode cX7_addFeature 61 = .ok (.aload_n 0, 1) := by decide +kernel
theorem dX7_addFeature_62 : decode cX7_addFeature 62 = .ok (.getfield 9, 3) := by decide +kernel
theorem dX7_addFeature_65 : decode cX7_addFeature 65 = .ok (.aload_n 0, 1) := by decide +kernel
theorem dX7_addFeature_66 : decode cX7_addFeature 66 = .ok (.getfield 60, 3) := by decide +kernel
theorem dX7_addFeature_69 : decode cX7_addFeature 69 = .ok (.iload_n 1, 1) := by decide +kernel
theorem dX7_addFeature_70 : decode cX7_addFeature 70 = .ok (.iastore, 1) := by decide +kernel
theorem dX7_addFeature_71 : decode cX7_addFeature 71 = .ok (.aload_n 0, 1) := by decide +kernel
theorem dX7_addFeature_72 : decode cX7_addFeature 72 = .ok (.getfield 13, 3) := by decide +kernel
theorem dX7_addFeature_75 : decode cX7_addFeature 75 = .ok (.aload_n 0, 1) := by decide +kernel
theorem dX7_addFeature_76 : decode cX7_addFeature 76 = .ok (.getfield 60, 3) := by decide +kernel
theorem dX7_addFeature_79 : decode cX7_addFeature 79 = .ok (.iload_n 2, 1) := by decide +kernel
theorem dX7_addFeature_80 : decode cX7_addFeature 80 = .ok (.iastore, 1) := by decide +kernel
theorem dX7_addFeature_81 : decode cX7_addFeature 81 = .ok (.aload_n 0, 1) := by decide +kernel
theorem dX7_addFeature_82 : decode cX7_addFeature 82 = .ok (.getfield 19, 3) := by decide +kernel
theorem dX7_addFeature_85 : decode cX7_addFeature 85 = .ok (.aload_n 0, 1) := by decide +kernel
theorem dX7_addFeature_86 : decode cX7_addFeature 86 = .ok (.getfield 60, 3) := by decide +kernel
theorem dX7_addFeature_89 : decode cX7_addFeature 89 = .ok (.bipush 12, 2) := by decide +kernel
theorem dX7_addFeature_91 : decode cX7_addFeature 91 = .ok (.iastore, 1) := by decide +kernel
theorem dX7_addFeature_92 : decode cX7_addFeature 92 = .ok (.aload_n 0, 1) := by decide +kernel
theorem dX7_addFeature_93 : decode cX7_addFeature 93 = .ok (.dup, 1) := by decide +kernel
theorem dX7_addFeature_94 : decode cX7_addFeature 94 = .ok (.getfield 60, 3) := by decide +kernel
theorem dX7_addFeature_97 : decode cX7_addFeature 97 = .ok (.iconst 1, 1) := by decide +kernel
theorem dX7_addFeature_98 : decode cX7_addFeature 98 = .ok (.iadd, 1) := by decide +kernel
theorem dX7_addFeature_99 : decode cX7_addFeature 99 = .ok (.putfield 60, 3) := by decide +kernel
theorem dX7_addFeature_102 : decode cX7_addFeature 102 = .ok (.aload_n 0, 1) := by decide +kernel
theorem dX7_addFeature_103 : decode cX7_addFeature 103 = .ok (.getfield 60, 3) := by decide +kernel
theorem dX7_addFeature_106 : decode cX7_addFeature 106 = .ok (.iconst 1, 1) := by decide +kernel
theorem dX7_addFeature_107 : decode cX7_addFeature 107 = .ok (.isub, 1) := by decide +kernel
theorem dX7_addFeature_108 : decode cX7_addFeature 108 = .ok (.ireturn, 1) := by decide +kernel
theorem dX7_setMandatory_0 : decode cX7_setMandatory 0 = .ok (.aload_n 0, 1) := by decide +kernel
theorem dX7_setMandatory_1 : decode cX7_setMandatory 1 = .ok (.aload_n 0, 1) := by decide +kernel
theorem dX7_setMandatory_2 : decode cX7_setMandatory 2 = .ok (.iload_n 1, 1) := by decide +kernel
theorem dX7_setMandatory_3 : decode cX7_setMandatory 3 = .ok (.invokevirtual 94, 3) := by decide +kernel
theorem dX7_setMandatory_6 : decode cX7_setMandatory 6 = .ok (.iconst 1, 1) := by decide +kernel
theorem dX7_setMandatory_7 : decode cX7_setMandatory 7 = .ok (.invokevirtual 97, 3) := by decide +kernel
theorem dX7_setMandatory_10 : decode cX7_setMandatory 10 = .ok (.ifCond .ne 20, 3) := by decide +kernel
theorem dX7_setMandatory_13 : decode cX7_setMandatory 13 = .ok (.aload_n 0, 1) := by decide +kernel
theorem dX7_setMandatory_14 : decode cX7_setMandatory 14 = .ok (.iload_n 1, 1) := by decide +kernel
theorem dX7_setMandatory_15 : decode cX7_setMandatory 15 = .ok (.ifCond .ne 7, 3) := by decide +kernel
theorem dX7_setMandatory_18 : decode cX7_setMandatory 18 = .ok (.iconst 1, 1) := by decide +kernel
theorem dX7_setMandatory_19 : decode cX7_setMandatory 19 = .ok (.goto 4, 3) := by decide +kernel
theorem dX7_setMandatory_22 : decode cX7_setMandatory 22 = .ok (.iconst 0, 1) := by decide +kernel
theorem dX7_setMandatory_23 : decode cX7_setMandatory 23 = .ok (.iconst 2, 1) := by decide +kernel
theorem dX7_setMandatory_24 : decode cX7_setMandatory 24 = .ok (.invokevirtual 97, 3) := by decide +kernel
theorem dX7_setMandatory_27 : decode cX7_setMandatory 27 = .ok (.ifCond .eq 5, 3) := by decide +kernel
theorem dX7_setMandatory_30 : decode cX7_setMandatory 30 = .ok (.iconst 0, 1) := by decide +kernel
theorem dX7_setMandatory_31 : decode cX7_setMandatory 31 = .ok (.ireturn, 1) := by decide +kernel
theorem dX7_setMandatory_32 : decode cX7_setMandatory 32 = .ok (.aload_n 0, 1) := by decide +kernel
theorem dX7_setMandatory_33 : decode cX7_setMandatory 33 = .ok (.getfield 22, 3) := by decide +kernel
theorem dX7_setMandatory_36 : decode cX7_setMandatory 36 = .ok (.iload_n 1, 1) := by decide +kernel
theorem dX7_setMandatory_37 : decode cX7_setMandatory 37 = .ok (.baload, 1) := by decide +kernel
theorem dX7_setMandatory_38 : decode cX7_setMandatory 38 = .ok (.istore_n 3, 1) := by decide +kernel
theorem dX7_setMandatory_39 : decode cX7_setMandatory 39 = .ok (.aload_n 0, 1) := by decide +kernel
theorem dX7_setMandatory_40 : decode cX7_setMandatory 40 = .ok (.getfield 22, 3) := by decide +kernel
theorem dX7_setMandatory_43 : decode cX7_setMandatory 43 = .ok (.iload_n 1, 1) := by decide +kernel
theorem dX7_setMandatory_44 : decode cX7_setMandatory 44 = .ok (.iload_n 2, 1) := by decide +kernel
theorem dX7_setMandatory_45 : decode cX7_setMandatory 45 = .ok (.bastore, 1) := by decide +kernel
theorem dX7_setMandatory_46 : decode cX7_setMandatory 46 = .ok (.aload_n 0, 1) := by decide +kernel
theorem dX7_setMandatory_47 : decode cX7_setMandatory 47 = .ok (.aload_n 0, 1) := by decide +kernel
theorem dX7_setMandatory_48 : decode cX7_setMandatory 48 = .ok (.invokevirtual 101, 3) := by decide +kernel
theorem dX7_setMandatory_51 : decode cX7_setMandatory 51 = .ok (.iconst 3, 1) := by decide +kernel
