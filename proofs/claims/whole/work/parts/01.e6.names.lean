theorem dJ7_copyOfRangeByte_39247_21 : decode cJ7_copyOfRangeByte_39247 21 = .ok (.iload_n 1, 1) := by decide +kernel
theorem dJ7_copyOfRangeByte_39247_22 : decode cJ7_copyOfRangeByte_39247 22 = .ok (.isub, 1) := by decide +kernel
theorem dJ7_copyOfRangeByte_39247_23 : decode cJ7_copyOfRangeByte_39247 23 = .ok (.iload_n 3, 1) := by decide +kernel
theorem dJ7_copyOfRangeByte_39247_24 : decode cJ7_copyOfRangeByte_39247 24 = .ok (.invokestatic 304, 3) := by decide +kernel
theorem dJ7_copyOfRangeByte_39247_27 : decode cJ7_copyOfRangeByte_39247 27 = .ok (.invokestatic 150, 3) := by decide +kernel
theorem dJ7_copyOfRangeByte_39247_30 : decode cJ7_copyOfRangeByte_39247 30 = .ok (.aload 4, 2) := by decide +kernel
theorem dJ7_copyOfRangeByte_39247_32 : decode cJ7_copyOfRangeByte_39247 32 = .ok (.areturn, 1) := by decide +kernel
theorem dJ8_newLength_cabcc_0 : decode cJ8_newLength_cabcc 0 = .ok (.iload_n 0, 1) := by decide +kernel
theorem dJ8_newLength_cabcc_1 : decode cJ8_newLength_cabcc 1 = .ok (.iload_n 1, 1) := by decide +kernel
theorem dJ8_newLength_cabcc_2 : decode cJ8_newLength_cabcc 2 = .ok (.iload_n 2, 1) := by decide +kernel
theorem dJ8_newLength_cabcc_3 : decode cJ8_newLength_cabcc 3 = .ok (.invokestatic 194, 3) := by decide +kernel
theorem dJ8_newLength_cabcc_6 : decode cJ8_newLength_cabcc 6 = .ok (.iadd, 1) := by decide +kernel
theorem dJ8_newLength_cabcc_7 : decode cJ8_newLength_cabcc 7 = .ok (.istore_n 3, 1) := by decide +kernel
theorem dJ8_newLength_cabcc_8 : decode cJ8_newLength_cabcc 8 = .ok (.iconst 0, 1) := by decide +kernel
theorem dJ8_newLength_cabcc_9 : decode cJ8_newLength_cabcc 9 = .ok (.iload_n 3, 1) := by decide +kernel
theorem dJ8_newLength_cabcc_10 : decode cJ8_newLength_cabcc 10 = .ok (.if_icmp .ge 11, 3) := by decide +kernel
theorem dJ8_newLength_cabcc_13 : decode cJ8_newLength_cabcc 13 = .ok (.iload_n 3, 1) := by decide +kernel
theorem dJ8_newLength_cabcc_14 : decode cJ8_newLength_cabcc 14 = .ok (.ldc 200, 2) := by decide +kernel
theorem dJ8_newLength_cabcc_16 : decode cJ8_newLength_cabcc 16 = .ok (.if_icmp .gt 5, 3) := by decide +kernel
theorem dJ8_newLength_cabcc_19 : decode cJ8_newLength_cabcc 19 = .ok (.iload_n 3, 1) := by decide +kernel
theorem dJ8_newLength_cabcc_20 : decode cJ8_newLength_cabcc 20 = .ok (.ireturn, 1) := by decide +kernel
theorem dJ8_newLength_cabcc_21 : decode cJ8_newLength_cabcc 21 = .ok (.iload_n 0, 1) := by decide +kernel
theorem dJ8_newLength_cabcc_22 : decode cJ8_newLength_cabcc 22 = .ok (.iload_n 1, 1) := by decide +kernel
theorem dJ8_newLength_cabcc_23 : decode cJ8_newLength_cabcc 23 = .ok (.invokestatic 201, 3) := by decide +kernel
theorem dJ8_newLength_cabcc_26 : decode cJ8_newLength_cabcc 26 = .ok (.ireturn, 1) := by decide +kernel
theorem dJ3_checkIndex_8e157_0 : decode cJ3_checkIndex_8e157 0 = .ok (.iload_n 0, 1) := by decide +kernel
theorem dJ3_checkIndex_8e157_1 : decode cJ3_checkIndex_8e157 1 = .ok (.ifCond .lt 8, 3) := by decide +kernel
theorem dJ3_checkIndex_8e157_4 : decode cJ3_checkIndex_8e157 4 = .ok (.iload_n 0, 1) := by decide +kernel
theorem dJ3_checkIndex_8e157_5 : decode cJ3_checkIndex_8e157 5 = .ok (.iload_n 1, 1) := by decide +kernel
theorem dJ3_checkIndex_8e157_6 : decode cJ3_checkIndex_8e157 6 = .ok (.if_icmp .lt 10, 3) := by decide +kernel
theorem dJ3_checkIndex_8e157_9 : decode cJ3_checkIndex_8e157 9 = .ok (.aload_n 2, 1) := by decide +kernel
theorem dJ3_checkIndex_8e157_10 : decode cJ3_checkIndex_8e157 10 = .ok (.iload_n 0, 1) := by decide +kernel
theorem dJ3_checkIndex_8e157_11 : decode cJ3_checkIndex_8e157 11 = .ok (.iload_n 1, 1) := by decide +kernel
theorem dJ3_checkIndex_8e157_12 : decode cJ3_checkIndex_8e157 12 = .ok (.invokestatic 95, 3) := by decide +kernel
theorem dJ3_checkIndex_8e157_15 : decode cJ3_checkIndex_8e157 15 = .ok (.athrow, 1) := by decide +kernel
theorem dJ3_checkIndex_8e157_16 : decode cJ3_checkIndex_8e157 16 = .ok (.iload_n 0, 1) := by decide +kernel
theorem dJ3_checkIndex_8e157_17 : decode cJ3_checkIndex_8e157 17 = .ok (.ireturn, 1) := by decide +kernel
theorem dL_addFeature_0 : decode cL_addFeature 0 = .ok (.aload_n 3, 1) := by decide +kernel
theorem dL_addFeature_1 : decode cL_addFeature 1 = .ok (.iconst 0, 1) := by decide +kernel
theorem dL_addFeature_2 : decode cL_addFeature 2 = .ok (.aload_n 0, 1) := by decide +kernel
theorem dL_addFeature_3 : decode cL_addFeature 3 = .ok (.iload_n 1, 1) := by decide +kernel
theorem dL_addFeature_4 : decode cL_addFeature 4 = .ok (.iload_n 2, 1) := by decide +kernel
theorem dL_addFeature_5 : decode cL_addFeature 5 = .ok (.invokevirtual 7, 3) := by decide +kernel
theorem dL_addFeature_8 : decode cL_addFeature 8 = .ok (.i2l, 1) := by decide +kernel
theorem dL_addFeature_9 : decode cL_addFeature 9 = .ok (.lastore, 1) := by decide +kernel
theorem dL_addFeature_10 : decode cL_addFeature 10 = .ok (.goto 15, 3) := by decide +kernel
theorem dL_addFeature_13 : decode cL_addFeature 13 = .ok (.astore 4, 2) := by decide +kernel
theorem dL_addFeature_15 : decode cL_addFeature 15 = .ok (.iconst 1, 1) := by decide +kernel
theorem dL_addFeature_16 : decode cL_addFeature 16 = .ok (.ireturn, 1) := by decide +kernel
theorem dL_addFeature_17 : decode cL_addFeature 17 = .ok (.astore 4, 2) := by decide +kernel
theorem dL_addFeature_19 : decode cL_addFeature 19 = .ok (.iconst 2, 1) := by decide +kernel
theorem dL_addFeature_20 : decode cL_addFeature 20 = .ok (.ireturn, 1) := by decide +kernel
theorem dL_addFeature_21 : decode cL_addFeature 21 = .ok (.astore 4, 2) := by decide +kernel
theorem dL_addFeature_23 : decode cL_addFeature 23 = .ok (.iconst 3, 1) := by decide +kernel
theorem dL_addFeature_24 : decode cL_addFeature 24 = .ok (.ireturn, 1) := by decide +kernel
theorem dL_addFeature_25 : decode cL_addFeature 25 = .ok (.iconst 0, 1) := by decide +kernel
theorem dL_addFeature_26 : decode cL_addFeature 26 = .ok (.ireturn, 1) := by decide +kernel
theorem dL_setMandatory_0 : decode cL_setMandatory 0 = .ok (.aload_n 3, 1) := by decide +kernel
theorem dL_setMandatory_1 : decode cL_setMandatory 1 = .ok (.iconst 0, 1) := by decide +kernel
theorem dL_setMandatory_2 : decode cL_setMandatory 2 = .ok (.aload_n 0, 1) := by decide +kernel
theorem dL_setMandatory_3 : decode cL_setMandatory 3 = .ok (.iload_n 1, 1) := by decide +kernel
theorem dL_setMandatory_4 : decode cL_setMandatory 4 = .ok (.iload_n 2, 1) := by decide +kernel
theorem dL_setMandatory_5 : decode cL_setMandatory 5 = .ok (.invokevirtual 19, 3) := by decide +kernel
theorem dL_setMandatory_8 : decode cL_setMandatory 8 = .ok (.ifCond .eq 7, 3) := by decide +kernel
theorem dL_setMandatory_11 : decode cL_setMandatory 11 = .ok (.lconst 1, 1) := by decide +kernel
theorem dL_setMandatory_12 : decode cL_setMandatory 12 = .ok (.goto 4, 3) := by decide +kernel
theorem dL_setMandatory_15 : decode cL_setMandatory 15 = .ok (.lconst 0, 1) := by decide +kernel
theorem dL_setMandatory_16 : decode cL_setMandatory 16 = .ok (.lastore, 1) := by decide +kernel
theorem dL_setMandatory_17 : decode cL_setMandatory 17 = .ok (.goto 15, 3) := by decide +kernel
theorem dL_setMandatory_20 : decode cL_setMandatory 20 = .ok (.astore 4, 2) := by decide +kernel
theorem dL_setMandatory_22 : decode cL_setMandatory 22 = .ok (.iconst 1, 1) := by decide +kernel
theorem dL_setMandatory_23 : decode cL_setMandatory 23 = .ok (.ireturn, 1) := by decide +kernel
theorem dL_setMandatory_24 : decode cL_setMandatory 24 = .ok (.astore 4, 2) := by decide +kernel
theorem dL_setMandatory_26 : decode cL_setMandatory 26 = .ok (.iconst 2, 1) := by decide +kernel
theorem dL_setMandatory_27 : decode cL_setMandatory 27 = .ok (.ireturn, 1) := by decide +kernel
theorem dL_setMandatory_28 : decode cL_setMandatory 28 = .ok (.astore 4, 2) := by decide +kernel
theorem dL_setMandatory_30 : decode cL_setMandatory 30 = .ok (.iconst 3, 1) := by decide +kernel
theorem dL_setMandatory_31 : decode cL_setMandatory 31 = .ok (.ireturn, 1) := by decide +kernel
theorem dL_setMandatory_32 : decode cL_setMandatory 32 = .ok (.iconst 0, 1) := by decide +kernel
theorem dL_setMandatory_33 : decode cL_setMandatory 33 = .ok (.ireturn, 1) := by decide +kernel
theorem dL_setGroup_0 : decode cL_setGroup 0 = .ok (.aload 4, 2) := by decide +kernel
theorem dL_setGroup_2 : decode cL_setGroup 2 = .ok (.iconst 0, 1) := by decide +kernel
theorem dL_setGroup_3 : decode cL_setGroup 3 = .ok (.aload_n 0, 1) := by decide +kernel
theorem dL_setGroup_4 : decode cL_setGroup 4 = .ok (.iload_n 1, 1) := by decide +kernel
theorem dL_setGroup_5 : decode cL_setGroup 5 = .ok (.iload_n 2, 1) := by decide +kernel
theorem dL_setGroup_6 : decode cL_setGroup 6 = .ok (.iload_n 3, 1) := by decide +kernel
theorem dL_setGroup_7 : decode cL_setGroup 7 = .ok (.invokevirtual 25, 3) := by decide +kernel
theorem dL_setGroup_10 : decode cL_setGroup 10 = .ok (.i2l, 1) := by decide +kernel
theorem dL_setGroup_11 : decode cL_setGroup 11 = .ok (.lastore, 1) := by decide +kernel
theorem dL_setGroup_12 : decode cL_setGroup 12 = .ok (.goto 15, 3) := by decide +kernel
theorem dL_setGroup_15 : decode cL_setGroup 15 = .ok (.astore 5, 2) := by decide +kernel
theorem dL_setGroup_17 : decode cL_setGroup 17 = .ok (.iconst 1, 1) := by decide +kernel
theorem dL_setGroup_18 : decode cL_setGroup 18 = .ok (.ireturn, 1) := by decide +kernel
theorem dL_setGroup_19 : decode cL_setGroup 19 = .ok (.astore 5, 2) := by decide +kernel
theorem dL_setGroup_21 : decode cL_setGroup 21 = .ok (.iconst 2, 1) := by decide +kernel
theorem dL_setGroup_22 : decode cL_setGroup 22 = .ok (.ireturn, 1) := by decide +kernel
theorem dL_setGroup_23 : decode cL_setGroup 23 = .ok (.astore 5, 2) := by decide +kernel
theorem dL_setGroup_25 : decode cL_setGroup 25 = .ok (.iconst 3, 1) := by decide +kernel
theorem dL_setGroup_26 : decode cL_setGroup 26 = .ok (.ireturn, 1) := by decide +kernel
theorem dL_setGroup_27 : decode cL_setGroup 27 = .ok (.iconst 0, 1) := by decide +kernel
theorem dL_setGroup_28 : decode cL_setGroup 28 = .ok (.ireturn, 1) := by decide +kernel
theorem dL_require_0 : decode cL_require 0 = .ok (.aload_n 3, 1) := by decide +kernel
theorem dL_require_1 : decode cL_require 1 = .ok (.iconst 0, 1) := by decide +kernel
theorem dL_require_2 : decode cL_require 2 = .ok (.aload_n 0, 1) := by decide +kernel
theorem dL_require_3 : decode cL_require 3 = .ok (.iload_n 1, 1) := by decide +kernel
theorem dL_require_4 : decode cL_require 4 = .ok (.iload_n 2, 1) := by decide +kernel
theorem dL_require_5 : decode cL_require 5 = .ok (.invokevirtual 29, 3) := by decide +kernel
theorem dL_require_8 : decode cL_require 8 = .ok (.i2l, 1) := by decide +kernel
theorem dL_require_9 : decode cL_require 9 = .ok (.lastore, 1) := by decide +kernel
theorem dL_require_10 : decode cL_require 10 = .ok (.goto 19, 3) := by decide +kernel
theorem dL_require_13 : decode cL_require 13 = .ok (.astore 4, 2) := by decide +kernel
theorem dL_require_15 : decode cL_require 15 = .ok (.iconst 1, 1) := by decide +kernel
theorem dL_require_16 : decode cL_require 16 = .ok (.ireturn, 1) := by decide +kernel
theorem dL_require_17 : decode cL_require 17 = .ok (.astore 4, 2) := by decide +kernel
theorem dL_require_19 : decode cL_require 19 = .ok (.iconst 2, 1) := by decide +kernel
theorem dL_require_20 : decode cL_require 20 = .ok (.ireturn, 1) := by decide +kernel
theorem dL_require_21 : decode cL_require 21 = .ok (.astore 4, 2) := by decide +kernel
theorem dL_require_23 : decode cL_require 23 = .ok (.iconst 3, 1) := by decide +kernel
theorem dL_require_24 : decode cL_require 24 = .ok (.ireturn, 1) := by decide +kernel
theorem dL_require_25 : decode cL_require 25 = .ok (.astore 4, 2) := by decide +kernel
theorem dL_require_27 : decode cL_require 27 = .ok (.iconst 4, 1) := by decide +kernel
theorem dL_require_28 : decode cL_require 28 = .ok (.ireturn, 1) := by decide +kernel
theorem dL_require_29 : decode cL_require 29 = .ok (.iconst 0, 1) := by decide +kernel
theorem dL_require_30 : decode cL_require 30 = .ok (.ireturn, 1) := by decide +kernel
theorem dL_exclude_0 : decode cL_exclude 0 = .ok (.aload_n 3, 1) := by decide +kernel
theorem dL_exclude_1 : decode cL_exclude 1 = .ok (.iconst 0, 1) := by decide +kernel
theorem dL_exclude_2 : decode cL_exclude 2 = .ok (.aload_n 0, 1) := by decide +kernel
theorem dL_exclude_3 : decode cL_exclude 3 = .ok (.iload_n 1, 1) := by decide +kernel
theorem dL_exclude_4 : decode cL_exclude 4 = .ok (.iload_n 2, 1) := by decide +kernel
theorem dL_exclude_5 : decode cL_exclude 5 = .ok (.invokevirtual 32, 3) := by decide +kernel
theorem dL_exclude_8 : decode cL_exclude 8 = .ok (.i2l, 1) := by decide +kernel
theorem dL_exclude_9 : decode cL_exclude 9 = .ok (.lastore, 1) := by decide +kernel
theorem dL_exclude_10 : decode cL_exclude 10 = .ok (.goto 19, 3) := by decide +kernel
theorem dL_exclude_13 : decode cL_exclude 13 = .ok (.astore 4, 2) := by decide +kernel
theorem dL_exclude_15 : decode cL_exclude 15 = .ok (.iconst 1, 1) := by decide +kernel
theorem dL_exclude_16 : decode cL_exclude 16 = .ok (.ireturn, 1) := by decide +kernel
theorem dL_exclude_17 : decode cL_exclude 17 = .ok (.astore 4, 2) := by decide +kernel
theorem dL_exclude_19 : decode cL_exclude 19 = .ok (.iconst 2, 1) := by decide +kernel
theorem dL_exclude_20 : decode cL_exclude 20 = .ok (.ireturn, 1) := by decide +kernel
theorem dL_exclude_21 : decode cL_exclude 21 = .ok (.astore 4, 2) := by decide +kernel
theorem dL_exclude_23 : decode cL_exclude 23 = .ok (.iconst 3, 1) := by decide +kernel
theorem dL_exclude_24 : decode cL_exclude 24 = .ok (.ireturn, 1) := by decide +kernel
theorem dL_exclude_25 : decode cL_exclude 25 = .ok (.astore 4, 2) := by decide +kernel
theorem dL_exclude_27 : decode cL_exclude 27 = .ok (.iconst 4, 1) := by decide +kernel
theorem dL_exclude_28 : decode cL_exclude 28 = .ok (.ireturn, 1) := by decide +kernel
theorem dL_exclude_29 : decode cL_exclude 29 = .ok (.iconst 0, 1) := by decide +kernel
theorem dL_exclude_30 : decode cL_exclude 30 = .ok (.ireturn, 1) := by decide +kernel
theorem dL_any_0 : decode cL_any 0 = .ok (.aload 4, 2) := by decide +kernel
theorem dL_any_2 : decode cL_any 2 = .ok (.iconst 0, 1) := by decide +kernel
theorem dL_any_3 : decode cL_any 3 = .ok (.aload_n 0, 1) := by decide +kernel
theorem dL_any_4 : decode cL_any 4 = .ok (.iload_n 1, 1) := by decide +kernel
theorem dL_any_5 : decode cL_any 5 = .ok (.iload_n 2, 1) := by decide +kernel
theorem dL_any_6 : decode cL_any 6 = .ok (.iload_n 3, 1) := by decide +kernel
theorem dL_any_7 : decode cL_any 7 = .ok (.invokevirtual 35, 3) := by decide +kernel
theorem dL_any_10 : decode cL_any 10 = .ok (.i2l, 1) := by decide +kernel
theorem dL_any_11 : decode cL_any 11 = .ok (.lastore, 1) := by decide +kernel
theorem dL_any_12 : decode cL_any 12 = .ok (.goto 19, 3) := by decide +kernel
theorem dL_any_15 : decode cL_any 15 = .ok (.astore 5, 2) := by decide +kernel
theorem dL_any_17 : decode cL_any 17 = .ok (.iconst 1, 1) := by decide +kernel
theorem dL_any_18 : decode cL_any 18 = .ok (.ireturn, 1) := by decide +kernel
theorem dL_any_19 : decode cL_any 19 = .ok (.astore 5, 2) := by decide +kernel
theorem dL_any_21 : decode cL_any 21 = .ok (.iconst 2, 1) := by decide +kernel
theorem dL_any_22 : decode cL_any 22 = .ok (.ireturn, 1) := by decide +kernel
theorem dL_any_23 : decode cL_any 23 = .ok (.astore 5, 2) := by decide +kernel
theorem dL_any_25 : decode cL_any 25 = .ok (.iconst 3, 1) := by decide +kernel
theorem dL_any_26 : decode cL_any 26 = .ok (.ireturn, 1) := by decide +kernel
theorem dL_any_27 : decode cL_any 27 = .ok (.astore 5, 2) := by decide +kernel
theorem dL_any_29 : decode cL_any 29 = .ok (.iconst 4, 1) := by decide +kernel
theorem dL_any_30 : decode cL_any 30 = .ok (.ireturn, 1) := by decide +kernel
theorem dL_any_31 : decode cL_any 31 = .ok (.iconst 0, 1) := by decide +kernel
theorem dL_any_32 : decode cL_any 32 = .ok (.ireturn, 1) := by decide +kernel
theorem dL_lift_0 : decode cL_lift 0 = .ok (.aload_n 2, 1) := by decide +kernel
theorem dL_lift_1 : decode cL_lift 1 = .ok (.iconst 0, 1) := by decide +kernel
theorem dL_lift_2 : decode cL_lift 2 = .ok (.aload_n 0, 1) := by decide +kernel
theorem dL_lift_3 : decode cL_lift 3 = .ok (.iload_n 1, 1) := by decide +kernel
theorem dL_lift_4 : decode cL_lift 4 = .ok (.invokevirtual 38, 3) := by decide +kernel
theorem dL_lift_7 : decode cL_lift 7 = .ok (.i2l, 1) := by decide +kernel
theorem dL_lift_8 : decode cL_lift 8 = .ok (.lastore, 1) := by decide +kernel
theorem dL_lift_9 : decode cL_lift 9 = .ok (.goto 9, 3) := by decide +kernel
theorem dL_lift_12 : decode cL_lift 12 = .ok (.astore_n 3, 1) := by decide +kernel
theorem dL_lift_13 : decode cL_lift 13 = .ok (.iconst 1, 1) := by decide +kernel
theorem dL_lift_14 : decode cL_lift 14 = .ok (.ireturn, 1) := by decide +kernel
theorem dL_lift_15 : decode cL_lift 15 = .ok (.astore_n 3, 1) := by decide +kernel
theorem dL_lift_16 : decode cL_lift 16 = .ok (.iconst 2, 1) := by decide +kernel
theorem dL_lift_17 : decode cL_lift 17 = .ok (.ireturn, 1) := by decide +kernel
theorem dL_lift_18 : decode cL_lift 18 = .ok (.iconst 0, 1) := by decide +kernel
theorem dL_lift_19 : decode cL_lift 19 = .ok (.ireturn, 1) := by decide +kernel
theorem dL_choose_0 : decode cL_choose 0 = .ok (.aload_n 2, 1) := by decide +kernel
theorem dL_choose_1 : decode cL_choose 1 = .ok (.iconst 0, 1) := by decide +kernel
theorem dL_choose_2 : decode cL_choose 2 = .ok (.aload_n 0, 1) := by decide +kernel
theorem dL_choose_3 : decode cL_choose 3 = .ok (.iload_n 1, 1) := by decide +kernel
theorem dL_choose_4 : decode cL_choose 4 = .ok (.invokevirtual 44, 3) := by decide +kernel
theorem dL_choose_7 : decode cL_choose 7 = .ok (.i2l, 1) := by decide +kernel
theorem dL_choose_8 : decode cL_choose 8 = .ok (.lastore, 1) := by decide +kernel
theorem dL_choose_9 : decode cL_choose 9 = .ok (.goto 15, 3) := by decide +kernel
theorem dL_choose_12 : decode cL_choose 12 = .ok (.astore_n 3, 1) := by decide +kernel
theorem dL_choose_13 : decode cL_choose 13 = .ok (.iconst 1, 1) := by decide +kernel
theorem dL_choose_14 : decode cL_choose 14 = .ok (.ireturn, 1) := by decide +kernel
theorem dL_choose_15 : decode cL_choose 15 = .ok (.astore_n 3, 1) := by decide +kernel
theorem dL_choose_16 : decode cL_choose 16 = .ok (.iconst 2, 1) := by decide +kernel
theorem dL_choose_17 : decode cL_choose 17 = .ok (.ireturn, 1) := by decide +kernel
theorem dL_choose_18 : decode cL_choose 18 = .ok (.astore_n 3, 1) := by decide +kernel
theorem dL_choose_19 : decode cL_choose 19 = .ok (.iconst 3, 1) := by decide +kernel
theorem dL_choose_20 : decode cL_choose 20 = .ok (.ireturn, 1) := by decide +kernel
theorem dL_choose_21 : decode cL_choose 21 = .ok (.astore_n 3, 1) := by decide +kernel
theorem dL_choose_22 : decode cL_choose 22 = .ok (.iconst 4, 1) := by decide +kernel
theorem dL_choose_23 : decode cL_choose 23 = .ok (.ireturn, 1) := by decide +kernel
theorem dL_choose_24 : decode cL_choose 24 = .ok (.iconst 0, 1) := by decide +kernel
theorem dL_choose_25 : decode cL_choose 25 = .ok (.ireturn, 1) := by decide +kernel
theorem dL_refuse_0 : decode cL_refuse 0 = .ok (.aload_n 2, 1) := by decide +kernel
theorem dL_refuse_1 : decode cL_refuse 1 = .ok (.iconst 0, 1) := by decide +kernel
theorem dL_refuse_2 : decode cL_refuse 2 = .ok (.aload_n 0, 1) := by decide +kernel
theorem dL_refuse_3 : decode cL_refuse 3 = .ok (.iload_n 1, 1) := by decide +kernel
theorem dL_refuse_4 : decode cL_refuse 4 = .ok (.invokevirtual 47, 3) := by decide +kernel
theorem dL_refuse_7 : decode cL_refuse 7 = .ok (.i2l, 1) := by decide +kernel
theorem dL_refuse_8 : decode cL_refuse 8 = .ok (.lastore, 1) := by decide +kernel
theorem dL_refuse_9 : decode cL_refuse 9 = .ok (.goto 15, 3) := by decide +kernel
theorem dL_refuse_12 : decode cL_refuse 12 = .ok (.astore_n 3, 1) := by decide +kernel
theorem dL_refuse_13 : decode cL_refuse 13 = .ok (.iconst 1, 1) := by decide +kernel
theorem dL_refuse_14 : decode cL_refuse 14 = .ok (.ireturn, 1) := by decide +kernel
theorem dL_refuse_15 : decode cL_refuse 15 = .ok (.astore_n 3, 1) := by decide +kernel
theorem dL_refuse_16 : decode cL_refuse 16 = .ok (.iconst 2, 1) := by decide +kernel
theorem dL_refuse_17 : decode cL_refuse 17 = .ok (.ireturn, 1) := by decide +kernel
theorem dL_refuse_18 : decode cL_refuse 18 = .ok (.astore_n 3, 1) := by decide +kernel
theorem dL_refuse_19 : decode cL_refuse 19 = .ok (.iconst 3, 1) := by decide +kernel
theorem dL_refuse_20 : decode cL_refuse 20 = .ok (.ireturn, 1) := by decide +kernel
theorem dL_refuse_21 : decode cL_refuse 21 = .ok (.astore_n 3, 1) := by decide +kernel
theorem dL_refuse_22 : decode cL_refuse 22 = .ok (.iconst 4, 1) := by decide +kernel
theorem dL_refuse_23 : decode cL_refuse 23 = .ok (.ireturn, 1) := by decide +kernel
theorem dL_refuse_24 : decode cL_refuse 24 = .ok (.iconst 0, 1) := by decide +kernel
theorem dL_refuse_25 : decode cL_refuse 25 = .ok (.ireturn, 1) := by decide +kernel
theorem dL_retract_0 : decode cL_retract 0 = .ok (.aload_n 2, 1) := by decide +kernel
theorem dL_retract_1 : decode cL_retract 1 = .ok (.iconst 0, 1) := by decide +kernel
theorem dL_retract_2 : decode cL_retract 2 = .ok (.aload_n 0, 1) := by decide +kernel
theorem dL_retract_3 : decode cL_retract 3 = .ok (.iload_n 1, 1) := by decide +kernel
theorem dL_retract_4 : decode cL_retract 4 = .ok (.invokevirtual 50, 3) := by decide +kernel
theorem dL_retract_7 : decode cL_retract 7 = .ok (.i2l, 1) := by decide +kernel
theorem dL_retract_8 : decode cL_retract 8 = .ok (.lastore, 1) := by decide +kernel
theorem dL_retract_9 : decode cL_retract 9 = .ok (.goto 9, 3) := by decide +kernel
theorem dL_retract_12 : decode cL_retract 12 = .ok (.astore_n 3, 1) := by decide +kernel
theorem dL_retract_13 : decode cL_retract 13 = .ok (.iconst 1, 1) := by decide +kernel
theorem dL_retract_14 : decode cL_retract 14 = .ok (.ireturn, 1) := by decide +kernel
theorem dL_retract_15 : decode cL_retract 15 = .ok (.astore_n 3, 1) := by decide +kernel
theorem dL_retract_16 : decode cL_retract 16 = .ok (.iconst 2, 1) := by decide +kernel
theorem dL_retract_17 : decode cL_retract 17 = .ok (.ireturn, 1) := by decide +kernel
theorem dL_retract_18 : decode cL_retract 18 = .ok (.iconst 0, 1) := by decide +kernel
theorem dL_retract_19 : decode cL_retract 19 = .ok (.ireturn, 1) := by decide +kernel
theorem dL_stateOf_0 : decode cL_stateOf 0 = .ok (.aload_n 2, 1) := by decide +kernel
theorem dL_stateOf_1 : decode cL_stateOf 1 = .ok (.iconst 0, 1) := by decide +kernel
theorem dL_stateOf_2 : decode cL_stateOf 2 = .ok (.aload_n 0, 1) := by decide +kernel
theorem dL_stateOf_3 : decode cL_stateOf 3 = .ok (.iload_n 1, 1) := by decide +kernel
theorem dL_stateOf_4 : decode cL_stateOf 4 = .ok (.invokevirtual 54, 3) := by decide +kernel
theorem dL_stateOf_7 : decode cL_stateOf 7 = .ok (.i2l, 1) := by decide +kernel
theorem dL_stateOf_8 : decode cL_stateOf 8 = .ok (.lastore, 1) := by decide +kernel
theorem dL_stateOf_9 : decode cL_stateOf 9 = .ok (.goto 6, 3) := by decide +kernel
theorem dL_stateOf_12 : decode cL_stateOf 12 = .ok (.astore_n 3, 1) := by decide +kernel
theorem dL_stateOf_13 : decode cL_stateOf 13 = .ok (.iconst 1, 1) := by decide +kernel
theorem dL_stateOf_14 : decode cL_stateOf 14 = .ok (.ireturn, 1) := by decide +kernel
theorem dL_stateOf_15 : decode cL_stateOf 15 = .ok (.iconst 0, 1) := by decide +kernel
theorem dL_stateOf_16 : decode cL_stateOf 16 = .ok (.ireturn, 1) := by decide +kernel
theorem dL_stateByAll_0 : decode cL_stateByAll 0 = .ok (.aload_n 2, 1) := by decide +kernel
theorem dL_stateByAll_1 : decode cL_stateByAll 1 = .ok (.iconst 0, 1) := by decide +kernel
theorem dL_stateByAll_2 : decode cL_stateByAll 2 = .ok (.aload_n 0, 1) := by decide +kernel
theorem dL_stateByAll_3 : decode cL_stateByAll 3 = .ok (.iload_n 1, 1) := by decide +kernel
theorem dL_stateByAll_4 : decode cL_stateByAll 4 = .ok (.invokevirtual 57, 3) := by decide +kernel
theorem dL_stateByAll_7 : decode cL_stateByAll 7 = .ok (.i2l, 1) := by decide +kernel
theorem dL_stateByAll_8 : decode cL_stateByAll 8 = .ok (.lastore, 1) := by decide +kernel
theorem dL_stateByAll_9 : decode cL_stateByAll 9 = .ok (.goto 6, 3) := by decide +kernel
theorem dL_stateByAll_12 : decode cL_stateByAll 12 = .ok (.astore_n 3, 1) := by decide +kernel
theorem dL_stateByAll_13 : decode cL_stateByAll 13 = .ok (.iconst 1, 1) := by decide +kernel
theorem dL_stateByAll_14 : decode cL_stateByAll 14 = .ok (.ireturn, 1) := by decide +kernel
theorem dL_stateByAll_15 : decode cL_stateByAll 15 = .ok (.iconst 0, 1) := by decide +kernel
theorem dL_stateByAll_16 : decode cL_stateByAll 16 = .ok (.ireturn, 1) := by decide +kernel
theorem dL_known_0 : decode cL_known 0 = .ok (.aload_n 2, 1) := by decide +kernel
theorem dL_known_1 : decode cL_known 1 = .ok (.iconst 0, 1) := by decide +kernel
theorem dL_known_2 : decode cL_known 2 = .ok (.aload_n 0, 1) := by decide +kernel
theorem dL_known_3 : decode cL_known 3 = .ok (.iload_n 1, 1) := by decide +kernel
theorem dL_known_4 : decode cL_known 4 = .ok (.invokevirtual 60, 3) := by decide +kernel
theorem dL_known_7 : decode cL_known 7 = .ok (.i2l, 1) := by decide +kernel
theorem dL_known_8 : decode cL_known 8 = .ok (.lastore, 1) := by decide +kernel
theorem dL_known_9 : decode cL_known 9 = .ok (.goto 6, 3) := by decide +kernel
theorem dL_known_12 : decode cL_known 12 = .ok (.astore_n 3, 1) := by decide +kernel
theorem dL_known_13 : decode cL_known 13 = .ok (.iconst 1, 1) := by decide +kernel
theorem dL_known_14 : decode cL_known 14 = .ok (.ireturn, 1) := by decide +kernel
theorem dL_known_15 : decode cL_known 15 = .ok (.iconst 0, 1) := by decide +kernel
theorem dL_known_16 : decode cL_known 16 = .ok (.ireturn, 1) := by decide +kernel
theorem dL_reasonOf_0 : decode cL_reasonOf 0 = .ok (.aload_n 2, 1) := by decide +kernel
theorem dL_reasonOf_1 : decode cL_reasonOf 1 = .ok (.iconst 0, 1) := by decide +kernel
theorem dL_reasonOf_2 : decode cL_reasonOf 2 = .ok (.aload_n 0, 1) := by decide +kernel
theorem dL_reasonOf_3 : decode cL_reasonOf 3 = .ok (.iload_n 1, 1) := by decide +kernel
theorem dL_reasonOf_4 : decode cL_reasonOf 4 = .ok (.invokevirtual 63, 3) := by decide +kernel
theorem dL_reasonOf_7 : decode cL_reasonOf 7 = .ok (.i2l, 1) := by decide +kernel
theorem dL_reasonOf_8 : decode cL_reasonOf 8 = .ok (.lastore, 1) := by decide +kernel
theorem dL_reasonOf_9 : decode cL_reasonOf 9 = .ok (.goto 9, 3) := by decide +kernel
theorem dL_reasonOf_12 : decode cL_reasonOf 12 = .ok (.astore_n 3, 1) := by decide +kernel
theorem dL_reasonOf_13 : decode cL_reasonOf 13 = .ok (.iconst 1, 1) := by decide +kernel
theorem dL_reasonOf_14 : decode cL_reasonOf 14 = .ok (.ireturn, 1) := by decide +kernel
theorem dL_reasonOf_15 : decode cL_reasonOf 15 = .ok (.astore_n 3, 1) := by decide +kernel
theorem dL_reasonOf_16 : decode cL_reasonOf 16 = .ok (.iconst 2, 1) := by decide +kernel
theorem dL_reasonOf_17 : decode cL_reasonOf 17 = .ok (.ireturn, 1) := by decide +kernel
theorem dL_reasonOf_18 : decode cL_reasonOf 18 = .ok (.iconst 0, 1) := by decide +kernel
theorem dL_reasonOf_19 : decode cL_reasonOf 19 = .ok (.ireturn, 1) := by decide +kernel
theorem dL_reasonRule_0 : decode cL_reasonRule 0 = .ok (.aload_n 2, 1) := by decide +kernel
theorem dL_reasonRule_1 : decode cL_reasonRule 1 = .ok (.iconst 0, 1) := by decide +kernel
theorem dL_reasonRule_2 : decode cL_reasonRule 2 = .ok (.aload_n 0, 1) := by decide +kernel
theorem dL_reasonRule_3 : decode cL_reasonRule 3 = .ok (.iload_n 1, 1) := by decide +kernel
theorem dL_reasonRule_4 : decode cL_reasonRule 4 = .ok (.invokevirtual 66, 3) := by decide +kernel
theorem dL_reasonRule_7 : decode cL_reasonRule 7 = .ok (.i2l, 1) := by decide +kernel
theorem dL_reasonRule_8 : decode cL_reasonRule 8 = .ok (.lastore, 1) := by decide +kernel
theorem dL_reasonRule_9 : decode cL_reasonRule 9 = .ok (.goto 9, 3) := by decide +kernel
theorem dL_reasonRule_12 : decode cL_reasonRule 12 = .ok (.astore_n 3, 1) := by decide +kernel
theorem dL_reasonRule_13 : decode cL_reasonRule 13 = .ok (.iconst 1, 1) := by decide +kernel
theorem dL_reasonRule_14 : decode cL_reasonRule 14 = .ok (.ireturn, 1) := by decide +kernel
theorem dL_reasonRule_15 : decode cL_reasonRule 15 = .ok (.astore_n 3, 1) := by decide +kernel
theorem dL_reasonRule_16 : decode cL_reasonRule 16 = .ok (.iconst 2, 1) := by decide +kernel
theorem dL_reasonRule_17 : decode cL_reasonRule 17 = .ok (.ireturn, 1) := by decide +kernel
theorem dL_reasonRule_18 : decode cL_reasonRule 18 = .ok (.iconst 0, 1) := by decide +kernel
theorem dL_reasonRule_19 : decode cL_reasonRule 19 = .ok (.ireturn, 1) := by decide +kernel
theorem dL_isConfiguration_0 : decode cL_isConfiguration 0 = .ok (.aload_n 2, 1) := by decide +kernel
theorem dL_isConfiguration_1 : decode cL_isConfiguration 1 = .ok (.iconst 0, 1) := by decide +kernel
theorem dL_isConfiguration_2 : decode cL_isConfiguration 2 = .ok (.aload_n 0, 1) := by decide +kernel
theorem dL_isConfiguration_3 : decode cL_isConfiguration 3 = .ok (.iload_n 1, 1) := by decide +kernel
theorem dL_isConfiguration_4 : decode cL_isConfiguration 4 = .ok (.invokevirtual 69, 3) := by decide +kernel
theorem dL_isConfiguration_7 : decode cL_isConfiguration 7 = .ok (.ifCond .eq 7, 3) := by decide +kernel
theorem dL_isConfiguration_10 : decode cL_isConfiguration 10 = .ok (.lconst 1, 1) := by decide +kernel
theorem dL_isConfiguration_11 : decode cL_isConfiguration 11 = .ok (.goto 4, 3) := by decide +kernel
theorem dL_isConfiguration_14 : decode cL_isConfiguration 14 = .ok (.lconst 0, 1) := by decide +kernel
theorem dL_isConfiguration_15 : decode cL_isConfiguration 15 = .ok (.lastore, 1) := by decide +kernel
theorem dL_isConfiguration_16 : decode cL_isConfiguration 16 = .ok (.goto 6, 3) := by decide +kernel
theorem dL_isConfiguration_19 : decode cL_isConfiguration 19 = .ok (.astore_n 3, 1) := by decide +kernel
theorem dL_isConfiguration_20 : decode cL_isConfiguration 20 = .ok (.iconst 1, 1) := by decide +kernel
theorem dL_isConfiguration_21 : decode cL_isConfiguration 21 = .ok (.ireturn, 1) := by decide +kernel
theorem dL_isConfiguration_22 : decode cL_isConfiguration 22 = .ok (.iconst 0, 1) := by decide +kernel
theorem dL_isConfiguration_23 : decode cL_isConfiguration 23 = .ok (.ireturn, 1) := by decide +kernel
theorem dL_addBundle_0 : decode cL_addBundle 0 = .ok (.aload 4, 2) := by decide +kernel
theorem dL_addBundle_2 : decode cL_addBundle 2 = .ok (.iconst 0, 1) := by decide +kernel
theorem dL_addBundle_3 : decode cL_addBundle 3 = .ok (.aload_n 0, 1) := by decide +kernel
theorem dL_addBundle_4 : decode cL_addBundle 4 = .ok (.iload_n 1, 1) := by decide +kernel
theorem dL_addBundle_5 : decode cL_addBundle 5 = .ok (.iload_n 2, 1) := by decide +kernel
theorem dL_addBundle_6 : decode cL_addBundle 6 = .ok (.iload_n 3, 1) := by decide +kernel
theorem dL_addBundle_7 : decode cL_addBundle 7 = .ok (.invokevirtual 73, 3) := by decide +kernel
theorem dL_addBundle_10 : decode cL_addBundle 10 = .ok (.i2l, 1) := by decide +kernel
theorem dL_addBundle_11 : decode cL_addBundle 11 = .ok (.lastore, 1) := by decide +kernel
theorem dL_addBundle_12 : decode cL_addBundle 12 = .ok (.goto 15, 3) := by decide +kernel
theorem dL_addBundle_15 : decode cL_addBundle 15 = .ok (.astore 5, 2) := by decide +kernel
theorem dL_addBundle_17 : decode cL_addBundle 17 = .ok (.iconst 1, 1) := by decide +kernel
theorem dL_addBundle_18 : decode cL_addBundle 18 = .ok (.ireturn, 1) := by decide +kernel
theorem dL_addBundle_19 : decode cL_addBundle 19 = .ok (.astore 5, 2) := by decide +kernel
theorem dL_addBundle_21 : decode cL_addBundle 21 = .ok (.iconst 2, 1) := by decide +kernel
theorem dL_addBundle_22 : decode cL_addBundle 22 = .ok (.ireturn, 1) := by decide +kernel
theorem dL_addBundle_23 : decode cL_addBundle 23 = .ok (.astore 5, 2) := by decide +kernel
theorem dL_addBundle_25 : decode cL_addBundle 25 = .ok (.iconst 3, 1) := by decide +kernel
theorem dL_addBundle_26 : decode cL_addBundle 26 = .ok (.ireturn, 1) := by decide +kernel
theorem dL_addBundle_27 : decode cL_addBundle 27 = .ok (.iconst 0, 1) := by decide +kernel
theorem dL_addBundle_28 : decode cL_addBundle 28 = .ok (.ireturn, 1) := by decide +kernel
theorem dL_addPercent_0 : decode cL_addPercent 0 = .ok (.aload_n 2, 1) := by decide +kernel
theorem dL_addPercent_1 : decode cL_addPercent 1 = .ok (.iconst 0, 1) := by decide +kernel
theorem dL_addPercent_2 : decode cL_addPercent 2 = .ok (.aload_n 0, 1) := by decide +kernel
theorem dL_addPercent_3 : decode cL_addPercent 3 = .ok (.iload_n 1, 1) := by decide +kernel
theorem dL_addPercent_4 : decode cL_addPercent 4 = .ok (.invokevirtual 76, 3) := by decide +kernel
theorem dL_addPercent_7 : decode cL_addPercent 7 = .ok (.i2l, 1) := by decide +kernel
theorem dL_addPercent_8 : decode cL_addPercent 8 = .ok (.lastore, 1) := by decide +kernel
theorem dL_addPercent_9 : decode cL_addPercent 9 = .ok (.goto 9, 3) := by decide +kernel
theorem dL_addPercent_12 : decode cL_addPercent 12 = .ok (.astore_n 3, 1) := by decide +kernel
theorem dL_addPercent_13 : decode cL_addPercent 13 = .ok (.iconst 1, 1) := by decide +kernel
theorem dL_addPercent_14 : decode cL_addPercent 14 = .ok (.ireturn, 1) := by decide +kernel
theorem dL_addPercent_15 : decode cL_addPercent 15 = .ok (.astore_n 3, 1) := by decide +kernel
theorem dL_addPercent_16 : decode cL_addPercent 16 = .ok (.iconst 2, 1) := by decide +kernel
theorem dL_addPercent_17 : decode cL_addPercent 17 = .ok (.ireturn, 1) := by decide +kernel
theorem dL_addPercent_18 : decode cL_addPercent 18 = .ok (.iconst 0, 1) := by decide +kernel
theorem dL_addPercent_19 : decode cL_addPercent 19 = .ok (.ireturn, 1) := by decide +kernel
theorem dL_addSurcharge_0 : decode cL_addSurcharge 0 = .ok (.aload_n 3, 1) := by decide +kernel
theorem dL_addSurcharge_1 : decode cL_addSurcharge 1 = .ok (.iconst 0, 1) := by decide +kernel
theorem dL_addSurcharge_2 : decode cL_addSurcharge 2 = .ok (.aload_n 0, 1) := by decide +kernel
theorem dL_addSurcharge_3 : decode cL_addSurcharge 3 = .ok (.iload_n 1, 1) := by decide +kernel
theorem dL_addSurcharge_4 : decode cL_addSurcharge 4 = .ok (.iload_n 2, 1) := by decide +kernel
theorem dL_addSurcharge_5 : decode cL_addSurcharge 5 = .ok (.invokevirtual 79, 3) := by decide +kernel
theorem dL_addSurcharge_8 : decode cL_addSurcharge 8 = .ok (.i2l, 1) := by decide +kernel
theorem dL_addSurcharge_9 : decode cL_addSurcharge 9 = .ok (.lastore, 1) := by decide +kernel
theorem dL_addSurcharge_10 : decode cL_addSurcharge 10 = .ok (.goto 11, 3) := by decide +kernel
theorem dL_addSurcharge_13 : decode cL_addSurcharge 13 = .ok (.astore 4, 2) := by decide +kernel
theorem dL_addSurcharge_15 : decode cL_addSurcharge 15 = .ok (.iconst 1, 1) := by decide +kernel
theorem dL_addSurcharge_16 : decode cL_addSurcharge 16 = .ok (.ireturn, 1) := by decide +kernel
theorem dL_addSurcharge_17 : decode cL_addSurcharge 17 = .ok (.astore 4, 2) := by decide +kernel
theorem dL_addSurcharge_19 : decode cL_addSurcharge 19 = .ok (.iconst 2, 1) := by decide +kernel
theorem dL_addSurcharge_20 : decode cL_addSurcharge 20 = .ok (.ireturn, 1) := by decide +kernel
theorem dL_addSurcharge_21 : decode cL_addSurcharge 21 = .ok (.iconst 0, 1) := by decide +kernel
theorem dL_addSurcharge_22 : decode cL_addSurcharge 22 = .ok (.ireturn, 1) := by decide +kernel
theorem dL_removeLayer_0 : decode cL_removeLayer 0 = .ok (.aload_n 1, 1) := by decide +kernel
theorem dL_removeLayer_1 : decode cL_removeLayer 1 = .ok (.iconst 0, 1) := by decide +kernel
theorem dL_removeLayer_2 : decode cL_removeLayer 2 = .ok (.aload_n 0, 1) := by decide +kernel
theorem dL_removeLayer_3 : decode cL_removeLayer 3 = .ok (.invokevirtual 82, 3) := by decide +kernel
theorem dL_removeLayer_6 : decode cL_removeLayer 6 = .ok (.i2l, 1) := by decide +kernel
theorem dL_removeLayer_7 : decode cL_removeLayer 7 = .ok (.lastore, 1) := by decide +kernel
theorem dL_removeLayer_8 : decode cL_removeLayer 8 = .ok (.goto 6, 3) := by decide +kernel
theorem dL_removeLayer_11 : decode cL_removeLayer 11 = .ok (.astore_n 2, 1) := by decide +kernel
theorem dL_removeLayer_12 : decode cL_removeLayer 12 = .ok (.iconst 1, 1) := by decide +kernel
theorem dL_removeLayer_13 : decode cL_removeLayer 13 = .ok (.ireturn, 1) := by decide +kernel
theorem dL_removeLayer_14 : decode cL_removeLayer 14 = .ok (.iconst 0, 1) := by decide +kernel
theorem dL_removeLayer_15 : decode cL_removeLayer 15 = .ok (.ireturn, 1) := by decide +kernel
theorem dL_price_0 : decode cL_price 0 = .ok (.aload_n 2, 1) := by decide +kernel
theorem dL_price_1 : decode cL_price 1 = .ok (.iconst 0, 1) := by decide +kernel
theorem dL_price_2 : decode cL_price 2 = .ok (.aload_n 0, 1) := by decide +kernel
theorem dL_price_3 : decode cL_price 3 = .ok (.iload_n 1, 1) := by decide +kernel
theorem dL_price_4 : decode cL_price 4 = .ok (.invokevirtual 86, 3) := by decide +kernel
theorem dL_price_7 : decode cL_price 7 = .ok (.i2l, 1) := by decide +kernel
theorem dL_price_8 : decode cL_price 8 = .ok (.lastore, 1) := by decide +kernel
theorem dL_price_9 : decode cL_price 9 = .ok (.goto 6, 3) := by decide +kernel
theorem dL_price_12 : decode cL_price 12 = .ok (.astore_n 3, 1) := by decide +kernel
theorem dL_price_13 : decode cL_price 13 = .ok (.iconst 1, 1) := by decide +kernel
theorem dL_price_14 : decode cL_price 14 = .ok (.ireturn, 1) := by decide +kernel
theorem dL_price_15 : decode cL_price 15 = .ok (.iconst 0, 1) := by decide +kernel
theorem dL_price_16 : decode cL_price 16 = .ok (.ireturn, 1) := by decide +kernel
theorem dL_fewest_0 : decode cL_fewest 0 = .ok (.aload_n 3, 1) := by decide +kernel
theorem dL_fewest_1 : decode cL_fewest 1 = .ok (.iconst 0, 1) := by decide +kernel
theorem dL_fewest_2 : decode cL_fewest 2 = .ok (.aload_n 0, 1) := by decide +kernel
theorem dL_fewest_3 : decode cL_fewest 3 = .ok (.iload_n 1, 1) := by decide +kernel
theorem dL_fewest_4 : decode cL_fewest 4 = .ok (.iload_n 2, 1) := by decide +kernel
theorem dL_fewest_5 : decode cL_fewest 5 = .ok (.invokevirtual 89, 3) := by decide +kernel
theorem dL_fewest_8 : decode cL_fewest 8 = .ok (.i2l, 1) := by decide +kernel
theorem dL_fewest_9 : decode cL_fewest 9 = .ok (.lastore, 1) := by decide +kernel
theorem dL_fewest_10 : decode cL_fewest 10 = .ok (.goto 11, 3) := by decide +kernel
theorem dL_fewest_13 : decode cL_fewest 13 = .ok (.astore 4, 2) := by decide +kernel
theorem dL_fewest_15 : decode cL_fewest 15 = .ok (.iconst 1, 1) := by decide +kernel
theorem dL_fewest_16 : decode cL_fewest 16 = .ok (.ireturn, 1) := by decide +kernel
theorem dL_fewest_17 : decode cL_fewest 17 = .ok (.astore 4, 2) := by decide +kernel
theorem dL_fewest_19 : decode cL_fewest 19 = .ok (.iconst 2, 1) := by decide +kernel
theorem dL_fewest_20 : decode cL_fewest 20 = .ok (.ireturn, 1) := by decide +kernel
theorem dL_fewest_21 : decode cL_fewest 21 = .ok (.iconst 0, 1) := by decide +kernel
theorem dL_fewest_22 : decode cL_fewest 22 = .ok (.ireturn, 1) := by decide +kernel
theorem dL_toRetract_0 : decode cL_toRetract 0 = .ok (.aload_n 3, 1) := by decide +kernel
theorem dL_toRetract_1 : decode cL_toRetract 1 = .ok (.iconst 0, 1) := by decide +kernel
theorem dL_toRetract_2 : decode cL_toRetract 2 = .ok (.aload_n 0, 1) := by decide +kernel
theorem dL_toRetract_3 : decode cL_toRetract 3 = .ok (.iload_n 1, 1) := by decide +kernel
theorem dL_toRetract_4 : decode cL_toRetract 4 = .ok (.iload_n 2, 1) := by decide +kernel
theorem dL_toRetract_5 : decode cL_toRetract 5 = .ok (.invokevirtual 93, 3) := by decide +kernel
theorem dL_toRetract_8 : decode cL_toRetract 8 = .ok (.i2l, 1) := by decide +kernel
theorem dL_toRetract_9 : decode cL_toRetract 9 = .ok (.lastore, 1) := by decide +kernel
theorem dL_toRetract_10 : decode cL_toRetract 10 = .ok (.goto 11, 3) := by decide +kernel
theorem dL_toRetract_13 : decode cL_toRetract 13 = .ok (.astore 4, 2) := by decide +kernel
theorem dL_toRetract_15 : decode cL_toRetract 15 = .ok (.iconst 1, 1) := by decide +kernel
theorem dL_toRetract_16 : decode cL_toRetract 16 = .ok (.ireturn, 1) := by decide +kernel
theorem dL_toRetract_17 : decode cL_toRetract 17 = .ok (.astore 4, 2) := by decide +kernel
theorem dL_toRetract_19 : decode cL_toRetract 19 = .ok (.iconst 2, 1) := by decide +kernel
theorem dL_toRetract_20 : decode cL_toRetract 20 = .ok (.ireturn, 1) := by decide +kernel
theorem dL_toRetract_21 : decode cL_toRetract 21 = .ok (.iconst 0, 1) := by decide +kernel
theorem dL_toRetract_22 : decode cL_toRetract 22 = .ok (.ireturn, 1) := by decide +kernel
theorem dL_force_0 : decode cL_force 0 = .ok (.aload_n 3, 1) := by decide +kernel
theorem dL_force_1 : decode cL_force 1 = .ok (.iconst 0, 1) := by decide +kernel
theorem dL_force_2 : decode cL_force 2 = .ok (.aload_n 0, 1) := by decide +kernel
theorem dL_force_3 : decode cL_force 3 = .ok (.iload_n 1, 1) := by decide +kernel
theorem dL_force_4 : decode cL_force 4 = .ok (.iload_n 2, 1) := by decide +kernel
theorem dL_force_5 : decode cL_force 5 = .ok (.invokevirtual 96, 3) := by decide +kernel
theorem dL_force_8 : decode cL_force 8 = .ok (.i2l, 1) := by decide +kernel
theorem dL_force_9 : decode cL_force 9 = .ok (.lastore, 1) := by decide +kernel
theorem dL_force_10 : decode cL_force 10 = .ok (.goto 15, 3) := by decide +kernel
theorem dL_force_13 : decode cL_force 13 = .ok (.astore 4, 2) := by decide +kernel
theorem dL_force_15 : decode cL_force 15 = .ok (.iconst 1, 1) := by decide +kernel
theorem dL_force_16 : decode cL_force 16 = .ok (.ireturn, 1) := by decide +kernel
theorem dL_force_17 : decode cL_force 17 = .ok (.astore 4, 2) := by decide +kernel
theorem dL_force_19 : decode cL_force 19 = .ok (.iconst 2, 1) := by decide +kernel
theorem dL_force_20 : decode cL_force 20 = .ok (.ireturn, 1) := by decide +kernel
theorem dL_force_21 : decode cL_force 21 = .ok (.astore 4, 2) := by decide +kernel
theorem dL_force_23 : decode cL_force 23 = .ok (.iconst 3, 1) := by decide +kernel
theorem dL_force_24 : decode cL_force 24 = .ok (.ireturn, 1) := by decide +kernel
theorem dL_force_25 : decode cL_force 25 = .ok (.iconst 0, 1) := by decide +kernel
theorem dL_force_26 : decode cL_force 26 = .ok (.ireturn, 1) := by decide +kernel
theorem dL_lineAt_0 : decode cL_lineAt 0 = .ok (.aload_n 2, 1) := by decide +kernel
theorem dL_lineAt_1 : decode cL_lineAt 1 = .ok (.iconst 0, 1) := by decide +kernel
theorem dL_lineAt_2 : decode cL_lineAt 2 = .ok (.aload_n 0, 1) := by decide +kernel
theorem dL_lineAt_3 : decode cL_lineAt 3 = .ok (.iload_n 1, 1) := by decide +kernel
theorem dL_lineAt_4 : decode cL_lineAt 4 = .ok (.invokevirtual 99, 3) := by decide +kernel
theorem dL_lineAt_7 : decode cL_lineAt 7 = .ok (.i2l, 1) := by decide +kernel
theorem dL_lineAt_8 : decode cL_lineAt 8 = .ok (.lastore, 1) := by decide +kernel
theorem dL_lineAt_9 : decode cL_lineAt 9 = .ok (.goto 6, 3) := by decide +kernel
theorem dL_lineAt_12 : decode cL_lineAt 12 = .ok (.astore_n 3, 1) := by decide +kernel
theorem dL_lineAt_13 : decode cL_lineAt 13 = .ok (.iconst 1, 1) := by decide +kernel
theorem dL_lineAt_14 : decode cL_lineAt 14 = .ok (.ireturn, 1) := by decide +kernel
theorem dL_lineAt_15 : decode cL_lineAt 15 = .ok (.iconst 0, 1) := by decide +kernel
theorem dL_lineAt_16 : decode cL_lineAt 16 = .ok (.ireturn, 1) := by decide +kernel
theorem dL_law_0 : decode cL_law 0 = .ok (.new 8, 3) := by decide +kernel
theorem dL_law_3 : decode cL_law 3 = .ok (.dup, 1) := by decide +kernel
theorem dL_law_4 : decode cL_law 4 = .ok (.invokespecial 102, 3) := by decide +kernel
theorem dL_law_7 : decode cL_law 7 = .ok (.astore_n 1, 1) := by decide +kernel
theorem dL_law_8 : decode cL_law 8 = .ok (.new 103, 3) := by decide +kernel
theorem dL_law_11 : decode cL_law 11 = .ok (.dup, 1) := by decide +kernel
theorem dL_law_12 : decode cL_law 12 = .ok (.invokespecial 105, 3) := by decide +kernel
theorem dL_law_15 : decode cL_law 15 = .ok (.astore_n 2, 1) := by decide +kernel
theorem dL_law_16 : decode cL_law 16 = .ok (.iconst 1, 1) := by decide +kernel
theorem dL_law_17 : decode cL_law 17 = .ok (.newarray .long, 2) := by decide +kernel
theorem dL_law_19 : decode cL_law 19 = .ok (.astore_n 3, 1) := by decide +kernel
theorem dL_law_20 : decode cL_law 20 = .ok (.iconst 0, 1) := by decide +kernel
theorem dL_law_21 : decode cL_law 21 = .ok (.istore 4, 2) := by decide +kernel
theorem dL_law_23 : decode cL_law 23 = .ok (.iload 4, 2) := by decide +kernel
theorem dL_law_25 : decode cL_law 25 = .ok (.aload_n 0, 1) := by decide +kernel
theorem dL_law_26 : decode cL_law 26 = .ok (.arraylength, 1) := by decide +kernel
theorem dL_law_27 : decode cL_law 27 = .ok (.iconst 4, 1) := by decide +kernel
theorem dL_law_28 : decode cL_law 28 = .ok (.isub, 1) := by decide +kernel
theorem dL_law_29 : decode cL_law 29 = .ok (.if_icmp .gt 2010, 3) := by decide +kernel
theorem dL_law_32 : decode cL_law 32 = .ok (.aload_n 0, 1) := by decide +kernel
theorem dL_law_33 : decode cL_law 33 = .ok (.iload 4, 2) := by decide +kernel
theorem dL_law_35 : decode cL_law 35 = .ok (.iaload, 1) := by decide +kernel
theorem dL_law_36 : decode cL_law 36 = .ok (.bipush 63, 2) := by decide +kernel
theorem dL_law_38 : decode cL_law 38 = .ok (.iand, 1) := by decide +kernel
theorem dL_law_39 : decode cL_law 39 = .ok (.tableswitch 1994 0 35 #[157, 225, 316, 396, 464, 532, 612, 668, 724, 780, 836, 849, 905, 961, 1017, 1073, 1129, 1142, 1205, 1219, 1233, 1313, 1369, 1437, 1481, 1537, 1550, 1563, 1576, 1660, 1744, 1828, 1841, 1897, 1940, 1981], 157) := by decide +kernel
theorem dL_law_196 : decode cL_law 196 = .ok (.aload_n 1, 1) := by decide +kernel
theorem dL_law_197 : decode cL_law 197 = .ok (.aload_n 0, 1) := by decide +kernel
theorem dL_law_198 : decode cL_law 198 = .ok (.iload 4, 2) := by decide +kernel
theorem dL_law_200 : decode cL_law 200 = .ok (.iconst 1, 1) := by decide +kernel
theorem dL_law_201 : decode cL_law 201 = .ok (.iadd, 1) := by decide +kernel
theorem dL_law_202 : decode cL_law 202 = .ok (.iaload, 1) := by decide +kernel
theorem dL_law_203 : decode cL_law 203 = .ok (.aload_n 0, 1) := by decide +kernel
theorem dL_law_204 : decode cL_law 204 = .ok (.iload 4, 2) := by decide +kernel
theorem dL_law_206 : decode cL_law 206 = .ok (.iconst 2, 1) := by decide +kernel
theorem dL_law_207 : decode cL_law 207 = .ok (.iadd, 1) := by decide +kernel
theorem dL_law_208 : decode cL_law 208 = .ok (.iaload, 1) := by decide +kernel
theorem dL_law_209 : decode cL_law 209 = .ok (.aload_n 3, 1) := by decide +kernel
theorem dL_law_210 : decode cL_law 210 = .ok (.invokestatic 106, 3) := by decide +kernel
theorem dL_law_213 : decode cL_law 213 = .ok (.istore 5, 2) := by decide +kernel
theorem dL_law_215 : decode cL_law 215 = .ok (.aload_n 2, 1) := by decide +kernel
theorem dL_law_216 : decode cL_law 216 = .ok (.aload_n 0, 1) := by decide +kernel
theorem dL_law_217 : decode cL_law 217 = .ok (.iload 4, 2) := by decide +kernel
theorem dL_law_219 : decode cL_law 219 = .ok (.iconst 1, 1) := by decide +kernel
theorem dL_law_220 : decode cL_law 220 = .ok (.iadd, 1) := by decide +kernel
theorem dL_law_221 : decode cL_law 221 = .ok (.iaload, 1) := by decide +kernel
theorem dL_law_222 : decode cL_law 222 = .ok (.aload_n 0, 1) := by decide +kernel
theorem dL_law_223 : decode cL_law 223 = .ok (.iload 4, 2) := by decide +kernel
theorem dL_law_225 : decode cL_law 225 = .ok (.iconst 2, 1) := by decide +kernel
theorem dL_law_226 : decode cL_law 226 = .ok (.iadd, 1) := by decide +kernel
theorem dL_law_227 : decode cL_law 227 = .ok (.iaload, 1) := by decide +kernel
theorem dL_law_228 : decode cL_law 228 = .ok (.invokevirtual 111, 3) := by decide +kernel
theorem dL_law_231 : decode cL_law 231 = .ok (.istore 6, 2) := by decide +kernel
theorem dL_law_233 : decode cL_law 233 = .ok (.aload_n 2, 1) := by decide +kernel
theorem dL_law_234 : decode cL_law 234 = .ok (.invokevirtual 112, 3) := by decide +kernel
theorem dL_law_237 : decode cL_law 237 = .ok (.iload 5, 2) := by decide +kernel
theorem dL_law_239 : decode cL_law 239 = .ok (.if_icmp .eq 5, 3) := by decide +kernel
theorem dL_law_242 : decode cL_law 242 = .ok (.iconst 0, 1) := by decide +kernel
theorem dL_law_243 : decode cL_law 243 = .ok (.ireturn, 1) := by decide +kernel
theorem dL_law_244 : decode cL_law 244 = .ok (.iload 5, 2) := by decide +kernel
theorem dL_law_246 : decode cL_law 246 = .ok (.ifCond .ne 15, 3) := by decide +kernel
theorem dL_law_249 : decode cL_law 249 = .ok (.aload_n 3, 1) := by decide +kernel
theorem dL_law_250 : decode cL_law 250 = .ok (.iconst 0, 1) := by decide +kernel
theorem dL_law_251 : decode cL_law 251 = .ok (.laload, 1) := by decide +kernel
theorem dL_law_252 : decode cL_law 252 = .ok (.iload 6, 2) := by decide +kernel
theorem dL_law_254 : decode cL_law 254 = .ok (.i2l, 1) := by decide +kernel
theorem dL_law_255 : decode cL_law 255 = .ok (.lcmp, 1) := by decide +kernel
theorem dL_law_256 : decode cL_law 256 = .ok (.ifCond .eq 5, 3) := by decide +kernel
theorem dL_law_259 : decode cL_law 259 = .ok (.iconst 0, 1) := by decide +kernel
theorem dL_law_260 : decode cL_law 260 = .ok (.ireturn, 1) := by decide +kernel
theorem dL_law_261 : decode cL_law 261 = .ok (.goto 1772, 3) := by decide +kernel
theorem dL_law_264 : decode cL_law 264 = .ok (.aload_n 1, 1) := by decide +kernel
theorem dL_law_265 : decode cL_law 265 = .ok (.aload_n 0, 1) := by decide +kernel
theorem dL_law_266 : decode cL_law 266 = .ok (.iload 4, 2) := by decide +kernel
theorem dL_law_268 : decode cL_law 268 = .ok (.iconst 1, 1) := by decide +kernel
theorem dL_law_269 : decode cL_law 269 = .ok (.iadd, 1) := by decide +kernel
theorem dL_law_270 : decode cL_law 270 = .ok (.iaload, 1) := by decide +kernel
theorem dL_law_271 : decode cL_law 271 = .ok (.aload_n 0, 1) := by decide +kernel
theorem dL_law_272 : decode cL_law 272 = .ok (.iload 4, 2) := by decide +kernel
theorem dL_law_274 : decode cL_law 274 = .ok (.iconst 2, 1) := by decide +kernel
theorem dL_law_275 : decode cL_law 275 = .ok (.iadd, 1) := by decide +kernel
theorem dL_law_276 : decode cL_law 276 = .ok (.iaload, 1) := by decide +kernel
theorem dL_law_277 : decode cL_law 277 = .ok (.ifCond .eq 7, 3) := by decide +kernel
theorem dL_law_280 : decode cL_law 280 = .ok (.iconst 1, 1) := by decide +kernel
theorem dL_law_281 : decode cL_law 281 = .ok (.goto 4, 3) := by decide +kernel
theorem dL_law_284 : decode cL_law 284 = .ok (.iconst 0, 1) := by decide +kernel
theorem dL_law_285 : decode cL_law 285 = .ok (.aload_n 3, 1) := by decide +kernel
theorem dL_law_286 : decode cL_law 286 = .ok (.invokestatic 115, 3) := by decide +kernel
theorem dL_law_289 : decode cL_law 289 = .ok (.istore 5, 2) := by decide +kernel
theorem dL_law_291 : decode cL_law 291 = .ok (.aload_n 2, 1) := by decide +kernel
theorem dL_law_292 : decode cL_law 292 = .ok (.aload_n 0, 1) := by decide +kernel
theorem dL_law_293 : decode cL_law 293 = .ok (.iload 4, 2) := by decide +kernel
theorem dL_law_295 : decode cL_law 295 = .ok (.iconst 1, 1) := by decide +kernel
theorem dL_law_296 : decode cL_law 296 = .ok (.iadd, 1) := by decide +kernel
theorem dL_law_297 : decode cL_law 297 = .ok (.iaload, 1) := by decide +kernel
theorem dL_law_298 : decode cL_law 298 = .ok (.aload_n 0, 1) := by decide +kernel
theorem dL_law_299 : decode cL_law 299 = .ok (.iload 4, 2) := by decide +kernel
theorem dL_law_301 : decode cL_law 301 = .ok (.iconst 2, 1) := by decide +kernel
theorem dL_law_302 : decode cL_law 302 = .ok (.iadd, 1) := by decide +kernel
theorem dL_law_303 : decode cL_law 303 = .ok (.iaload, 1) := by decide +kernel
theorem dL_law_304 : decode cL_law 304 = .ok (.ifCond .eq 7, 3) := by decide +kernel
theorem dL_law_307 : decode cL_law 307 = .ok (.iconst 1, 1) := by decide +kernel
theorem dL_law_308 : decode cL_law 308 = .ok (.goto 4, 3) := by decide +kernel
theorem dL_law_311 : decode cL_law 311 = .ok (.iconst 0, 1) := by decide +kernel
theorem dL_law_312 : decode cL_law 312 = .ok (.invokevirtual 118, 3) := by decide +kernel
theorem dL_law_315 : decode cL_law 315 = .ok (.istore 6, 2) := by decide +kernel
theorem dL_law_317 : decode cL_law 317 = .ok (.aload_n 2, 1) := by decide +kernel
theorem dL_law_318 : decode cL_law 318 = .ok (.invokevirtual 112, 3) := by decide +kernel
theorem dL_law_321 : decode cL_law 321 = .ok (.iload 5, 2) := by decide +kernel
theorem dL_law_323 : decode cL_law 323 = .ok (.if_icmp .eq 5, 3) := by decide +kernel
theorem dL_law_326 : decode cL_law 326 = .ok (.iconst 0, 1) := by decide +kernel
theorem dL_law_327 : decode cL_law 327 = .ok (.ireturn, 1) := by decide +kernel
theorem dL_law_328 : decode cL_law 328 = .ok (.iload 5, 2) := by decide +kernel
theorem dL_law_330 : decode cL_law 330 = .ok (.ifCond .ne 22, 3) := by decide +kernel
theorem dL_law_333 : decode cL_law 333 = .ok (.aload_n 3, 1) := by decide +kernel
theorem dL_law_334 : decode cL_law 334 = .ok (.iconst 0, 1) := by decide +kernel
theorem dL_law_335 : decode cL_law 335 = .ok (.laload, 1) := by decide +kernel
theorem dL_law_336 : decode cL_law 336 = .ok (.iload 6, 2) := by decide +kernel
theorem dL_law_338 : decode cL_law 338 = .ok (.ifCond .eq 7, 3) := by decide +kernel
theorem dL_law_341 : decode cL_law 341 = .ok (.lconst 1, 1) := by decide +kernel
theorem dL_law_342 : decode cL_law 342 = .ok (.goto 4, 3) := by decide +kernel
theorem dL_law_345 : decode cL_law 345 = .ok (.lconst 0, 1) := by decide +kernel
theorem dL_law_346 : decode cL_law 346 = .ok (.lcmp, 1) := by decide +kernel
theorem dL_law_347 : decode cL_law 347 = .ok (.ifCond .eq 5, 3) := by decide +kernel
theorem dL_law_350 : decode cL_law 350 = .ok (.iconst 0, 1) := by decide +kernel
theorem dL_law_351 : decode cL_law 351 = .ok (.ireturn, 1) := by decide +kernel
theorem dL_law_352 : decode cL_law 352 = .ok (.goto 1681, 3) := by decide +kernel
theorem dL_law_355 : decode cL_law 355 = .ok (.aload_n 1, 1) := by decide +kernel
theorem dL_law_356 : decode cL_law 356 = .ok (.aload_n 0, 1) := by decide +kernel
theorem dL_law_357 : decode cL_law 357 = .ok (.iload 4, 2) := by decide +kernel
theorem dL_law_359 : decode cL_law 359 = .ok (.iconst 1, 1) := by decide +kernel
theorem dL_law_360 : decode cL_law 360 = .ok (.iadd, 1) := by decide +kernel
theorem dL_law_361 : decode cL_law 361 = .ok (.iaload, 1) := by decide +kernel
theorem dL_law_362 : decode cL_law 362 = .ok (.aload_n 0, 1) := by decide +kernel
theorem dL_law_363 : decode cL_law 363 = .ok (.iload 4, 2) := by decide +kernel
theorem dL_law_365 : decode cL_law 365 = .ok (.iconst 2, 1) := by decide +kernel
theorem dL_law_366 : decode cL_law 366 = .ok (.iadd, 1) := by decide +kernel
theorem dL_law_367 : decode cL_law 367 = .ok (.iaload, 1) := by decide +kernel
theorem dL_law_368 : decode cL_law 368 = .ok (.aload_n 0, 1) := by decide +kernel
theorem dL_law_369 : decode cL_law 369 = .ok (.iload 4, 2) := by decide +kernel
theorem dL_law_371 : decode cL_law 371 = .ok (.iconst 3, 1) := by decide +kernel
theorem dL_law_372 : decode cL_law 372 = .ok (.iadd, 1) := by decide +kernel
theorem dL_law_373 : decode cL_law 373 = .ok (.iaload, 1) := by decide +kernel
theorem dL_law_374 : decode cL_law 374 = .ok (.aload_n 3, 1) := by decide +kernel
theorem dL_law_375 : decode cL_law 375 = .ok (.invokestatic 119, 3) := by decide +kernel
theorem dL_law_378 : decode cL_law 378 = .ok (.istore 5, 2) := by decide +kernel
theorem dL_law_380 : decode cL_law 380 = .ok (.aload_n 2, 1) := by decide +kernel
theorem dL_law_381 : decode cL_law 381 = .ok (.aload_n 0, 1) := by decide +kernel
theorem dL_law_382 : decode cL_law 382 = .ok (.iload 4, 2) := by decide +kernel
theorem dL_law_384 : decode cL_law 384 = .ok (.iconst 1, 1) := by decide +kernel
theorem dL_law_385 : decode cL_law 385 = .ok (.iadd, 1) := by decide +kernel
theorem dL_law_386 : decode cL_law 386 = .ok (.iaload, 1) := by decide +kernel
theorem dL_law_387 : decode cL_law 387 = .ok (.aload_n 0, 1) := by decide +kernel
theorem dL_law_388 : decode cL_law 388 = .ok (.iload 4, 2) := by decide +kernel
theorem dL_law_390 : decode cL_law 390 = .ok (.iconst 2, 1) := by decide +kernel
theorem dL_law_391 : decode cL_law 391 = .ok (.iadd, 1) := by decide +kernel
theorem dL_law_392 : decode cL_law 392 = .ok (.iaload, 1) := by decide +kernel
theorem dL_law_393 : decode cL_law 393 = .ok (.aload_n 0, 1) := by decide +kernel
theorem dL_law_394 : decode cL_law 394 = .ok (.iload 4, 2) := by decide +kernel
theorem dL_law_396 : decode cL_law 396 = .ok (.iconst 3, 1) := by decide +kernel
theorem dL_law_397 : decode cL_law 397 = .ok (.iadd, 1) := by decide +kernel
theorem dL_law_398 : decode cL_law 398 = .ok (.iaload, 1) := by decide +kernel
theorem dL_law_399 : decode cL_law 399 = .ok (.invokevirtual 122, 3) := by decide +kernel
theorem dL_law_402 : decode cL_law 402 = .ok (.istore 6, 2) := by decide +kernel
theorem dL_law_404 : decode cL_law 404 = .ok (.aload_n 2, 1) := by decide +kernel
theorem dL_law_405 : decode cL_law 405 = .ok (.invokevirtual 112, 3) := by decide +kernel
theorem dL_law_408 : decode cL_law 408 = .ok (.iload 5, 2) := by decide +kernel
theorem dL_law_410 : decode cL_law 410 = .ok (.if_icmp .eq 5, 3) := by decide +kernel
theorem dL_law_413 : decode cL_law 413 = .ok (.iconst 0, 1) := by decide +kernel
theorem dL_law_414 : decode cL_law 414 = .ok (.ireturn, 1) := by decide +kernel
theorem dL_law_415 : decode cL_law 415 = .ok (.iload 5, 2) := by decide +kernel
theorem dL_law_417 : decode cL_law 417 = .ok (.ifCond .ne 15, 3) := by decide +kernel
theorem dL_law_420 : decode cL_law 420 = .ok (.aload_n 3, 1) := by decide +kernel
theorem dL_law_421 : decode cL_law 421 = .ok (.iconst 0, 1) := by decide +kernel
theorem dL_law_422 : decode cL_law 422 = .ok (.laload, 1) := by decide +kernel
theorem dL_law_423 : decode cL_law 423 = .ok (.iload 6, 2) := by decide +kernel
theorem dL_law_425 : decode cL_law 425 = .ok (.i2l, 1) := by decide +kernel
theorem dL_law_426 : decode cL_law 426 = .ok (.lcmp, 1) := by decide +kernel
theorem dL_law_427 : decode cL_law 427 = .ok (.ifCond .eq 5, 3) := by decide +kernel
theorem dL_law_430 : decode cL_law 430 = .ok (.iconst 0, 1) := by decide +kernel
theorem dL_law_431 : decode cL_law 431 = .ok (.ireturn, 1) := by decide +kernel
theorem dL_law_432 : decode cL_law 432 = .ok (.goto 1601, 3) := by decide +kernel
theorem dL_law_435 : decode cL_law 435 = .ok (.aload_n 1, 1) := by decide +kernel
theorem dL_law_436 : decode cL_law 436 = .ok (.aload_n 0, 1) := by decide +kernel
theorem dL_law_437 : decode cL_law 437 = .ok (.iload 4, 2) := by decide +kernel
theorem dL_law_439 : decode cL_law 439 = .ok (.iconst 1, 1) := by decide +kernel
theorem dL_law_440 : decode cL_law 440 = .ok (.iadd, 1) := by decide +kernel
theorem dL_law_441 : decode cL_law 441 = .ok (.iaload, 1) := by decide +kernel
theorem dL_law_442 : decode cL_law 442 = .ok (.aload_n 0, 1) := by decide +kernel
theorem dL_law_443 : decode cL_law 443 = .ok (.iload 4, 2) := by decide +kernel
theorem dL_law_445 : decode cL_law 445 = .ok (.iconst 2, 1) := by decide +kernel
theorem dL_law_446 : decode cL_law 446 = .ok (.iadd, 1) := by decide +kernel
theorem dL_law_447 : decode cL_law 447 = .ok (.iaload, 1) := by decide +kernel
theorem dL_law_448 : decode cL_law 448 = .ok (.aload_n 3, 1) := by decide +kernel
theorem dL_law_449 : decode cL_law 449 = .ok (.invokestatic 123, 3) := by decide +kernel
theorem dL_law_452 : decode cL_law 452 = .ok (.istore 5, 2) := by decide +kernel
theorem dL_law_454 : decode cL_law 454 = .ok (.aload_n 2, 1) := by decide +kernel
theorem dL_law_455 : decode cL_law 455 = .ok (.aload_n 0, 1) := by decide +kernel
theorem dL_law_456 : decode cL_law 456 = .ok (.iload 4, 2) := by decide +kernel
theorem dL_law_458 : decode cL_law 458 = .ok (.iconst 1, 1) := by decide +kernel
theorem dL_law_459 : decode cL_law 459 = .ok (.iadd, 1) := by decide +kernel
theorem dL_law_460 : decode cL_law 460 = .ok (.iaload, 1) := by decide +kernel
theorem dL_law_461 : decode cL_law 461 = .ok (.aload_n 0, 1) := by decide +kernel
theorem dL_law_462 : decode cL_law 462 = .ok (.iload 4, 2) := by decide +kernel
theorem dL_law_464 : decode cL_law 464 = .ok (.iconst 2, 1) := by decide +kernel
theorem dL_law_465 : decode cL_law 465 = .ok (.iadd, 1) := by decide +kernel
theorem dL_law_466 : decode cL_law 466 = .ok (.iaload, 1) := by decide +kernel
theorem dL_law_467 : decode cL_law 467 = .ok (.invokevirtual 125, 3) := by decide +kernel
theorem dL_law_470 : decode cL_law 470 = .ok (.istore 6, 2) := by decide +kernel
theorem dL_law_472 : decode cL_law 472 = .ok (.aload_n 2, 1) := by decide +kernel
theorem dL_law_473 : decode cL_law 473 = .ok (.invokevirtual 112, 3) := by decide +kernel
theorem dL_law_476 : decode cL_law 476 = .ok (.iload 5, 2) := by decide +kernel
theorem dL_law_478 : decode cL_law 478 = .ok (.if_icmp .eq 5, 3) := by decide +kernel
theorem dL_law_481 : decode cL_law 481 = .ok (.iconst 0, 1) := by decide +kernel
theorem dL_law_482 : decode cL_law 482 = .ok (.ireturn, 1) := by decide +kernel
theorem dL_law_483 : decode cL_law 483 = .ok (.iload 5, 2) := by decide +kernel
theorem dL_law_485 : decode cL_law 485 = .ok (.ifCond .ne 15, 3) := by decide +kernel
theorem dL_law_488 : decode cL_law 488 = .ok (.aload_n 3, 1) := by decide +kernel
theorem dL_law_489 : decode cL_law 489 = .ok (.iconst 0, 1) := by decide +kernel
theorem dL_law_490 : decode cL_law 490 = .ok (.laload, 1) := by decide +kernel
theorem dL_law_491 : decode cL_law 491 = .ok (.iload 6, 2) := by decide +kernel
theorem dL_law_493 : decode cL_law 493 = .ok (.i2l, 1) := by decide +kernel
theorem dL_law_494 : decode cL_law 494 = .ok (.lcmp, 1) := by decide +kernel
theorem dL_law_495 : decode cL_law 495 = .ok (.ifCond .eq 5, 3) := by decide +kernel
theorem dL_law_498 : decode cL_law 498 = .ok (.iconst 0, 1) := by decide +kernel
theorem dL_law_499 : decode cL_law 499 = .ok (.ireturn, 1) := by decide +kernel
theorem dL_law_500 : decode cL_law 500 = .ok (.goto 1533, 3) := by decide +kernel
theorem dL_law_503 : decode cL_law 503 = .ok (.aload_n 1, 1) := by decide +kernel
theorem dL_law_504 : decode cL_law 504 = .ok (.aload_n 0, 1) := by decide +kernel
theorem dL_law_505 : decode cL_law 505 = .ok (.iload 4, 2) := by decide +kernel
theorem dL_law_507 : decode cL_law 507 = .ok (.iconst 1, 1) := by decide +kernel
theorem dL_law_508 : decode cL_law 508 = .ok (.iadd, 1) := by decide +kernel
theorem dL_law_509 : decode cL_law 509 = .ok (.iaload, 1) := by decide +kernel
theorem dL_law_510 : decode cL_law 510 = .ok (.aload_n 0, 1) := by decide +kernel
theorem dL_law_511 : decode cL_law 511 = .ok (.iload 4, 2) := by decide +kernel
theorem dL_law_513 : decode cL_law 513 = .ok (.iconst 2, 1) := by decide +kernel
theorem dL_law_514 : decode cL_law 514 = .ok (.iadd, 1) := by decide +kernel
theorem dL_law_515 : decode cL_law 515 = .ok (.iaload, 1) := by decide +kernel
theorem dL_law_516 : decode cL_law 516 = .ok (.aload_n 3, 1) := by decide +kernel
theorem dL_law_517 : decode cL_law 517 = .ok (.invokestatic 126, 3) := by decide +kernel
theorem dL_law_520 : decode cL_law 520 = .ok (.istore 5, 2) := by decide +kernel
theorem dL_law_522 : decode cL_law 522 = .ok (.aload_n 2, 1) := by decide +kernel
theorem dL_law_523 : decode cL_law 523 = .ok (.aload_n 0, 1) := by decide +kernel
theorem dL_law_524 : decode cL_law 524 = .ok (.iload 4, 2) := by decide +kernel
theorem dL_law_526 : decode cL_law 526 = .ok (.iconst 1, 1) := by decide +kernel
theorem dL_law_527 : decode cL_law 527 = .ok (.iadd, 1) := by decide +kernel
theorem dL_law_528 : decode cL_law 528 = .ok (.iaload, 1) := by decide +kernel
theorem dL_law_529 : decode cL_law 529 = .ok (.aload_n 0, 1) := by decide +kernel
theorem dL_law_530 : decode cL_law 530 = .ok (.iload 4, 2) := by decide +kernel
theorem dL_law_532 : decode cL_law 532 = .ok (.iconst 2, 1) := by decide +kernel
theorem dL_law_533 : decode cL_law 533 = .ok (.iadd, 1) := by decide +kernel
theorem dL_law_534 : decode cL_law 534 = .ok (.iaload, 1) := by decide +kernel
theorem dL_law_535 : decode cL_law 535 = .ok (.invokevirtual 128, 3) := by decide +kernel
theorem dL_law_538 : decode cL_law 538 = .ok (.istore 6, 2) := by decide +kernel
theorem dL_law_540 : decode cL_law 540 = .ok (.aload_n 2, 1) := by decide +kernel
theorem dL_law_541 : decode cL_law 541 = .ok (.invokevirtual 112, 3) := by decide +kernel
theorem dL_law_544 : decode cL_law 544 = .ok (.iload 5, 2) := by decide +kernel
theorem dL_law_546 : decode cL_law 546 = .ok (.if_icmp .eq 5, 3) := by decide +kernel
theorem dL_law_549 : decode cL_law 549 = .ok (.iconst 0, 1) := by decide +kernel
theorem dL_law_550 : decode cL_law 550 = .ok (.ireturn, 1) := by decide +kernel
theorem dL_law_551 : decode cL_law 551 = .ok (.iload 5, 2) := by decide +kernel
theorem dL_law_553 : decode cL_law 553 = .ok (.ifCond .ne 15, 3) := by decide +kernel
theorem dL_law_556 : decode cL_law 556 = .ok (.aload_n 3, 1) := by decide +kernel
theorem dL_law_557 : decode cL_law 557 = .ok (.iconst 0, 1) := by decide +kernel
theorem dL_law_558 : decode cL_law 558 = .ok (.laload, 1) := by decide +kernel
theorem dL_law_559 : decode cL_law 559 = .ok (.iload 6, 2) := by decide +kernel
theorem dL_law_561 : decode cL_law 561 = .ok (.i2l, 1) := by decide +kernel
theorem dL_law_562 : decode cL_law 562 = .ok (.lcmp, 1) := by decide +kernel
theorem dL_law_563 : decode cL_law 563 = .ok (.ifCond .eq 5, 3) := by decide +kernel
theorem dL_law_566 : decode cL_law 566 = .ok (.iconst 0, 1) := by decide +kernel
theorem dL_law_567 : decode cL_law 567 = .ok (.ireturn, 1) := by decide +kernel
theorem dL_law_568 : decode cL_law 568 = .ok (.goto 1465, 3) := by decide +kernel
theorem dL_law_571 : decode cL_law 571 = .ok (.aload_n 1, 1) := by decide +kernel
theorem dL_law_572 : decode cL_law 572 = .ok (.aload_n 0, 1) := by decide +kernel
theorem dL_law_573 : decode cL_law 573 = .ok (.iload 4, 2) := by decide +kernel
theorem dL_law_575 : decode cL_law 575 = .ok (.iconst 1, 1) := by decide +kernel
theorem dL_law_576 : decode cL_law 576 = .ok (.iadd, 1) := by decide +kernel
theorem dL_law_577 : decode cL_law 577 = .ok (.iaload, 1) := by decide +kernel
theorem dL_law_578 : decode cL_law 578 = .ok (.aload_n 0, 1) := by decide +kernel
theorem dL_law_579 : decode cL_law 579 = .ok (.iload 4, 2) := by decide +kernel
theorem dL_law_581 : decode cL_law 581 = .ok (.iconst 2, 1) := by decide +kernel
theorem dL_law_582 : decode cL_law 582 = .ok (.iadd, 1) := by decide +kernel
theorem dL_law_583 : decode cL_law 583 = .ok (.iaload, 1) := by decide +kernel
theorem dL_law_584 : decode cL_law 584 = .ok (.aload_n 0, 1) := by decide +kernel
theorem dL_law_585 : decode cL_law 585 = .ok (.iload 4, 2) := by decide +kernel
theorem dL_law_587 : decode cL_law 587 = .ok (.iconst 3, 1) := by decide +kernel
theorem dL_law_588 : decode cL_law 588 = .ok (.iadd, 1) := by decide +kernel
theorem dL_law_589 : decode cL_law 589 = .ok (.iaload, 1) := by decide +kernel
theorem dL_law_590 : decode cL_law 590 = .ok (.aload_n 3, 1) := by decide +kernel
theorem dL_law_591 : decode cL_law 591 = .ok (.invokestatic 129, 3) := by decide +kernel
theorem dL_law_594 : decode cL_law 594 = .ok (.istore 5, 2) := by decide +kernel
theorem dL_law_596 : decode cL_law 596 = .ok (.aload_n 2, 1) := by decide +kernel
theorem dL_law_597 : decode cL_law 597 = .ok (.aload_n 0, 1) := by decide +kernel
theorem dL_law_598 : decode cL_law 598 = .ok (.iload 4, 2) := by decide +kernel
theorem dL_law_600 : decode cL_law 600 = .ok (.iconst 1, 1) := by decide +kernel
theorem dL_law_601 : decode cL_law 601 = .ok (.iadd, 1) := by decide +kernel
theorem dL_law_602 : decode cL_law 602 = .ok (.iaload, 1) := by decide +kernel
theorem dL_law_603 : decode cL_law 603 = .ok (.aload_n 0, 1) := by decide +kernel
theorem dL_law_604 : decode cL_law 604 = .ok (.iload 4, 2) := by decide +kernel
theorem dL_law_606 : decode cL_law 606 = .ok (.iconst 2, 1) := by decide +kernel
theorem dL_law_607 : decode cL_law 607 = .ok (.iadd, 1) := by decide +kernel
theorem dL_law_608 : decode cL_law 608 = .ok (.iaload, 1) := by decide +kernel
theorem dL_law_609 : decode cL_law 609 = .ok (.aload_n 0, 1) := by decide +kernel
theorem dL_law_610 : decode cL_law 610 = .ok (.iload 4, 2) := by decide +kernel
theorem dL_law_612 : decode cL_law 612 = .ok (.iconst 3, 1) := by decide +kernel
theorem dL_law_613 : decode cL_law 613 = .ok (.iadd, 1) := by decide +kernel
theorem dL_law_614 : decode cL_law 614 = .ok (.iaload, 1) := by decide +kernel
theorem dL_law_615 : decode cL_law 615 = .ok (.invokevirtual 131, 3) := by decide +kernel
theorem dL_law_618 : decode cL_law 618 = .ok (.istore 6, 2) := by decide +kernel
theorem dL_law_620 : decode cL_law 620 = .ok (.aload_n 2, 1) := by decide +kernel
theorem dL_law_621 : decode cL_law 621 = .ok (.invokevirtual 112, 3) := by decide +kernel
theorem dL_law_624 : decode cL_law 624 = .ok (.iload 5, 2) := by decide +kernel
theorem dL_law_626 : decode cL_law 626 = .ok (.if_icmp .eq 5, 3) := by decide +kernel
theorem dL_law_629 : decode cL_law 629 = .ok (.iconst 0, 1) := by decide +kernel
theorem dL_law_630 : decode cL_law 630 = .ok (.ireturn, 1) := by decide +kernel
theorem dL_law_631 : decode cL_law 631 = .ok (.iload 5, 2) := by decide +kernel
theorem dL_law_633 : decode cL_law 633 = .ok (.ifCond .ne 15, 3) := by decide +kernel
theorem dL_law_636 : decode cL_law 636 = .ok (.aload_n 3, 1) := by decide +kernel
theorem dL_law_637 : decode cL_law 637 = .ok (.iconst 0, 1) := by decide +kernel
theorem dL_law_638 : decode cL_law 638 = .ok (.laload, 1) := by decide +kernel
theorem dL_law_639 : decode cL_law 639 = .ok (.iload 6, 2) := by decide +kernel
theorem dL_law_641 : decode cL_law 641 = .ok (.i2l, 1) := by decide +kernel
theorem dL_law_642 : decode cL_law 642 = .ok (.lcmp, 1) := by decide +kernel
theorem dL_law_643 : decode cL_law 643 = .ok (.ifCond .eq 5, 3) := by decide +kernel
theorem dL_law_646 : decode cL_law 646 = .ok (.iconst 0, 1) := by decide +kernel
theorem dL_law_647 : decode cL_law 647 = .ok (.ireturn, 1) := by decide +kernel
theorem dL_law_648 : decode cL_law 648 = .ok (.goto 1385, 3) := by decide +kernel
theorem dL_law_651 : decode cL_law 651 = .ok (.aload_n 1, 1) := by decide +kernel
theorem dL_law_652 : decode cL_law 652 = .ok (.aload_n 0, 1) := by decide +kernel
theorem dL_law_653 : decode cL_law 653 = .ok (.iload 4, 2) := by decide +kernel
theorem dL_law_655 : decode cL_law 655 = .ok (.iconst 1, 1) := by decide +kernel
theorem dL_law_656 : decode cL_law 656 = .ok (.iadd, 1) := by decide +kernel
theorem dL_law_657 : decode cL_law 657 = .ok (.iaload, 1) := by decide +kernel
theorem dL_law_658 : decode cL_law 658 = .ok (.aload_n 3, 1) := by decide +kernel
theorem dL_law_659 : decode cL_law 659 = .ok (.invokestatic 132, 3) := by decide +kernel
theorem dL_law_662 : decode cL_law 662 = .ok (.istore 5, 2) := by decide +kernel
theorem dL_law_664 : decode cL_law 664 = .ok (.aload_n 2, 1) := by decide +kernel
theorem dL_law_665 : decode cL_law 665 = .ok (.aload_n 0, 1) := by decide +kernel
theorem dL_law_666 : decode cL_law 666 = .ok (.iload 4, 2) := by decide +kernel
theorem dL_law_668 : decode cL_law 668 = .ok (.iconst 1, 1) := by decide +kernel
theorem dL_law_669 : decode cL_law 669 = .ok (.iadd, 1) := by decide +kernel
theorem dL_law_670 : decode cL_law 670 = .ok (.iaload, 1) := by decide +kernel
theorem dL_law_671 : decode cL_law 671 = .ok (.invokevirtual 135, 3) := by decide +kernel
theorem dL_law_674 : decode cL_law 674 = .ok (.istore 6, 2) := by decide +kernel
theorem dL_law_676 : decode cL_law 676 = .ok (.aload_n 2, 1) := by decide +kernel
theorem dL_law_677 : decode cL_law 677 = .ok (.invokevirtual 112, 3) := by decide +kernel
theorem dL_law_680 : decode cL_law 680 = .ok (.iload 5, 2) := by decide +kernel
theorem dL_law_682 : decode cL_law 682 = .ok (.if_icmp .eq 5, 3) := by decide +kernel
theorem dL_law_685 : decode cL_law 685 = .ok (.iconst 0, 1) := by decide +kernel
theorem dL_law_686 : decode cL_law 686 = .ok (.ireturn, 1) := by decide +kernel
theorem dL_law_687 : decode cL_law 687 = .ok (.iload 5, 2) := by decide +kernel
theorem dL_law_689 : decode cL_law 689 = .ok (.ifCond .ne 15, 3) := by decide +kernel
theorem dL_law_692 : decode cL_law 692 = .ok (.aload_n 3, 1) := by decide +kernel
theorem dL_law_693 : decode cL_law 693 = .ok (.iconst 0, 1) := by decide +kernel
theorem dL_law_694 : decode cL_law 694 = .ok (.laload, 1) := by decide +kernel
theorem dL_law_695 : decode cL_law 695 = .ok (.iload 6, 2) := by decide +kernel
theorem dL_law_697 : decode cL_law 697 = .ok (.i2l, 1) := by decide +kernel
theorem dL_law_698 : decode cL_law 698 = .ok (.lcmp, 1) := by decide +kernel
theorem dL_law_699 : decode cL_law 699 = .ok (.ifCond .eq 5, 3) := by decide +kernel
theorem dL_law_702 : decode cL_law 702 = .ok (.iconst 0, 1) := by decide +kernel
theorem dL_law_703 : decode cL_law 703 = .ok (.ireturn, 1) := by decide +kernel
theorem dL_law_704 : decode cL_law 704 = .ok (.goto 1329, 3) := by decide +kernel
theorem dL_law_707 : decode cL_law 707 = .ok (.aload_n 1, 1) := by decide +kernel
theorem dL_law_708 : decode cL_law 708 = .ok (.aload_n 0, 1) := by decide +kernel
theorem dL_law_709 : decode cL_law 709 = .ok (.iload 4, 2) := by decide +kernel
theorem dL_law_711 : decode cL_law 711 = .ok (.iconst 1, 1) := by decide +kernel
theorem dL_law_712 : decode cL_law 712 = .ok (.iadd, 1) := by decide +kernel
theorem dL_law_713 : decode cL_law 713 = .ok (.iaload, 1) := by decide +kernel
theorem dL_law_714 : decode cL_law 714 = .ok (.aload_n 3, 1) := by decide +kernel
theorem dL_law_715 : decode cL_law 715 = .ok (.invokestatic 136, 3) := by decide +kernel
theorem dL_law_718 : decode cL_law 718 = .ok (.istore 5, 2) := by decide +kernel
theorem dL_law_720 : decode cL_law 720 = .ok (.aload_n 2, 1) := by decide +kernel
theorem dL_law_721 : decode cL_law 721 = .ok (.aload_n 0, 1) := by decide +kernel
theorem dL_law_722 : decode cL_law 722 = .ok (.iload 4, 2) := by decide +kernel
theorem dL_law_724 : decode cL_law 724 = .ok (.iconst 1, 1) := by decide +kernel
theorem dL_law_725 : decode cL_law 725 = .ok (.iadd, 1) := by decide +kernel
theorem dL_law_726 : decode cL_law 726 = .ok (.iaload, 1) := by decide +kernel
theorem dL_law_727 : decode cL_law 727 = .ok (.invokevirtual 138, 3) := by decide +kernel
theorem dL_law_730 : decode cL_law 730 = .ok (.istore 6, 2) := by decide +kernel
theorem dL_law_732 : decode cL_law 732 = .ok (.aload_n 2, 1) := by decide +kernel
theorem dL_law_733 : decode cL_law 733 = .ok (.invokevirtual 112, 3) := by decide +kernel
theorem dL_law_736 : decode cL_law 736 = .ok (.iload 5, 2) := by decide +kernel
theorem dL_law_738 : decode cL_law 738 = .ok (.if_icmp .eq 5, 3) := by decide +kernel
theorem dL_law_741 : decode cL_law 741 = .ok (.iconst 0, 1) := by decide +kernel
theorem dL_law_742 : decode cL_law 742 = .ok (.ireturn, 1) := by decide +kernel
theorem dL_law_743 : decode cL_law 743 = .ok (.iload 5, 2) := by decide +kernel
theorem dL_law_745 : decode cL_law 745 = .ok (.ifCond .ne 15, 3) := by decide +kernel
theorem dL_law_748 : decode cL_law 748 = .ok (.aload_n 3, 1) := by decide +kernel
theorem dL_law_749 : decode cL_law 749 = .ok (.iconst 0, 1) := by decide +kernel
theorem dL_law_750 : decode cL_law 750 = .ok (.laload, 1) := by decide +kernel
theorem dL_law_751 : decode cL_law 751 = .ok (.iload 6, 2) := by decide +kernel
theorem dL_law_753 : decode cL_law 753 = .ok (.i2l, 1) := by decide +kernel
theorem dL_law_754 : decode cL_law 754 = .ok (.lcmp, 1) := by decide +kernel
theorem dL_law_755 : decode cL_law 755 = .ok (.ifCond .eq 5, 3) := by decide +kernel
theorem dL_law_758 : decode cL_law 758 = .ok (.iconst 0, 1) := by decide +kernel
theorem dL_law_759 : decode cL_law 759 = .ok (.ireturn, 1) := by decide +kernel
theorem dL_law_760 : decode cL_law 760 = .ok (.goto 1273, 3) := by decide +kernel
theorem dL_law_763 : decode cL_law 763 = .ok (.aload_n 1, 1) := by decide +kernel
theorem dL_law_764 : decode cL_law 764 = .ok (.aload_n 0, 1) := by decide +kernel
theorem dL_law_765 : decode cL_law 765 = .ok (.iload 4, 2) := by decide +kernel
theorem dL_law_767 : decode cL_law 767 = .ok (.iconst 1, 1) := by decide +kernel
theorem dL_law_768 : decode cL_law 768 = .ok (.iadd, 1) := by decide +kernel
theorem dL_law_769 : decode cL_law 769 = .ok (.iaload, 1) := by decide +kernel
theorem dL_law_770 : decode cL_law 770 = .ok (.aload_n 3, 1) := by decide +kernel
theorem dL_law_771 : decode cL_law 771 = .ok (.invokestatic 139, 3) := by decide +kernel
theorem dL_law_774 : decode cL_law 774 = .ok (.istore 5, 2) := by decide +kernel
theorem dL_law_776 : decode cL_law 776 = .ok (.aload_n 2, 1) := by decide +kernel
theorem dL_law_777 : decode cL_law 777 = .ok (.aload_n 0, 1) := by decide +kernel
theorem dL_law_778 : decode cL_law 778 = .ok (.iload 4, 2) := by decide +kernel
theorem dL_law_780 : decode cL_law 780 = .ok (.iconst 1, 1) := by decide +kernel
theorem dL_law_781 : decode cL_law 781 = .ok (.iadd, 1) := by decide +kernel
theorem dL_law_782 : decode cL_law 782 = .ok (.iaload, 1) := by decide +kernel
theorem dL_law_783 : decode cL_law 783 = .ok (.invokevirtual 141, 3) := by decide +kernel
theorem dL_law_786 : decode cL_law 786 = .ok (.istore 6, 2) := by decide +kernel
theorem dL_law_788 : decode cL_law 788 = .ok (.aload_n 2, 1) := by decide +kernel
theorem dL_law_789 : decode cL_law 789 = .ok (.invokevirtual 112, 3) := by decide +kernel
theorem dL_law_792 : decode cL_law 792 = .ok (.iload 5, 2) := by decide +kernel
theorem dL_law_794 : decode cL_law 794 = .ok (.if_icmp .eq 5, 3) := by decide +kernel
theorem dL_law_797 : decode cL_law 797 = .ok (.iconst 0, 1) := by decide +kernel
theorem dL_law_798 : decode cL_law 798 = .ok (.ireturn, 1) := by decide +kernel
theorem dL_law_799 : decode cL_law 799 = .ok (.iload 5, 2) := by decide +kernel
