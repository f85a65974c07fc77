theorem dJ9_max_7cf53_0 : decode cJ9_max_7cf53 0 = .ok (.iload_n 0, 1) := by decide +kernel
theorem dJ9_max_7cf53_1 : decode cJ9_max_7cf53 1 = .ok (.iload_n 1, 1) := by decide +kernel
theorem dJ9_max_7cf53_2 : decode cJ9_max_7cf53 2 = .ok (.if_icmp .lt 7, 3) := by decide +kernel
theorem dJ9_max_7cf53_5 : decode cJ9_max_7cf53 5 = .ok (.iload_n 0, 1) := by decide +kernel
theorem dJ9_max_7cf53_6 : decode cJ9_max_7cf53 6 = .ok (.goto 4, 3) := by decide +kernel
theorem dJ9_max_7cf53_9 : decode cJ9_max_7cf53 9 = .ok (.iload_n 1, 1) := by decide +kernel
theorem dJ9_max_7cf53_10 : decode cJ9_max_7cf53 10 = .ok (.ireturn, 1) := by decide +kernel
theorem dL_cell_0 : decode cL_cell 0 = .ok (.ldc 7, 2) := by decide +kernel
theorem dL_cell_2 : decode cL_cell 2 = .ok (.iload_n 1, 1) := by decide +kernel
theorem dL_cell_3 : decode cL_cell 3 = .ok (.aload_n 0, 1) := by decide +kernel
theorem dL_cell_4 : decode cL_cell 4 = .ok (.arraylength, 1) := by decide +kernel
theorem dL_cell_5 : decode cL_cell 5 = .ok (.if_icmp .ge 9, 3) := by decide +kernel
theorem dL_cell_8 : decode cL_cell 8 = .ok (.aload_n 0, 1) := by decide +kernel
theorem dL_cell_9 : decode cL_cell 9 = .ok (.iload_n 1, 1) := by decide +kernel
theorem dL_cell_10 : decode cL_cell 10 = .ok (.iaload, 1) := by decide +kernel
theorem dL_cell_11 : decode cL_cell 11 = .ok (.goto 4, 3) := by decide +kernel
theorem dL_cell_14 : decode cL_cell 14 = .ok (.iconst 0, 1) := by decide +kernel
theorem dL_cell_15 : decode cL_cell 15 = .ok (.sipush 1009, 3) := by decide +kernel
theorem dL_cell_18 : decode cL_cell 18 = .ok (.iload_n 1, 1) := by decide +kernel
theorem dL_cell_19 : decode cL_cell 19 = .ok (.imul, 1) := by decide +kernel
theorem dL_cell_20 : decode cL_cell 20 = .ok (.iadd, 1) := by decide +kernel
theorem dL_cell_21 : decode cL_cell 21 = .ok (.imul, 1) := by decide +kernel
theorem dL_cell_22 : decode cL_cell 22 = .ok (.sipush 12345, 3) := by decide +kernel
theorem dL_cell_25 : decode cL_cell 25 = .ok (.iadd, 1) := by decide +kernel
theorem dL_cell_26 : decode cL_cell 26 = .ok (.istore_n 2, 1) := by decide +kernel
theorem dL_cell_27 : decode cL_cell 27 = .ok (.iload_n 2, 1) := by decide +kernel
theorem dL_cell_28 : decode cL_cell 28 = .ok (.iload_n 2, 1) := by decide +kernel
theorem dL_cell_29 : decode cL_cell 29 = .ok (.bipush 13, 2) := by decide +kernel
theorem dL_cell_31 : decode cL_cell 31 = .ok (.iushr, 1) := by decide +kernel
theorem dL_cell_32 : decode cL_cell 32 = .ok (.ixor, 1) := by decide +kernel
theorem dL_cell_33 : decode cL_cell 33 = .ok (.ldc 8, 2) := by decide +kernel
theorem dL_cell_35 : decode cL_cell 35 = .ok (.imul, 1) := by decide +kernel
theorem dL_cell_36 : decode cL_cell 36 = .ok (.istore_n 2, 1) := by decide +kernel
theorem dL_cell_37 : decode cL_cell 37 = .ok (.iload_n 2, 1) := by decide +kernel
theorem dL_cell_38 : decode cL_cell 38 = .ok (.iload_n 2, 1) := by decide +kernel
theorem dL_cell_39 : decode cL_cell 39 = .ok (.bipush 16, 2) := by decide +kernel
theorem dL_cell_41 : decode cL_cell 41 = .ok (.iushr, 1) := by decide +kernel
theorem dL_cell_42 : decode cL_cell 42 = .ok (.ixor, 1) := by decide +kernel
theorem dL_cell_43 : decode cL_cell 43 = .ok (.ireturn, 1) := by decide +kernel
theorem dL_addFeature_0 : decode cL_addFeature 0 = .ok (.aload_n 0, 1) := by decide +kernel
theorem dL_addFeature_1 : decode cL_addFeature 1 = .ok (.iload_n 1, 1) := by decide +kernel
theorem dL_addFeature_2 : decode cL_addFeature 2 = .ok (.iload_n 2, 1) := by decide +kernel
theorem dL_addFeature_3 : decode cL_addFeature 3 = .ok (.invokevirtual 9, 3) := by decide +kernel
theorem dL_addFeature_6 : decode cL_addFeature 6 = .ok (.ireturn, 1) := by decide +kernel
theorem dL_addFeature_7 : decode cL_addFeature 7 = .ok (.astore_n 3, 1) := by decide +kernel
theorem dL_addFeature_8 : decode cL_addFeature 8 = .ok (.ldc 17, 2) := by decide +kernel
theorem dL_addFeature_10 : decode cL_addFeature 10 = .ok (.ireturn, 1) := by decide +kernel
theorem dL_addFeature_11 : decode cL_addFeature 11 = .ok (.astore_n 3, 1) := by decide +kernel
theorem dL_addFeature_12 : decode cL_addFeature 12 = .ok (.ldc 20, 2) := by decide +kernel
theorem dL_addFeature_14 : decode cL_addFeature 14 = .ok (.ireturn, 1) := by decide +kernel
theorem dL_addFeature_15 : decode cL_addFeature 15 = .ok (.astore_n 3, 1) := by decide +kernel
theorem dL_addFeature_16 : decode cL_addFeature 16 = .ok (.ldc 23, 2) := by decide +kernel
theorem dL_addFeature_18 : decode cL_addFeature 18 = .ok (.ireturn, 1) := by decide +kernel
theorem dL_setGroup_0 : decode cL_setGroup 0 = .ok (.aload_n 0, 1) := by decide +kernel
theorem dL_setGroup_1 : decode cL_setGroup 1 = .ok (.iload_n 1, 1) := by decide +kernel
theorem dL_setGroup_2 : decode cL_setGroup 2 = .ok (.iload_n 2, 1) := by decide +kernel
theorem dL_setGroup_3 : decode cL_setGroup 3 = .ok (.iload_n 3, 1) := by decide +kernel
theorem dL_setGroup_4 : decode cL_setGroup 4 = .ok (.invokevirtual 24, 3) := by decide +kernel
theorem dL_setGroup_7 : decode cL_setGroup 7 = .ok (.ireturn, 1) := by decide +kernel
theorem dL_setGroup_8 : decode cL_setGroup 8 = .ok (.astore 4, 2) := by decide +kernel
theorem dL_setGroup_10 : decode cL_setGroup 10 = .ok (.ldc 17, 2) := by decide +kernel
theorem dL_setGroup_12 : decode cL_setGroup 12 = .ok (.ireturn, 1) := by decide +kernel
theorem dL_setGroup_13 : decode cL_setGroup 13 = .ok (.astore 4, 2) := by decide +kernel
theorem dL_setGroup_15 : decode cL_setGroup 15 = .ok (.ldc 20, 2) := by decide +kernel
theorem dL_setGroup_17 : decode cL_setGroup 17 = .ok (.ireturn, 1) := by decide +kernel
theorem dL_setGroup_18 : decode cL_setGroup 18 = .ok (.astore 4, 2) := by decide +kernel
theorem dL_setGroup_20 : decode cL_setGroup 20 = .ok (.ldc 23, 2) := by decide +kernel
theorem dL_setGroup_22 : decode cL_setGroup 22 = .ok (.ireturn, 1) := by decide +kernel
theorem dL_require_0 : decode cL_require 0 = .ok (.aload_n 0, 1) := by decide +kernel
theorem dL_require_1 : decode cL_require 1 = .ok (.iload_n 1, 1) := by decide +kernel
theorem dL_require_2 : decode cL_require 2 = .ok (.iload_n 2, 1) := by decide +kernel
theorem dL_require_3 : decode cL_require 3 = .ok (.invokevirtual 30, 3) := by decide +kernel
theorem dL_require_6 : decode cL_require 6 = .ok (.ireturn, 1) := by decide +kernel
theorem dL_require_7 : decode cL_require 7 = .ok (.astore_n 3, 1) := by decide +kernel
theorem dL_require_8 : decode cL_require 8 = .ok (.ldc 17, 2) := by decide +kernel
theorem dL_require_10 : decode cL_require 10 = .ok (.ireturn, 1) := by decide +kernel
theorem dL_require_11 : decode cL_require 11 = .ok (.astore_n 3, 1) := by decide +kernel
theorem dL_require_12 : decode cL_require 12 = .ok (.ldc 20, 2) := by decide +kernel
theorem dL_require_14 : decode cL_require 14 = .ok (.ireturn, 1) := by decide +kernel
theorem dL_require_15 : decode cL_require 15 = .ok (.astore_n 3, 1) := by decide +kernel
theorem dL_require_16 : decode cL_require 16 = .ok (.ldc 23, 2) := by decide +kernel
theorem dL_require_18 : decode cL_require 18 = .ok (.ireturn, 1) := by decide +kernel
theorem dL_require_19 : decode cL_require 19 = .ok (.astore_n 3, 1) := by decide +kernel
theorem dL_require_20 : decode cL_require 20 = .ok (.ldc 33, 2) := by decide +kernel
theorem dL_require_22 : decode cL_require 22 = .ok (.ireturn, 1) := by decide +kernel
theorem dL_exclude_0 : decode cL_exclude 0 = .ok (.aload_n 0, 1) := by decide +kernel
theorem dL_exclude_1 : decode cL_exclude 1 = .ok (.iload_n 1, 1) := by decide +kernel
theorem dL_exclude_2 : decode cL_exclude 2 = .ok (.iload_n 2, 1) := by decide +kernel
theorem dL_exclude_3 : decode cL_exclude 3 = .ok (.invokevirtual 34, 3) := by decide +kernel
theorem dL_exclude_6 : decode cL_exclude 6 = .ok (.ireturn, 1) := by decide +kernel
theorem dL_exclude_7 : decode cL_exclude 7 = .ok (.astore_n 3, 1) := by decide +kernel
theorem dL_exclude_8 : decode cL_exclude 8 = .ok (.ldc 17, 2) := by decide +kernel
theorem dL_exclude_10 : decode cL_exclude 10 = .ok (.ireturn, 1) := by decide +kernel
theorem dL_exclude_11 : decode cL_exclude 11 = .ok (.astore_n 3, 1) := by decide +kernel
theorem dL_exclude_12 : decode cL_exclude 12 = .ok (.ldc 20, 2) := by decide +kernel
theorem dL_exclude_14 : decode cL_exclude 14 = .ok (.ireturn, 1) := by decide +kernel
theorem dL_exclude_15 : decode cL_exclude 15 = .ok (.astore_n 3, 1) := by decide +kernel
theorem dL_exclude_16 : decode cL_exclude 16 = .ok (.ldc 23, 2) := by decide +kernel
theorem dL_exclude_18 : decode cL_exclude 18 = .ok (.ireturn, 1) := by decide +kernel
theorem dL_exclude_19 : decode cL_exclude 19 = .ok (.astore_n 3, 1) := by decide +kernel
theorem dL_exclude_20 : decode cL_exclude 20 = .ok (.ldc 33, 2) := by decide +kernel
theorem dL_exclude_22 : decode cL_exclude 22 = .ok (.ireturn, 1) := by decide +kernel
theorem dL_any_0 : decode cL_any 0 = .ok (.aload_n 0, 1) := by decide +kernel
theorem dL_any_1 : decode cL_any 1 = .ok (.iload_n 1, 1) := by decide +kernel
theorem dL_any_2 : decode cL_any 2 = .ok (.iload_n 2, 1) := by decide +kernel
theorem dL_any_3 : decode cL_any 3 = .ok (.iload_n 3, 1) := by decide +kernel
theorem dL_any_4 : decode cL_any 4 = .ok (.invokevirtual 37, 3) := by decide +kernel
theorem dL_any_7 : decode cL_any 7 = .ok (.ireturn, 1) := by decide +kernel
theorem dL_any_8 : decode cL_any 8 = .ok (.astore 4, 2) := by decide +kernel
theorem dL_any_10 : decode cL_any 10 = .ok (.ldc 17, 2) := by decide +kernel
theorem dL_any_12 : decode cL_any 12 = .ok (.ireturn, 1) := by decide +kernel
theorem dL_any_13 : decode cL_any 13 = .ok (.astore 4, 2) := by decide +kernel
theorem dL_any_15 : decode cL_any 15 = .ok (.ldc 20, 2) := by decide +kernel
theorem dL_any_17 : decode cL_any 17 = .ok (.ireturn, 1) := by decide +kernel
theorem dL_any_18 : decode cL_any 18 = .ok (.astore 4, 2) := by decide +kernel
theorem dL_any_20 : decode cL_any 20 = .ok (.ldc 23, 2) := by decide +kernel
theorem dL_any_22 : decode cL_any 22 = .ok (.ireturn, 1) := by decide +kernel
theorem dL_any_23 : decode cL_any 23 = .ok (.astore 4, 2) := by decide +kernel
theorem dL_any_25 : decode cL_any 25 = .ok (.ldc 33, 2) := by decide +kernel
theorem dL_any_27 : decode cL_any 27 = .ok (.ireturn, 1) := by decide +kernel
theorem dL_lift_0 : decode cL_lift 0 = .ok (.aload_n 0, 1) := by decide +kernel
theorem dL_lift_1 : decode cL_lift 1 = .ok (.iload_n 1, 1) := by decide +kernel
theorem dL_lift_2 : decode cL_lift 2 = .ok (.invokevirtual 40, 3) := by decide +kernel
theorem dL_lift_5 : decode cL_lift 5 = .ok (.ireturn, 1) := by decide +kernel
theorem dL_lift_6 : decode cL_lift 6 = .ok (.astore_n 2, 1) := by decide +kernel
theorem dL_lift_7 : decode cL_lift 7 = .ok (.ldc 17, 2) := by decide +kernel
theorem dL_lift_9 : decode cL_lift 9 = .ok (.ireturn, 1) := by decide +kernel
theorem dL_lift_10 : decode cL_lift 10 = .ok (.astore_n 2, 1) := by decide +kernel
theorem dL_lift_11 : decode cL_lift 11 = .ok (.ldc 20, 2) := by decide +kernel
theorem dL_lift_13 : decode cL_lift 13 = .ok (.ireturn, 1) := by decide +kernel
theorem dL_choose_0 : decode cL_choose 0 = .ok (.aload_n 0, 1) := by decide +kernel
theorem dL_choose_1 : decode cL_choose 1 = .ok (.iload_n 1, 1) := by decide +kernel
theorem dL_choose_2 : decode cL_choose 2 = .ok (.invokevirtual 46, 3) := by decide +kernel
theorem dL_choose_5 : decode cL_choose 5 = .ok (.ireturn, 1) := by decide +kernel
theorem dL_choose_6 : decode cL_choose 6 = .ok (.astore_n 2, 1) := by decide +kernel
theorem dL_choose_7 : decode cL_choose 7 = .ok (.ldc 17, 2) := by decide +kernel
theorem dL_choose_9 : decode cL_choose 9 = .ok (.ireturn, 1) := by decide +kernel
theorem dL_choose_10 : decode cL_choose 10 = .ok (.astore_n 2, 1) := by decide +kernel
theorem dL_choose_11 : decode cL_choose 11 = .ok (.ldc 20, 2) := by decide +kernel
theorem dL_choose_13 : decode cL_choose 13 = .ok (.ireturn, 1) := by decide +kernel
theorem dL_choose_14 : decode cL_choose 14 = .ok (.astore_n 2, 1) := by decide +kernel
theorem dL_choose_15 : decode cL_choose 15 = .ok (.ldc 23, 2) := by decide +kernel
theorem dL_choose_17 : decode cL_choose 17 = .ok (.ireturn, 1) := by decide +kernel
theorem dL_choose_18 : decode cL_choose 18 = .ok (.astore_n 2, 1) := by decide +kernel
theorem dL_choose_19 : decode cL_choose 19 = .ok (.ldc 33, 2) := by decide +kernel
theorem dL_choose_21 : decode cL_choose 21 = .ok (.ireturn, 1) := by decide +kernel
theorem dL_refuse_0 : decode cL_refuse 0 = .ok (.aload_n 0, 1) := by decide +kernel
theorem dL_refuse_1 : decode cL_refuse 1 = .ok (.iload_n 1, 1) := by decide +kernel
theorem dL_refuse_2 : decode cL_refuse 2 = .ok (.invokevirtual 49, 3) := by decide +kernel
theorem dL_refuse_5 : decode cL_refuse 5 = .ok (.ireturn, 1) := by decide +kernel
theorem dL_refuse_6 : decode cL_refuse 6 = .ok (.astore_n 2, 1) := by decide +kernel
theorem dL_refuse_7 : decode cL_refuse 7 = .ok (.ldc 17, 2) := by decide +kernel
theorem dL_refuse_9 : decode cL_refuse 9 = .ok (.ireturn, 1) := by decide +kernel
theorem dL_refuse_10 : decode cL_refuse 10 = .ok (.astore_n 2, 1) := by decide +kernel
theorem dL_refuse_11 : decode cL_refuse 11 = .ok (.ldc 20, 2) := by decide +kernel
theorem dL_refuse_13 : decode cL_refuse 13 = .ok (.ireturn, 1) := by decide +kernel
theorem dL_refuse_14 : decode cL_refuse 14 = .ok (.astore_n 2, 1) := by decide +kernel
theorem dL_refuse_15 : decode cL_refuse 15 = .ok (.ldc 23, 2) := by decide +kernel
theorem dL_refuse_17 : decode cL_refuse 17 = .ok (.ireturn, 1) := by decide +kernel
theorem dL_refuse_18 : decode cL_refuse 18 = .ok (.astore_n 2, 1) := by decide +kernel
theorem dL_refuse_19 : decode cL_refuse 19 = .ok (.ldc 33, 2) := by decide +kernel
theorem dL_refuse_21 : decode cL_refuse 21 = .ok (.ireturn, 1) := by decide +kernel
theorem dL_retract_0 : decode cL_retract 0 = .ok (.aload_n 0, 1) := by decide +kernel
theorem dL_retract_1 : decode cL_retract 1 = .ok (.iload_n 1, 1) := by decide +kernel
theorem dL_retract_2 : decode cL_retract 2 = .ok (.invokevirtual 52, 3) := by decide +kernel
theorem dL_retract_5 : decode cL_retract 5 = .ok (.ireturn, 1) := by decide +kernel
theorem dL_retract_6 : decode cL_retract 6 = .ok (.astore_n 2, 1) := by decide +kernel
theorem dL_retract_7 : decode cL_retract 7 = .ok (.ldc 17, 2) := by decide +kernel
theorem dL_retract_9 : decode cL_retract 9 = .ok (.ireturn, 1) := by decide +kernel
theorem dL_retract_10 : decode cL_retract 10 = .ok (.astore_n 2, 1) := by decide +kernel
theorem dL_retract_11 : decode cL_retract 11 = .ok (.ldc 20, 2) := by decide +kernel
theorem dL_retract_13 : decode cL_retract 13 = .ok (.ireturn, 1) := by decide +kernel
theorem dL_stateOf_0 : decode cL_stateOf 0 = .ok (.aload_n 0, 1) := by decide +kernel
theorem dL_stateOf_1 : decode cL_stateOf 1 = .ok (.iload_n 1, 1) := by decide +kernel
theorem dL_stateOf_2 : decode cL_stateOf 2 = .ok (.invokevirtual 56, 3) := by decide +kernel
theorem dL_stateOf_5 : decode cL_stateOf 5 = .ok (.ireturn, 1) := by decide +kernel
theorem dL_stateOf_6 : decode cL_stateOf 6 = .ok (.astore_n 2, 1) := by decide +kernel
theorem dL_stateOf_7 : decode cL_stateOf 7 = .ok (.ldc 17, 2) := by decide +kernel
theorem dL_stateOf_9 : decode cL_stateOf 9 = .ok (.ireturn, 1) := by decide +kernel
theorem dL_stateByAll_0 : decode cL_stateByAll 0 = .ok (.aload_n 0, 1) := by decide +kernel
theorem dL_stateByAll_1 : decode cL_stateByAll 1 = .ok (.iload_n 1, 1) := by decide +kernel
theorem dL_stateByAll_2 : decode cL_stateByAll 2 = .ok (.invokevirtual 59, 3) := by decide +kernel
theorem dL_stateByAll_5 : decode cL_stateByAll 5 = .ok (.ireturn, 1) := by decide +kernel
theorem dL_stateByAll_6 : decode cL_stateByAll 6 = .ok (.astore_n 2, 1) := by decide +kernel
theorem dL_stateByAll_7 : decode cL_stateByAll 7 = .ok (.ldc 17, 2) := by decide +kernel
theorem dL_stateByAll_9 : decode cL_stateByAll 9 = .ok (.ireturn, 1) := by decide +kernel
theorem dL_setMandatory_0 : decode cL_setMandatory 0 = .ok (.aload_n 0, 1) := by decide +kernel
theorem dL_setMandatory_1 : decode cL_setMandatory 1 = .ok (.iload_n 1, 1) := by decide +kernel
theorem dL_setMandatory_2 : decode cL_setMandatory 2 = .ok (.iload_n 2, 1) := by decide +kernel
theorem dL_setMandatory_3 : decode cL_setMandatory 3 = .ok (.invokevirtual 62, 3) := by decide +kernel
theorem dL_setMandatory_6 : decode cL_setMandatory 6 = .ok (.ifCond .eq 7, 3) := by decide +kernel
theorem dL_setMandatory_9 : decode cL_setMandatory 9 = .ok (.iconst 1, 1) := by decide +kernel
theorem dL_setMandatory_10 : decode cL_setMandatory 10 = .ok (.goto 4, 3) := by decide +kernel
theorem dL_setMandatory_13 : decode cL_setMandatory 13 = .ok (.iconst 0, 1) := by decide +kernel
theorem dL_setMandatory_14 : decode cL_setMandatory 14 = .ok (.ireturn, 1) := by decide +kernel
theorem dL_setMandatory_15 : decode cL_setMandatory 15 = .ok (.astore_n 3, 1) := by decide +kernel
theorem dL_setMandatory_16 : decode cL_setMandatory 16 = .ok (.ldc 17, 2) := by decide +kernel
theorem dL_setMandatory_18 : decode cL_setMandatory 18 = .ok (.ireturn, 1) := by decide +kernel
theorem dL_setMandatory_19 : decode cL_setMandatory 19 = .ok (.astore_n 3, 1) := by decide +kernel
theorem dL_setMandatory_20 : decode cL_setMandatory 20 = .ok (.ldc 20, 2) := by decide +kernel
theorem dL_setMandatory_22 : decode cL_setMandatory 22 = .ok (.ireturn, 1) := by decide +kernel
theorem dL_setMandatory_23 : decode cL_setMandatory 23 = .ok (.astore_n 3, 1) := by decide +kernel
theorem dL_setMandatory_24 : decode cL_setMandatory 24 = .ok (.ldc 23, 2) := by decide +kernel
theorem dL_setMandatory_26 : decode cL_setMandatory 26 = .ok (.ireturn, 1) := by decide +kernel
theorem dL_isConfiguration_0 : decode cL_isConfiguration 0 = .ok (.aload_n 0, 1) := by decide +kernel
theorem dL_isConfiguration_1 : decode cL_isConfiguration 1 = .ok (.iload_n 1, 1) := by decide +kernel
theorem dL_isConfiguration_2 : decode cL_isConfiguration 2 = .ok (.invokevirtual 66, 3) := by decide +kernel
theorem dL_isConfiguration_5 : decode cL_isConfiguration 5 = .ok (.ifCond .eq 7, 3) := by decide +kernel
theorem dL_isConfiguration_8 : decode cL_isConfiguration 8 = .ok (.iconst 1, 1) := by decide +kernel
theorem dL_isConfiguration_9 : decode cL_isConfiguration 9 = .ok (.goto 4, 3) := by decide +kernel
theorem dL_isConfiguration_12 : decode cL_isConfiguration 12 = .ok (.iconst 0, 1) := by decide +kernel
theorem dL_isConfiguration_13 : decode cL_isConfiguration 13 = .ok (.ireturn, 1) := by decide +kernel
theorem dL_isConfiguration_14 : decode cL_isConfiguration 14 = .ok (.astore_n 2, 1) := by decide +kernel
theorem dL_isConfiguration_15 : decode cL_isConfiguration 15 = .ok (.ldc 17, 2) := by decide +kernel
theorem dL_isConfiguration_17 : decode cL_isConfiguration 17 = .ok (.ireturn, 1) := by decide +kernel
theorem dL_in_0 : decode cL_in 0 = .ok (.aload_n 0, 1) := by decide +kernel
theorem dL_in_1 : decode cL_in 1 = .ok (.iload_n 1, 1) := by decide +kernel
theorem dL_in_2 : decode cL_in 2 = .ok (.invokestatic 70, 3) := by decide +kernel
theorem dL_in_5 : decode cL_in 5 = .ok (.ldc 76, 2) := by decide +kernel
theorem dL_in_7 : decode cL_in 7 = .ok (.iand, 1) := by decide +kernel
theorem dL_in_8 : decode cL_in 8 = .ok (.iload_n 2, 1) := by decide +kernel
theorem dL_in_9 : decode cL_in 9 = .ok (.irem, 1) := by decide +kernel
theorem dL_in_10 : decode cL_in 10 = .ok (.ireturn, 1) := by decide +kernel
theorem dL_isIn_0 : decode cL_isIn 0 = .ok (.iload_n 0, 1) := by decide +kernel
theorem dL_isIn_1 : decode cL_isIn 1 = .ok (.iload_n 1, 1) := by decide +kernel
theorem dL_isIn_2 : decode cL_isIn 2 = .ok (.ishr, 1) := by decide +kernel
theorem dL_isIn_3 : decode cL_isIn 3 = .ok (.iconst 1, 1) := by decide +kernel
theorem dL_isIn_4 : decode cL_isIn 4 = .ok (.iand, 1) := by decide +kernel
theorem dL_isIn_5 : decode cL_isIn 5 = .ok (.iconst 1, 1) := by decide +kernel
theorem dL_isIn_6 : decode cL_isIn 6 = .ok (.if_icmp .ne 7, 3) := by decide +kernel
theorem dL_isIn_9 : decode cL_isIn 9 = .ok (.iconst 1, 1) := by decide +kernel
theorem dL_isIn_10 : decode cL_isIn 10 = .ok (.goto 4, 3) := by decide +kernel
theorem dL_isIn_13 : decode cL_isIn 13 = .ok (.iconst 0, 1) := by decide +kernel
theorem dL_isIn_14 : decode cL_isIn 14 = .ok (.ireturn, 1) := by decide +kernel
theorem dL_many_0 : decode cL_many 0 = .ok (.iconst 0, 1) := by decide +kernel
theorem dL_many_1 : decode cL_many 1 = .ok (.istore_n 1, 1) := by decide +kernel
theorem dL_many_2 : decode cL_many 2 = .ok (.iload_n 0, 1) := by decide +kernel
theorem dL_many_3 : decode cL_many 3 = .ok (.istore_n 2, 1) := by decide +kernel
theorem dL_many_4 : decode cL_many 4 = .ok (.iload_n 2, 1) := by decide +kernel
theorem dL_many_5 : decode cL_many 5 = .ok (.ifCond .eq 15, 3) := by decide +kernel
theorem dL_many_8 : decode cL_many 8 = .ok (.iinc 1 1, 3) := by decide +kernel
theorem dL_many_11 : decode cL_many 11 = .ok (.iload_n 2, 1) := by decide +kernel
theorem dL_many_12 : decode cL_many 12 = .ok (.iload_n 2, 1) := by decide +kernel
theorem dL_many_13 : decode cL_many 13 = .ok (.iconst 1, 1) := by decide +kernel
theorem dL_many_14 : decode cL_many 14 = .ok (.isub, 1) := by decide +kernel
theorem dL_many_15 : decode cL_many 15 = .ok (.iand, 1) := by decide +kernel
theorem dL_many_16 : decode cL_many 16 = .ok (.istore_n 2, 1) := by decide +kernel
theorem dL_many_17 : decode cL_many 17 = .ok (.goto (-13), 3) := by decide +kernel
theorem dL_many_20 : decode cL_many 20 = .ok (.iload_n 1, 1) := by decide +kernel
theorem dL_many_21 : decode cL_many 21 = .ok (.ireturn, 1) := by decide +kernel
theorem dL_copy_0 : decode cL_copy 0 = .ok (.aload_n 0, 1) := by decide +kernel
theorem dL_copy_1 : decode cL_copy 1 = .ok (.arraylength, 1) := by decide +kernel
theorem dL_copy_2 : decode cL_copy 2 = .ok (.newarray .int, 2) := by decide +kernel
theorem dL_copy_4 : decode cL_copy 4 = .ok (.astore_n 1, 1) := by decide +kernel
theorem dL_copy_5 : decode cL_copy 5 = .ok (.iconst 0, 1) := by decide +kernel
theorem dL_copy_6 : decode cL_copy 6 = .ok (.istore_n 2, 1) := by decide +kernel
theorem dL_copy_7 : decode cL_copy 7 = .ok (.iload_n 2, 1) := by decide +kernel
theorem dL_copy_8 : decode cL_copy 8 = .ok (.aload_n 0, 1) := by decide +kernel
theorem dL_copy_9 : decode cL_copy 9 = .ok (.arraylength, 1) := by decide +kernel
theorem dL_copy_10 : decode cL_copy 10 = .ok (.if_icmp .ge 15, 3) := by decide +kernel
theorem dL_copy_13 : decode cL_copy 13 = .ok (.aload_n 1, 1) := by decide +kernel
theorem dL_copy_14 : decode cL_copy 14 = .ok (.iload_n 2, 1) := by decide +kernel
theorem dL_copy_15 : decode cL_copy 15 = .ok (.aload_n 0, 1) := by decide +kernel
theorem dL_copy_16 : decode cL_copy 16 = .ok (.iload_n 2, 1) := by decide +kernel
theorem dL_copy_17 : decode cL_copy 17 = .ok (.iaload, 1) := by decide +kernel
theorem dL_copy_18 : decode cL_copy 18 = .ok (.iastore, 1) := by decide +kernel
theorem dL_copy_19 : decode cL_copy 19 = .ok (.iinc 2 1, 3) := by decide +kernel
theorem dL_copy_22 : decode cL_copy 22 = .ok (.goto (-15), 3) := by decide +kernel
theorem dL_copy_25 : decode cL_copy 25 = .ok (.aload_n 1, 1) := by decide +kernel
theorem dL_copy_26 : decode cL_copy 26 = .ok (.areturn, 1) := by decide +kernel
theorem dL_isTree_0 : decode cL_isTree 0 = .ok (.iconst 0, 1) := by decide +kernel
theorem dL_isTree_1 : decode cL_isTree 1 = .ok (.istore_n 3, 1) := by decide +kernel
theorem dL_isTree_2 : decode cL_isTree 2 = .ok (.iconst 1, 1) := by decide +kernel
theorem dL_isTree_3 : decode cL_isTree 3 = .ok (.istore 4, 2) := by decide +kernel
theorem dL_isTree_5 : decode cL_isTree 5 = .ok (.iload_n 2, 1) := by decide +kernel
theorem dL_isTree_6 : decode cL_isTree 6 = .ok (.iconst 1, 1) := by decide +kernel
theorem dL_isTree_7 : decode cL_isTree 7 = .ok (.iadd, 1) := by decide +kernel
theorem dL_isTree_8 : decode cL_isTree 8 = .ok (.istore 5, 2) := by decide +kernel
theorem dL_isTree_10 : decode cL_isTree 10 = .ok (.iload 5, 2) := by decide +kernel
theorem dL_isTree_12 : decode cL_isTree 12 = .ok (.aload_n 0, 1) := by decide +kernel
theorem dL_isTree_13 : decode cL_isTree 13 = .ok (.iconst 0, 1) := by decide +kernel
theorem dL_isTree_14 : decode cL_isTree 14 = .ok (.iaload, 1) := by decide +kernel
theorem dL_isTree_15 : decode cL_isTree 15 = .ok (.if_icmp .ge 123, 3) := by decide +kernel
theorem dL_isTree_18 : decode cL_isTree 18 = .ok (.aload_n 0, 1) := by decide +kernel
theorem dL_isTree_19 : decode cL_isTree 19 = .ok (.bipush 10, 2) := by decide +kernel
theorem dL_isTree_21 : decode cL_isTree 21 = .ok (.iload 5, 2) := by decide +kernel
theorem dL_isTree_23 : decode cL_isTree 23 = .ok (.iadd, 1) := by decide +kernel
theorem dL_isTree_24 : decode cL_isTree 24 = .ok (.iaload, 1) := by decide +kernel
theorem dL_isTree_25 : decode cL_isTree 25 = .ok (.iload_n 2, 1) := by decide +kernel
theorem dL_isTree_26 : decode cL_isTree 26 = .ok (.if_icmp .ne 106, 3) := by decide +kernel
theorem dL_isTree_29 : decode cL_isTree 29 = .ok (.iload_n 3, 1) := by decide +kernel
theorem dL_isTree_30 : decode cL_isTree 30 = .ok (.iload_n 1, 1) := by decide +kernel
theorem dL_isTree_31 : decode cL_isTree 31 = .ok (.iload 5, 2) := by decide +kernel
theorem dL_isTree_33 : decode cL_isTree 33 = .ok (.invokestatic 77, 3) := by decide +kernel
theorem dL_isTree_36 : decode cL_isTree 36 = .ok (.ifCond .eq 7, 3) := by decide +kernel
theorem dL_isTree_39 : decode cL_isTree 39 = .ok (.iconst 1, 1) := by decide +kernel
theorem dL_isTree_40 : decode cL_isTree 40 = .ok (.goto 4, 3) := by decide +kernel
theorem dL_isTree_43 : decode cL_isTree 43 = .ok (.iconst 0, 1) := by decide +kernel
theorem dL_isTree_44 : decode cL_isTree 44 = .ok (.iadd, 1) := by decide +kernel
theorem dL_isTree_45 : decode cL_isTree 45 = .ok (.istore_n 3, 1) := by decide +kernel
theorem dL_isTree_46 : decode cL_isTree 46 = .ok (.iload 4, 2) := by decide +kernel
theorem dL_isTree_48 : decode cL_isTree 48 = .ok (.iload_n 1, 1) := by decide +kernel
theorem dL_isTree_49 : decode cL_isTree 49 = .ok (.iload 5, 2) := by decide +kernel
theorem dL_isTree_51 : decode cL_isTree 51 = .ok (.invokestatic 77, 3) := by decide +kernel
theorem dL_isTree_54 : decode cL_isTree 54 = .ok (.ifCond .ne 21, 3) := by decide +kernel
theorem dL_isTree_57 : decode cL_isTree 57 = .ok (.aload_n 0, 1) := by decide +kernel
theorem dL_isTree_58 : decode cL_isTree 58 = .ok (.bipush 90, 2) := by decide +kernel
theorem dL_isTree_60 : decode cL_isTree 60 = .ok (.iload 5, 2) := by decide +kernel
theorem dL_isTree_62 : decode cL_isTree 62 = .ok (.iadd, 1) := by decide +kernel
theorem dL_isTree_63 : decode cL_isTree 63 = .ok (.iaload, 1) := by decide +kernel
theorem dL_isTree_64 : decode cL_isTree 64 = .ok (.ifCond .eq 11, 3) := by decide +kernel
theorem dL_isTree_67 : decode cL_isTree 67 = .ok (.iload_n 1, 1) := by decide +kernel
theorem dL_isTree_68 : decode cL_isTree 68 = .ok (.iload_n 2, 1) := by decide +kernel
theorem dL_isTree_69 : decode cL_isTree 69 = .ok (.invokestatic 77, 3) := by decide +kernel
theorem dL_isTree_72 : decode cL_isTree 72 = .ok (.ifCond .ne 7, 3) := by decide +kernel
theorem dL_isTree_75 : decode cL_isTree 75 = .ok (.iconst 1, 1) := by decide +kernel
theorem dL_isTree_76 : decode cL_isTree 76 = .ok (.goto 4, 3) := by decide +kernel
theorem dL_isTree_79 : decode cL_isTree 79 = .ok (.iconst 0, 1) := by decide +kernel
theorem dL_isTree_80 : decode cL_isTree 80 = .ok (.iand, 1) := by decide +kernel
theorem dL_isTree_81 : decode cL_isTree 81 = .ok (.istore 4, 2) := by decide +kernel
theorem dL_isTree_83 : decode cL_isTree 83 = .ok (.iload 4, 2) := by decide +kernel
theorem dL_isTree_85 : decode cL_isTree 85 = .ok (.iload_n 1, 1) := by decide +kernel
theorem dL_isTree_86 : decode cL_isTree 86 = .ok (.iload_n 2, 1) := by decide +kernel
theorem dL_isTree_87 : decode cL_isTree 87 = .ok (.invokestatic 77, 3) := by decide +kernel
theorem dL_isTree_90 : decode cL_isTree 90 = .ok (.ifCond .ne 12, 3) := by decide +kernel
theorem dL_isTree_93 : decode cL_isTree 93 = .ok (.iload_n 1, 1) := by decide +kernel
theorem dL_isTree_94 : decode cL_isTree 94 = .ok (.iload 5, 2) := by decide +kernel
theorem dL_isTree_96 : decode cL_isTree 96 = .ok (.invokestatic 77, 3) := by decide +kernel
theorem dL_isTree_99 : decode cL_isTree 99 = .ok (.ifCond .ne 7, 3) := by decide +kernel
theorem dL_isTree_102 : decode cL_isTree 102 = .ok (.iconst 1, 1) := by decide +kernel
theorem dL_isTree_103 : decode cL_isTree 103 = .ok (.goto 4, 3) := by decide +kernel
theorem dL_isTree_106 : decode cL_isTree 106 = .ok (.iconst 0, 1) := by decide +kernel
theorem dL_isTree_107 : decode cL_isTree 107 = .ok (.iand, 1) := by decide +kernel
theorem dL_isTree_108 : decode cL_isTree 108 = .ok (.istore 4, 2) := by decide +kernel
theorem dL_isTree_110 : decode cL_isTree 110 = .ok (.iload 4, 2) := by decide +kernel
theorem dL_isTree_112 : decode cL_isTree 112 = .ok (.ifCond .eq 17, 3) := by decide +kernel
theorem dL_isTree_115 : decode cL_isTree 115 = .ok (.aload_n 0, 1) := by decide +kernel
theorem dL_isTree_116 : decode cL_isTree 116 = .ok (.iload_n 1, 1) := by decide +kernel
theorem dL_isTree_117 : decode cL_isTree 117 = .ok (.iload 5, 2) := by decide +kernel
theorem dL_isTree_119 : decode cL_isTree 119 = .ok (.invokestatic 81, 3) := by decide +kernel
theorem dL_isTree_122 : decode cL_isTree 122 = .ok (.ifCond .eq 7, 3) := by decide +kernel
theorem dL_isTree_125 : decode cL_isTree 125 = .ok (.iconst 1, 1) := by decide +kernel
theorem dL_isTree_126 : decode cL_isTree 126 = .ok (.goto 4, 3) := by decide +kernel
theorem dL_isTree_129 : decode cL_isTree 129 = .ok (.iconst 0, 1) := by decide +kernel
theorem dL_isTree_130 : decode cL_isTree 130 = .ok (.istore 4, 2) := by decide +kernel
theorem dL_isTree_132 : decode cL_isTree 132 = .ok (.iinc 5 1, 3) := by decide +kernel
theorem dL_isTree_135 : decode cL_isTree 135 = .ok (.goto (-125), 3) := by decide +kernel
theorem dL_isTree_138 : decode cL_isTree 138 = .ok (.iload 4, 2) := by decide +kernel
theorem dL_isTree_140 : decode cL_isTree 140 = .ok (.ifCond .eq 35, 3) := by decide +kernel
theorem dL_isTree_143 : decode cL_isTree 143 = .ok (.iload_n 1, 1) := by decide +kernel
theorem dL_isTree_144 : decode cL_isTree 144 = .ok (.iload_n 2, 1) := by decide +kernel
theorem dL_isTree_145 : decode cL_isTree 145 = .ok (.invokestatic 77, 3) := by decide +kernel
theorem dL_isTree_148 : decode cL_isTree 148 = .ok (.ifCond .eq 23, 3) := by decide +kernel
theorem dL_isTree_151 : decode cL_isTree 151 = .ok (.iload_n 3, 1) := by decide +kernel
theorem dL_isTree_152 : decode cL_isTree 152 = .ok (.aload_n 0, 1) := by decide +kernel
theorem dL_isTree_153 : decode cL_isTree 153 = .ok (.bipush 50, 2) := by decide +kernel
theorem dL_isTree_155 : decode cL_isTree 155 = .ok (.iload_n 2, 1) := by decide +kernel
theorem dL_isTree_156 : decode cL_isTree 156 = .ok (.iadd, 1) := by decide +kernel
theorem dL_isTree_157 : decode cL_isTree 157 = .ok (.iaload, 1) := by decide +kernel
theorem dL_isTree_158 : decode cL_isTree 158 = .ok (.if_icmp .lt 17, 3) := by decide +kernel
theorem dL_isTree_161 : decode cL_isTree 161 = .ok (.iload_n 3, 1) := by decide +kernel
theorem dL_isTree_162 : decode cL_isTree 162 = .ok (.aload_n 0, 1) := by decide +kernel
theorem dL_isTree_163 : decode cL_isTree 163 = .ok (.bipush 70, 2) := by decide +kernel
theorem dL_isTree_165 : decode cL_isTree 165 = .ok (.iload_n 2, 1) := by decide +kernel
theorem dL_isTree_166 : decode cL_isTree 166 = .ok (.iadd, 1) := by decide +kernel
theorem dL_isTree_167 : decode cL_isTree 167 = .ok (.iaload, 1) := by decide +kernel
theorem dL_isTree_168 : decode cL_isTree 168 = .ok (.if_icmp .gt 7, 3) := by decide +kernel
theorem dL_isTree_171 : decode cL_isTree 171 = .ok (.iconst 1, 1) := by decide +kernel
theorem dL_isTree_172 : decode cL_isTree 172 = .ok (.goto 4, 3) := by decide +kernel
theorem dL_isTree_175 : decode cL_isTree 175 = .ok (.iconst 0, 1) := by decide +kernel
theorem dL_isTree_176 : decode cL_isTree 176 = .ok (.ireturn, 1) := by decide +kernel
theorem dL_isRight_0 : decode cL_isRight 0 = .ok (.iload_n 1, 1) := by decide +kernel
theorem dL_isRight_1 : decode cL_isRight 1 = .ok (.iconst 0, 1) := by decide +kernel
theorem dL_isRight_2 : decode cL_isRight 2 = .ok (.invokestatic 77, 3) := by decide +kernel
theorem dL_isRight_5 : decode cL_isRight 5 = .ok (.ifCond .eq 12, 3) := by decide +kernel
theorem dL_isRight_8 : decode cL_isRight 8 = .ok (.aload_n 0, 1) := by decide +kernel
theorem dL_isRight_9 : decode cL_isRight 9 = .ok (.iload_n 1, 1) := by decide +kernel
theorem dL_isRight_10 : decode cL_isRight 10 = .ok (.iconst 0, 1) := by decide +kernel
theorem dL_isRight_11 : decode cL_isRight 11 = .ok (.invokestatic 81, 3) := by decide +kernel
theorem dL_isRight_14 : decode cL_isRight 14 = .ok (.ifCond .ne 5, 3) := by decide +kernel
theorem dL_isRight_17 : decode cL_isRight 17 = .ok (.iconst 0, 1) := by decide +kernel
theorem dL_isRight_18 : decode cL_isRight 18 = .ok (.ireturn, 1) := by decide +kernel
theorem dL_isRight_19 : decode cL_isRight 19 = .ok (.iconst 1, 1) := by decide +kernel
theorem dL_isRight_20 : decode cL_isRight 20 = .ok (.istore_n 2, 1) := by decide +kernel
theorem dL_isRight_21 : decode cL_isRight 21 = .ok (.iconst 0, 1) := by decide +kernel
theorem dL_isRight_22 : decode cL_isRight 22 = .ok (.istore_n 3, 1) := by decide +kernel
theorem dL_isRight_23 : decode cL_isRight 23 = .ok (.iload_n 3, 1) := by decide +kernel
theorem dL_isRight_24 : decode cL_isRight 24 = .ok (.aload_n 0, 1) := by decide +kernel
theorem dL_isRight_25 : decode cL_isRight 25 = .ok (.iconst 1, 1) := by decide +kernel
theorem dL_isRight_26 : decode cL_isRight 26 = .ok (.iaload, 1) := by decide +kernel
theorem dL_isRight_27 : decode cL_isRight 27 = .ok (.if_icmp .ge 145, 3) := by decide +kernel
theorem dL_isRight_30 : decode cL_isRight 30 = .ok (.bipush 110, 2) := by decide +kernel
theorem dL_isRight_32 : decode cL_isRight 32 = .ok (.iconst 5, 1) := by decide +kernel
theorem dL_isRight_33 : decode cL_isRight 33 = .ok (.iload_n 3, 1) := by decide +kernel
theorem dL_isRight_34 : decode cL_isRight 34 = .ok (.imul, 1) := by decide +kernel
theorem dL_isRight_35 : decode cL_isRight 35 = .ok (.iadd, 1) := by decide +kernel
theorem dL_isRight_36 : decode cL_isRight 36 = .ok (.istore 4, 2) := by decide +kernel
theorem dL_isRight_38 : decode cL_isRight 38 = .ok (.iload_n 1, 1) := by decide +kernel
theorem dL_isRight_39 : decode cL_isRight 39 = .ok (.aload_n 0, 1) := by decide +kernel
theorem dL_isRight_40 : decode cL_isRight 40 = .ok (.iload 4, 2) := by decide +kernel
theorem dL_isRight_42 : decode cL_isRight 42 = .ok (.iconst 1, 1) := by decide +kernel
theorem dL_isRight_43 : decode cL_isRight 43 = .ok (.iadd, 1) := by decide +kernel
theorem dL_isRight_44 : decode cL_isRight 44 = .ok (.iaload, 1) := by decide +kernel
theorem dL_isRight_45 : decode cL_isRight 45 = .ok (.invokestatic 77, 3) := by decide +kernel
theorem dL_isRight_48 : decode cL_isRight 48 = .ok (.istore 5, 2) := by decide +kernel
theorem dL_isRight_50 : decode cL_isRight 50 = .ok (.iload_n 1, 1) := by decide +kernel
theorem dL_isRight_51 : decode cL_isRight 51 = .ok (.aload_n 0, 1) := by decide +kernel
theorem dL_isRight_52 : decode cL_isRight 52 = .ok (.iload 4, 2) := by decide +kernel
theorem dL_isRight_54 : decode cL_isRight 54 = .ok (.iconst 2, 1) := by decide +kernel
theorem dL_isRight_55 : decode cL_isRight 55 = .ok (.iadd, 1) := by decide +kernel
theorem dL_isRight_56 : decode cL_isRight 56 = .ok (.iaload, 1) := by decide +kernel
theorem dL_isRight_57 : decode cL_isRight 57 = .ok (.invokestatic 77, 3) := by decide +kernel
theorem dL_isRight_60 : decode cL_isRight 60 = .ok (.istore 6, 2) := by decide +kernel
theorem dL_isRight_62 : decode cL_isRight 62 = .ok (.aload_n 0, 1) := by decide +kernel
theorem dL_isRight_63 : decode cL_isRight 63 = .ok (.iload 4, 2) := by decide +kernel
theorem dL_isRight_65 : decode cL_isRight 65 = .ok (.iaload, 1) := by decide +kernel
theorem dL_isRight_66 : decode cL_isRight 66 = .ok (.ifCond .ne 21, 3) := by decide +kernel
theorem dL_isRight_69 : decode cL_isRight 69 = .ok (.iload 5, 2) := by decide +kernel
theorem dL_isRight_71 : decode cL_isRight 71 = .ok (.ifCond .eq 8, 3) := by decide +kernel
theorem dL_isRight_74 : decode cL_isRight 74 = .ok (.iload 6, 2) := by decide +kernel
theorem dL_isRight_76 : decode cL_isRight 76 = .ok (.ifCond .eq 7, 3) := by decide +kernel
theorem dL_isRight_79 : decode cL_isRight 79 = .ok (.iconst 1, 1) := by decide +kernel
theorem dL_isRight_80 : decode cL_isRight 80 = .ok (.goto 61, 3) := by decide +kernel
theorem dL_isRight_83 : decode cL_isRight 83 = .ok (.iconst 0, 1) := by decide +kernel
theorem dL_isRight_84 : decode cL_isRight 84 = .ok (.goto 57, 3) := by decide +kernel
theorem dL_isRight_87 : decode cL_isRight 87 = .ok (.aload_n 0, 1) := by decide +kernel
theorem dL_isRight_88 : decode cL_isRight 88 = .ok (.iload 4, 2) := by decide +kernel
theorem dL_isRight_90 : decode cL_isRight 90 = .ok (.iaload, 1) := by decide +kernel
theorem dL_isRight_91 : decode cL_isRight 91 = .ok (.iconst 1, 1) := by decide +kernel
theorem dL_isRight_92 : decode cL_isRight 92 = .ok (.if_icmp .ne 21, 3) := by decide +kernel
theorem dL_isRight_95 : decode cL_isRight 95 = .ok (.iload 5, 2) := by decide +kernel
theorem dL_isRight_97 : decode cL_isRight 97 = .ok (.ifCond .eq 8, 3) := by decide +kernel
theorem dL_isRight_100 : decode cL_isRight 100 = .ok (.iload 6, 2) := by decide +kernel
theorem dL_isRight_102 : decode cL_isRight 102 = .ok (.ifCond .ne 7, 3) := by decide +kernel
theorem dL_isRight_105 : decode cL_isRight 105 = .ok (.iconst 1, 1) := by decide +kernel
theorem dL_isRight_106 : decode cL_isRight 106 = .ok (.goto 35, 3) := by decide +kernel
theorem dL_isRight_109 : decode cL_isRight 109 = .ok (.iconst 0, 1) := by decide +kernel
theorem dL_isRight_110 : decode cL_isRight 110 = .ok (.goto 31, 3) := by decide +kernel
theorem dL_isRight_113 : decode cL_isRight 113 = .ok (.iload 5, 2) := by decide +kernel
theorem dL_isRight_115 : decode cL_isRight 115 = .ok (.ifCond .ne 21, 3) := by decide +kernel
theorem dL_isRight_118 : decode cL_isRight 118 = .ok (.iload 6, 2) := by decide +kernel
theorem dL_isRight_120 : decode cL_isRight 120 = .ok (.ifCond .ne 16, 3) := by decide +kernel
theorem dL_isRight_123 : decode cL_isRight 123 = .ok (.iload_n 1, 1) := by decide +kernel
theorem dL_isRight_124 : decode cL_isRight 124 = .ok (.aload_n 0, 1) := by decide +kernel
theorem dL_isRight_125 : decode cL_isRight 125 = .ok (.iload 4, 2) := by decide +kernel
theorem dL_isRight_127 : decode cL_isRight 127 = .ok (.iconst 3, 1) := by decide +kernel
theorem dL_isRight_128 : decode cL_isRight 128 = .ok (.iadd, 1) := by decide +kernel
theorem dL_isRight_129 : decode cL_isRight 129 = .ok (.iaload, 1) := by decide +kernel
theorem dL_isRight_130 : decode cL_isRight 130 = .ok (.invokestatic 77, 3) := by decide +kernel
theorem dL_isRight_133 : decode cL_isRight 133 = .ok (.ifCond .eq 7, 3) := by decide +kernel
theorem dL_isRight_136 : decode cL_isRight 136 = .ok (.iconst 1, 1) := by decide +kernel
theorem dL_isRight_137 : decode cL_isRight 137 = .ok (.goto 4, 3) := by decide +kernel
theorem dL_isRight_140 : decode cL_isRight 140 = .ok (.iconst 0, 1) := by decide +kernel
theorem dL_isRight_141 : decode cL_isRight 141 = .ok (.istore 7, 2) := by decide +kernel
theorem dL_isRight_143 : decode cL_isRight 143 = .ok (.iload_n 2, 1) := by decide +kernel
theorem dL_isRight_144 : decode cL_isRight 144 = .ok (.aload_n 0, 1) := by decide +kernel
theorem dL_isRight_145 : decode cL_isRight 145 = .ok (.iload 4, 2) := by decide +kernel
theorem dL_isRight_147 : decode cL_isRight 147 = .ok (.iconst 4, 1) := by decide +kernel
theorem dL_isRight_148 : decode cL_isRight 148 = .ok (.iadd, 1) := by decide +kernel
theorem dL_isRight_149 : decode cL_isRight 149 = .ok (.iaload, 1) := by decide +kernel
theorem dL_isRight_150 : decode cL_isRight 150 = .ok (.iconst 1, 1) := by decide +kernel
theorem dL_isRight_151 : decode cL_isRight 151 = .ok (.if_icmp .eq 8, 3) := by decide +kernel
theorem dL_isRight_154 : decode cL_isRight 154 = .ok (.iload 7, 2) := by decide +kernel
theorem dL_isRight_156 : decode cL_isRight 156 = .ok (.ifCond .eq 7, 3) := by decide +kernel
theorem dL_isRight_159 : decode cL_isRight 159 = .ok (.iconst 1, 1) := by decide +kernel
theorem dL_isRight_160 : decode cL_isRight 160 = .ok (.goto 4, 3) := by decide +kernel
theorem dL_isRight_163 : decode cL_isRight 163 = .ok (.iconst 0, 1) := by decide +kernel
theorem dL_isRight_164 : decode cL_isRight 164 = .ok (.iand, 1) := by decide +kernel
theorem dL_isRight_165 : decode cL_isRight 165 = .ok (.istore_n 2, 1) := by decide +kernel
theorem dL_isRight_166 : decode cL_isRight 166 = .ok (.iinc 3 1, 3) := by decide +kernel
theorem dL_isRight_169 : decode cL_isRight 169 = .ok (.goto (-146), 3) := by decide +kernel
theorem dL_isRight_172 : decode cL_isRight 172 = .ok (.iload_n 2, 1) := by decide +kernel
theorem dL_isRight_173 : decode cL_isRight 173 = .ok (.ireturn, 1) := by decide +kernel
theorem dL_completes_0 : decode cL_completes 0 = .ok (.iload_n 1, 1) := by decide +kernel
theorem dL_completes_1 : decode cL_completes 1 = .ok (.aload_n 0, 1) := by decide +kernel
theorem dL_completes_2 : decode cL_completes 2 = .ok (.iconst 4, 1) := by decide +kernel
theorem dL_completes_3 : decode cL_completes 3 = .ok (.iaload, 1) := by decide +kernel
theorem dL_completes_4 : decode cL_completes 4 = .ok (.iand, 1) := by decide +kernel
theorem dL_completes_5 : decode cL_completes 5 = .ok (.ifCond .ne 25, 3) := by decide +kernel
theorem dL_completes_8 : decode cL_completes 8 = .ok (.aload_n 0, 1) := by decide +kernel
theorem dL_completes_9 : decode cL_completes 9 = .ok (.iconst 3, 1) := by decide +kernel
theorem dL_completes_10 : decode cL_completes 10 = .ok (.iaload, 1) := by decide +kernel
theorem dL_completes_11 : decode cL_completes 11 = .ok (.iload_n 1, 1) := by decide +kernel
theorem dL_completes_12 : decode cL_completes 12 = .ok (.iconst (-1), 1) := by decide +kernel
theorem dL_completes_13 : decode cL_completes 13 = .ok (.ixor, 1) := by decide +kernel
theorem dL_completes_14 : decode cL_completes 14 = .ok (.iand, 1) := by decide +kernel
theorem dL_completes_15 : decode cL_completes 15 = .ok (.ifCond .ne 15, 3) := by decide +kernel
theorem dL_completes_18 : decode cL_completes 18 = .ok (.aload_n 0, 1) := by decide +kernel
theorem dL_completes_19 : decode cL_completes 19 = .ok (.iload_n 1, 1) := by decide +kernel
theorem dL_completes_20 : decode cL_completes 20 = .ok (.invokestatic 85, 3) := by decide +kernel
theorem dL_completes_23 : decode cL_completes 23 = .ok (.ifCond .eq 7, 3) := by decide +kernel
theorem dL_completes_26 : decode cL_completes 26 = .ok (.iconst 1, 1) := by decide +kernel
theorem dL_completes_27 : decode cL_completes 27 = .ok (.goto 4, 3) := by decide +kernel
theorem dL_completes_30 : decode cL_completes 30 = .ok (.iconst 0, 1) := by decide +kernel
theorem dL_completes_31 : decode cL_completes 31 = .ok (.ireturn, 1) := by decide +kernel
theorem dL_isPossible_0 : decode cL_isPossible 0 = .ok (.iconst 1, 1) := by decide +kernel
theorem dL_isPossible_1 : decode cL_isPossible 1 = .ok (.aload_n 0, 1) := by decide +kernel
theorem dL_isPossible_2 : decode cL_isPossible 2 = .ok (.iconst 0, 1) := by decide +kernel
theorem dL_isPossible_3 : decode cL_isPossible 3 = .ok (.iaload, 1) := by decide +kernel
theorem dL_isPossible_4 : decode cL_isPossible 4 = .ok (.ishl, 1) := by decide +kernel
theorem dL_isPossible_5 : decode cL_isPossible 5 = .ok (.iconst 1, 1) := by decide +kernel
theorem dL_isPossible_6 : decode cL_isPossible 6 = .ok (.isub, 1) := by decide +kernel
theorem dL_isPossible_7 : decode cL_isPossible 7 = .ok (.istore_n 1, 1) := by decide +kernel
theorem dL_isPossible_8 : decode cL_isPossible 8 = .ok (.iload_n 1, 1) := by decide +kernel
theorem dL_isPossible_9 : decode cL_isPossible 9 = .ok (.ifCond .le 19, 3) := by decide +kernel
theorem dL_isPossible_12 : decode cL_isPossible 12 = .ok (.aload_n 0, 1) := by decide +kernel
theorem dL_isPossible_13 : decode cL_isPossible 13 = .ok (.iload_n 1, 1) := by decide +kernel
theorem dL_isPossible_14 : decode cL_isPossible 14 = .ok (.invokestatic 89, 3) := by decide +kernel
theorem dL_isPossible_17 : decode cL_isPossible 17 = .ok (.ifCond .eq 5, 3) := by decide +kernel
theorem dL_isPossible_20 : decode cL_isPossible 20 = .ok (.iconst 1, 1) := by decide +kernel
theorem dL_isPossible_21 : decode cL_isPossible 21 = .ok (.ireturn, 1) := by decide +kernel
theorem dL_isPossible_22 : decode cL_isPossible 22 = .ok (.iinc 1 (-1), 3) := by decide +kernel
theorem dL_isPossible_25 : decode cL_isPossible 25 = .ok (.goto (-17), 3) := by decide +kernel
theorem dL_isPossible_28 : decode cL_isPossible 28 = .ok (.iconst 0, 1) := by decide +kernel
theorem dL_isPossible_29 : decode cL_isPossible 29 = .ok (.ireturn, 1) := by decide +kernel
theorem dL_isFeature_0 : decode cL_isFeature 0 = .ok (.aload_n 2, 1) := by decide +kernel
theorem dL_isFeature_1 : decode cL_isFeature 1 = .ok (.iload_n 3, 1) := by decide +kernel
theorem dL_isFeature_2 : decode cL_isFeature 2 = .ok (.aload_n 1, 1) := by decide +kernel
theorem dL_isFeature_3 : decode cL_isFeature 3 = .ok (.iconst 0, 1) := by decide +kernel
theorem dL_isFeature_4 : decode cL_isFeature 4 = .ok (.iaload, 1) := by decide +kernel
theorem dL_isFeature_5 : decode cL_isFeature 5 = .ok (.invokestatic 92, 3) := by decide +kernel
theorem dL_isFeature_8 : decode cL_isFeature 8 = .ok (.istore 4, 2) := by decide +kernel
theorem dL_isFeature_10 : decode cL_isFeature 10 = .ok (.aload_n 2, 1) := by decide +kernel
theorem dL_isFeature_11 : decode cL_isFeature 11 = .ok (.iload_n 3, 1) := by decide +kernel
theorem dL_isFeature_12 : decode cL_isFeature 12 = .ok (.iconst 1, 1) := by decide +kernel
theorem dL_isFeature_13 : decode cL_isFeature 13 = .ok (.iadd, 1) := by decide +kernel
theorem dL_isFeature_14 : decode cL_isFeature 14 = .ok (.iconst 5, 1) := by decide +kernel
theorem dL_isFeature_15 : decode cL_isFeature 15 = .ok (.invokestatic 92, 3) := by decide +kernel
theorem dL_isFeature_18 : decode cL_isFeature 18 = .ok (.ifCond .ne 16, 3) := by decide +kernel
theorem dL_isFeature_21 : decode cL_isFeature 21 = .ok (.aload_n 2, 1) := by decide +kernel
theorem dL_isFeature_22 : decode cL_isFeature 22 = .ok (.iload_n 3, 1) := by decide +kernel
theorem dL_isFeature_23 : decode cL_isFeature 23 = .ok (.iconst 2, 1) := by decide +kernel
theorem dL_isFeature_24 : decode cL_isFeature 24 = .ok (.iadd, 1) := by decide +kernel
theorem dL_isFeature_25 : decode cL_isFeature 25 = .ok (.sipush 1000, 3) := by decide +kernel
theorem dL_isFeature_28 : decode cL_isFeature 28 = .ok (.invokestatic 92, 3) := by decide +kernel
theorem dL_isFeature_31 : decode cL_isFeature 31 = .ok (.goto 15, 3) := by decide +kernel
theorem dL_isFeature_34 : decode cL_isFeature 34 = .ok (.bipush 10, 2) := by decide +kernel
theorem dL_isFeature_36 : decode cL_isFeature 36 = .ok (.aload_n 2, 1) := by decide +kernel
theorem dL_isFeature_37 : decode cL_isFeature 37 = .ok (.iload_n 3, 1) := by decide +kernel
theorem dL_isFeature_38 : decode cL_isFeature 38 = .ok (.iconst 2, 1) := by decide +kernel
theorem dL_isFeature_39 : decode cL_isFeature 39 = .ok (.iadd, 1) := by decide +kernel
theorem dL_isFeature_40 : decode cL_isFeature 40 = .ok (.bipush 6, 2) := by decide +kernel
theorem dL_isFeature_42 : decode cL_isFeature 42 = .ok (.invokestatic 92, 3) := by decide +kernel
theorem dL_isFeature_45 : decode cL_isFeature 45 = .ok (.imul, 1) := by decide +kernel
theorem dL_isFeature_46 : decode cL_isFeature 46 = .ok (.istore 5, 2) := by decide +kernel
theorem dL_isFeature_48 : decode cL_isFeature 48 = .ok (.aload_n 1, 1) := by decide +kernel
theorem dL_isFeature_49 : decode cL_isFeature 49 = .ok (.iconst 0, 1) := by decide +kernel
theorem dL_isFeature_50 : decode cL_isFeature 50 = .ok (.iaload, 1) := by decide +kernel
theorem dL_isFeature_51 : decode cL_isFeature 51 = .ok (.bipush 8, 2) := by decide +kernel
theorem dL_isFeature_53 : decode cL_isFeature 53 = .ok (.if_icmp .ne 23, 3) := by decide +kernel
theorem dL_isFeature_56 : decode cL_isFeature 56 = .ok (.aload_n 0, 1) := by decide +kernel
theorem dL_isFeature_57 : decode cL_isFeature 57 = .ok (.iload 4, 2) := by decide +kernel
theorem dL_isFeature_59 : decode cL_isFeature 59 = .ok (.sipush 1000, 3) := by decide +kernel
theorem dL_isFeature_62 : decode cL_isFeature 62 = .ok (.invokestatic 96, 3) := by decide +kernel
theorem dL_isFeature_65 : decode cL_isFeature 65 = .ok (.ldc 20, 2) := by decide +kernel
theorem dL_isFeature_67 : decode cL_isFeature 67 = .ok (.if_icmp .ne 7, 3) := by decide +kernel
theorem dL_isFeature_70 : decode cL_isFeature 70 = .ok (.iconst 1, 1) := by decide +kernel
theorem dL_isFeature_71 : decode cL_isFeature 71 = .ok (.goto 4, 3) := by decide +kernel
theorem dL_isFeature_74 : decode cL_isFeature 74 = .ok (.iconst 0, 1) := by decide +kernel
theorem dL_isFeature_75 : decode cL_isFeature 75 = .ok (.ireturn, 1) := by decide +kernel
theorem dL_isFeature_76 : decode cL_isFeature 76 = .ok (.aload_n 1, 1) := by decide +kernel
theorem dL_isFeature_77 : decode cL_isFeature 77 = .ok (.bipush 10, 2) := by decide +kernel
theorem dL_isFeature_79 : decode cL_isFeature 79 = .ok (.aload_n 1, 1) := by decide +kernel
theorem dL_isFeature_80 : decode cL_isFeature 80 = .ok (.iconst 0, 1) := by decide +kernel
theorem dL_isFeature_81 : decode cL_isFeature 81 = .ok (.iaload, 1) := by decide +kernel
theorem dL_isFeature_82 : decode cL_isFeature 82 = .ok (.iadd, 1) := by decide +kernel
theorem dL_isFeature_83 : decode cL_isFeature 83 = .ok (.iload 4, 2) := by decide +kernel
theorem dL_isFeature_85 : decode cL_isFeature 85 = .ok (.iastore, 1) := by decide +kernel
theorem dL_isFeature_86 : decode cL_isFeature 86 = .ok (.aload_n 1, 1) := by decide +kernel
theorem dL_isFeature_87 : decode cL_isFeature 87 = .ok (.bipush 30, 2) := by decide +kernel
theorem dL_isFeature_89 : decode cL_isFeature 89 = .ok (.aload_n 1, 1) := by decide +kernel
theorem dL_isFeature_90 : decode cL_isFeature 90 = .ok (.iconst 0, 1) := by decide +kernel
theorem dL_isFeature_91 : decode cL_isFeature 91 = .ok (.iaload, 1) := by decide +kernel
theorem dL_isFeature_92 : decode cL_isFeature 92 = .ok (.iadd, 1) := by decide +kernel
theorem dL_isFeature_93 : decode cL_isFeature 93 = .ok (.iload 5, 2) := by decide +kernel
theorem dL_isFeature_95 : decode cL_isFeature 95 = .ok (.iastore, 1) := by decide +kernel
theorem dL_isFeature_96 : decode cL_isFeature 96 = .ok (.aload_n 1, 1) := by decide +kernel
theorem dL_isFeature_97 : decode cL_isFeature 97 = .ok (.bipush 70, 2) := by decide +kernel
theorem dL_isFeature_99 : decode cL_isFeature 99 = .ok (.aload_n 1, 1) := by decide +kernel
theorem dL_isFeature_100 : decode cL_isFeature 100 = .ok (.iconst 0, 1) := by decide +kernel
theorem dL_isFeature_101 : decode cL_isFeature 101 = .ok (.iaload, 1) := by decide +kernel
theorem dL_isFeature_102 : decode cL_isFeature 102 = .ok (.iadd, 1) := by decide +kernel
theorem dL_isFeature_103 : decode cL_isFeature 103 = .ok (.bipush 12, 2) := by decide +kernel
theorem dL_isFeature_105 : decode cL_isFeature 105 = .ok (.iastore, 1) := by decide +kernel
theorem dL_isFeature_106 : decode cL_isFeature 106 = .ok (.aload_n 1, 1) := by decide +kernel
theorem dL_isFeature_107 : decode cL_isFeature 107 = .ok (.iconst 0, 1) := by decide +kernel
theorem dL_isFeature_108 : decode cL_isFeature 108 = .ok (.dup2, 1) := by decide +kernel
theorem dL_isFeature_109 : decode cL_isFeature 109 = .ok (.iaload, 1) := by decide +kernel
theorem dL_isFeature_110 : decode cL_isFeature 110 = .ok (.iconst 1, 1) := by decide +kernel
theorem dL_isFeature_111 : decode cL_isFeature 111 = .ok (.iadd, 1) := by decide +kernel
theorem dL_isFeature_112 : decode cL_isFeature 112 = .ok (.iastore, 1) := by decide +kernel
theorem dL_isFeature_113 : decode cL_isFeature 113 = .ok (.aload_n 0, 1) := by decide +kernel
theorem dL_isFeature_114 : decode cL_isFeature 114 = .ok (.iload 4, 2) := by decide +kernel
theorem dL_isFeature_116 : decode cL_isFeature 116 = .ok (.iload 5, 2) := by decide +kernel
theorem dL_isFeature_118 : decode cL_isFeature 118 = .ok (.invokestatic 96, 3) := by decide +kernel
theorem dL_isFeature_121 : decode cL_isFeature 121 = .ok (.aload_n 1, 1) := by decide +kernel
theorem dL_isFeature_122 : decode cL_isFeature 122 = .ok (.iconst 0, 1) := by decide +kernel
theorem dL_isFeature_123 : decode cL_isFeature 123 = .ok (.iaload, 1) := by decide +kernel
theorem dL_isFeature_124 : decode cL_isFeature 124 = .ok (.iconst 1, 1) := by decide +kernel
theorem dL_isFeature_125 : decode cL_isFeature 125 = .ok (.isub, 1) := by decide +kernel
theorem dL_isFeature_126 : decode cL_isFeature 126 = .ok (.if_icmp .ne 7, 3) := by decide +kernel
theorem dL_isFeature_129 : decode cL_isFeature 129 = .ok (.iconst 1, 1) := by decide +kernel
theorem dL_isFeature_130 : decode cL_isFeature 130 = .ok (.goto 4, 3) := by decide +kernel
theorem dL_isFeature_133 : decode cL_isFeature 133 = .ok (.iconst 0, 1) := by decide +kernel
theorem dL_isFeature_134 : decode cL_isFeature 134 = .ok (.ireturn, 1) := by decide +kernel
theorem dL_isGroup_0 : decode cL_isGroup 0 = .ok (.aload_n 1, 1) := by decide +kernel
theorem dL_isGroup_1 : decode cL_isGroup 1 = .ok (.invokestatic 99, 3) := by decide +kernel
theorem dL_isGroup_4 : decode cL_isGroup 4 = .ok (.astore 5, 2) := by decide +kernel
theorem dL_isGroup_6 : decode cL_isGroup 6 = .ok (.aload 5, 2) := by decide +kernel
theorem dL_isGroup_8 : decode cL_isGroup 8 = .ok (.bipush 50, 2) := by decide +kernel
theorem dL_isGroup_10 : decode cL_isGroup 10 = .ok (.iload_n 2, 1) := by decide +kernel
theorem dL_isGroup_11 : decode cL_isGroup 11 = .ok (.iadd, 1) := by decide +kernel
theorem dL_isGroup_12 : decode cL_isGroup 12 = .ok (.iload_n 3, 1) := by decide +kernel
theorem dL_isGroup_13 : decode cL_isGroup 13 = .ok (.iastore, 1) := by decide +kernel
theorem dL_isGroup_14 : decode cL_isGroup 14 = .ok (.aload 5, 2) := by decide +kernel
theorem dL_isGroup_16 : decode cL_isGroup 16 = .ok (.bipush 70, 2) := by decide +kernel
theorem dL_isGroup_18 : decode cL_isGroup 18 = .ok (.iload_n 2, 1) := by decide +kernel
theorem dL_isGroup_19 : decode cL_isGroup 19 = .ok (.iadd, 1) := by decide +kernel
theorem dL_isGroup_20 : decode cL_isGroup 20 = .ok (.iload 4, 2) := by decide +kernel
theorem dL_isGroup_22 : decode cL_isGroup 22 = .ok (.iastore, 1) := by decide +kernel
theorem dL_isGroup_23 : decode cL_isGroup 23 = .ok (.iload 4, 2) := by decide +kernel
theorem dL_isGroup_25 : decode cL_isGroup 25 = .ok (.iload_n 3, 1) := by decide +kernel
theorem dL_isGroup_26 : decode cL_isGroup 26 = .ok (.if_icmp .ge 22, 3) := by decide +kernel
theorem dL_isGroup_29 : decode cL_isGroup 29 = .ok (.aload_n 0, 1) := by decide +kernel
theorem dL_isGroup_30 : decode cL_isGroup 30 = .ok (.iload_n 2, 1) := by decide +kernel
theorem dL_isGroup_31 : decode cL_isGroup 31 = .ok (.iload_n 3, 1) := by decide +kernel
theorem dL_isGroup_32 : decode cL_isGroup 32 = .ok (.iload 4, 2) := by decide +kernel
theorem dL_isGroup_34 : decode cL_isGroup 34 = .ok (.invokestatic 103, 3) := by decide +kernel
theorem dL_isGroup_37 : decode cL_isGroup 37 = .ok (.ldc 20, 2) := by decide +kernel
theorem dL_isGroup_39 : decode cL_isGroup 39 = .ok (.if_icmp .ne 7, 3) := by decide +kernel
theorem dL_isGroup_42 : decode cL_isGroup 42 = .ok (.iconst 1, 1) := by decide +kernel
theorem dL_isGroup_43 : decode cL_isGroup 43 = .ok (.goto 4, 3) := by decide +kernel
theorem dL_isGroup_46 : decode cL_isGroup 46 = .ok (.iconst 0, 1) := by decide +kernel
theorem dL_isGroup_47 : decode cL_isGroup 47 = .ok (.ireturn, 1) := by decide +kernel
theorem dL_isGroup_48 : decode cL_isGroup 48 = .ok (.aload 5, 2) := by decide +kernel
theorem dL_isGroup_50 : decode cL_isGroup 50 = .ok (.invokestatic 106, 3) := by decide +kernel
theorem dL_isGroup_53 : decode cL_isGroup 53 = .ok (.ifCond .ne 22, 3) := by decide +kernel
theorem dL_isGroup_56 : decode cL_isGroup 56 = .ok (.aload_n 0, 1) := by decide +kernel
theorem dL_isGroup_57 : decode cL_isGroup 57 = .ok (.iload_n 2, 1) := by decide +kernel
theorem dL_isGroup_58 : decode cL_isGroup 58 = .ok (.iload_n 3, 1) := by decide +kernel
theorem dL_isGroup_59 : decode cL_isGroup 59 = .ok (.iload 4, 2) := by decide +kernel
theorem dL_isGroup_61 : decode cL_isGroup 61 = .ok (.invokestatic 103, 3) := by decide +kernel
theorem dL_isGroup_64 : decode cL_isGroup 64 = .ok (.ldc 23, 2) := by decide +kernel
theorem dL_isGroup_66 : decode cL_isGroup 66 = .ok (.if_icmp .ne 7, 3) := by decide +kernel
theorem dL_isGroup_69 : decode cL_isGroup 69 = .ok (.iconst 1, 1) := by decide +kernel
theorem dL_isGroup_70 : decode cL_isGroup 70 = .ok (.goto 4, 3) := by decide +kernel
theorem dL_isGroup_73 : decode cL_isGroup 73 = .ok (.iconst 0, 1) := by decide +kernel
theorem dL_isGroup_74 : decode cL_isGroup 74 = .ok (.ireturn, 1) := by decide +kernel
theorem dL_isGroup_75 : decode cL_isGroup 75 = .ok (.aload_n 1, 1) := by decide +kernel
theorem dL_isGroup_76 : decode cL_isGroup 76 = .ok (.bipush 50, 2) := by decide +kernel
theorem dL_isGroup_78 : decode cL_isGroup 78 = .ok (.iload_n 2, 1) := by decide +kernel
theorem dL_isGroup_79 : decode cL_isGroup 79 = .ok (.iadd, 1) := by decide +kernel
theorem dL_isGroup_80 : decode cL_isGroup 80 = .ok (.iload_n 3, 1) := by decide +kernel
theorem dL_isGroup_81 : decode cL_isGroup 81 = .ok (.iastore, 1) := by decide +kernel
theorem dL_isGroup_82 : decode cL_isGroup 82 = .ok (.aload_n 1, 1) := by decide +kernel
theorem dL_isGroup_83 : decode cL_isGroup 83 = .ok (.bipush 70, 2) := by decide +kernel
theorem dL_isGroup_85 : decode cL_isGroup 85 = .ok (.iload_n 2, 1) := by decide +kernel
theorem dL_isGroup_86 : decode cL_isGroup 86 = .ok (.iadd, 1) := by decide +kernel
theorem dL_isGroup_87 : decode cL_isGroup 87 = .ok (.iload 4, 2) := by decide +kernel
theorem dL_isGroup_89 : decode cL_isGroup 89 = .ok (.iastore, 1) := by decide +kernel
theorem dL_isGroup_90 : decode cL_isGroup 90 = .ok (.iconst 0, 1) := by decide +kernel
theorem dL_isGroup_91 : decode cL_isGroup 91 = .ok (.istore 6, 2) := by decide +kernel
theorem dL_isGroup_93 : decode cL_isGroup 93 = .ok (.iconst 1, 1) := by decide +kernel
theorem dL_isGroup_94 : decode cL_isGroup 94 = .ok (.istore 7, 2) := by decide +kernel
theorem dL_isGroup_96 : decode cL_isGroup 96 = .ok (.iload 7, 2) := by decide +kernel
theorem dL_isGroup_98 : decode cL_isGroup 98 = .ok (.aload_n 1, 1) := by decide +kernel
theorem dL_isGroup_99 : decode cL_isGroup 99 = .ok (.iconst 0, 1) := by decide +kernel
theorem dL_isGroup_100 : decode cL_isGroup 100 = .ok (.iaload, 1) := by decide +kernel
theorem dL_isGroup_101 : decode cL_isGroup 101 = .ok (.if_icmp .ge 30, 3) := by decide +kernel
theorem dL_isGroup_104 : decode cL_isGroup 104 = .ok (.iload 6, 2) := by decide +kernel
theorem dL_isGroup_106 : decode cL_isGroup 106 = .ok (.aload_n 1, 1) := by decide +kernel
theorem dL_isGroup_107 : decode cL_isGroup 107 = .ok (.bipush 10, 2) := by decide +kernel
theorem dL_isGroup_109 : decode cL_isGroup 109 = .ok (.iload 7, 2) := by decide +kernel
theorem dL_isGroup_111 : decode cL_isGroup 111 = .ok (.iadd, 1) := by decide +kernel
theorem dL_isGroup_112 : decode cL_isGroup 112 = .ok (.iaload, 1) := by decide +kernel
theorem dL_isGroup_113 : decode cL_isGroup 113 = .ok (.iload_n 2, 1) := by decide +kernel
theorem dL_isGroup_114 : decode cL_isGroup 114 = .ok (.if_icmp .ne 7, 3) := by decide +kernel
theorem dL_isGroup_117 : decode cL_isGroup 117 = .ok (.iconst 1, 1) := by decide +kernel
theorem dL_isGroup_118 : decode cL_isGroup 118 = .ok (.goto 4, 3) := by decide +kernel
theorem dL_isGroup_121 : decode cL_isGroup 121 = .ok (.iconst 0, 1) := by decide +kernel
theorem dL_isGroup_122 : decode cL_isGroup 122 = .ok (.iadd, 1) := by decide +kernel
theorem dL_isGroup_123 : decode cL_isGroup 123 = .ok (.istore 6, 2) := by decide +kernel
theorem dL_isGroup_125 : decode cL_isGroup 125 = .ok (.iinc 7 1, 3) := by decide +kernel
theorem dL_isGroup_128 : decode cL_isGroup 128 = .ok (.goto (-32), 3) := by decide +kernel
theorem dL_isGroup_131 : decode cL_isGroup 131 = .ok (.aload_n 0, 1) := by decide +kernel
theorem dL_isGroup_132 : decode cL_isGroup 132 = .ok (.iload_n 2, 1) := by decide +kernel
theorem dL_isGroup_133 : decode cL_isGroup 133 = .ok (.iload_n 3, 1) := by decide +kernel
theorem dL_isGroup_134 : decode cL_isGroup 134 = .ok (.iload 4, 2) := by decide +kernel
theorem dL_isGroup_136 : decode cL_isGroup 136 = .ok (.invokestatic 103, 3) := by decide +kernel
theorem dL_isGroup_139 : decode cL_isGroup 139 = .ok (.iload 6, 2) := by decide +kernel
theorem dL_isGroup_141 : decode cL_isGroup 141 = .ok (.if_icmp .ne 7, 3) := by decide +kernel
theorem dL_isGroup_144 : decode cL_isGroup 144 = .ok (.iconst 1, 1) := by decide +kernel
theorem dL_isGroup_145 : decode cL_isGroup 145 = .ok (.goto 4, 3) := by decide +kernel
theorem dL_isGroup_148 : decode cL_isGroup 148 = .ok (.iconst 0, 1) := by decide +kernel
theorem dL_isGroup_149 : decode cL_isGroup 149 = .ok (.ireturn, 1) := by decide +kernel
theorem dL_isMandatory_0 : decode cL_isMandatory 0 = .ok (.iload_n 2, 1) := by decide +kernel
theorem dL_isMandatory_1 : decode cL_isMandatory 1 = .ok (.ifCond .ne 20, 3) := by decide +kernel
theorem dL_isMandatory_4 : decode cL_isMandatory 4 = .ok (.aload_n 0, 1) := by decide +kernel
theorem dL_isMandatory_5 : decode cL_isMandatory 5 = .ok (.iconst 0, 1) := by decide +kernel
theorem dL_isMandatory_6 : decode cL_isMandatory 6 = .ok (.iload_n 3, 1) := by decide +kernel
theorem dL_isMandatory_7 : decode cL_isMandatory 7 = .ok (.invokestatic 110, 3) := by decide +kernel
theorem dL_isMandatory_10 : decode cL_isMandatory 10 = .ok (.ldc 20, 2) := by decide +kernel
theorem dL_isMandatory_12 : decode cL_isMandatory 12 = .ok (.if_icmp .ne 7, 3) := by decide +kernel
theorem dL_isMandatory_15 : decode cL_isMandatory 15 = .ok (.iconst 1, 1) := by decide +kernel
theorem dL_isMandatory_16 : decode cL_isMandatory 16 = .ok (.goto 4, 3) := by decide +kernel
theorem dL_isMandatory_19 : decode cL_isMandatory 19 = .ok (.iconst 0, 1) := by decide +kernel
theorem dL_isMandatory_20 : decode cL_isMandatory 20 = .ok (.ireturn, 1) := by decide +kernel
theorem dL_isMandatory_21 : decode cL_isMandatory 21 = .ok (.aload_n 1, 1) := by decide +kernel
theorem dL_isMandatory_22 : decode cL_isMandatory 22 = .ok (.invokestatic 99, 3) := by decide +kernel
theorem dL_isMandatory_25 : decode cL_isMandatory 25 = .ok (.astore 4, 2) := by decide +kernel
theorem dL_isMandatory_27 : decode cL_isMandatory 27 = .ok (.aload 4, 2) := by decide +kernel
theorem dL_isMandatory_29 : decode cL_isMandatory 29 = .ok (.bipush 90, 2) := by decide +kernel
theorem dL_isMandatory_31 : decode cL_isMandatory 31 = .ok (.iload_n 2, 1) := by decide +kernel
theorem dL_isMandatory_32 : decode cL_isMandatory 32 = .ok (.iadd, 1) := by decide +kernel
theorem dL_isMandatory_33 : decode cL_isMandatory 33 = .ok (.iload_n 3, 1) := by decide +kernel
theorem dL_isMandatory_34 : decode cL_isMandatory 34 = .ok (.ifCond .eq 7, 3) := by decide +kernel
theorem dL_isMandatory_37 : decode cL_isMandatory 37 = .ok (.iconst 1, 1) := by decide +kernel
theorem dL_isMandatory_38 : decode cL_isMandatory 38 = .ok (.goto 4, 3) := by decide +kernel
theorem dL_isMandatory_41 : decode cL_isMandatory 41 = .ok (.iconst 0, 1) := by decide +kernel
theorem dL_isMandatory_42 : decode cL_isMandatory 42 = .ok (.iastore, 1) := by decide +kernel
theorem dL_isMandatory_43 : decode cL_isMandatory 43 = .ok (.aload 4, 2) := by decide +kernel
theorem dL_isMandatory_45 : decode cL_isMandatory 45 = .ok (.invokestatic 106, 3) := by decide +kernel
theorem dL_isMandatory_48 : decode cL_isMandatory 48 = .ok (.ifCond .ne 20, 3) := by decide +kernel
theorem dL_isMandatory_51 : decode cL_isMandatory 51 = .ok (.aload_n 0, 1) := by decide +kernel
theorem dL_isMandatory_52 : decode cL_isMandatory 52 = .ok (.iload_n 2, 1) := by decide +kernel
theorem dL_isMandatory_53 : decode cL_isMandatory 53 = .ok (.iload_n 3, 1) := by decide +kernel
theorem dL_isMandatory_54 : decode cL_isMandatory 54 = .ok (.invokestatic 110, 3) := by decide +kernel
theorem dL_isMandatory_57 : decode cL_isMandatory 57 = .ok (.ldc 23, 2) := by decide +kernel
theorem dL_isMandatory_59 : decode cL_isMandatory 59 = .ok (.if_icmp .ne 7, 3) := by decide +kernel
theorem dL_isMandatory_62 : decode cL_isMandatory 62 = .ok (.iconst 1, 1) := by decide +kernel
theorem dL_isMandatory_63 : decode cL_isMandatory 63 = .ok (.goto 4, 3) := by decide +kernel
theorem dL_isMandatory_66 : decode cL_isMandatory 66 = .ok (.iconst 0, 1) := by decide +kernel
theorem dL_isMandatory_67 : decode cL_isMandatory 67 = .ok (.ireturn, 1) := by decide +kernel
theorem dL_isMandatory_68 : decode cL_isMandatory 68 = .ok (.aload_n 1, 1) := by decide +kernel
theorem dL_isMandatory_69 : decode cL_isMandatory 69 = .ok (.bipush 90, 2) := by decide +kernel
theorem dL_isMandatory_71 : decode cL_isMandatory 71 = .ok (.iload_n 2, 1) := by decide +kernel
theorem dL_isMandatory_72 : decode cL_isMandatory 72 = .ok (.iadd, 1) := by decide +kernel
theorem dL_isMandatory_73 : decode cL_isMandatory 73 = .ok (.iaload, 1) := by decide +kernel
theorem dL_isMandatory_74 : decode cL_isMandatory 74 = .ok (.istore 5, 2) := by decide +kernel
theorem dL_isMandatory_76 : decode cL_isMandatory 76 = .ok (.aload_n 1, 1) := by decide +kernel
theorem dL_isMandatory_77 : decode cL_isMandatory 77 = .ok (.bipush 90, 2) := by decide +kernel
theorem dL_isMandatory_79 : decode cL_isMandatory 79 = .ok (.iload_n 2, 1) := by decide +kernel
theorem dL_isMandatory_80 : decode cL_isMandatory 80 = .ok (.iadd, 1) := by decide +kernel
theorem dL_isMandatory_81 : decode cL_isMandatory 81 = .ok (.aload 4, 2) := by decide +kernel
theorem dL_isMandatory_83 : decode cL_isMandatory 83 = .ok (.bipush 90, 2) := by decide +kernel
theorem dL_isMandatory_85 : decode cL_isMandatory 85 = .ok (.iload_n 2, 1) := by decide +kernel
theorem dL_isMandatory_86 : decode cL_isMandatory 86 = .ok (.iadd, 1) := by decide +kernel
theorem dL_isMandatory_87 : decode cL_isMandatory 87 = .ok (.iaload, 1) := by decide +kernel
theorem dL_isMandatory_88 : decode cL_isMandatory 88 = .ok (.iastore, 1) := by decide +kernel
theorem dL_isMandatory_89 : decode cL_isMandatory 89 = .ok (.aload_n 0, 1) := by decide +kernel
theorem dL_isMandatory_90 : decode cL_isMandatory 90 = .ok (.iload_n 2, 1) := by decide +kernel
theorem dL_isMandatory_91 : decode cL_isMandatory 91 = .ok (.iload_n 3, 1) := by decide +kernel
theorem dL_isMandatory_92 : decode cL_isMandatory 92 = .ok (.invokestatic 110, 3) := by decide +kernel
theorem dL_isMandatory_95 : decode cL_isMandatory 95 = .ok (.iload 5, 2) := by decide +kernel
theorem dL_isMandatory_97 : decode cL_isMandatory 97 = .ok (.if_icmp .ne 7, 3) := by decide +kernel
theorem dL_isMandatory_100 : decode cL_isMandatory 100 = .ok (.iconst 1, 1) := by decide +kernel
theorem dL_isMandatory_101 : decode cL_isMandatory 101 = .ok (.goto 4, 3) := by decide +kernel
theorem dL_isMandatory_104 : decode cL_isMandatory 104 = .ok (.iconst 0, 1) := by decide +kernel
theorem dL_isMandatory_105 : decode cL_isMandatory 105 = .ok (.ireturn, 1) := by decide +kernel
theorem dL_isRule_0 : decode cL_isRule 0 = .ok (.iload_n 3, 1) := by decide +kernel
theorem dL_isRule_1 : decode cL_isRule 1 = .ok (.iload 4, 2) := by decide +kernel
theorem dL_isRule_3 : decode cL_isRule 3 = .ok (.if_icmp .eq 21, 3) := by decide +kernel
theorem dL_isRule_6 : decode cL_isRule 6 = .ok (.iload_n 2, 1) := by decide +kernel
theorem dL_isRule_7 : decode cL_isRule 7 = .ok (.iconst 2, 1) := by decide +kernel
theorem dL_isRule_8 : decode cL_isRule 8 = .ok (.if_icmp .ne 20, 3) := by decide +kernel
theorem dL_isRule_11 : decode cL_isRule 11 = .ok (.iload_n 3, 1) := by decide +kernel
theorem dL_isRule_12 : decode cL_isRule 12 = .ok (.iload 5, 2) := by decide +kernel
theorem dL_isRule_14 : decode cL_isRule 14 = .ok (.if_icmp .eq 10, 3) := by decide +kernel
theorem dL_isRule_17 : decode cL_isRule 17 = .ok (.iload 4, 2) := by decide +kernel
theorem dL_isRule_19 : decode cL_isRule 19 = .ok (.iload 5, 2) := by decide +kernel
theorem dL_isRule_21 : decode cL_isRule 21 = .ok (.if_icmp .ne 7, 3) := by decide +kernel
theorem dL_isRule_24 : decode cL_isRule 24 = .ok (.iconst 1, 1) := by decide +kernel
theorem dL_isRule_25 : decode cL_isRule 25 = .ok (.goto 4, 3) := by decide +kernel
theorem dL_isRule_28 : decode cL_isRule 28 = .ok (.iconst 0, 1) := by decide +kernel
theorem dL_isRule_29 : decode cL_isRule 29 = .ok (.istore 6, 2) := by decide +kernel
theorem dL_isRule_31 : decode cL_isRule 31 = .ok (.aload_n 1, 1) := by decide +kernel
theorem dL_isRule_32 : decode cL_isRule 32 = .ok (.invokestatic 99, 3) := by decide +kernel
theorem dL_isRule_35 : decode cL_isRule 35 = .ok (.astore 7, 2) := by decide +kernel
theorem dL_isRule_37 : decode cL_isRule 37 = .ok (.iload 6, 2) := by decide +kernel
theorem dL_isRule_39 : decode cL_isRule 39 = .ok (.ifCond .ne 61, 3) := by decide +kernel
theorem dL_isRule_42 : decode cL_isRule 42 = .ok (.aload_n 1, 1) := by decide +kernel
theorem dL_isRule_43 : decode cL_isRule 43 = .ok (.iconst 1, 1) := by decide +kernel
theorem dL_isRule_44 : decode cL_isRule 44 = .ok (.iaload, 1) := by decide +kernel
theorem dL_isRule_45 : decode cL_isRule 45 = .ok (.bipush 20, 2) := by decide +kernel
theorem dL_isRule_47 : decode cL_isRule 47 = .ok (.if_icmp .ge 53, 3) := by decide +kernel
theorem dL_isRule_50 : decode cL_isRule 50 = .ok (.bipush 110, 2) := by decide +kernel
theorem dL_isRule_52 : decode cL_isRule 52 = .ok (.iconst 5, 1) := by decide +kernel
theorem dL_isRule_53 : decode cL_isRule 53 = .ok (.aload_n 1, 1) := by decide +kernel
theorem dL_isRule_54 : decode cL_isRule 54 = .ok (.iconst 1, 1) := by decide +kernel
theorem dL_isRule_55 : decode cL_isRule 55 = .ok (.iaload, 1) := by decide +kernel
theorem dL_isRule_56 : decode cL_isRule 56 = .ok (.imul, 1) := by decide +kernel
theorem dL_isRule_57 : decode cL_isRule 57 = .ok (.iadd, 1) := by decide +kernel
theorem dL_isRule_58 : decode cL_isRule 58 = .ok (.istore 8, 2) := by decide +kernel
theorem dL_isRule_60 : decode cL_isRule 60 = .ok (.aload 7, 2) := by decide +kernel
theorem dL_isRule_62 : decode cL_isRule 62 = .ok (.iload 8, 2) := by decide +kernel
theorem dL_isRule_64 : decode cL_isRule 64 = .ok (.iload_n 2, 1) := by decide +kernel
theorem dL_isRule_65 : decode cL_isRule 65 = .ok (.iastore, 1) := by decide +kernel
theorem dL_isRule_66 : decode cL_isRule 66 = .ok (.aload 7, 2) := by decide +kernel
theorem dL_isRule_68 : decode cL_isRule 68 = .ok (.iload 8, 2) := by decide +kernel
theorem dL_isRule_70 : decode cL_isRule 70 = .ok (.iconst 1, 1) := by decide +kernel
theorem dL_isRule_71 : decode cL_isRule 71 = .ok (.iadd, 1) := by decide +kernel
theorem dL_isRule_72 : decode cL_isRule 72 = .ok (.iload_n 3, 1) := by decide +kernel
theorem dL_isRule_73 : decode cL_isRule 73 = .ok (.iastore, 1) := by decide +kernel
theorem dL_isRule_74 : decode cL_isRule 74 = .ok (.aload 7, 2) := by decide +kernel
theorem dL_isRule_76 : decode cL_isRule 76 = .ok (.iload 8, 2) := by decide +kernel
theorem dL_isRule_78 : decode cL_isRule 78 = .ok (.iconst 2, 1) := by decide +kernel
theorem dL_isRule_79 : decode cL_isRule 79 = .ok (.iadd, 1) := by decide +kernel
theorem dL_isRule_80 : decode cL_isRule 80 = .ok (.iload 4, 2) := by decide +kernel
theorem dL_isRule_82 : decode cL_isRule 82 = .ok (.iastore, 1) := by decide +kernel
theorem dL_isRule_83 : decode cL_isRule 83 = .ok (.aload 7, 2) := by decide +kernel
theorem dL_isRule_85 : decode cL_isRule 85 = .ok (.iload 8, 2) := by decide +kernel
theorem dL_isRule_87 : decode cL_isRule 87 = .ok (.iconst 3, 1) := by decide +kernel
theorem dL_isRule_88 : decode cL_isRule 88 = .ok (.iadd, 1) := by decide +kernel
theorem dL_isRule_89 : decode cL_isRule 89 = .ok (.iload 5, 2) := by decide +kernel
theorem dL_isRule_91 : decode cL_isRule 91 = .ok (.iastore, 1) := by decide +kernel
theorem dL_isRule_92 : decode cL_isRule 92 = .ok (.aload 7, 2) := by decide +kernel
theorem dL_isRule_94 : decode cL_isRule 94 = .ok (.iconst 1, 1) := by decide +kernel
theorem dL_isRule_95 : decode cL_isRule 95 = .ok (.dup2, 1) := by decide +kernel
theorem dL_isRule_96 : decode cL_isRule 96 = .ok (.iaload, 1) := by decide +kernel
theorem dL_isRule_97 : decode cL_isRule 97 = .ok (.iconst 1, 1) := by decide +kernel
theorem dL_isRule_98 : decode cL_isRule 98 = .ok (.iadd, 1) := by decide +kernel
theorem dL_isRule_99 : decode cL_isRule 99 = .ok (.iastore, 1) := by decide +kernel
theorem dL_isRule_100 : decode cL_isRule 100 = .ok (.iload 6, 2) := by decide +kernel
theorem dL_isRule_102 : decode cL_isRule 102 = .ok (.ifCond .eq 8, 3) := by decide +kernel
theorem dL_isRule_105 : decode cL_isRule 105 = .ok (.ldc 20, 2) := by decide +kernel
theorem dL_isRule_107 : decode cL_isRule 107 = .ok (.goto 32, 3) := by decide +kernel
theorem dL_isRule_110 : decode cL_isRule 110 = .ok (.aload_n 1, 1) := by decide +kernel
theorem dL_isRule_111 : decode cL_isRule 111 = .ok (.iconst 1, 1) := by decide +kernel
theorem dL_isRule_112 : decode cL_isRule 112 = .ok (.iaload, 1) := by decide +kernel
theorem dL_isRule_113 : decode cL_isRule 113 = .ok (.bipush 20, 2) := by decide +kernel
theorem dL_isRule_115 : decode cL_isRule 115 = .ok (.if_icmp .ne 8, 3) := by decide +kernel
theorem dL_isRule_118 : decode cL_isRule 118 = .ok (.ldc 23, 2) := by decide +kernel
theorem dL_isRule_120 : decode cL_isRule 120 = .ok (.goto 19, 3) := by decide +kernel
theorem dL_isRule_123 : decode cL_isRule 123 = .ok (.aload 7, 2) := by decide +kernel
theorem dL_isRule_125 : decode cL_isRule 125 = .ok (.invokestatic 106, 3) := by decide +kernel
theorem dL_isRule_128 : decode cL_isRule 128 = .ok (.ifCond .eq 9, 3) := by decide +kernel
theorem dL_isRule_131 : decode cL_isRule 131 = .ok (.aload_n 1, 1) := by decide +kernel
theorem dL_isRule_132 : decode cL_isRule 132 = .ok (.iconst 1, 1) := by decide +kernel
theorem dL_isRule_133 : decode cL_isRule 133 = .ok (.iaload, 1) := by decide +kernel
theorem dL_isRule_134 : decode cL_isRule 134 = .ok (.goto 5, 3) := by decide +kernel
theorem dL_isRule_137 : decode cL_isRule 137 = .ok (.ldc 33, 2) := by decide +kernel
theorem dL_isRule_139 : decode cL_isRule 139 = .ok (.istore 8, 2) := by decide +kernel
theorem dL_isRule_141 : decode cL_isRule 141 = .ok (.iconst 0, 1) := by decide +kernel
theorem dL_isRule_142 : decode cL_isRule 142 = .ok (.istore 9, 2) := by decide +kernel
theorem dL_isRule_144 : decode cL_isRule 144 = .ok (.iload 9, 2) := by decide +kernel
theorem dL_isRule_146 : decode cL_isRule 146 = .ok (.aload_n 1, 1) := by decide +kernel
theorem dL_isRule_147 : decode cL_isRule 147 = .ok (.arraylength, 1) := by decide +kernel
theorem dL_isRule_148 : decode cL_isRule 148 = .ok (.if_icmp .ge 23, 3) := by decide +kernel
theorem dL_isRule_151 : decode cL_isRule 151 = .ok (.iload 8, 2) := by decide +kernel
theorem dL_isRule_153 : decode cL_isRule 153 = .ok (.ifCond .lt 18, 3) := by decide +kernel
theorem dL_isRule_156 : decode cL_isRule 156 = .ok (.aload_n 1, 1) := by decide +kernel
theorem dL_isRule_157 : decode cL_isRule 157 = .ok (.iload 9, 2) := by decide +kernel
theorem dL_isRule_159 : decode cL_isRule 159 = .ok (.aload 7, 2) := by decide +kernel
theorem dL_isRule_161 : decode cL_isRule 161 = .ok (.iload 9, 2) := by decide +kernel
theorem dL_isRule_163 : decode cL_isRule 163 = .ok (.iaload, 1) := by decide +kernel
theorem dL_isRule_164 : decode cL_isRule 164 = .ok (.iastore, 1) := by decide +kernel
theorem dL_isRule_165 : decode cL_isRule 165 = .ok (.iinc 9 1, 3) := by decide +kernel
theorem dL_isRule_168 : decode cL_isRule 168 = .ok (.goto (-24), 3) := by decide +kernel
theorem dL_isRule_171 : decode cL_isRule 171 = .ok (.iload_n 2, 1) := by decide +kernel
theorem dL_isRule_172 : decode cL_isRule 172 = .ok (.ifCond .ne 13, 3) := by decide +kernel
theorem dL_isRule_175 : decode cL_isRule 175 = .ok (.aload_n 0, 1) := by decide +kernel
theorem dL_isRule_176 : decode cL_isRule 176 = .ok (.iload_n 3, 1) := by decide +kernel
theorem dL_isRule_177 : decode cL_isRule 177 = .ok (.iload 4, 2) := by decide +kernel
theorem dL_isRule_179 : decode cL_isRule 179 = .ok (.invokestatic 113, 3) := by decide +kernel
theorem dL_isRule_182 : decode cL_isRule 182 = .ok (.goto 27, 3) := by decide +kernel
theorem dL_isRule_185 : decode cL_isRule 185 = .ok (.iload_n 2, 1) := by decide +kernel
theorem dL_isRule_186 : decode cL_isRule 186 = .ok (.iconst 1, 1) := by decide +kernel
theorem dL_isRule_187 : decode cL_isRule 187 = .ok (.if_icmp .ne 13, 3) := by decide +kernel
theorem dL_isRule_190 : decode cL_isRule 190 = .ok (.aload_n 0, 1) := by decide +kernel
theorem dL_isRule_191 : decode cL_isRule 191 = .ok (.iload_n 3, 1) := by decide +kernel
theorem dL_isRule_192 : decode cL_isRule 192 = .ok (.iload 4, 2) := by decide +kernel
theorem dL_isRule_194 : decode cL_isRule 194 = .ok (.invokestatic 115, 3) := by decide +kernel
theorem dL_isRule_197 : decode cL_isRule 197 = .ok (.goto 12, 3) := by decide +kernel
theorem dL_isRule_200 : decode cL_isRule 200 = .ok (.aload_n 0, 1) := by decide +kernel
theorem dL_isRule_201 : decode cL_isRule 201 = .ok (.iload_n 3, 1) := by decide +kernel
theorem dL_isRule_202 : decode cL_isRule 202 = .ok (.iload 4, 2) := by decide +kernel
theorem dL_isRule_204 : decode cL_isRule 204 = .ok (.iload 5, 2) := by decide +kernel
theorem dL_isRule_206 : decode cL_isRule 206 = .ok (.invokestatic 117, 3) := by decide +kernel
theorem dL_isRule_209 : decode cL_isRule 209 = .ok (.iload 8, 2) := by decide +kernel
theorem dL_isRule_211 : decode cL_isRule 211 = .ok (.if_icmp .ne 7, 3) := by decide +kernel
theorem dL_isRule_214 : decode cL_isRule 214 = .ok (.iconst 1, 1) := by decide +kernel
theorem dL_isRule_215 : decode cL_isRule 215 = .ok (.goto 4, 3) := by decide +kernel
theorem dL_isRule_218 : decode cL_isRule 218 = .ok (.iconst 0, 1) := by decide +kernel
theorem dL_isRule_219 : decode cL_isRule 219 = .ok (.ireturn, 1) := by decide +kernel
theorem dL_isLifted_0 : decode cL_isLifted 0 = .ok (.iload_n 2, 1) := by decide +kernel
theorem dL_isLifted_1 : decode cL_isLifted 1 = .ok (.aload_n 1, 1) := by decide +kernel
theorem dL_isLifted_2 : decode cL_isLifted 2 = .ok (.iconst 1, 1) := by decide +kernel
theorem dL_isLifted_3 : decode cL_isLifted 3 = .ok (.iaload, 1) := by decide +kernel
theorem dL_isLifted_4 : decode cL_isLifted 4 = .ok (.if_icmp .ge 15, 3) := by decide +kernel
theorem dL_isLifted_7 : decode cL_isLifted 7 = .ok (.aload_n 1, 1) := by decide +kernel
theorem dL_isLifted_8 : decode cL_isLifted 8 = .ok (.bipush 114, 2) := by decide +kernel
theorem dL_isLifted_10 : decode cL_isLifted 10 = .ok (.iconst 5, 1) := by decide +kernel
theorem dL_isLifted_11 : decode cL_isLifted 11 = .ok (.iload_n 2, 1) := by decide +kernel
theorem dL_isLifted_12 : decode cL_isLifted 12 = .ok (.imul, 1) := by decide +kernel
theorem dL_isLifted_13 : decode cL_isLifted 13 = .ok (.iadd, 1) := by decide +kernel
theorem dL_isLifted_14 : decode cL_isLifted 14 = .ok (.iaload, 1) := by decide +kernel
theorem dL_isLifted_15 : decode cL_isLifted 15 = .ok (.iconst 1, 1) := by decide +kernel
theorem dL_isLifted_16 : decode cL_isLifted 16 = .ok (.if_icmp .ne 31, 3) := by decide +kernel
theorem dL_isLifted_19 : decode cL_isLifted 19 = .ok (.aload_n 0, 1) := by decide +kernel
theorem dL_isLifted_20 : decode cL_isLifted 20 = .ok (.iload_n 2, 1) := by decide +kernel
theorem dL_isLifted_21 : decode cL_isLifted 21 = .ok (.invokestatic 119, 3) := by decide +kernel
theorem dL_isLifted_24 : decode cL_isLifted 24 = .ok (.iload_n 2, 1) := by decide +kernel
theorem dL_isLifted_25 : decode cL_isLifted 25 = .ok (.aload_n 1, 1) := by decide +kernel
theorem dL_isLifted_26 : decode cL_isLifted 26 = .ok (.iconst 1, 1) := by decide +kernel
theorem dL_isLifted_27 : decode cL_isLifted 27 = .ok (.iaload, 1) := by decide +kernel
theorem dL_isLifted_28 : decode cL_isLifted 28 = .ok (.if_icmp .lt 8, 3) := by decide +kernel
theorem dL_isLifted_31 : decode cL_isLifted 31 = .ok (.ldc 17, 2) := by decide +kernel
theorem dL_isLifted_33 : decode cL_isLifted 33 = .ok (.goto 5, 3) := by decide +kernel
theorem dL_isLifted_36 : decode cL_isLifted 36 = .ok (.ldc 20, 2) := by decide +kernel
theorem dL_isLifted_38 : decode cL_isLifted 38 = .ok (.if_icmp .ne 7, 3) := by decide +kernel
theorem dL_isLifted_41 : decode cL_isLifted 41 = .ok (.iconst 1, 1) := by decide +kernel
theorem dL_isLifted_42 : decode cL_isLifted 42 = .ok (.goto 4, 3) := by decide +kernel
theorem dL_isLifted_45 : decode cL_isLifted 45 = .ok (.iconst 0, 1) := by decide +kernel
theorem dL_isLifted_46 : decode cL_isLifted 46 = .ok (.ireturn, 1) := by decide +kernel
theorem dL_isLifted_47 : decode cL_isLifted 47 = .ok (.aload_n 1, 1) := by decide +kernel
theorem dL_isLifted_48 : decode cL_isLifted 48 = .ok (.bipush 114, 2) := by decide +kernel
theorem dL_isLifted_50 : decode cL_isLifted 50 = .ok (.iconst 5, 1) := by decide +kernel
theorem dL_isLifted_51 : decode cL_isLifted 51 = .ok (.iload_n 2, 1) := by decide +kernel
theorem dL_isLifted_52 : decode cL_isLifted 52 = .ok (.imul, 1) := by decide +kernel
theorem dL_isLifted_53 : decode cL_isLifted 53 = .ok (.iadd, 1) := by decide +kernel
theorem dL_isLifted_54 : decode cL_isLifted 54 = .ok (.iconst 1, 1) := by decide +kernel
theorem dL_isLifted_55 : decode cL_isLifted 55 = .ok (.iastore, 1) := by decide +kernel
theorem dL_isLifted_56 : decode cL_isLifted 56 = .ok (.iconst 0, 1) := by decide +kernel
theorem dL_isLifted_57 : decode cL_isLifted 57 = .ok (.istore_n 3, 1) := by decide +kernel
theorem dL_isLifted_58 : decode cL_isLifted 58 = .ok (.iconst 0, 1) := by decide +kernel
theorem dL_isLifted_59 : decode cL_isLifted 59 = .ok (.istore 4, 2) := by decide +kernel
theorem dL_isLifted_61 : decode cL_isLifted 61 = .ok (.iload 4, 2) := by decide +kernel
theorem dL_isLifted_63 : decode cL_isLifted 63 = .ok (.aload_n 1, 1) := by decide +kernel
theorem dL_isLifted_64 : decode cL_isLifted 64 = .ok (.iconst 1, 1) := by decide +kernel
theorem dL_isLifted_65 : decode cL_isLifted 65 = .ok (.iaload, 1) := by decide +kernel
theorem dL_isLifted_66 : decode cL_isLifted 66 = .ok (.if_icmp .ge 23, 3) := by decide +kernel
theorem dL_isLifted_69 : decode cL_isLifted 69 = .ok (.iload_n 3, 1) := by decide +kernel
theorem dL_isLifted_70 : decode cL_isLifted 70 = .ok (.iconst 1, 1) := by decide +kernel
theorem dL_isLifted_71 : decode cL_isLifted 71 = .ok (.aload_n 1, 1) := by decide +kernel
theorem dL_isLifted_72 : decode cL_isLifted 72 = .ok (.bipush 114, 2) := by decide +kernel
theorem dL_isLifted_74 : decode cL_isLifted 74 = .ok (.iconst 5, 1) := by decide +kernel
theorem dL_isLifted_75 : decode cL_isLifted 75 = .ok (.iload 4, 2) := by decide +kernel
theorem dL_isLifted_77 : decode cL_isLifted 77 = .ok (.imul, 1) := by decide +kernel
theorem dL_isLifted_78 : decode cL_isLifted 78 = .ok (.iadd, 1) := by decide +kernel
theorem dL_isLifted_79 : decode cL_isLifted 79 = .ok (.iaload, 1) := by decide +kernel
theorem dL_isLifted_80 : decode cL_isLifted 80 = .ok (.isub, 1) := by decide +kernel
theorem dL_isLifted_81 : decode cL_isLifted 81 = .ok (.iadd, 1) := by decide +kernel
theorem dL_isLifted_82 : decode cL_isLifted 82 = .ok (.istore_n 3, 1) := by decide +kernel
theorem dL_isLifted_83 : decode cL_isLifted 83 = .ok (.iinc 4 1, 3) := by decide +kernel
theorem dL_isLifted_86 : decode cL_isLifted 86 = .ok (.goto (-25), 3) := by decide +kernel
theorem dL_isLifted_89 : decode cL_isLifted 89 = .ok (.aload_n 0, 1) := by decide +kernel
theorem dL_isLifted_90 : decode cL_isLifted 90 = .ok (.iload_n 2, 1) := by decide +kernel
theorem dL_isLifted_91 : decode cL_isLifted 91 = .ok (.invokestatic 119, 3) := by decide +kernel
theorem dL_isLifted_94 : decode cL_isLifted 94 = .ok (.iload_n 3, 1) := by decide +kernel
theorem dL_isLifted_95 : decode cL_isLifted 95 = .ok (.if_icmp .ne 7, 3) := by decide +kernel
theorem dL_isLifted_98 : decode cL_isLifted 98 = .ok (.iconst 1, 1) := by decide +kernel
theorem dL_isLifted_99 : decode cL_isLifted 99 = .ok (.goto 4, 3) := by decide +kernel
theorem dL_isLifted_102 : decode cL_isLifted 102 = .ok (.iconst 0, 1) := by decide +kernel
theorem dL_isLifted_103 : decode cL_isLifted 103 = .ok (.ireturn, 1) := by decide +kernel
theorem dL_isDecided_0 : decode cL_isDecided 0 = .ok (.aload_n 1, 1) := by decide +kernel
theorem dL_isDecided_1 : decode cL_isDecided 1 = .ok (.invokestatic 99, 3) := by decide +kernel
theorem dL_isDecided_4 : decode cL_isDecided 4 = .ok (.astore 4, 2) := by decide +kernel
theorem dL_isDecided_6 : decode cL_isDecided 6 = .ok (.aload 4, 2) := by decide +kernel
theorem dL_isDecided_8 : decode cL_isDecided 8 = .ok (.iload_n 3, 1) := by decide +kernel
theorem dL_isDecided_9 : decode cL_isDecided 9 = .ok (.ifCond .eq 7, 3) := by decide +kernel
theorem dL_isDecided_12 : decode cL_isDecided 12 = .ok (.iconst 3, 1) := by decide +kernel
theorem dL_isDecided_13 : decode cL_isDecided 13 = .ok (.goto 4, 3) := by decide +kernel
theorem dL_isDecided_16 : decode cL_isDecided 16 = .ok (.iconst 4, 1) := by decide +kernel
theorem dL_isDecided_17 : decode cL_isDecided 17 = .ok (.dup2, 1) := by decide +kernel
theorem dL_isDecided_18 : decode cL_isDecided 18 = .ok (.iaload, 1) := by decide +kernel
theorem dL_isDecided_19 : decode cL_isDecided 19 = .ok (.iconst 1, 1) := by decide +kernel
theorem dL_isDecided_20 : decode cL_isDecided 20 = .ok (.iload_n 2, 1) := by decide +kernel
theorem dL_isDecided_21 : decode cL_isDecided 21 = .ok (.ishl, 1) := by decide +kernel
theorem dL_isDecided_22 : decode cL_isDecided 22 = .ok (.ior, 1) := by decide +kernel
theorem dL_isDecided_23 : decode cL_isDecided 23 = .ok (.iastore, 1) := by decide +kernel
theorem dL_isDecided_24 : decode cL_isDecided 24 = .ok (.iload_n 2, 1) := by decide +kernel
theorem dL_isDecided_25 : decode cL_isDecided 25 = .ok (.ifCond .ne 8, 3) := by decide +kernel
theorem dL_isDecided_28 : decode cL_isDecided 28 = .ok (.ldc 20, 2) := by decide +kernel
theorem dL_isDecided_30 : decode cL_isDecided 30 = .ok (.goto 36, 3) := by decide +kernel
theorem dL_isDecided_33 : decode cL_isDecided 33 = .ok (.aload_n 1, 1) := by decide +kernel
theorem dL_isDecided_34 : decode cL_isDecided 34 = .ok (.iconst 3, 1) := by decide +kernel
theorem dL_isDecided_35 : decode cL_isDecided 35 = .ok (.iaload, 1) := by decide +kernel
theorem dL_isDecided_36 : decode cL_isDecided 36 = .ok (.aload_n 1, 1) := by decide +kernel
theorem dL_isDecided_37 : decode cL_isDecided 37 = .ok (.iconst 4, 1) := by decide +kernel
theorem dL_isDecided_38 : decode cL_isDecided 38 = .ok (.iaload, 1) := by decide +kernel
theorem dL_isDecided_39 : decode cL_isDecided 39 = .ok (.ior, 1) := by decide +kernel
theorem dL_isDecided_40 : decode cL_isDecided 40 = .ok (.iload_n 2, 1) := by decide +kernel
theorem dL_isDecided_41 : decode cL_isDecided 41 = .ok (.invokestatic 77, 3) := by decide +kernel
theorem dL_isDecided_44 : decode cL_isDecided 44 = .ok (.ifCond .eq 8, 3) := by decide +kernel
theorem dL_isDecided_47 : decode cL_isDecided 47 = .ok (.ldc 23, 2) := by decide +kernel
theorem dL_isDecided_49 : decode cL_isDecided 49 = .ok (.goto 17, 3) := by decide +kernel
theorem dL_isDecided_52 : decode cL_isDecided 52 = .ok (.aload 4, 2) := by decide +kernel
theorem dL_isDecided_54 : decode cL_isDecided 54 = .ok (.invokestatic 106, 3) := by decide +kernel
theorem dL_isDecided_57 : decode cL_isDecided 57 = .ok (.ifCond .eq 7, 3) := by decide +kernel
theorem dL_isDecided_60 : decode cL_isDecided 60 = .ok (.iconst 0, 1) := by decide +kernel
theorem dL_isDecided_61 : decode cL_isDecided 61 = .ok (.goto 5, 3) := by decide +kernel
theorem dL_isDecided_64 : decode cL_isDecided 64 = .ok (.ldc 33, 2) := by decide +kernel
theorem dL_isDecided_66 : decode cL_isDecided 66 = .ok (.istore 5, 2) := by decide +kernel
theorem dL_isDecided_68 : decode cL_isDecided 68 = .ok (.iload 5, 2) := by decide +kernel
theorem dL_isDecided_70 : decode cL_isDecided 70 = .ok (.ifCond .ne 17, 3) := by decide +kernel
theorem dL_isDecided_73 : decode cL_isDecided 73 = .ok (.aload_n 1, 1) := by decide +kernel
theorem dL_isDecided_74 : decode cL_isDecided 74 = .ok (.iconst 3, 1) := by decide +kernel
theorem dL_isDecided_75 : decode cL_isDecided 75 = .ok (.aload 4, 2) := by decide +kernel
theorem dL_isDecided_77 : decode cL_isDecided 77 = .ok (.iconst 3, 1) := by decide +kernel
theorem dL_isDecided_78 : decode cL_isDecided 78 = .ok (.iaload, 1) := by decide +kernel
