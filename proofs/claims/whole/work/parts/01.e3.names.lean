theorem dX7_setMandatory_52 : decode cX7_setMandatory 52 = .ok (.invokevirtual 97, 3) := by decide +kernel
theorem dX7_setMandatory_55 : decode cX7_setMandatory 55 = .ok (.ifCond .eq 10, 3) := by decide +kernel
theorem dX7_setMandatory_58 : decode cX7_setMandatory 58 = .ok (.aload_n 0, 1) := by decide +kernel
theorem dX7_setMandatory_59 : decode cX7_setMandatory 59 = .ok (.getfield 22, 3) := by decide +kernel
theorem dX7_setMandatory_62 : decode cX7_setMandatory 62 = .ok (.iload_n 1, 1) := by decide +kernel
theorem dX7_setMandatory_63 : decode cX7_setMandatory 63 = .ok (.iload_n 3, 1) := by decide +kernel
theorem dX7_setMandatory_64 : decode cX7_setMandatory 64 = .ok (.bastore, 1) := by decide +kernel
theorem dX7_setMandatory_65 : decode cX7_setMandatory 65 = .ok (.iload_n 3, 1) := by decide +kernel
theorem dX7_setMandatory_66 : decode cX7_setMandatory 66 = .ok (.ireturn, 1) := by decide +kernel
theorem dX7_setGroup_0 : decode cX7_setGroup 0 = .ok (.aload_n 0, 1) := by decide +kernel
theorem dX7_setGroup_1 : decode cX7_setGroup 1 = .ok (.aload_n 0, 1) := by decide +kernel
theorem dX7_setGroup_2 : decode cX7_setGroup 2 = .ok (.iload_n 1, 1) := by decide +kernel
theorem dX7_setGroup_3 : decode cX7_setGroup 3 = .ok (.invokevirtual 94, 3) := by decide +kernel
theorem dX7_setGroup_6 : decode cX7_setGroup 6 = .ok (.iconst 1, 1) := by decide +kernel
theorem dX7_setGroup_7 : decode cX7_setGroup 7 = .ok (.invokevirtual 97, 3) := by decide +kernel
theorem dX7_setGroup_10 : decode cX7_setGroup 10 = .ok (.ifCond .ne 30, 3) := by decide +kernel
theorem dX7_setGroup_13 : decode cX7_setGroup 13 = .ok (.aload_n 0, 1) := by decide +kernel
theorem dX7_setGroup_14 : decode cX7_setGroup 14 = .ok (.iload_n 2, 1) := by decide +kernel
theorem dX7_setGroup_15 : decode cX7_setGroup 15 = .ok (.ifCond .lt 13, 3) := by decide +kernel
theorem dX7_setGroup_18 : decode cX7_setGroup 18 = .ok (.iload_n 3, 1) := by decide +kernel
theorem dX7_setGroup_19 : decode cX7_setGroup 19 = .ok (.iload_n 2, 1) := by decide +kernel
theorem dX7_setGroup_20 : decode cX7_setGroup 20 = .ok (.bipush 12, 2) := by decide +kernel
theorem dX7_setGroup_22 : decode cX7_setGroup 22 = .ok (.invokestatic 67, 3) := by decide +kernel
theorem dX7_setGroup_25 : decode cX7_setGroup 25 = .ok (.ifCond .ne 7, 3) := by decide +kernel
theorem dX7_setGroup_28 : decode cX7_setGroup 28 = .ok (.iconst 1, 1) := by decide +kernel
theorem dX7_setGroup_29 : decode cX7_setGroup 29 = .ok (.goto 4, 3) := by decide +kernel
theorem dX7_setGroup_32 : decode cX7_setGroup 32 = .ok (.iconst 0, 1) := by decide +kernel
theorem dX7_setGroup_33 : decode cX7_setGroup 33 = .ok (.iconst 2, 1) := by decide +kernel
theorem dX7_setGroup_34 : decode cX7_setGroup 34 = .ok (.invokevirtual 97, 3) := by decide +kernel
theorem dX7_setGroup_37 : decode cX7_setGroup 37 = .ok (.ifCond .eq 5, 3) := by decide +kernel
theorem dX7_setGroup_40 : decode cX7_setGroup 40 = .ok (.iconst 0, 1) := by decide +kernel
theorem dX7_setGroup_41 : decode cX7_setGroup 41 = .ok (.ireturn, 1) := by decide +kernel
theorem dX7_setGroup_42 : decode cX7_setGroup 42 = .ok (.aload_n 0, 1) := by decide +kernel
theorem dX7_setGroup_43 : decode cX7_setGroup 43 = .ok (.getfield 16, 3) := by decide +kernel
theorem dX7_setGroup_46 : decode cX7_setGroup 46 = .ok (.iload_n 1, 1) := by decide +kernel
theorem dX7_setGroup_47 : decode cX7_setGroup 47 = .ok (.iaload, 1) := by decide +kernel
theorem dX7_setGroup_48 : decode cX7_setGroup 48 = .ok (.istore 4, 2) := by decide +kernel
theorem dX7_setGroup_50 : decode cX7_setGroup 50 = .ok (.aload_n 0, 1) := by decide +kernel
theorem dX7_setGroup_51 : decode cX7_setGroup 51 = .ok (.getfield 19, 3) := by decide +kernel
theorem dX7_setGroup_54 : decode cX7_setGroup 54 = .ok (.iload_n 1, 1) := by decide +kernel
theorem dX7_setGroup_55 : decode cX7_setGroup 55 = .ok (.iaload, 1) := by decide +kernel
theorem dX7_setGroup_56 : decode cX7_setGroup 56 = .ok (.istore 5, 2) := by decide +kernel
theorem dX7_setGroup_58 : decode cX7_setGroup 58 = .ok (.aload_n 0, 1) := by decide +kernel
theorem dX7_setGroup_59 : decode cX7_setGroup 59 = .ok (.getfield 16, 3) := by decide +kernel
theorem dX7_setGroup_62 : decode cX7_setGroup 62 = .ok (.iload_n 1, 1) := by decide +kernel
theorem dX7_setGroup_63 : decode cX7_setGroup 63 = .ok (.iload_n 2, 1) := by decide +kernel
theorem dX7_setGroup_64 : decode cX7_setGroup 64 = .ok (.iastore, 1) := by decide +kernel
theorem dX7_setGroup_65 : decode cX7_setGroup 65 = .ok (.aload_n 0, 1) := by decide +kernel
theorem dX7_setGroup_66 : decode cX7_setGroup 66 = .ok (.getfield 19, 3) := by decide +kernel
theorem dX7_setGroup_69 : decode cX7_setGroup 69 = .ok (.iload_n 1, 1) := by decide +kernel
theorem dX7_setGroup_70 : decode cX7_setGroup 70 = .ok (.iload_n 3, 1) := by decide +kernel
theorem dX7_setGroup_71 : decode cX7_setGroup 71 = .ok (.iastore, 1) := by decide +kernel
theorem dX7_setGroup_72 : decode cX7_setGroup 72 = .ok (.aload_n 0, 1) := by decide +kernel
theorem dX7_setGroup_73 : decode cX7_setGroup 73 = .ok (.aload_n 0, 1) := by decide +kernel
theorem dX7_setGroup_74 : decode cX7_setGroup 74 = .ok (.invokevirtual 101, 3) := by decide +kernel
theorem dX7_setGroup_77 : decode cX7_setGroup 77 = .ok (.iconst 3, 1) := by decide +kernel
theorem dX7_setGroup_78 : decode cX7_setGroup 78 = .ok (.invokevirtual 97, 3) := by decide +kernel
theorem dX7_setGroup_81 : decode cX7_setGroup 81 = .ok (.ifCond .eq 19, 3) := by decide +kernel
theorem dX7_setGroup_84 : decode cX7_setGroup 84 = .ok (.aload_n 0, 1) := by decide +kernel
theorem dX7_setGroup_85 : decode cX7_setGroup 85 = .ok (.getfield 16, 3) := by decide +kernel
theorem dX7_setGroup_88 : decode cX7_setGroup 88 = .ok (.iload_n 1, 1) := by decide +kernel
theorem dX7_setGroup_89 : decode cX7_setGroup 89 = .ok (.iload 4, 2) := by decide +kernel
theorem dX7_setGroup_91 : decode cX7_setGroup 91 = .ok (.iastore, 1) := by decide +kernel
theorem dX7_setGroup_92 : decode cX7_setGroup 92 = .ok (.aload_n 0, 1) := by decide +kernel
theorem dX7_setGroup_93 : decode cX7_setGroup 93 = .ok (.getfield 19, 3) := by decide +kernel
theorem dX7_setGroup_96 : decode cX7_setGroup 96 = .ok (.iload_n 1, 1) := by decide +kernel
theorem dX7_setGroup_97 : decode cX7_setGroup 97 = .ok (.iload 5, 2) := by decide +kernel
theorem dX7_setGroup_99 : decode cX7_setGroup 99 = .ok (.iastore, 1) := by decide +kernel
theorem dX7_setGroup_100 : decode cX7_setGroup 100 = .ok (.iconst 0, 1) := by decide +kernel
theorem dX7_setGroup_101 : decode cX7_setGroup 101 = .ok (.istore 6, 2) := by decide +kernel
theorem dX7_setGroup_103 : decode cX7_setGroup 103 = .ok (.iconst 1, 1) := by decide +kernel
theorem dX7_setGroup_104 : decode cX7_setGroup 104 = .ok (.istore 7, 2) := by decide +kernel
theorem dX7_setGroup_106 : decode cX7_setGroup 106 = .ok (.iload 7, 2) := by decide +kernel
theorem dX7_setGroup_108 : decode cX7_setGroup 108 = .ok (.aload_n 0, 1) := by decide +kernel
theorem dX7_setGroup_109 : decode cX7_setGroup 109 = .ok (.getfield 60, 3) := by decide +kernel
theorem dX7_setGroup_112 : decode cX7_setGroup 112 = .ok (.if_icmp .ge 30, 3) := by decide +kernel
theorem dX7_setGroup_115 : decode cX7_setGroup 115 = .ok (.iload 6, 2) := by decide +kernel
theorem dX7_setGroup_117 : decode cX7_setGroup 117 = .ok (.aload_n 0, 1) := by decide +kernel
theorem dX7_setGroup_118 : decode cX7_setGroup 118 = .ok (.getfield 9, 3) := by decide +kernel
theorem dX7_setGroup_121 : decode cX7_setGroup 121 = .ok (.iload 7, 2) := by decide +kernel
theorem dX7_setGroup_123 : decode cX7_setGroup 123 = .ok (.iaload, 1) := by decide +kernel
theorem dX7_setGroup_124 : decode cX7_setGroup 124 = .ok (.iload_n 1, 1) := by decide +kernel
theorem dX7_setGroup_125 : decode cX7_setGroup 125 = .ok (.if_icmp .ne 7, 3) := by decide +kernel
theorem dX7_setGroup_128 : decode cX7_setGroup 128 = .ok (.iconst 1, 1) := by decide +kernel
theorem dX7_setGroup_129 : decode cX7_setGroup 129 = .ok (.goto 4, 3) := by decide +kernel
theorem dX7_setGroup_132 : decode cX7_setGroup 132 = .ok (.iconst 0, 1) := by decide +kernel
theorem dX7_setGroup_133 : decode cX7_setGroup 133 = .ok (.iadd, 1) := by decide +kernel
theorem dX7_setGroup_134 : decode cX7_setGroup 134 = .ok (.istore 6, 2) := by decide +kernel
theorem dX7_setGroup_136 : decode cX7_setGroup 136 = .ok (.iinc 7 1, 3) := by decide +kernel
theorem dX7_setGroup_139 : decode cX7_setGroup 139 = .ok (.goto (-33), 3) := by decide +kernel
theorem dX7_setGroup_142 : decode cX7_setGroup 142 = .ok (.iload 6, 2) := by decide +kernel
theorem dX7_setGroup_144 : decode cX7_setGroup 144 = .ok (.ireturn, 1) := by decide +kernel
theorem dX7_adds_0 : decode cX7_adds 0 = .ok (.aload_n 0, 1) := by decide +kernel
theorem dX7_adds_1 : decode cX7_adds 1 = .ok (.aload_n 0, 1) := by decide +kernel
theorem dX7_adds_2 : decode cX7_adds 2 = .ok (.iload_n 2, 1) := by decide +kernel
theorem dX7_adds_3 : decode cX7_adds 3 = .ok (.invokevirtual 94, 3) := by decide +kernel
theorem dX7_adds_6 : decode cX7_adds 6 = .ok (.ifCond .ne 20, 3) := by decide +kernel
theorem dX7_adds_9 : decode cX7_adds 9 = .ok (.aload_n 0, 1) := by decide +kernel
theorem dX7_adds_10 : decode cX7_adds 10 = .ok (.iload_n 3, 1) := by decide +kernel
theorem dX7_adds_11 : decode cX7_adds 11 = .ok (.invokevirtual 94, 3) := by decide +kernel
theorem dX7_adds_14 : decode cX7_adds 14 = .ok (.ifCond .ne 12, 3) := by decide +kernel
theorem dX7_adds_17 : decode cX7_adds 17 = .ok (.aload_n 0, 1) := by decide +kernel
theorem dX7_adds_18 : decode cX7_adds 18 = .ok (.iload 4, 2) := by decide +kernel
theorem dX7_adds_20 : decode cX7_adds 20 = .ok (.invokevirtual 94, 3) := by decide +kernel
theorem dX7_adds_23 : decode cX7_adds 23 = .ok (.ifCond .eq 7, 3) := by decide +kernel
theorem dX7_adds_26 : decode cX7_adds 26 = .ok (.iconst 1, 1) := by decide +kernel
theorem dX7_adds_27 : decode cX7_adds 27 = .ok (.goto 4, 3) := by decide +kernel
theorem dX7_adds_30 : decode cX7_adds 30 = .ok (.iconst 0, 1) := by decide +kernel
theorem dX7_adds_31 : decode cX7_adds 31 = .ok (.iconst 1, 1) := by decide +kernel
theorem dX7_adds_32 : decode cX7_adds 32 = .ok (.invokevirtual 97, 3) := by decide +kernel
theorem dX7_adds_35 : decode cX7_adds 35 = .ok (.ifCond .ne 61, 3) := by decide +kernel
theorem dX7_adds_38 : decode cX7_adds 38 = .ok (.aload_n 0, 1) := by decide +kernel
theorem dX7_adds_39 : decode cX7_adds 39 = .ok (.iload_n 2, 1) := by decide +kernel
theorem dX7_adds_40 : decode cX7_adds 40 = .ok (.iload_n 3, 1) := by decide +kernel
theorem dX7_adds_41 : decode cX7_adds 41 = .ok (.if_icmp .eq 21, 3) := by decide +kernel
theorem dX7_adds_44 : decode cX7_adds 44 = .ok (.iload_n 1, 1) := by decide +kernel
theorem dX7_adds_45 : decode cX7_adds 45 = .ok (.bipush 97, 2) := by decide +kernel
theorem dX7_adds_47 : decode cX7_adds 47 = .ok (.if_icmp .ne 19, 3) := by decide +kernel
theorem dX7_adds_50 : decode cX7_adds 50 = .ok (.iload_n 2, 1) := by decide +kernel
theorem dX7_adds_51 : decode cX7_adds 51 = .ok (.iload 4, 2) := by decide +kernel
theorem dX7_adds_53 : decode cX7_adds 53 = .ok (.if_icmp .eq 9, 3) := by decide +kernel
theorem dX7_adds_56 : decode cX7_adds 56 = .ok (.iload_n 3, 1) := by decide +kernel
theorem dX7_adds_57 : decode cX7_adds 57 = .ok (.iload 4, 2) := by decide +kernel
theorem dX7_adds_59 : decode cX7_adds 59 = .ok (.if_icmp .ne 7, 3) := by decide +kernel
theorem dX7_adds_62 : decode cX7_adds 62 = .ok (.iconst 1, 1) := by decide +kernel
theorem dX7_adds_63 : decode cX7_adds 63 = .ok (.goto 4, 3) := by decide +kernel
theorem dX7_adds_66 : decode cX7_adds 66 = .ok (.iconst 0, 1) := by decide +kernel
theorem dX7_adds_67 : decode cX7_adds 67 = .ok (.iconst 2, 1) := by decide +kernel
theorem dX7_adds_68 : decode cX7_adds 68 = .ok (.invokevirtual 97, 3) := by decide +kernel
theorem dX7_adds_71 : decode cX7_adds 71 = .ok (.ifCond .ne 25, 3) := by decide +kernel
theorem dX7_adds_74 : decode cX7_adds 74 = .ok (.aload_n 0, 1) := by decide +kernel
theorem dX7_adds_75 : decode cX7_adds 75 = .ok (.aload_n 0, 1) := by decide +kernel
theorem dX7_adds_76 : decode cX7_adds 76 = .ok (.getfield 75, 3) := by decide +kernel
theorem dX7_adds_79 : decode cX7_adds 79 = .ok (.bipush 20, 2) := by decide +kernel
theorem dX7_adds_81 : decode cX7_adds 81 = .ok (.if_icmp .ne 7, 3) := by decide +kernel
theorem dX7_adds_84 : decode cX7_adds 84 = .ok (.iconst 1, 1) := by decide +kernel
theorem dX7_adds_85 : decode cX7_adds 85 = .ok (.goto 4, 3) := by decide +kernel
theorem dX7_adds_88 : decode cX7_adds 88 = .ok (.iconst 0, 1) := by decide +kernel
theorem dX7_adds_89 : decode cX7_adds 89 = .ok (.iconst 3, 1) := by decide +kernel
theorem dX7_adds_90 : decode cX7_adds 90 = .ok (.invokevirtual 97, 3) := by decide +kernel
theorem dX7_adds_93 : decode cX7_adds 93 = .ok (.ifCond .eq 5, 3) := by decide +kernel
theorem dX7_adds_96 : decode cX7_adds 96 = .ok (.iconst 0, 1) := by decide +kernel
theorem dX7_adds_97 : decode cX7_adds 97 = .ok (.ireturn, 1) := by decide +kernel
theorem dX7_adds_98 : decode cX7_adds 98 = .ok (.aload_n 0, 1) := by decide +kernel
theorem dX7_adds_99 : decode cX7_adds 99 = .ok (.getfield 29, 3) := by decide +kernel
theorem dX7_adds_102 : decode cX7_adds 102 = .ok (.aload_n 0, 1) := by decide +kernel
theorem dX7_adds_103 : decode cX7_adds 103 = .ok (.getfield 75, 3) := by decide +kernel
theorem dX7_adds_106 : decode cX7_adds 106 = .ok (.iload_n 1, 1) := by decide +kernel
theorem dX7_adds_107 : decode cX7_adds 107 = .ok (.castore, 1) := by decide +kernel
theorem dX7_adds_108 : decode cX7_adds 108 = .ok (.aload_n 0, 1) := by decide +kernel
theorem dX7_adds_109 : decode cX7_adds 109 = .ok (.getfield 39, 3) := by decide +kernel
theorem dX7_adds_112 : decode cX7_adds 112 = .ok (.aload_n 0, 1) := by decide +kernel
theorem dX7_adds_113 : decode cX7_adds 113 = .ok (.getfield 75, 3) := by decide +kernel
theorem dX7_adds_116 : decode cX7_adds 116 = .ok (.iload_n 2, 1) := by decide +kernel
theorem dX7_adds_117 : decode cX7_adds 117 = .ok (.iastore, 1) := by decide +kernel
theorem dX7_adds_118 : decode cX7_adds 118 = .ok (.aload_n 0, 1) := by decide +kernel
theorem dX7_adds_119 : decode cX7_adds 119 = .ok (.getfield 42, 3) := by decide +kernel
theorem dX7_adds_122 : decode cX7_adds 122 = .ok (.aload_n 0, 1) := by decide +kernel
theorem dX7_adds_123 : decode cX7_adds 123 = .ok (.getfield 75, 3) := by decide +kernel
theorem dX7_adds_126 : decode cX7_adds 126 = .ok (.iload_n 3, 1) := by decide +kernel
theorem dX7_adds_127 : decode cX7_adds 127 = .ok (.iastore, 1) := by decide +kernel
theorem dX7_adds_128 : decode cX7_adds 128 = .ok (.aload_n 0, 1) := by decide +kernel
theorem dX7_adds_129 : decode cX7_adds 129 = .ok (.getfield 45, 3) := by decide +kernel
theorem dX7_adds_132 : decode cX7_adds 132 = .ok (.aload_n 0, 1) := by decide +kernel
theorem dX7_adds_133 : decode cX7_adds 133 = .ok (.getfield 75, 3) := by decide +kernel
theorem dX7_adds_136 : decode cX7_adds 136 = .ok (.iload 4, 2) := by decide +kernel
theorem dX7_adds_138 : decode cX7_adds 138 = .ok (.iastore, 1) := by decide +kernel
theorem dX7_adds_139 : decode cX7_adds 139 = .ok (.aload_n 0, 1) := by decide +kernel
theorem dX7_adds_140 : decode cX7_adds 140 = .ok (.getfield 26, 3) := by decide +kernel
theorem dX7_adds_143 : decode cX7_adds 143 = .ok (.aload_n 0, 1) := by decide +kernel
theorem dX7_adds_144 : decode cX7_adds 144 = .ok (.getfield 75, 3) := by decide +kernel
theorem dX7_adds_147 : decode cX7_adds 147 = .ok (.iconst 0, 1) := by decide +kernel
theorem dX7_adds_148 : decode cX7_adds 148 = .ok (.bastore, 1) := by decide +kernel
theorem dX7_adds_149 : decode cX7_adds 149 = .ok (.aload_n 0, 1) := by decide +kernel
theorem dX7_adds_150 : decode cX7_adds 150 = .ok (.dup, 1) := by decide +kernel
theorem dX7_adds_151 : decode cX7_adds 151 = .ok (.getfield 75, 3) := by decide +kernel
theorem dX7_adds_154 : decode cX7_adds 154 = .ok (.iconst 1, 1) := by decide +kernel
theorem dX7_adds_155 : decode cX7_adds 155 = .ok (.iadd, 1) := by decide +kernel
theorem dX7_adds_156 : decode cX7_adds 156 = .ok (.putfield 75, 3) := by decide +kernel
theorem dX7_adds_159 : decode cX7_adds 159 = .ok (.aload_n 0, 1) := by decide +kernel
theorem dX7_adds_160 : decode cX7_adds 160 = .ok (.aload_n 0, 1) := by decide +kernel
theorem dX7_adds_161 : decode cX7_adds 161 = .ok (.invokevirtual 101, 3) := by decide +kernel
theorem dX7_adds_164 : decode cX7_adds 164 = .ok (.iconst 4, 1) := by decide +kernel
theorem dX7_adds_165 : decode cX7_adds 165 = .ok (.invokevirtual 97, 3) := by decide +kernel
theorem dX7_adds_168 : decode cX7_adds 168 = .ok (.ifCond .eq 13, 3) := by decide +kernel
theorem dX7_adds_171 : decode cX7_adds 171 = .ok (.aload_n 0, 1) := by decide +kernel
theorem dX7_adds_172 : decode cX7_adds 172 = .ok (.dup, 1) := by decide +kernel
theorem dX7_adds_173 : decode cX7_adds 173 = .ok (.getfield 75, 3) := by decide +kernel
theorem dX7_adds_176 : decode cX7_adds 176 = .ok (.iconst 1, 1) := by decide +kernel
theorem dX7_adds_177 : decode cX7_adds 177 = .ok (.isub, 1) := by decide +kernel
theorem dX7_adds_178 : decode cX7_adds 178 = .ok (.putfield 75, 3) := by decide +kernel
theorem dX7_adds_181 : decode cX7_adds 181 = .ok (.aload_n 0, 1) := by decide +kernel
theorem dX7_adds_182 : decode cX7_adds 182 = .ok (.getfield 75, 3) := by decide +kernel
theorem dX7_adds_185 : decode cX7_adds 185 = .ok (.iconst 1, 1) := by decide +kernel
theorem dX7_adds_186 : decode cX7_adds 186 = .ok (.isub, 1) := by decide +kernel
theorem dX7_adds_187 : decode cX7_adds 187 = .ok (.ireturn, 1) := by decide +kernel
theorem dX7_require_0 : decode cX7_require 0 = .ok (.aload_n 0, 1) := by decide +kernel
theorem dX7_require_1 : decode cX7_require 1 = .ok (.bipush 114, 2) := by decide +kernel
theorem dX7_require_3 : decode cX7_require 3 = .ok (.iload_n 1, 1) := by decide +kernel
theorem dX7_require_4 : decode cX7_require 4 = .ok (.iload_n 2, 1) := by decide +kernel
theorem dX7_require_5 : decode cX7_require 5 = .ok (.iload_n 1, 1) := by decide +kernel
theorem dX7_require_6 : decode cX7_require 6 = .ok (.invokevirtual 105, 3) := by decide +kernel
theorem dX7_require_9 : decode cX7_require 9 = .ok (.ireturn, 1) := by decide +kernel
theorem dX7_exclude_0 : decode cX7_exclude 0 = .ok (.aload_n 0, 1) := by decide +kernel
theorem dX7_exclude_1 : decode cX7_exclude 1 = .ok (.bipush 101, 2) := by decide +kernel
theorem dX7_exclude_3 : decode cX7_exclude 3 = .ok (.iload_n 1, 1) := by decide +kernel
theorem dX7_exclude_4 : decode cX7_exclude 4 = .ok (.iload_n 2, 1) := by decide +kernel
theorem dX7_exclude_5 : decode cX7_exclude 5 = .ok (.iload_n 1, 1) := by decide +kernel
theorem dX7_exclude_6 : decode cX7_exclude 6 = .ok (.invokevirtual 105, 3) := by decide +kernel
theorem dX7_exclude_9 : decode cX7_exclude 9 = .ok (.ireturn, 1) := by decide +kernel
theorem dX7_any_0 : decode cX7_any 0 = .ok (.aload_n 0, 1) := by decide +kernel
theorem dX7_any_1 : decode cX7_any 1 = .ok (.bipush 97, 2) := by decide +kernel
theorem dX7_any_3 : decode cX7_any 3 = .ok (.iload_n 1, 1) := by decide +kernel
theorem dX7_any_4 : decode cX7_any 4 = .ok (.iload_n 2, 1) := by decide +kernel
theorem dX7_any_5 : decode cX7_any 5 = .ok (.iload_n 3, 1) := by decide +kernel
theorem dX7_any_6 : decode cX7_any 6 = .ok (.invokevirtual 105, 3) := by decide +kernel
theorem dX7_any_9 : decode cX7_any 9 = .ok (.ireturn, 1) := by decide +kernel
theorem dX7_lift_0 : decode cX7_lift 0 = .ok (.aload_n 0, 1) := by decide +kernel
theorem dX7_lift_1 : decode cX7_lift 1 = .ok (.iload_n 1, 1) := by decide +kernel
theorem dX7_lift_2 : decode cX7_lift 2 = .ok (.iconst 0, 1) := by decide +kernel
theorem dX7_lift_3 : decode cX7_lift 3 = .ok (.aload_n 0, 1) := by decide +kernel
theorem dX7_lift_4 : decode cX7_lift 4 = .ok (.getfield 75, 3) := by decide +kernel
theorem dX7_lift_7 : decode cX7_lift 7 = .ok (.iconst 1, 1) := by decide +kernel
theorem dX7_lift_8 : decode cX7_lift 8 = .ok (.isub, 1) := by decide +kernel
theorem dX7_lift_9 : decode cX7_lift 9 = .ok (.invokestatic 67, 3) := by decide +kernel
theorem dX7_lift_12 : decode cX7_lift 12 = .ok (.ifCond .ne 7, 3) := by decide +kernel
theorem dX7_lift_15 : decode cX7_lift 15 = .ok (.iconst 1, 1) := by decide +kernel
theorem dX7_lift_16 : decode cX7_lift 16 = .ok (.goto 4, 3) := by decide +kernel
theorem dX7_lift_19 : decode cX7_lift 19 = .ok (.iconst 0, 1) := by decide +kernel
theorem dX7_lift_20 : decode cX7_lift 20 = .ok (.iconst 1, 1) := by decide +kernel
theorem dX7_lift_21 : decode cX7_lift 21 = .ok (.invokevirtual 97, 3) := by decide +kernel
theorem dX7_lift_24 : decode cX7_lift 24 = .ok (.ifCond .ne 17, 3) := by decide +kernel
theorem dX7_lift_27 : decode cX7_lift 27 = .ok (.aload_n 0, 1) := by decide +kernel
theorem dX7_lift_28 : decode cX7_lift 28 = .ok (.aload_n 0, 1) := by decide +kernel
theorem dX7_lift_29 : decode cX7_lift 29 = .ok (.getfield 26, 3) := by decide +kernel
theorem dX7_lift_32 : decode cX7_lift 32 = .ok (.iload_n 1, 1) := by decide +kernel
theorem dX7_lift_33 : decode cX7_lift 33 = .ok (.baload, 1) := by decide +kernel
theorem dX7_lift_34 : decode cX7_lift 34 = .ok (.iconst 2, 1) := by decide +kernel
theorem dX7_lift_35 : decode cX7_lift 35 = .ok (.invokevirtual 97, 3) := by decide +kernel
theorem dX7_lift_38 : decode cX7_lift 38 = .ok (.ifCond .eq 5, 3) := by decide +kernel
theorem dX7_lift_41 : decode cX7_lift 41 = .ok (.iconst 0, 1) := by decide +kernel
theorem dX7_lift_42 : decode cX7_lift 42 = .ok (.ireturn, 1) := by decide +kernel
theorem dX7_lift_43 : decode cX7_lift 43 = .ok (.aload_n 0, 1) := by decide +kernel
theorem dX7_lift_44 : decode cX7_lift 44 = .ok (.getfield 26, 3) := by decide +kernel
theorem dX7_lift_47 : decode cX7_lift 47 = .ok (.iload_n 1, 1) := by decide +kernel
theorem dX7_lift_48 : decode cX7_lift 48 = .ok (.iconst 1, 1) := by decide +kernel
theorem dX7_lift_49 : decode cX7_lift 49 = .ok (.bastore, 1) := by decide +kernel
theorem dX7_lift_50 : decode cX7_lift 50 = .ok (.iconst 0, 1) := by decide +kernel
theorem dX7_lift_51 : decode cX7_lift 51 = .ok (.istore_n 2, 1) := by decide +kernel
theorem dX7_lift_52 : decode cX7_lift 52 = .ok (.iconst 0, 1) := by decide +kernel
theorem dX7_lift_53 : decode cX7_lift 53 = .ok (.istore_n 3, 1) := by decide +kernel
theorem dX7_lift_54 : decode cX7_lift 54 = .ok (.iload_n 3, 1) := by decide +kernel
theorem dX7_lift_55 : decode cX7_lift 55 = .ok (.aload_n 0, 1) := by decide +kernel
theorem dX7_lift_56 : decode cX7_lift 56 = .ok (.getfield 75, 3) := by decide +kernel
theorem dX7_lift_59 : decode cX7_lift 59 = .ok (.if_icmp .ge 26, 3) := by decide +kernel
theorem dX7_lift_62 : decode cX7_lift 62 = .ok (.iload_n 2, 1) := by decide +kernel
theorem dX7_lift_63 : decode cX7_lift 63 = .ok (.aload_n 0, 1) := by decide +kernel
theorem dX7_lift_64 : decode cX7_lift 64 = .ok (.getfield 26, 3) := by decide +kernel
theorem dX7_lift_67 : decode cX7_lift 67 = .ok (.iload_n 3, 1) := by decide +kernel
theorem dX7_lift_68 : decode cX7_lift 68 = .ok (.baload, 1) := by decide +kernel
theorem dX7_lift_69 : decode cX7_lift 69 = .ok (.ifCond .eq 7, 3) := by decide +kernel
theorem dX7_lift_72 : decode cX7_lift 72 = .ok (.iconst 0, 1) := by decide +kernel
theorem dX7_lift_73 : decode cX7_lift 73 = .ok (.goto 4, 3) := by decide +kernel
theorem dX7_lift_76 : decode cX7_lift 76 = .ok (.iconst 1, 1) := by decide +kernel
theorem dX7_lift_77 : decode cX7_lift 77 = .ok (.iadd, 1) := by decide +kernel
theorem dX7_lift_78 : decode cX7_lift 78 = .ok (.istore_n 2, 1) := by decide +kernel
theorem dX7_lift_79 : decode cX7_lift 79 = .ok (.iinc 3 1, 3) := by decide +kernel
theorem dX7_lift_82 : decode cX7_lift 82 = .ok (.goto (-28), 3) := by decide +kernel
theorem dX7_lift_85 : decode cX7_lift 85 = .ok (.iload_n 2, 1) := by decide +kernel
theorem dX7_lift_86 : decode cX7_lift 86 = .ok (.ireturn, 1) := by decide +kernel
theorem dX7_isDecided_0 : decode cX7_isDecided 0 = .ok (.aload_n 0, 1) := by decide +kernel
theorem dX7_isDecided_1 : decode cX7_isDecided 1 = .ok (.getfield 81, 3) := by decide +kernel
theorem dX7_isDecided_4 : decode cX7_isDecided 4 = .ok (.aload_n 0, 1) := by decide +kernel
theorem dX7_isDecided_5 : decode cX7_isDecided 5 = .ok (.getfield 84, 3) := by decide +kernel
theorem dX7_isDecided_8 : decode cX7_isDecided 8 = .ok (.ior, 1) := by decide +kernel
theorem dX7_isDecided_9 : decode cX7_isDecided 9 = .ok (.iload_n 1, 1) := by decide +kernel
theorem dX7_isDecided_10 : decode cX7_isDecided 10 = .ok (.invokestatic 71, 3) := by decide +kernel
theorem dX7_isDecided_13 : decode cX7_isDecided 13 = .ok (.ireturn, 1) := by decide +kernel
theorem dX7_decides_0 : decode cX7_decides 0 = .ok (.aload_n 0, 1) := by decide +kernel
theorem dX7_decides_1 : decode cX7_decides 1 = .ok (.aload_n 0, 1) := by decide +kernel
theorem dX7_decides_2 : decode cX7_decides 2 = .ok (.iload_n 1, 1) := by decide +kernel
theorem dX7_decides_3 : decode cX7_decides 3 = .ok (.invokevirtual 94, 3) := by decide +kernel
theorem dX7_decides_6 : decode cX7_decides 6 = .ok (.iconst 1, 1) := by decide +kernel
theorem dX7_decides_7 : decode cX7_decides 7 = .ok (.invokevirtual 97, 3) := by decide +kernel
theorem dX7_decides_10 : decode cX7_decides 10 = .ok (.ifCond .ne 33, 3) := by decide +kernel
theorem dX7_decides_13 : decode cX7_decides 13 = .ok (.aload_n 0, 1) := by decide +kernel
theorem dX7_decides_14 : decode cX7_decides 14 = .ok (.iload_n 1, 1) := by decide +kernel
theorem dX7_decides_15 : decode cX7_decides 15 = .ok (.ifCond .ne 7, 3) := by decide +kernel
theorem dX7_decides_18 : decode cX7_decides 18 = .ok (.iconst 1, 1) := by decide +kernel
theorem dX7_decides_19 : decode cX7_decides 19 = .ok (.goto 4, 3) := by decide +kernel
theorem dX7_decides_22 : decode cX7_decides 22 = .ok (.iconst 0, 1) := by decide +kernel
theorem dX7_decides_23 : decode cX7_decides 23 = .ok (.iconst 2, 1) := by decide +kernel
theorem dX7_decides_24 : decode cX7_decides 24 = .ok (.invokevirtual 97, 3) := by decide +kernel
theorem dX7_decides_27 : decode cX7_decides 27 = .ok (.ifCond .ne 16, 3) := by decide +kernel
theorem dX7_decides_30 : decode cX7_decides 30 = .ok (.aload_n 0, 1) := by decide +kernel
theorem dX7_decides_31 : decode cX7_decides 31 = .ok (.aload_n 0, 1) := by decide +kernel
theorem dX7_decides_32 : decode cX7_decides 32 = .ok (.iload_n 1, 1) := by decide +kernel
theorem dX7_decides_33 : decode cX7_decides 33 = .ok (.invokevirtual 109, 3) := by decide +kernel
theorem dX7_decides_36 : decode cX7_decides 36 = .ok (.iconst 3, 1) := by decide +kernel
theorem dX7_decides_37 : decode cX7_decides 37 = .ok (.invokevirtual 97, 3) := by decide +kernel
theorem dX7_decides_40 : decode cX7_decides 40 = .ok (.ifCond .eq 5, 3) := by decide +kernel
theorem dX7_decides_43 : decode cX7_decides 43 = .ok (.iconst 0, 1) := by decide +kernel
theorem dX7_decides_44 : decode cX7_decides 44 = .ok (.ireturn, 1) := by decide +kernel
theorem dX7_decides_45 : decode cX7_decides 45 = .ok (.aload_n 0, 1) := by decide +kernel
theorem dX7_decides_46 : decode cX7_decides 46 = .ok (.dup, 1) := by decide +kernel
theorem dX7_decides_47 : decode cX7_decides 47 = .ok (.getfield 81, 3) := by decide +kernel
theorem dX7_decides_50 : decode cX7_decides 50 = .ok (.iload_n 2, 1) := by decide +kernel
theorem dX7_decides_51 : decode cX7_decides 51 = .ok (.ifCond .eq 9, 3) := by decide +kernel
theorem dX7_decides_54 : decode cX7_decides 54 = .ok (.iconst 1, 1) := by decide +kernel
theorem dX7_decides_55 : decode cX7_decides 55 = .ok (.iload_n 1, 1) := by decide +kernel
theorem dX7_decides_56 : decode cX7_decides 56 = .ok (.ishl, 1) := by decide +kernel
theorem dX7_decides_57 : decode cX7_decides 57 = .ok (.goto 4, 3) := by decide +kernel
theorem dX7_decides_60 : decode cX7_decides 60 = .ok (.iconst 0, 1) := by decide +kernel
theorem dX7_decides_61 : decode cX7_decides 61 = .ok (.ior, 1) := by decide +kernel
theorem dX7_decides_62 : decode cX7_decides 62 = .ok (.putfield 81, 3) := by decide +kernel
theorem dX7_decides_65 : decode cX7_decides 65 = .ok (.aload_n 0, 1) := by decide +kernel
theorem dX7_decides_66 : decode cX7_decides 66 = .ok (.dup, 1) := by decide +kernel
theorem dX7_decides_67 : decode cX7_decides 67 = .ok (.getfield 84, 3) := by decide +kernel
theorem dX7_decides_70 : decode cX7_decides 70 = .ok (.iload_n 2, 1) := by decide +kernel
theorem dX7_decides_71 : decode cX7_decides 71 = .ok (.ifCond .eq 7, 3) := by decide +kernel
theorem dX7_decides_74 : decode cX7_decides 74 = .ok (.iconst 0, 1) := by decide +kernel
theorem dX7_decides_75 : decode cX7_decides 75 = .ok (.goto 6, 3) := by decide +kernel
theorem dX7_decides_78 : decode cX7_decides 78 = .ok (.iconst 1, 1) := by decide +kernel
theorem dX7_decides_79 : decode cX7_decides 79 = .ok (.iload_n 1, 1) := by decide +kernel
theorem dX7_decides_80 : decode cX7_decides 80 = .ok (.ishl, 1) := by decide +kernel
theorem dX7_decides_81 : decode cX7_decides 81 = .ok (.ior, 1) := by decide +kernel
theorem dX7_decides_82 : decode cX7_decides 82 = .ok (.putfield 84, 3) := by decide +kernel
theorem dX7_decides_85 : decode cX7_decides 85 = .ok (.aload_n 0, 1) := by decide +kernel
theorem dX7_decides_86 : decode cX7_decides 86 = .ok (.aload_n 0, 1) := by decide +kernel
theorem dX7_decides_87 : decode cX7_decides 87 = .ok (.invokevirtual 101, 3) := by decide +kernel
theorem dX7_decides_90 : decode cX7_decides 90 = .ok (.iconst 4, 1) := by decide +kernel
theorem dX7_decides_91 : decode cX7_decides 91 = .ok (.invokevirtual 97, 3) := by decide +kernel
theorem dX7_decides_94 : decode cX7_decides 94 = .ok (.ifCond .eq 31, 3) := by decide +kernel
theorem dX7_decides_97 : decode cX7_decides 97 = .ok (.aload_n 0, 1) := by decide +kernel
theorem dX7_decides_98 : decode cX7_decides 98 = .ok (.dup, 1) := by decide +kernel
theorem dX7_decides_99 : decode cX7_decides 99 = .ok (.getfield 81, 3) := by decide +kernel
theorem dX7_decides_102 : decode cX7_decides 102 = .ok (.iconst 1, 1) := by decide +kernel
theorem dX7_decides_103 : decode cX7_decides 103 = .ok (.iload_n 1, 1) := by decide +kernel
theorem dX7_decides_104 : decode cX7_decides 104 = .ok (.ishl, 1) := by decide +kernel
theorem dX7_decides_105 : decode cX7_decides 105 = .ok (.iconst (-1), 1) := by decide +kernel
theorem dX7_decides_106 : decode cX7_decides 106 = .ok (.ixor, 1) := by decide +kernel
theorem dX7_decides_107 : decode cX7_decides 107 = .ok (.iand, 1) := by decide +kernel
theorem dX7_decides_108 : decode cX7_decides 108 = .ok (.putfield 81, 3) := by decide +kernel
theorem dX7_decides_111 : decode cX7_decides 111 = .ok (.aload_n 0, 1) := by decide +kernel
theorem dX7_decides_112 : decode cX7_decides 112 = .ok (.dup, 1) := by decide +kernel
theorem dX7_decides_113 : decode cX7_decides 113 = .ok (.getfield 84, 3) := by decide +kernel
theorem dX7_decides_116 : decode cX7_decides 116 = .ok (.iconst 1, 1) := by decide +kernel
theorem dX7_decides_117 : decode cX7_decides 117 = .ok (.iload_n 1, 1) := by decide +kernel
theorem dX7_decides_118 : decode cX7_decides 118 = .ok (.ishl, 1) := by decide +kernel
theorem dX7_decides_119 : decode cX7_decides 119 = .ok (.iconst (-1), 1) := by decide +kernel
theorem dX7_decides_120 : decode cX7_decides 120 = .ok (.ixor, 1) := by decide +kernel
theorem dX7_decides_121 : decode cX7_decides 121 = .ok (.iand, 1) := by decide +kernel
theorem dX7_decides_122 : decode cX7_decides 122 = .ok (.putfield 84, 3) := by decide +kernel
theorem dX7_decides_125 : decode cX7_decides 125 = .ok (.aload_n 0, 1) := by decide +kernel
theorem dX7_decides_126 : decode cX7_decides 126 = .ok (.invokevirtual 112, 3) := by decide +kernel
theorem dX7_decides_129 : decode cX7_decides 129 = .ok (.ireturn, 1) := by decide +kernel
theorem dX7_choose_0 : decode cX7_choose 0 = .ok (.aload_n 0, 1) := by decide +kernel
theorem dX7_choose_1 : decode cX7_choose 1 = .ok (.iload_n 1, 1) := by decide +kernel
theorem dX7_choose_2 : decode cX7_choose 2 = .ok (.iconst 1, 1) := by decide +kernel
theorem dX7_choose_3 : decode cX7_choose 3 = .ok (.invokevirtual 116, 3) := by decide +kernel
theorem dX7_choose_6 : decode cX7_choose 6 = .ok (.ireturn, 1) := by decide +kernel
theorem dX7_refuse_0 : decode cX7_refuse 0 = .ok (.aload_n 0, 1) := by decide +kernel
theorem dX7_refuse_1 : decode cX7_refuse 1 = .ok (.iload_n 1, 1) := by decide +kernel
theorem dX7_refuse_2 : decode cX7_refuse 2 = .ok (.iconst 0, 1) := by decide +kernel
theorem dX7_refuse_3 : decode cX7_refuse 3 = .ok (.invokevirtual 116, 3) := by decide +kernel
theorem dX7_refuse_6 : decode cX7_refuse 6 = .ok (.ireturn, 1) := by decide +kernel
theorem dX7_retract_0 : decode cX7_retract 0 = .ok (.aload_n 0, 1) := by decide +kernel
theorem dX7_retract_1 : decode cX7_retract 1 = .ok (.aload_n 0, 1) := by decide +kernel
theorem dX7_retract_2 : decode cX7_retract 2 = .ok (.iload_n 1, 1) := by decide +kernel
theorem dX7_retract_3 : decode cX7_retract 3 = .ok (.invokevirtual 94, 3) := by decide +kernel
theorem dX7_retract_6 : decode cX7_retract 6 = .ok (.iconst 1, 1) := by decide +kernel
theorem dX7_retract_7 : decode cX7_retract 7 = .ok (.invokevirtual 97, 3) := by decide +kernel
theorem dX7_retract_10 : decode cX7_retract 10 = .ok (.ifCond .ne 24, 3) := by decide +kernel
theorem dX7_retract_13 : decode cX7_retract 13 = .ok (.aload_n 0, 1) := by decide +kernel
theorem dX7_retract_14 : decode cX7_retract 14 = .ok (.aload_n 0, 1) := by decide +kernel
theorem dX7_retract_15 : decode cX7_retract 15 = .ok (.iload_n 1, 1) := by decide +kernel
theorem dX7_retract_16 : decode cX7_retract 16 = .ok (.invokevirtual 109, 3) := by decide +kernel
theorem dX7_retract_19 : decode cX7_retract 19 = .ok (.ifCond .ne 7, 3) := by decide +kernel
theorem dX7_retract_22 : decode cX7_retract 22 = .ok (.iconst 1, 1) := by decide +kernel
theorem dX7_retract_23 : decode cX7_retract 23 = .ok (.goto 4, 3) := by decide +kernel
theorem dX7_retract_26 : decode cX7_retract 26 = .ok (.iconst 0, 1) := by decide +kernel
theorem dX7_retract_27 : decode cX7_retract 27 = .ok (.iconst 2, 1) := by decide +kernel
theorem dX7_retract_28 : decode cX7_retract 28 = .ok (.invokevirtual 97, 3) := by decide +kernel
theorem dX7_retract_31 : decode cX7_retract 31 = .ok (.ifCond .eq 6, 3) := by decide +kernel
theorem dX7_retract_34 : decode cX7_retract 34 = .ok (.bipush 45, 2) := by decide +kernel
theorem dX7_retract_36 : decode cX7_retract 36 = .ok (.ireturn, 1) := by decide +kernel
theorem dX7_retract_37 : decode cX7_retract 37 = .ok (.aload_n 0, 1) := by decide +kernel
theorem dX7_retract_38 : decode cX7_retract 38 = .ok (.getfield 81, 3) := by decide +kernel
theorem dX7_retract_41 : decode cX7_retract 41 = .ok (.iload_n 1, 1) := by decide +kernel
theorem dX7_retract_42 : decode cX7_retract 42 = .ok (.invokestatic 71, 3) := by decide +kernel
theorem dX7_retract_45 : decode cX7_retract 45 = .ok (.ifCond .eq 8, 3) := by decide +kernel
theorem dX7_retract_48 : decode cX7_retract 48 = .ok (.bipush 99, 2) := by decide +kernel
theorem dX7_retract_50 : decode cX7_retract 50 = .ok (.goto 5, 3) := by decide +kernel
theorem dX7_retract_53 : decode cX7_retract 53 = .ok (.bipush 114, 2) := by decide +kernel
theorem dX7_retract_55 : decode cX7_retract 55 = .ok (.istore_n 2, 1) := by decide +kernel
theorem dX7_retract_56 : decode cX7_retract 56 = .ok (.aload_n 0, 1) := by decide +kernel
theorem dX7_retract_57 : decode cX7_retract 57 = .ok (.dup, 1) := by decide +kernel
theorem dX7_retract_58 : decode cX7_retract 58 = .ok (.getfield 81, 3) := by decide +kernel
theorem dX7_retract_61 : decode cX7_retract 61 = .ok (.iconst 1, 1) := by decide +kernel
theorem dX7_retract_62 : decode cX7_retract 62 = .ok (.iload_n 1, 1) := by decide +kernel
theorem dX7_retract_63 : decode cX7_retract 63 = .ok (.ishl, 1) := by decide +kernel
theorem dX7_retract_64 : decode cX7_retract 64 = .ok (.iconst (-1), 1) := by decide +kernel
theorem dX7_retract_65 : decode cX7_retract 65 = .ok (.ixor, 1) := by decide +kernel
theorem dX7_retract_66 : decode cX7_retract 66 = .ok (.iand, 1) := by decide +kernel
theorem dX7_retract_67 : decode cX7_retract 67 = .ok (.putfield 81, 3) := by decide +kernel
theorem dX7_retract_70 : decode cX7_retract 70 = .ok (.aload_n 0, 1) := by decide +kernel
theorem dX7_retract_71 : decode cX7_retract 71 = .ok (.dup, 1) := by decide +kernel
theorem dX7_retract_72 : decode cX7_retract 72 = .ok (.getfield 84, 3) := by decide +kernel
theorem dX7_retract_75 : decode cX7_retract 75 = .ok (.iconst 1, 1) := by decide +kernel
theorem dX7_retract_76 : decode cX7_retract 76 = .ok (.iload_n 1, 1) := by decide +kernel
theorem dX7_retract_77 : decode cX7_retract 77 = .ok (.ishl, 1) := by decide +kernel
theorem dX7_retract_78 : decode cX7_retract 78 = .ok (.iconst (-1), 1) := by decide +kernel
theorem dX7_retract_79 : decode cX7_retract 79 = .ok (.ixor, 1) := by decide +kernel
theorem dX7_retract_80 : decode cX7_retract 80 = .ok (.iand, 1) := by decide +kernel
theorem dX7_retract_81 : decode cX7_retract 81 = .ok (.putfield 84, 3) := by decide +kernel
theorem dX7_retract_84 : decode cX7_retract 84 = .ok (.iload_n 2, 1) := by decide +kernel
theorem dX7_retract_85 : decode cX7_retract 85 = .ok (.ireturn, 1) := by decide +kernel
theorem dX7_retractAll_0 : decode cX7_retractAll 0 = .ok (.aload_n 0, 1) := by decide +kernel
theorem dX7_retractAll_1 : decode cX7_retractAll 1 = .ok (.iconst 0, 1) := by decide +kernel
theorem dX7_retractAll_2 : decode cX7_retractAll 2 = .ok (.putfield 64, 3) := by decide +kernel
theorem dX7_retractAll_5 : decode cX7_retractAll 5 = .ok (.aload_n 0, 1) := by decide +kernel
theorem dX7_retractAll_6 : decode cX7_retractAll 6 = .ok (.getfield 81, 3) := by decide +kernel
theorem dX7_retractAll_9 : decode cX7_retractAll 9 = .ok (.aload_n 0, 1) := by decide +kernel
theorem dX7_retractAll_10 : decode cX7_retractAll 10 = .ok (.getfield 84, 3) := by decide +kernel
theorem dX7_retractAll_13 : decode cX7_retractAll 13 = .ok (.ior, 1) := by decide +kernel
theorem dX7_retractAll_14 : decode cX7_retractAll 14 = .ok (.invokestatic 120, 3) := by decide +kernel
theorem dX7_retractAll_17 : decode cX7_retractAll 17 = .ok (.istore_n 1, 1) := by decide +kernel
theorem dX7_retractAll_18 : decode cX7_retractAll 18 = .ok (.aload_n 0, 1) := by decide +kernel
theorem dX7_retractAll_19 : decode cX7_retractAll 19 = .ok (.iconst 0, 1) := by decide +kernel
theorem dX7_retractAll_20 : decode cX7_retractAll 20 = .ok (.putfield 81, 3) := by decide +kernel
theorem dX7_retractAll_23 : decode cX7_retractAll 23 = .ok (.aload_n 0, 1) := by decide +kernel
theorem dX7_retractAll_24 : decode cX7_retractAll 24 = .ok (.iconst 0, 1) := by decide +kernel
theorem dX7_retractAll_25 : decode cX7_retractAll 25 = .ok (.putfield 84, 3) := by decide +kernel
theorem dX7_retractAll_28 : decode cX7_retractAll 28 = .ok (.iload_n 1, 1) := by decide +kernel
theorem dX7_retractAll_29 : decode cX7_retractAll 29 = .ok (.ireturn, 1) := by decide +kernel
theorem dX7_stateOf_0 : decode cX7_stateOf 0 = .ok (.aload_n 0, 1) := by decide +kernel
theorem dX7_stateOf_1 : decode cX7_stateOf 1 = .ok (.aload_n 0, 1) := by decide +kernel
theorem dX7_stateOf_2 : decode cX7_stateOf 2 = .ok (.iload_n 1, 1) := by decide +kernel
theorem dX7_stateOf_3 : decode cX7_stateOf 3 = .ok (.invokevirtual 94, 3) := by decide +kernel
theorem dX7_stateOf_6 : decode cX7_stateOf 6 = .ok (.iconst 1, 1) := by decide +kernel
theorem dX7_stateOf_7 : decode cX7_stateOf 7 = .ok (.invokevirtual 97, 3) := by decide +kernel
theorem dX7_stateOf_10 : decode cX7_stateOf 10 = .ok (.ifCond .eq 6, 3) := by decide +kernel
theorem dX7_stateOf_13 : decode cX7_stateOf 13 = .ok (.bipush 45, 2) := by decide +kernel
theorem dX7_stateOf_15 : decode cX7_stateOf 15 = .ok (.ireturn, 1) := by decide +kernel
theorem dX7_stateOf_16 : decode cX7_stateOf 16 = .ok (.iconst 0, 1) := by decide +kernel
theorem dX7_stateOf_17 : decode cX7_stateOf 17 = .ok (.istore_n 2, 1) := by decide +kernel
theorem dX7_stateOf_18 : decode cX7_stateOf 18 = .ok (.iconst 0, 1) := by decide +kernel
theorem dX7_stateOf_19 : decode cX7_stateOf 19 = .ok (.istore_n 3, 1) := by decide +kernel
theorem dX7_stateOf_20 : decode cX7_stateOf 20 = .ok (.iconst 1, 1) := by decide +kernel
theorem dX7_stateOf_21 : decode cX7_stateOf 21 = .ok (.istore 4, 2) := by decide +kernel
theorem dX7_stateOf_23 : decode cX7_stateOf 23 = .ok (.iload 4, 2) := by decide +kernel
theorem dX7_stateOf_25 : decode cX7_stateOf 25 = .ok (.iconst 1, 1) := by decide +kernel
theorem dX7_stateOf_26 : decode cX7_stateOf 26 = .ok (.aload_n 0, 1) := by decide +kernel
theorem dX7_stateOf_27 : decode cX7_stateOf 27 = .ok (.getfield 60, 3) := by decide +kernel
theorem dX7_stateOf_30 : decode cX7_stateOf 30 = .ok (.ishl, 1) := by decide +kernel
theorem dX7_stateOf_31 : decode cX7_stateOf 31 = .ok (.if_icmp .ge 61, 3) := by decide +kernel
theorem dX7_stateOf_34 : decode cX7_stateOf 34 = .ok (.aload_n 0, 1) := by decide +kernel
theorem dX7_stateOf_35 : decode cX7_stateOf 35 = .ok (.iload 4, 2) := by decide +kernel
theorem dX7_stateOf_37 : decode cX7_stateOf 37 = .ok (.invokevirtual 91, 3) := by decide +kernel
theorem dX7_stateOf_40 : decode cX7_stateOf 40 = .ok (.istore 5, 2) := by decide +kernel
theorem dX7_stateOf_42 : decode cX7_stateOf 42 = .ok (.iload_n 2, 1) := by decide +kernel
theorem dX7_stateOf_43 : decode cX7_stateOf 43 = .ok (.iload 5, 2) := by decide +kernel
theorem dX7_stateOf_45 : decode cX7_stateOf 45 = .ok (.ifCond .eq 16, 3) := by decide +kernel
theorem dX7_stateOf_48 : decode cX7_stateOf 48 = .ok (.iload 4, 2) := by decide +kernel
theorem dX7_stateOf_50 : decode cX7_stateOf 50 = .ok (.iload_n 1, 1) := by decide +kernel
theorem dX7_stateOf_51 : decode cX7_stateOf 51 = .ok (.invokestatic 71, 3) := by decide +kernel
theorem dX7_stateOf_54 : decode cX7_stateOf 54 = .ok (.ifCond .eq 7, 3) := by decide +kernel
theorem dX7_stateOf_57 : decode cX7_stateOf 57 = .ok (.iconst 1, 1) := by decide +kernel
theorem dX7_stateOf_58 : decode cX7_stateOf 58 = .ok (.goto 4, 3) := by decide +kernel
theorem dX7_stateOf_61 : decode cX7_stateOf 61 = .ok (.iconst 0, 1) := by decide +kernel
theorem dX7_stateOf_62 : decode cX7_stateOf 62 = .ok (.iadd, 1) := by decide +kernel
theorem dX7_stateOf_63 : decode cX7_stateOf 63 = .ok (.istore_n 2, 1) := by decide +kernel
theorem dX7_stateOf_64 : decode cX7_stateOf 64 = .ok (.iload_n 3, 1) := by decide +kernel
theorem dX7_stateOf_65 : decode cX7_stateOf 65 = .ok (.iload 5, 2) := by decide +kernel
theorem dX7_stateOf_67 : decode cX7_stateOf 67 = .ok (.ifCond .eq 16, 3) := by decide +kernel
theorem dX7_stateOf_70 : decode cX7_stateOf 70 = .ok (.iload 4, 2) := by decide +kernel
theorem dX7_stateOf_72 : decode cX7_stateOf 72 = .ok (.iload_n 1, 1) := by decide +kernel
theorem dX7_stateOf_73 : decode cX7_stateOf 73 = .ok (.invokestatic 71, 3) := by decide +kernel
theorem dX7_stateOf_76 : decode cX7_stateOf 76 = .ok (.ifCond .ne 7, 3) := by decide +kernel
theorem dX7_stateOf_79 : decode cX7_stateOf 79 = .ok (.iconst 1, 1) := by decide +kernel
theorem dX7_stateOf_80 : decode cX7_stateOf 80 = .ok (.goto 4, 3) := by decide +kernel
theorem dX7_stateOf_83 : decode cX7_stateOf 83 = .ok (.iconst 0, 1) := by decide +kernel
theorem dX7_stateOf_84 : decode cX7_stateOf 84 = .ok (.iadd, 1) := by decide +kernel
theorem dX7_stateOf_85 : decode cX7_stateOf 85 = .ok (.istore_n 3, 1) := by decide +kernel
theorem dX7_stateOf_86 : decode cX7_stateOf 86 = .ok (.iinc 4 2, 3) := by decide +kernel
theorem dX7_stateOf_89 : decode cX7_stateOf 89 = .ok (.goto (-66), 3) := by decide +kernel
theorem dX7_stateOf_92 : decode cX7_stateOf 92 = .ok (.aload_n 0, 1) := by decide +kernel
theorem dX7_stateOf_93 : decode cX7_stateOf 93 = .ok (.getfield 81, 3) := by decide +kernel
theorem dX7_stateOf_96 : decode cX7_stateOf 96 = .ok (.iload_n 1, 1) := by decide +kernel
theorem dX7_stateOf_97 : decode cX7_stateOf 97 = .ok (.invokestatic 71, 3) := by decide +kernel
theorem dX7_stateOf_100 : decode cX7_stateOf 100 = .ok (.ifCond .eq 8, 3) := by decide +kernel
theorem dX7_stateOf_103 : decode cX7_stateOf 103 = .ok (.bipush 99, 2) := by decide +kernel
theorem dX7_stateOf_105 : decode cX7_stateOf 105 = .ok (.goto 39, 3) := by decide +kernel
theorem dX7_stateOf_108 : decode cX7_stateOf 108 = .ok (.aload_n 0, 1) := by decide +kernel
theorem dX7_stateOf_109 : decode cX7_stateOf 109 = .ok (.getfield 84, 3) := by decide +kernel
theorem dX7_stateOf_112 : decode cX7_stateOf 112 = .ok (.iload_n 1, 1) := by decide +kernel
theorem dX7_stateOf_113 : decode cX7_stateOf 113 = .ok (.invokestatic 71, 3) := by decide +kernel
theorem dX7_stateOf_116 : decode cX7_stateOf 116 = .ok (.ifCond .eq 8, 3) := by decide +kernel
theorem dX7_stateOf_119 : decode cX7_stateOf 119 = .ok (.bipush 114, 2) := by decide +kernel
theorem dX7_stateOf_121 : decode cX7_stateOf 121 = .ok (.goto 23, 3) := by decide +kernel
theorem dX7_stateOf_124 : decode cX7_stateOf 124 = .ok (.iload_n 3, 1) := by decide +kernel
theorem dX7_stateOf_125 : decode cX7_stateOf 125 = .ok (.ifCond .ne 8, 3) := by decide +kernel
theorem dX7_stateOf_128 : decode cX7_stateOf 128 = .ok (.bipush 97, 2) := by decide +kernel
theorem dX7_stateOf_130 : decode cX7_stateOf 130 = .ok (.goto 14, 3) := by decide +kernel
theorem dX7_stateOf_133 : decode cX7_stateOf 133 = .ok (.iload_n 2, 1) := by decide +kernel
theorem dX7_stateOf_134 : decode cX7_stateOf 134 = .ok (.ifCond .ne 8, 3) := by decide +kernel
theorem dX7_stateOf_137 : decode cX7_stateOf 137 = .ok (.bipush 120, 2) := by decide +kernel
theorem dX7_stateOf_139 : decode cX7_stateOf 139 = .ok (.goto 5, 3) := by decide +kernel
theorem dX7_stateOf_142 : decode cX7_stateOf 142 = .ok (.bipush 111, 2) := by decide +kernel
theorem dX7_stateOf_144 : decode cX7_stateOf 144 = .ok (.ireturn, 1) := by decide +kernel
theorem dX7_stateByAll_0 : decode cX7_stateByAll 0 = .ok (.aload_n 0, 1) := by decide +kernel
theorem dX7_stateByAll_1 : decode cX7_stateByAll 1 = .ok (.iload_n 1, 1) := by decide +kernel
theorem dX7_stateByAll_2 : decode cX7_stateByAll 2 = .ok (.invokevirtual 126, 3) := by decide +kernel
theorem dX7_stateByAll_5 : decode cX7_stateByAll 5 = .ok (.ireturn, 1) := by decide +kernel
theorem dX7_children_0 : decode cX7_children 0 = .ok (.iconst 0, 1) := by decide +kernel
theorem dX7_children_1 : decode cX7_children 1 = .ok (.istore_n 3, 1) := by decide +kernel
theorem dX7_children_2 : decode cX7_children 2 = .ok (.iconst 1, 1) := by decide +kernel
theorem dX7_children_3 : decode cX7_children 3 = .ok (.istore 4, 2) := by decide +kernel
theorem dX7_children_5 : decode cX7_children 5 = .ok (.iload 4, 2) := by decide +kernel
theorem dX7_children_7 : decode cX7_children 7 = .ok (.aload_n 0, 1) := by decide +kernel
theorem dX7_children_8 : decode cX7_children 8 = .ok (.getfield 60, 3) := by decide +kernel
theorem dX7_children_11 : decode cX7_children 11 = .ok (.if_icmp .ge 59, 3) := by decide +kernel
theorem dX7_children_14 : decode cX7_children 14 = .ok (.iload_n 3, 1) := by decide +kernel
theorem dX7_children_15 : decode cX7_children 15 = .ok (.aload_n 0, 1) := by decide +kernel
theorem dX7_children_16 : decode cX7_children 16 = .ok (.getfield 9, 3) := by decide +kernel
theorem dX7_children_19 : decode cX7_children 19 = .ok (.iload 4, 2) := by decide +kernel
theorem dX7_children_21 : decode cX7_children 21 = .ok (.iaload, 1) := by decide +kernel
theorem dX7_children_22 : decode cX7_children 22 = .ok (.iload_n 1, 1) := by decide +kernel
theorem dX7_children_23 : decode cX7_children 23 = .ok (.if_icmp .ne 38, 3) := by decide +kernel
theorem dX7_children_26 : decode cX7_children 26 = .ok (.iload_n 2, 1) := by decide +kernel
theorem dX7_children_27 : decode cX7_children 27 = .ok (.ifCond .eq 18, 3) := by decide +kernel
theorem dX7_children_30 : decode cX7_children 30 = .ok (.aload_n 0, 1) := by decide +kernel
theorem dX7_children_31 : decode cX7_children 31 = .ok (.getfield 130, 3) := by decide +kernel
theorem dX7_children_34 : decode cX7_children 34 = .ok (.iload 4, 2) := by decide +kernel
theorem dX7_children_36 : decode cX7_children 36 = .ok (.invokestatic 71, 3) := by decide +kernel
theorem dX7_children_39 : decode cX7_children 39 = .ok (.ifCond .eq 22, 3) := by decide +kernel
theorem dX7_children_42 : decode cX7_children 42 = .ok (.goto 15, 3) := by decide +kernel
theorem dX7_children_45 : decode cX7_children 45 = .ok (.aload_n 0, 1) := by decide +kernel
theorem dX7_children_46 : decode cX7_children 46 = .ok (.getfield 133, 3) := by decide +kernel
theorem dX7_children_49 : decode cX7_children 49 = .ok (.iload 4, 2) := by decide +kernel
theorem dX7_children_51 : decode cX7_children 51 = .ok (.invokestatic 71, 3) := by decide +kernel
theorem dX7_children_54 : decode cX7_children 54 = .ok (.ifCond .ne 7, 3) := by decide +kernel
theorem dX7_children_57 : decode cX7_children 57 = .ok (.iconst 1, 1) := by decide +kernel
theorem dX7_children_58 : decode cX7_children 58 = .ok (.goto 4, 3) := by decide +kernel
theorem dX7_children_61 : decode cX7_children 61 = .ok (.iconst 0, 1) := by decide +kernel
theorem dX7_children_62 : decode cX7_children 62 = .ok (.iadd, 1) := by decide +kernel
theorem dX7_children_63 : decode cX7_children 63 = .ok (.istore_n 3, 1) := by decide +kernel
theorem dX7_children_64 : decode cX7_children 64 = .ok (.iinc 4 1, 3) := by decide +kernel
theorem dX7_children_67 : decode cX7_children 67 = .ok (.goto (-62), 3) := by decide +kernel
theorem dX7_children_70 : decode cX7_children 70 = .ok (.iload_n 3, 1) := by decide +kernel
theorem dX7_children_71 : decode cX7_children 71 = .ok (.ireturn, 1) := by decide +kernel
theorem dX7_hasOffChild_0 : decode cX7_hasOffChild 0 = .ok (.iconst 0, 1) := by decide +kernel
theorem dX7_hasOffChild_1 : decode cX7_hasOffChild 1 = .ok (.istore_n 2, 1) := by decide +kernel
theorem dX7_hasOffChild_2 : decode cX7_hasOffChild 2 = .ok (.iconst 1, 1) := by decide +kernel
theorem dX7_hasOffChild_3 : decode cX7_hasOffChild 3 = .ok (.istore_n 3, 1) := by decide +kernel
theorem dX7_hasOffChild_4 : decode cX7_hasOffChild 4 = .ok (.iload_n 3, 1) := by decide +kernel
theorem dX7_hasOffChild_5 : decode cX7_hasOffChild 5 = .ok (.aload_n 0, 1) := by decide +kernel
theorem dX7_hasOffChild_6 : decode cX7_hasOffChild 6 = .ok (.getfield 60, 3) := by decide +kernel
theorem dX7_hasOffChild_9 : decode cX7_hasOffChild 9 = .ok (.if_icmp .ge 47, 3) := by decide +kernel
theorem dX7_hasOffChild_12 : decode cX7_hasOffChild 12 = .ok (.iload_n 2, 1) := by decide +kernel
theorem dX7_hasOffChild_13 : decode cX7_hasOffChild 13 = .ok (.aload_n 0, 1) := by decide +kernel
theorem dX7_hasOffChild_14 : decode cX7_hasOffChild 14 = .ok (.getfield 9, 3) := by decide +kernel
theorem dX7_hasOffChild_17 : decode cX7_hasOffChild 17 = .ok (.iload_n 3, 1) := by decide +kernel
theorem dX7_hasOffChild_18 : decode cX7_hasOffChild 18 = .ok (.iaload, 1) := by decide +kernel
theorem dX7_hasOffChild_19 : decode cX7_hasOffChild 19 = .ok (.iload_n 1, 1) := by decide +kernel
theorem dX7_hasOffChild_20 : decode cX7_hasOffChild 20 = .ok (.if_icmp .ne 27, 3) := by decide +kernel
theorem dX7_hasOffChild_23 : decode cX7_hasOffChild 23 = .ok (.aload_n 0, 1) := by decide +kernel
theorem dX7_hasOffChild_24 : decode cX7_hasOffChild 24 = .ok (.getfield 22, 3) := by decide +kernel
theorem dX7_hasOffChild_27 : decode cX7_hasOffChild 27 = .ok (.iload_n 3, 1) := by decide +kernel
theorem dX7_hasOffChild_28 : decode cX7_hasOffChild 28 = .ok (.baload, 1) := by decide +kernel
theorem dX7_hasOffChild_29 : decode cX7_hasOffChild 29 = .ok (.ifCond .eq 18, 3) := by decide +kernel
theorem dX7_hasOffChild_32 : decode cX7_hasOffChild 32 = .ok (.aload_n 0, 1) := by decide +kernel
theorem dX7_hasOffChild_33 : decode cX7_hasOffChild 33 = .ok (.getfield 133, 3) := by decide +kernel
theorem dX7_hasOffChild_36 : decode cX7_hasOffChild 36 = .ok (.iload_n 3, 1) := by decide +kernel
theorem dX7_hasOffChild_37 : decode cX7_hasOffChild 37 = .ok (.invokestatic 71, 3) := by decide +kernel
theorem dX7_hasOffChild_40 : decode cX7_hasOffChild 40 = .ok (.ifCond .eq 7, 3) := by decide +kernel
theorem dX7_hasOffChild_43 : decode cX7_hasOffChild 43 = .ok (.iconst 1, 1) := by decide +kernel
theorem dX7_hasOffChild_44 : decode cX7_hasOffChild 44 = .ok (.goto 4, 3) := by decide +kernel
theorem dX7_hasOffChild_47 : decode cX7_hasOffChild 47 = .ok (.iconst 0, 1) := by decide +kernel
theorem dX7_hasOffChild_48 : decode cX7_hasOffChild 48 = .ok (.ior, 1) := by decide +kernel
theorem dX7_hasOffChild_49 : decode cX7_hasOffChild 49 = .ok (.istore_n 2, 1) := by decide +kernel
theorem dX7_hasOffChild_50 : decode cX7_hasOffChild 50 = .ok (.iinc 3 1, 3) := by decide +kernel
theorem dX7_hasOffChild_53 : decode cX7_hasOffChild 53 = .ok (.goto (-49), 3) := by decide +kernel
theorem dX7_hasOffChild_56 : decode cX7_hasOffChild 56 = .ok (.iload_n 2, 1) := by decide +kernel
theorem dX7_hasOffChild_57 : decode cX7_hasOffChild 57 = .ok (.ireturn, 1) := by decide +kernel
theorem dX7_told_0 : decode cX7_told 0 = .ok (.aload_n 0, 1) := by decide +kernel
theorem dX7_told_1 : decode cX7_told 1 = .ok (.getfield 29, 3) := by decide +kernel
theorem dX7_told_4 : decode cX7_told 4 = .ok (.iload_n 1, 1) := by decide +kernel
theorem dX7_told_5 : decode cX7_told 5 = .ok (.caload, 1) := by decide +kernel
theorem dX7_told_6 : decode cX7_told 6 = .ok (.bipush 114, 2) := by decide +kernel
theorem dX7_told_8 : decode cX7_told 8 = .ok (.if_icmp .ne 65, 3) := by decide +kernel
theorem dX7_told_11 : decode cX7_told 11 = .ok (.iload_n 2, 1) := by decide +kernel
theorem dX7_told_12 : decode cX7_told 12 = .ok (.aload_n 0, 1) := by decide +kernel
theorem dX7_told_13 : decode cX7_told 13 = .ok (.getfield 42, 3) := by decide +kernel
theorem dX7_told_16 : decode cX7_told 16 = .ok (.iload_n 1, 1) := by decide +kernel
theorem dX7_told_17 : decode cX7_told 17 = .ok (.iaload, 1) := by decide +kernel
theorem dX7_told_18 : decode cX7_told 18 = .ok (.if_icmp .ne 23, 3) := by decide +kernel
theorem dX7_told_21 : decode cX7_told 21 = .ok (.aload_n 0, 1) := by decide +kernel
theorem dX7_told_22 : decode cX7_told 22 = .ok (.getfield 130, 3) := by decide +kernel
theorem dX7_told_25 : decode cX7_told 25 = .ok (.aload_n 0, 1) := by decide +kernel
theorem dX7_told_26 : decode cX7_told 26 = .ok (.getfield 39, 3) := by decide +kernel
theorem dX7_told_29 : decode cX7_told 29 = .ok (.iload_n 1, 1) := by decide +kernel
theorem dX7_told_30 : decode cX7_told 30 = .ok (.iaload, 1) := by decide +kernel
theorem dX7_told_31 : decode cX7_told 31 = .ok (.invokestatic 71, 3) := by decide +kernel
theorem dX7_told_34 : decode cX7_told 34 = .ok (.ifCond .eq 7, 3) := by decide +kernel
theorem dX7_told_37 : decode cX7_told 37 = .ok (.iconst 1, 1) := by decide +kernel
theorem dX7_told_38 : decode cX7_told 38 = .ok (.goto 34, 3) := by decide +kernel
theorem dX7_told_41 : decode cX7_told 41 = .ok (.iload_n 2, 1) := by decide +kernel
theorem dX7_told_42 : decode cX7_told 42 = .ok (.aload_n 0, 1) := by decide +kernel
theorem dX7_told_43 : decode cX7_told 43 = .ok (.getfield 39, 3) := by decide +kernel
theorem dX7_told_46 : decode cX7_told 46 = .ok (.iload_n 1, 1) := by decide +kernel
theorem dX7_told_47 : decode cX7_told 47 = .ok (.iaload, 1) := by decide +kernel
theorem dX7_told_48 : decode cX7_told 48 = .ok (.if_icmp .ne 23, 3) := by decide +kernel
theorem dX7_told_51 : decode cX7_told 51 = .ok (.aload_n 0, 1) := by decide +kernel
theorem dX7_told_52 : decode cX7_told 52 = .ok (.getfield 133, 3) := by decide +kernel
theorem dX7_told_55 : decode cX7_told 55 = .ok (.aload_n 0, 1) := by decide +kernel
theorem dX7_told_56 : decode cX7_told 56 = .ok (.getfield 42, 3) := by decide +kernel
theorem dX7_told_59 : decode cX7_told 59 = .ok (.iload_n 1, 1) := by decide +kernel
theorem dX7_told_60 : decode cX7_told 60 = .ok (.iaload, 1) := by decide +kernel
theorem dX7_told_61 : decode cX7_told 61 = .ok (.invokestatic 71, 3) := by decide +kernel
theorem dX7_told_64 : decode cX7_told 64 = .ok (.ifCond .eq 7, 3) := by decide +kernel
theorem dX7_told_67 : decode cX7_told 67 = .ok (.iconst (-1), 1) := by decide +kernel
theorem dX7_told_68 : decode cX7_told 68 = .ok (.goto 4, 3) := by decide +kernel
theorem dX7_told_71 : decode cX7_told 71 = .ok (.iconst 0, 1) := by decide +kernel
theorem dX7_told_72 : decode cX7_told 72 = .ok (.ireturn, 1) := by decide +kernel
theorem dX7_told_73 : decode cX7_told 73 = .ok (.aload_n 0, 1) := by decide +kernel
theorem dX7_told_74 : decode cX7_told 74 = .ok (.getfield 29, 3) := by decide +kernel
theorem dX7_told_77 : decode cX7_told 77 = .ok (.iload_n 1, 1) := by decide +kernel
theorem dX7_told_78 : decode cX7_told 78 = .ok (.caload, 1) := by decide +kernel
theorem dX7_told_79 : decode cX7_told 79 = .ok (.bipush 101, 2) := by decide +kernel
theorem dX7_told_81 : decode cX7_told 81 = .ok (.if_icmp .ne 61, 3) := by decide +kernel
theorem dX7_told_84 : decode cX7_told 84 = .ok (.iload_n 2, 1) := by decide +kernel
theorem dX7_told_85 : decode cX7_told 85 = .ok (.aload_n 0, 1) := by decide +kernel
theorem dX7_told_86 : decode cX7_told 86 = .ok (.getfield 42, 3) := by decide +kernel
theorem dX7_told_89 : decode cX7_told 89 = .ok (.iload_n 1, 1) := by decide +kernel
theorem dX7_told_90 : decode cX7_told 90 = .ok (.iaload, 1) := by decide +kernel
theorem dX7_told_91 : decode cX7_told 91 = .ok (.if_icmp .ne 19, 3) := by decide +kernel
theorem dX7_told_94 : decode cX7_told 94 = .ok (.aload_n 0, 1) := by decide +kernel
theorem dX7_told_95 : decode cX7_told 95 = .ok (.getfield 130, 3) := by decide +kernel
theorem dX7_told_98 : decode cX7_told 98 = .ok (.aload_n 0, 1) := by decide +kernel
theorem dX7_told_99 : decode cX7_told 99 = .ok (.getfield 39, 3) := by decide +kernel
theorem dX7_told_102 : decode cX7_told 102 = .ok (.iload_n 1, 1) := by decide +kernel
theorem dX7_told_103 : decode cX7_told 103 = .ok (.iaload, 1) := by decide +kernel
theorem dX7_told_104 : decode cX7_told 104 = .ok (.invokestatic 71, 3) := by decide +kernel
theorem dX7_told_107 : decode cX7_told 107 = .ok (.ifCond .ne 29, 3) := by decide +kernel
theorem dX7_told_110 : decode cX7_told 110 = .ok (.iload_n 2, 1) := by decide +kernel
theorem dX7_told_111 : decode cX7_told 111 = .ok (.aload_n 0, 1) := by decide +kernel
theorem dX7_told_112 : decode cX7_told 112 = .ok (.getfield 39, 3) := by decide +kernel
theorem dX7_told_115 : decode cX7_told 115 = .ok (.iload_n 1, 1) := by decide +kernel
theorem dX7_told_116 : decode cX7_told 116 = .ok (.iaload, 1) := by decide +kernel
theorem dX7_told_117 : decode cX7_told 117 = .ok (.if_icmp .ne 23, 3) := by decide +kernel
theorem dX7_told_120 : decode cX7_told 120 = .ok (.aload_n 0, 1) := by decide +kernel
theorem dX7_told_121 : decode cX7_told 121 = .ok (.getfield 130, 3) := by decide +kernel
theorem dX7_told_124 : decode cX7_told 124 = .ok (.aload_n 0, 1) := by decide +kernel
theorem dX7_told_125 : decode cX7_told 125 = .ok (.getfield 42, 3) := by decide +kernel
theorem dX7_told_128 : decode cX7_told 128 = .ok (.iload_n 1, 1) := by decide +kernel
theorem dX7_told_129 : decode cX7_told 129 = .ok (.iaload, 1) := by decide +kernel
theorem dX7_told_130 : decode cX7_told 130 = .ok (.invokestatic 71, 3) := by decide +kernel
theorem dX7_told_133 : decode cX7_told 133 = .ok (.ifCond .eq 7, 3) := by decide +kernel
theorem dX7_told_136 : decode cX7_told 136 = .ok (.iconst (-1), 1) := by decide +kernel
theorem dX7_told_137 : decode cX7_told 137 = .ok (.goto 4, 3) := by decide +kernel
theorem dX7_told_140 : decode cX7_told 140 = .ok (.iconst 0, 1) := by decide +kernel
theorem dX7_told_141 : decode cX7_told 141 = .ok (.ireturn, 1) := by decide +kernel
theorem dX7_told_142 : decode cX7_told 142 = .ok (.iconst 1, 1) := by decide +kernel
theorem dX7_told_143 : decode cX7_told 143 = .ok (.aload_n 0, 1) := by decide +kernel
theorem dX7_told_144 : decode cX7_told 144 = .ok (.getfield 39, 3) := by decide +kernel
theorem dX7_told_147 : decode cX7_told 147 = .ok (.iload_n 1, 1) := by decide +kernel
theorem dX7_told_148 : decode cX7_told 148 = .ok (.iaload, 1) := by decide +kernel
theorem dX7_told_149 : decode cX7_told 149 = .ok (.ishl, 1) := by decide +kernel
theorem dX7_told_150 : decode cX7_told 150 = .ok (.iconst 1, 1) := by decide +kernel
theorem dX7_told_151 : decode cX7_told 151 = .ok (.aload_n 0, 1) := by decide +kernel
theorem dX7_told_152 : decode cX7_told 152 = .ok (.getfield 42, 3) := by decide +kernel
theorem dX7_told_155 : decode cX7_told 155 = .ok (.iload_n 1, 1) := by decide +kernel
theorem dX7_told_156 : decode cX7_told 156 = .ok (.iaload, 1) := by decide +kernel
theorem dX7_told_157 : decode cX7_told 157 = .ok (.ishl, 1) := by decide +kernel
theorem dX7_told_158 : decode cX7_told 158 = .ok (.ior, 1) := by decide +kernel
theorem dX7_told_159 : decode cX7_told 159 = .ok (.iconst 1, 1) := by decide +kernel
theorem dX7_told_160 : decode cX7_told 160 = .ok (.aload_n 0, 1) := by decide +kernel
theorem dX7_told_161 : decode cX7_told 161 = .ok (.getfield 45, 3) := by decide +kernel
theorem dX7_told_164 : decode cX7_told 164 = .ok (.iload_n 1, 1) := by decide +kernel
theorem dX7_told_165 : decode cX7_told 165 = .ok (.iaload, 1) := by decide +kernel
theorem dX7_told_166 : decode cX7_told 166 = .ok (.ishl, 1) := by decide +kernel
theorem dX7_told_167 : decode cX7_told 167 = .ok (.ior, 1) := by decide +kernel
theorem dX7_told_168 : decode cX7_told 168 = .ok (.istore_n 3, 1) := by decide +kernel
theorem dX7_told_169 : decode cX7_told 169 = .ok (.iload_n 3, 1) := by decide +kernel
theorem dX7_told_170 : decode cX7_told 170 = .ok (.iconst 1, 1) := by decide +kernel
theorem dX7_told_171 : decode cX7_told 171 = .ok (.iload_n 2, 1) := by decide +kernel
theorem dX7_told_172 : decode cX7_told 172 = .ok (.ishl, 1) := by decide +kernel
theorem dX7_told_173 : decode cX7_told 173 = .ok (.iconst (-1), 1) := by decide +kernel
theorem dX7_told_174 : decode cX7_told 174 = .ok (.ixor, 1) := by decide +kernel
theorem dX7_told_175 : decode cX7_told 175 = .ok (.iand, 1) := by decide +kernel
theorem dX7_told_176 : decode cX7_told 176 = .ok (.istore_n 3, 1) := by decide +kernel
theorem dX7_told_177 : decode cX7_told 177 = .ok (.iload_n 2, 1) := by decide +kernel
theorem dX7_told_178 : decode cX7_told 178 = .ok (.aload_n 0, 1) := by decide +kernel
theorem dX7_told_179 : decode cX7_told 179 = .ok (.getfield 39, 3) := by decide +kernel
theorem dX7_told_182 : decode cX7_told 182 = .ok (.iload_n 1, 1) := by decide +kernel
theorem dX7_told_183 : decode cX7_told 183 = .ok (.iaload, 1) := by decide +kernel
theorem dX7_told_184 : decode cX7_told 184 = .ok (.if_icmp .eq 23, 3) := by decide +kernel
theorem dX7_told_187 : decode cX7_told 187 = .ok (.iload_n 2, 1) := by decide +kernel
theorem dX7_told_188 : decode cX7_told 188 = .ok (.aload_n 0, 1) := by decide +kernel
theorem dX7_told_189 : decode cX7_told 189 = .ok (.getfield 42, 3) := by decide +kernel
theorem dX7_told_192 : decode cX7_told 192 = .ok (.iload_n 1, 1) := by decide +kernel
theorem dX7_told_193 : decode cX7_told 193 = .ok (.iaload, 1) := by decide +kernel
theorem dX7_told_194 : decode cX7_told 194 = .ok (.if_icmp .eq 13, 3) := by decide +kernel
theorem dX7_told_197 : decode cX7_told 197 = .ok (.iload_n 2, 1) := by decide +kernel
theorem dX7_told_198 : decode cX7_told 198 = .ok (.aload_n 0, 1) := by decide +kernel
theorem dX7_told_199 : decode cX7_told 199 = .ok (.getfield 45, 3) := by decide +kernel
theorem dX7_told_202 : decode cX7_told 202 = .ok (.iload_n 1, 1) := by decide +kernel
theorem dX7_told_203 : decode cX7_told 203 = .ok (.iaload, 1) := by decide +kernel
theorem dX7_told_204 : decode cX7_told 204 = .ok (.if_icmp .ne 17, 3) := by decide +kernel
theorem dX7_told_207 : decode cX7_told 207 = .ok (.aload_n 0, 1) := by decide +kernel
theorem dX7_told_208 : decode cX7_told 208 = .ok (.getfield 133, 3) := by decide +kernel
theorem dX7_told_211 : decode cX7_told 211 = .ok (.iload_n 3, 1) := by decide +kernel
theorem dX7_told_212 : decode cX7_told 212 = .ok (.iand, 1) := by decide +kernel
theorem dX7_told_213 : decode cX7_told 213 = .ok (.iload_n 3, 1) := by decide +kernel
theorem dX7_told_214 : decode cX7_told 214 = .ok (.if_icmp .ne 7, 3) := by decide +kernel
theorem dX7_told_217 : decode cX7_told 217 = .ok (.iconst 1, 1) := by decide +kernel
theorem dX7_told_218 : decode cX7_told 218 = .ok (.goto 4, 3) := by decide +kernel
theorem dX7_told_221 : decode cX7_told 221 = .ok (.iconst 0, 1) := by decide +kernel
theorem dX7_told_222 : decode cX7_told 222 = .ok (.ireturn, 1) := by decide +kernel
theorem dX7_becomes_0 : decode cX7_becomes 0 = .ok (.aload_n 0, 1) := by decide +kernel
theorem dX7_becomes_1 : decode cX7_becomes 1 = .ok (.dup, 1) := by decide +kernel
theorem dX7_becomes_2 : decode cX7_becomes 2 = .ok (.getfield 130, 3) := by decide +kernel
theorem dX7_becomes_5 : decode cX7_becomes 5 = .ok (.iload_n 2, 1) := by decide +kernel
theorem dX7_becomes_6 : decode cX7_becomes 6 = .ok (.ifCond .eq 9, 3) := by decide +kernel
theorem dX7_becomes_9 : decode cX7_becomes 9 = .ok (.iconst 1, 1) := by decide +kernel
theorem dX7_becomes_10 : decode cX7_becomes 10 = .ok (.iload_n 1, 1) := by decide +kernel
theorem dX7_becomes_11 : decode cX7_becomes 11 = .ok (.ishl, 1) := by decide +kernel
theorem dX7_becomes_12 : decode cX7_becomes 12 = .ok (.goto 4, 3) := by decide +kernel
theorem dX7_becomes_15 : decode cX7_becomes 15 = .ok (.iconst 0, 1) := by decide +kernel
theorem dX7_becomes_16 : decode cX7_becomes 16 = .ok (.ior, 1) := by decide +kernel
theorem dX7_becomes_17 : decode cX7_becomes 17 = .ok (.putfield 130, 3) := by decide +kernel
theorem dX7_becomes_20 : decode cX7_becomes 20 = .ok (.aload_n 0, 1) := by decide +kernel
theorem dX7_becomes_21 : decode cX7_becomes 21 = .ok (.dup, 1) := by decide +kernel
theorem dX7_becomes_22 : decode cX7_becomes 22 = .ok (.getfield 133, 3) := by decide +kernel
theorem dX7_becomes_25 : decode cX7_becomes 25 = .ok (.iload_n 2, 1) := by decide +kernel
theorem dX7_becomes_26 : decode cX7_becomes 26 = .ok (.ifCond .eq 7, 3) := by decide +kernel
theorem dX7_becomes_29 : decode cX7_becomes 29 = .ok (.iconst 0, 1) := by decide +kernel
theorem dX7_becomes_30 : decode cX7_becomes 30 = .ok (.goto 6, 3) := by decide +kernel
theorem dX7_becomes_33 : decode cX7_becomes 33 = .ok (.iconst 1, 1) := by decide +kernel
theorem dX7_becomes_34 : decode cX7_becomes 34 = .ok (.iload_n 1, 1) := by decide +kernel
theorem dX7_becomes_35 : decode cX7_becomes 35 = .ok (.ishl, 1) := by decide +kernel
theorem dX7_becomes_36 : decode cX7_becomes 36 = .ok (.ior, 1) := by decide +kernel
theorem dX7_becomes_37 : decode cX7_becomes 37 = .ok (.putfield 133, 3) := by decide +kernel
theorem dX7_becomes_40 : decode cX7_becomes 40 = .ok (.aload_n 0, 1) := by decide +kernel
theorem dX7_becomes_41 : decode cX7_becomes 41 = .ok (.getfield 36, 3) := by decide +kernel
theorem dX7_becomes_44 : decode cX7_becomes 44 = .ok (.iload_n 1, 1) := by decide +kernel
theorem dX7_becomes_45 : decode cX7_becomes 45 = .ok (.iload_n 3, 1) := by decide +kernel
theorem dX7_becomes_46 : decode cX7_becomes 46 = .ok (.castore, 1) := by decide +kernel
theorem dX7_becomes_47 : decode cX7_becomes 47 = .ok (.iconst 1, 1) := by decide +kernel
theorem dX7_becomes_48 : decode cX7_becomes 48 = .ok (.ireturn, 1) := by decide +kernel
theorem dX7_isKnown_0 : decode cX7_isKnown 0 = .ok (.aload_n 0, 1) := by decide +kernel
theorem dX7_isKnown_1 : decode cX7_isKnown 1 = .ok (.getfield 9, 3) := by decide +kernel
theorem dX7_isKnown_4 : decode cX7_isKnown 4 = .ok (.iload_n 1, 1) := by decide +kernel
theorem dX7_isKnown_5 : decode cX7_isKnown 5 = .ok (.iaload, 1) := by decide +kernel
theorem dX7_isKnown_6 : decode cX7_isKnown 6 = .ok (.istore_n 2, 1) := by decide +kernel
theorem dX7_isKnown_7 : decode cX7_isKnown 7 = .ok (.aload_n 0, 1) := by decide +kernel
theorem dX7_isKnown_8 : decode cX7_isKnown 8 = .ok (.iload_n 1, 1) := by decide +kernel
theorem dX7_isKnown_9 : decode cX7_isKnown 9 = .ok (.iconst 1, 1) := by decide +kernel
theorem dX7_isKnown_10 : decode cX7_isKnown 10 = .ok (.invokevirtual 136, 3) := by decide +kernel
theorem dX7_isKnown_13 : decode cX7_isKnown 13 = .ok (.ifCond .le 12, 3) := by decide +kernel
theorem dX7_isKnown_16 : decode cX7_isKnown 16 = .ok (.aload_n 0, 1) := by decide +kernel
theorem dX7_isKnown_17 : decode cX7_isKnown 17 = .ok (.iload_n 1, 1) := by decide +kernel
theorem dX7_isKnown_18 : decode cX7_isKnown 18 = .ok (.iconst 1, 1) := by decide +kernel
theorem dX7_isKnown_19 : decode cX7_isKnown 19 = .ok (.bipush 99, 2) := by decide +kernel
theorem dX7_isKnown_21 : decode cX7_isKnown 21 = .ok (.invokevirtual 139, 3) := by decide +kernel
theorem dX7_isKnown_24 : decode cX7_isKnown 24 = .ok (.ireturn, 1) := by decide +kernel
theorem dX7_isKnown_25 : decode cX7_isKnown 25 = .ok (.aload_n 0, 1) := by decide +kernel
theorem dX7_isKnown_26 : decode cX7_isKnown 26 = .ok (.getfield 133, 3) := by decide +kernel
theorem dX7_isKnown_29 : decode cX7_isKnown 29 = .ok (.iload_n 2, 1) := by decide +kernel
theorem dX7_isKnown_30 : decode cX7_isKnown 30 = .ok (.invokestatic 71, 3) := by decide +kernel
theorem dX7_isKnown_33 : decode cX7_isKnown 33 = .ok (.ifCond .eq 12, 3) := by decide +kernel
theorem dX7_isKnown_36 : decode cX7_isKnown 36 = .ok (.aload_n 0, 1) := by decide +kernel
theorem dX7_isKnown_37 : decode cX7_isKnown 37 = .ok (.iload_n 1, 1) := by decide +kernel
theorem dX7_isKnown_38 : decode cX7_isKnown 38 = .ok (.iconst 0, 1) := by decide +kernel
theorem dX7_isKnown_39 : decode cX7_isKnown 39 = .ok (.bipush 112, 2) := by decide +kernel
theorem dX7_isKnown_41 : decode cX7_isKnown 41 = .ok (.invokevirtual 139, 3) := by decide +kernel
theorem dX7_isKnown_44 : decode cX7_isKnown 44 = .ok (.ireturn, 1) := by decide +kernel
theorem dX7_isKnown_45 : decode cX7_isKnown 45 = .ok (.aload_n 0, 1) := by decide +kernel
theorem dX7_isKnown_46 : decode cX7_isKnown 46 = .ok (.getfield 22, 3) := by decide +kernel
theorem dX7_isKnown_49 : decode cX7_isKnown 49 = .ok (.iload_n 1, 1) := by decide +kernel
theorem dX7_isKnown_50 : decode cX7_isKnown 50 = .ok (.baload, 1) := by decide +kernel
theorem dX7_isKnown_51 : decode cX7_isKnown 51 = .ok (.ifCond .eq 23, 3) := by decide +kernel
theorem dX7_isKnown_54 : decode cX7_isKnown 54 = .ok (.aload_n 0, 1) := by decide +kernel
theorem dX7_isKnown_55 : decode cX7_isKnown 55 = .ok (.getfield 130, 3) := by decide +kernel
theorem dX7_isKnown_58 : decode cX7_isKnown 58 = .ok (.iload_n 2, 1) := by decide +kernel
theorem dX7_isKnown_59 : decode cX7_isKnown 59 = .ok (.invokestatic 71, 3) := by decide +kernel
theorem dX7_isKnown_62 : decode cX7_isKnown 62 = .ok (.ifCond .eq 12, 3) := by decide +kernel
theorem dX7_isKnown_65 : decode cX7_isKnown 65 = .ok (.aload_n 0, 1) := by decide +kernel
theorem dX7_isKnown_66 : decode cX7_isKnown 66 = .ok (.iload_n 1, 1) := by decide +kernel
theorem dX7_isKnown_67 : decode cX7_isKnown 67 = .ok (.iconst 1, 1) := by decide +kernel
theorem dX7_isKnown_68 : decode cX7_isKnown 68 = .ok (.bipush 109, 2) := by decide +kernel
theorem dX7_isKnown_70 : decode cX7_isKnown 70 = .ok (.invokevirtual 139, 3) := by decide +kernel
theorem dX7_isKnown_73 : decode cX7_isKnown 73 = .ok (.ireturn, 1) := by decide +kernel
theorem dX7_isKnown_74 : decode cX7_isKnown 74 = .ok (.aload_n 0, 1) := by decide +kernel
theorem dX7_isKnown_75 : decode cX7_isKnown 75 = .ok (.iload_n 1, 1) := by decide +kernel
theorem dX7_isKnown_76 : decode cX7_isKnown 76 = .ok (.invokevirtual 143, 3) := by decide +kernel
theorem dX7_isKnown_79 : decode cX7_isKnown 79 = .ok (.ifCond .eq 12, 3) := by decide +kernel
theorem dX7_isKnown_82 : decode cX7_isKnown 82 = .ok (.aload_n 0, 1) := by decide +kernel
theorem dX7_isKnown_83 : decode cX7_isKnown 83 = .ok (.iload_n 1, 1) := by decide +kernel
theorem dX7_isKnown_84 : decode cX7_isKnown 84 = .ok (.iconst 0, 1) := by decide +kernel
theorem dX7_isKnown_85 : decode cX7_isKnown 85 = .ok (.bipush 107, 2) := by decide +kernel
theorem dX7_isKnown_87 : decode cX7_isKnown 87 = .ok (.invokevirtual 139, 3) := by decide +kernel
theorem dX7_isKnown_90 : decode cX7_isKnown 90 = .ok (.ireturn, 1) := by decide +kernel
theorem dX7_isKnown_91 : decode cX7_isKnown 91 = .ok (.aload_n 0, 1) := by decide +kernel
theorem dX7_isKnown_92 : decode cX7_isKnown 92 = .ok (.getfield 130, 3) := by decide +kernel
theorem dX7_isKnown_95 : decode cX7_isKnown 95 = .ok (.iload_n 2, 1) := by decide +kernel
theorem dX7_isKnown_96 : decode cX7_isKnown 96 = .ok (.invokestatic 71, 3) := by decide +kernel
theorem dX7_isKnown_99 : decode cX7_isKnown 99 = .ok (.ifCond .eq 27, 3) := by decide +kernel
theorem dX7_isKnown_102 : decode cX7_isKnown 102 = .ok (.aload_n 0, 1) := by decide +kernel
theorem dX7_isKnown_103 : decode cX7_isKnown 103 = .ok (.iload_n 2, 1) := by decide +kernel
theorem dX7_isKnown_104 : decode cX7_isKnown 104 = .ok (.iconst 1, 1) := by decide +kernel
theorem dX7_isKnown_105 : decode cX7_isKnown 105 = .ok (.invokevirtual 136, 3) := by decide +kernel
theorem dX7_isKnown_108 : decode cX7_isKnown 108 = .ok (.aload_n 0, 1) := by decide +kernel
theorem dX7_isKnown_109 : decode cX7_isKnown 109 = .ok (.getfield 19, 3) := by decide +kernel
theorem dX7_isKnown_112 : decode cX7_isKnown 112 = .ok (.iload_n 2, 1) := by decide +kernel
theorem dX7_isKnown_113 : decode cX7_isKnown 113 = .ok (.iaload, 1) := by decide +kernel
theorem dX7_isKnown_114 : decode cX7_isKnown 114 = .ok (.if_icmp .ne 12, 3) := by decide +kernel
theorem dX7_isKnown_117 : decode cX7_isKnown 117 = .ok (.aload_n 0, 1) := by decide +kernel
theorem dX7_isKnown_118 : decode cX7_isKnown 118 = .ok (.iload_n 1, 1) := by decide +kernel
theorem dX7_isKnown_119 : decode cX7_isKnown 119 = .ok (.iconst 0, 1) := by decide +kernel
theorem dX7_isKnown_120 : decode cX7_isKnown 120 = .ok (.bipush 102, 2) := by decide +kernel
theorem dX7_isKnown_122 : decode cX7_isKnown 122 = .ok (.invokevirtual 139, 3) := by decide +kernel
theorem dX7_isKnown_125 : decode cX7_isKnown 125 = .ok (.ireturn, 1) := by decide +kernel
theorem dX7_isKnown_126 : decode cX7_isKnown 126 = .ok (.aload_n 0, 1) := by decide +kernel
theorem dX7_isKnown_127 : decode cX7_isKnown 127 = .ok (.getfield 130, 3) := by decide +kernel
theorem dX7_isKnown_130 : decode cX7_isKnown 130 = .ok (.iload_n 2, 1) := by decide +kernel
theorem dX7_isKnown_131 : decode cX7_isKnown 131 = .ok (.invokestatic 71, 3) := by decide +kernel
theorem dX7_isKnown_134 : decode cX7_isKnown 134 = .ok (.ifCond .eq 27, 3) := by decide +kernel
theorem dX7_isKnown_137 : decode cX7_isKnown 137 = .ok (.aload_n 0, 1) := by decide +kernel
theorem dX7_isKnown_138 : decode cX7_isKnown 138 = .ok (.iload_n 2, 1) := by decide +kernel
theorem dX7_isKnown_139 : decode cX7_isKnown 139 = .ok (.iconst 0, 1) := by decide +kernel
theorem dX7_isKnown_140 : decode cX7_isKnown 140 = .ok (.invokevirtual 136, 3) := by decide +kernel
theorem dX7_isKnown_143 : decode cX7_isKnown 143 = .ok (.aload_n 0, 1) := by decide +kernel
theorem dX7_isKnown_144 : decode cX7_isKnown 144 = .ok (.getfield 16, 3) := by decide +kernel
theorem dX7_isKnown_147 : decode cX7_isKnown 147 = .ok (.iload_n 2, 1) := by decide +kernel
theorem dX7_isKnown_148 : decode cX7_isKnown 148 = .ok (.iaload, 1) := by decide +kernel
theorem dX7_isKnown_149 : decode cX7_isKnown 149 = .ok (.if_icmp .ne 12, 3) := by decide +kernel
theorem dX7_isKnown_152 : decode cX7_isKnown 152 = .ok (.aload_n 0, 1) := by decide +kernel
theorem dX7_isKnown_153 : decode cX7_isKnown 153 = .ok (.iload_n 1, 1) := by decide +kernel
theorem dX7_isKnown_154 : decode cX7_isKnown 154 = .ok (.iconst 1, 1) := by decide +kernel
theorem dX7_isKnown_155 : decode cX7_isKnown 155 = .ok (.bipush 110, 2) := by decide +kernel
theorem dX7_isKnown_157 : decode cX7_isKnown 157 = .ok (.invokevirtual 139, 3) := by decide +kernel
theorem dX7_isKnown_160 : decode cX7_isKnown 160 = .ok (.ireturn, 1) := by decide +kernel
theorem dX7_isKnown_161 : decode cX7_isKnown 161 = .ok (.aload_n 0, 1) := by decide +kernel
theorem dX7_isKnown_162 : decode cX7_isKnown 162 = .ok (.iload_n 1, 1) := by decide +kernel
theorem dX7_isKnown_163 : decode cX7_isKnown 163 = .ok (.iconst 0, 1) := by decide +kernel
theorem dX7_isKnown_164 : decode cX7_isKnown 164 = .ok (.invokevirtual 136, 3) := by decide +kernel
theorem dX7_isKnown_167 : decode cX7_isKnown 167 = .ok (.aload_n 0, 1) := by decide +kernel
theorem dX7_isKnown_168 : decode cX7_isKnown 168 = .ok (.getfield 16, 3) := by decide +kernel
theorem dX7_isKnown_171 : decode cX7_isKnown 171 = .ok (.iload_n 1, 1) := by decide +kernel
theorem dX7_isKnown_172 : decode cX7_isKnown 172 = .ok (.iaload, 1) := by decide +kernel
theorem dX7_isKnown_173 : decode cX7_isKnown 173 = .ok (.if_icmp .lt 18, 3) := by decide +kernel
theorem dX7_isKnown_176 : decode cX7_isKnown 176 = .ok (.aload_n 0, 1) := by decide +kernel
theorem dX7_isKnown_177 : decode cX7_isKnown 177 = .ok (.iload_n 1, 1) := by decide +kernel
theorem dX7_isKnown_178 : decode cX7_isKnown 178 = .ok (.iconst 1, 1) := by decide +kernel
theorem dX7_isKnown_179 : decode cX7_isKnown 179 = .ok (.invokevirtual 136, 3) := by decide +kernel
theorem dX7_isKnown_182 : decode cX7_isKnown 182 = .ok (.aload_n 0, 1) := by decide +kernel
theorem dX7_isKnown_183 : decode cX7_isKnown 183 = .ok (.getfield 19, 3) := by decide +kernel
theorem dX7_isKnown_186 : decode cX7_isKnown 186 = .ok (.iload_n 1, 1) := by decide +kernel
theorem dX7_isKnown_187 : decode cX7_isKnown 187 = .ok (.iaload, 1) := by decide +kernel
theorem dX7_isKnown_188 : decode cX7_isKnown 188 = .ok (.if_icmp .le 12, 3) := by decide +kernel
theorem dX7_isKnown_191 : decode cX7_isKnown 191 = .ok (.aload_n 0, 1) := by decide +kernel
theorem dX7_isKnown_192 : decode cX7_isKnown 192 = .ok (.iload_n 1, 1) := by decide +kernel
theorem dX7_isKnown_193 : decode cX7_isKnown 193 = .ok (.iconst 0, 1) := by decide +kernel
theorem dX7_isKnown_194 : decode cX7_isKnown 194 = .ok (.bipush 103, 2) := by decide +kernel
theorem dX7_isKnown_196 : decode cX7_isKnown 196 = .ok (.invokevirtual 139, 3) := by decide +kernel
theorem dX7_isKnown_199 : decode cX7_isKnown 199 = .ok (.ireturn, 1) := by decide +kernel
theorem dX7_isKnown_200 : decode cX7_isKnown 200 = .ok (.iconst 0, 1) := by decide +kernel
theorem dX7_isKnown_201 : decode cX7_isKnown 201 = .ok (.istore_n 3, 1) := by decide +kernel
theorem dX7_isKnown_202 : decode cX7_isKnown 202 = .ok (.iload_n 3, 1) := by decide +kernel
theorem dX7_isKnown_203 : decode cX7_isKnown 203 = .ok (.aload_n 0, 1) := by decide +kernel
theorem dX7_isKnown_204 : decode cX7_isKnown 204 = .ok (.getfield 75, 3) := by decide +kernel
theorem dX7_isKnown_207 : decode cX7_isKnown 207 = .ok (.if_icmp .ge 60, 3) := by decide +kernel
theorem dX7_isKnown_210 : decode cX7_isKnown 210 = .ok (.aload_n 0, 1) := by decide +kernel
theorem dX7_isKnown_211 : decode cX7_isKnown 211 = .ok (.getfield 26, 3) := by decide +kernel
theorem dX7_isKnown_214 : decode cX7_isKnown 214 = .ok (.iload_n 3, 1) := by decide +kernel
theorem dX7_isKnown_215 : decode cX7_isKnown 215 = .ok (.baload, 1) := by decide +kernel
theorem dX7_isKnown_216 : decode cX7_isKnown 216 = .ok (.ifCond .eq 7, 3) := by decide +kernel
theorem dX7_isKnown_219 : decode cX7_isKnown 219 = .ok (.iconst 0, 1) := by decide +kernel
theorem dX7_isKnown_220 : decode cX7_isKnown 220 = .ok (.goto 9, 3) := by decide +kernel
theorem dX7_isKnown_223 : decode cX7_isKnown 223 = .ok (.aload_n 0, 1) := by decide +kernel
theorem dX7_isKnown_224 : decode cX7_isKnown 224 = .ok (.iload_n 3, 1) := by decide +kernel
theorem dX7_isKnown_225 : decode cX7_isKnown 225 = .ok (.iload_n 1, 1) := by decide +kernel
theorem dX7_isKnown_226 : decode cX7_isKnown 226 = .ok (.invokevirtual 146, 3) := by decide +kernel
theorem dX7_isKnown_229 : decode cX7_isKnown 229 = .ok (.istore 4, 2) := by decide +kernel
theorem dX7_isKnown_231 : decode cX7_isKnown 231 = .ok (.iload 4, 2) := by decide +kernel
theorem dX7_isKnown_233 : decode cX7_isKnown 233 = .ok (.ifCond .eq 28, 3) := by decide +kernel
theorem dX7_isKnown_236 : decode cX7_isKnown 236 = .ok (.aload_n 0, 1) := by decide +kernel
theorem dX7_isKnown_237 : decode cX7_isKnown 237 = .ok (.getfield 57, 3) := by decide +kernel
theorem dX7_isKnown_240 : decode cX7_isKnown 240 = .ok (.iload_n 1, 1) := by decide +kernel
theorem dX7_isKnown_241 : decode cX7_isKnown 241 = .ok (.iload_n 3, 1) := by decide +kernel
theorem dX7_isKnown_242 : decode cX7_isKnown 242 = .ok (.iastore, 1) := by decide +kernel
theorem dX7_isKnown_243 : decode cX7_isKnown 243 = .ok (.aload_n 0, 1) := by decide +kernel
theorem dX7_isKnown_244 : decode cX7_isKnown 244 = .ok (.iload_n 1, 1) := by decide +kernel
theorem dX7_isKnown_245 : decode cX7_isKnown 245 = .ok (.iload 4, 2) := by decide +kernel
theorem dX7_isKnown_247 : decode cX7_isKnown 247 = .ok (.ifCond .le 7, 3) := by decide +kernel
theorem dX7_isKnown_250 : decode cX7_isKnown 250 = .ok (.iconst 1, 1) := by decide +kernel
theorem dX7_isKnown_251 : decode cX7_isKnown 251 = .ok (.goto 4, 3) := by decide +kernel
theorem dX7_isKnown_254 : decode cX7_isKnown 254 = .ok (.iconst 0, 1) := by decide +kernel
theorem dX7_isKnown_255 : decode cX7_isKnown 255 = .ok (.bipush 114, 2) := by decide +kernel
theorem dX7_isKnown_257 : decode cX7_isKnown 257 = .ok (.invokevirtual 139, 3) := by decide +kernel
theorem dX7_isKnown_260 : decode cX7_isKnown 260 = .ok (.ireturn, 1) := by decide +kernel
theorem dX7_isKnown_261 : decode cX7_isKnown 261 = .ok (.iinc 3 1, 3) := by decide +kernel
theorem dX7_isKnown_264 : decode cX7_isKnown 264 = .ok (.goto (-62), 3) := by decide +kernel
theorem dX7_isKnown_267 : decode cX7_isKnown 267 = .ok (.iconst 0, 1) := by decide +kernel
theorem dX7_isKnown_268 : decode cX7_isKnown 268 = .ok (.ireturn, 1) := by decide +kernel
theorem dX7_deduces_0 : decode cX7_deduces 0 = .ok (.aload_n 0, 1) := by decide +kernel
theorem dX7_deduces_1 : decode cX7_deduces 1 = .ok (.iconst 1, 1) := by decide +kernel
theorem dX7_deduces_2 : decode cX7_deduces 2 = .ok (.aload_n 0, 1) := by decide +kernel
theorem dX7_deduces_3 : decode cX7_deduces 3 = .ok (.getfield 81, 3) := by decide +kernel
theorem dX7_deduces_6 : decode cX7_deduces 6 = .ok (.ior, 1) := by decide +kernel
theorem dX7_deduces_7 : decode cX7_deduces 7 = .ok (.putfield 130, 3) := by decide +kernel
theorem dX7_deduces_10 : decode cX7_deduces 10 = .ok (.aload_n 0, 1) := by decide +kernel
theorem dX7_deduces_11 : decode cX7_deduces 11 = .ok (.aload_n 0, 1) := by decide +kernel
theorem dX7_deduces_12 : decode cX7_deduces 12 = .ok (.getfield 84, 3) := by decide +kernel
theorem dX7_deduces_15 : decode cX7_deduces 15 = .ok (.putfield 133, 3) := by decide +kernel
theorem dX7_deduces_18 : decode cX7_deduces 18 = .ok (.iconst 0, 1) := by decide +kernel
theorem dX7_deduces_19 : decode cX7_deduces 19 = .ok (.istore_n 1, 1) := by decide +kernel
theorem dX7_deduces_20 : decode cX7_deduces 20 = .ok (.iload_n 1, 1) := by decide +kernel
theorem dX7_deduces_21 : decode cX7_deduces 21 = .ok (.aload_n 0, 1) := by decide +kernel
theorem dX7_deduces_22 : decode cX7_deduces 22 = .ok (.getfield 60, 3) := by decide +kernel
theorem dX7_deduces_25 : decode cX7_deduces 25 = .ok (.if_icmp .ge 39, 3) := by decide +kernel
theorem dX7_deduces_28 : decode cX7_deduces 28 = .ok (.aload_n 0, 1) := by decide +kernel
theorem dX7_deduces_29 : decode cX7_deduces 29 = .ok (.getfield 36, 3) := by decide +kernel
theorem dX7_deduces_32 : decode cX7_deduces 32 = .ok (.iload_n 1, 1) := by decide +kernel
theorem dX7_deduces_33 : decode cX7_deduces 33 = .ok (.iload_n 1, 1) := by decide +kernel
theorem dX7_deduces_34 : decode cX7_deduces 34 = .ok (.ifCond .ne 8, 3) := by decide +kernel
theorem dX7_deduces_37 : decode cX7_deduces 37 = .ok (.bipush 111, 2) := by decide +kernel
theorem dX7_deduces_39 : decode cX7_deduces 39 = .ok (.goto 18, 3) := by decide +kernel
theorem dX7_deduces_42 : decode cX7_deduces 42 = .ok (.aload_n 0, 1) := by decide +kernel
theorem dX7_deduces_43 : decode cX7_deduces 43 = .ok (.iload_n 1, 1) := by decide +kernel
theorem dX7_deduces_44 : decode cX7_deduces 44 = .ok (.invokevirtual 109, 3) := by decide +kernel
theorem dX7_deduces_47 : decode cX7_deduces 47 = .ok (.ifCond .eq 8, 3) := by decide +kernel
theorem dX7_deduces_50 : decode cX7_deduces 50 = .ok (.bipush 100, 2) := by decide +kernel
theorem dX7_deduces_52 : decode cX7_deduces 52 = .ok (.goto 5, 3) := by decide +kernel
theorem dX7_deduces_55 : decode cX7_deduces 55 = .ok (.bipush 45, 2) := by decide +kernel
theorem dX7_deduces_57 : decode cX7_deduces 57 = .ok (.castore, 1) := by decide +kernel
theorem dX7_deduces_58 : decode cX7_deduces 58 = .ok (.iinc 1 1, 3) := by decide +kernel
theorem dX7_deduces_61 : decode cX7_deduces 61 = .ok (.goto (-41), 3) := by decide +kernel
theorem dX7_deduces_64 : decode cX7_deduces 64 = .ok (.iconst 1, 1) := by decide +kernel
theorem dX7_deduces_65 : decode cX7_deduces 65 = .ok (.istore_n 1, 1) := by decide +kernel
theorem dX7_deduces_66 : decode cX7_deduces 66 = .ok (.iload_n 1, 1) := by decide +kernel
theorem dX7_deduces_67 : decode cX7_deduces 67 = .ok (.aload_n 0, 1) := by decide +kernel
theorem dX7_deduces_68 : decode cX7_deduces 68 = .ok (.getfield 60, 3) := by decide +kernel
theorem dX7_deduces_71 : decode cX7_deduces 71 = .ok (.if_icmp .ge 38, 3) := by decide +kernel
theorem dX7_deduces_74 : decode cX7_deduces 74 = .ok (.aload_n 0, 1) := by decide +kernel
theorem dX7_deduces_75 : decode cX7_deduces 75 = .ok (.getfield 130, 3) := by decide +kernel
theorem dX7_deduces_78 : decode cX7_deduces 78 = .ok (.aload_n 0, 1) := by decide +kernel
theorem dX7_deduces_79 : decode cX7_deduces 79 = .ok (.getfield 133, 3) := by decide +kernel
theorem dX7_deduces_82 : decode cX7_deduces 82 = .ok (.ior, 1) := by decide +kernel
theorem dX7_deduces_83 : decode cX7_deduces 83 = .ok (.iload_n 1, 1) := by decide +kernel
theorem dX7_deduces_84 : decode cX7_deduces 84 = .ok (.invokestatic 71, 3) := by decide +kernel
theorem dX7_deduces_87 : decode cX7_deduces 87 = .ok (.ifCond .ne 15, 3) := by decide +kernel
theorem dX7_deduces_90 : decode cX7_deduces 90 = .ok (.aload_n 0, 1) := by decide +kernel
theorem dX7_deduces_91 : decode cX7_deduces 91 = .ok (.iload_n 1, 1) := by decide +kernel
theorem dX7_deduces_92 : decode cX7_deduces 92 = .ok (.invokevirtual 150, 3) := by decide +kernel
theorem dX7_deduces_95 : decode cX7_deduces 95 = .ok (.ifCond .eq 7, 3) := by decide +kernel
theorem dX7_deduces_98 : decode cX7_deduces 98 = .ok (.iconst 1, 1) := by decide +kernel
theorem dX7_deduces_99 : decode cX7_deduces 99 = .ok (.goto 6, 3) := by decide +kernel
theorem dX7_deduces_102 : decode cX7_deduces 102 = .ok (.iload_n 1, 1) := by decide +kernel
theorem dX7_deduces_103 : decode cX7_deduces 103 = .ok (.iconst 1, 1) := by decide +kernel
theorem dX7_deduces_104 : decode cX7_deduces 104 = .ok (.iadd, 1) := by decide +kernel
theorem dX7_deduces_105 : decode cX7_deduces 105 = .ok (.istore_n 1, 1) := by decide +kernel
theorem dX7_deduces_106 : decode cX7_deduces 106 = .ok (.goto (-40), 3) := by decide +kernel
theorem dX7_deduces_109 : decode cX7_deduces 109 = .ok (.return_, 1) := by decide +kernel
theorem dX7_unknowns_0 : decode cX7_unknowns 0 = .ok (.aload_n 0, 1) := by decide +kernel
theorem dX7_unknowns_1 : decode cX7_unknowns 1 = .ok (.invokevirtual 153, 3) := by decide +kernel
theorem dX7_unknowns_4 : decode cX7_unknowns 4 = .ok (.aload_n 0, 1) := by decide +kernel
theorem dX7_unknowns_5 : decode cX7_unknowns 5 = .ok (.getfield 60, 3) := by decide +kernel
theorem dX7_unknowns_8 : decode cX7_unknowns 8 = .ok (.aload_n 0, 1) := by decide +kernel
theorem dX7_unknowns_9 : decode cX7_unknowns 9 = .ok (.getfield 130, 3) := by decide +kernel
theorem dX7_unknowns_12 : decode cX7_unknowns 12 = .ok (.aload_n 0, 1) := by decide +kernel
theorem dX7_unknowns_13 : decode cX7_unknowns 13 = .ok (.getfield 133, 3) := by decide +kernel
theorem dX7_unknowns_16 : decode cX7_unknowns 16 = .ok (.ior, 1) := by decide +kernel
theorem dX7_unknowns_17 : decode cX7_unknowns 17 = .ok (.invokestatic 120, 3) := by decide +kernel
theorem dX7_unknowns_20 : decode cX7_unknowns 20 = .ok (.isub, 1) := by decide +kernel
theorem dX7_unknowns_21 : decode cX7_unknowns 21 = .ok (.ireturn, 1) := by decide +kernel
theorem dX7_known_0 : decode cX7_known 0 = .ok (.aload_n 0, 1) := by decide +kernel
theorem dX7_known_1 : decode cX7_known 1 = .ok (.invokevirtual 153, 3) := by decide +kernel
theorem dX7_known_4 : decode cX7_known 4 = .ok (.aload_n 0, 1) := by decide +kernel
theorem dX7_known_5 : decode cX7_known 5 = .ok (.aload_n 0, 1) := by decide +kernel
theorem dX7_known_6 : decode cX7_known 6 = .ok (.iload_n 1, 1) := by decide +kernel
theorem dX7_known_7 : decode cX7_known 7 = .ok (.invokevirtual 94, 3) := by decide +kernel
theorem dX7_known_10 : decode cX7_known 10 = .ok (.iconst 1, 1) := by decide +kernel
theorem dX7_known_11 : decode cX7_known 11 = .ok (.invokevirtual 97, 3) := by decide +kernel
theorem dX7_known_14 : decode cX7_known 14 = .ok (.ifCond .eq 8, 3) := by decide +kernel
theorem dX7_known_17 : decode cX7_known 17 = .ok (.bipush 45, 2) := by decide +kernel
theorem dX7_known_19 : decode cX7_known 19 = .ok (.goto 37, 3) := by decide +kernel
theorem dX7_known_22 : decode cX7_known 22 = .ok (.aload_n 0, 1) := by decide +kernel
theorem dX7_known_23 : decode cX7_known 23 = .ok (.getfield 130, 3) := by decide +kernel
theorem dX7_known_26 : decode cX7_known 26 = .ok (.iload_n 1, 1) := by decide +kernel
theorem dX7_known_27 : decode cX7_known 27 = .ok (.invokestatic 71, 3) := by decide +kernel
theorem dX7_known_30 : decode cX7_known 30 = .ok (.ifCond .eq 8, 3) := by decide +kernel
theorem dX7_known_33 : decode cX7_known 33 = .ok (.bipush 105, 2) := by decide +kernel
theorem dX7_known_35 : decode cX7_known 35 = .ok (.goto 21, 3) := by decide +kernel
theorem dX7_known_38 : decode cX7_known 38 = .ok (.aload_n 0, 1) := by decide +kernel
theorem dX7_known_39 : decode cX7_known 39 = .ok (.getfield 133, 3) := by decide +kernel
theorem dX7_known_42 : decode cX7_known 42 = .ok (.iload_n 1, 1) := by decide +kernel
theorem dX7_known_43 : decode cX7_known 43 = .ok (.invokestatic 71, 3) := by decide +kernel
