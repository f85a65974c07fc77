theorem dX7_keeps_79 : decode cX7_keeps 79 = .ok (.ifCond .ne 7, 3) := by decide +kernel
theorem dX7_keeps_82 : decode cX7_keeps 82 = .ok (.iconst 1, 1) := by decide +kernel
theorem dX7_keeps_83 : decode cX7_keeps 83 = .ok (.goto 51, 3) := by decide +kernel
theorem dX7_keeps_86 : decode cX7_keeps 86 = .ok (.iconst 0, 1) := by decide +kernel
theorem dX7_keeps_87 : decode cX7_keeps 87 = .ok (.goto 47, 3) := by decide +kernel
theorem dX7_keeps_90 : decode cX7_keeps 90 = .ok (.iload_n 2, 1) := by decide +kernel
theorem dX7_keeps_91 : decode cX7_keeps 91 = .ok (.aload_n 0, 1) := by decide +kernel
theorem dX7_keeps_92 : decode cX7_keeps 92 = .ok (.getfield 39, 3) := by decide +kernel
theorem dX7_keeps_95 : decode cX7_keeps 95 = .ok (.iload_n 1, 1) := by decide +kernel
theorem dX7_keeps_96 : decode cX7_keeps 96 = .ok (.iaload, 1) := by decide +kernel
theorem dX7_keeps_97 : decode cX7_keeps 97 = .ok (.invokestatic 71, 3) := by decide +kernel
theorem dX7_keeps_100 : decode cX7_keeps 100 = .ok (.ifCond .ne 29, 3) := by decide +kernel
theorem dX7_keeps_103 : decode cX7_keeps 103 = .ok (.iload_n 2, 1) := by decide +kernel
theorem dX7_keeps_104 : decode cX7_keeps 104 = .ok (.aload_n 0, 1) := by decide +kernel
theorem dX7_keeps_105 : decode cX7_keeps 105 = .ok (.getfield 42, 3) := by decide +kernel
theorem dX7_keeps_108 : decode cX7_keeps 108 = .ok (.iload_n 1, 1) := by decide +kernel
theorem dX7_keeps_109 : decode cX7_keeps 109 = .ok (.iaload, 1) := by decide +kernel
theorem dX7_keeps_110 : decode cX7_keeps 110 = .ok (.invokestatic 71, 3) := by decide +kernel
theorem dX7_keeps_113 : decode cX7_keeps 113 = .ok (.ifCond .ne 16, 3) := by decide +kernel
theorem dX7_keeps_116 : decode cX7_keeps 116 = .ok (.iload_n 2, 1) := by decide +kernel
theorem dX7_keeps_117 : decode cX7_keeps 117 = .ok (.aload_n 0, 1) := by decide +kernel
theorem dX7_keeps_118 : decode cX7_keeps 118 = .ok (.getfield 45, 3) := by decide +kernel
theorem dX7_keeps_121 : decode cX7_keeps 121 = .ok (.iload_n 1, 1) := by decide +kernel
theorem dX7_keeps_122 : decode cX7_keeps 122 = .ok (.iaload, 1) := by decide +kernel
theorem dX7_keeps_123 : decode cX7_keeps 123 = .ok (.invokestatic 71, 3) := by decide +kernel
theorem dX7_keeps_126 : decode cX7_keeps 126 = .ok (.ifCond .eq 7, 3) := by decide +kernel
theorem dX7_keeps_129 : decode cX7_keeps 129 = .ok (.iconst 1, 1) := by decide +kernel
theorem dX7_keeps_130 : decode cX7_keeps 130 = .ok (.goto 4, 3) := by decide +kernel
theorem dX7_keeps_133 : decode cX7_keeps 133 = .ok (.iconst 0, 1) := by decide +kernel
theorem dX7_keeps_134 : decode cX7_keeps 134 = .ok (.ireturn, 1) := by decide +kernel
theorem dX7_isGood_0 : decode cX7_isGood 0 = .ok (.iload_n 1, 1) := by decide +kernel
theorem dX7_isGood_1 : decode cX7_isGood 1 = .ok (.iconst 0, 1) := by decide +kernel
theorem dX7_isGood_2 : decode cX7_isGood 2 = .ok (.invokestatic 71, 3) := by decide +kernel
theorem dX7_isGood_5 : decode cX7_isGood 5 = .ok (.istore_n 2, 1) := by decide +kernel
theorem dX7_isGood_6 : decode cX7_isGood 6 = .ok (.iconst 0, 1) := by decide +kernel
theorem dX7_isGood_7 : decode cX7_isGood 7 = .ok (.istore_n 3, 1) := by decide +kernel
theorem dX7_isGood_8 : decode cX7_isGood 8 = .ok (.iload_n 3, 1) := by decide +kernel
theorem dX7_isGood_9 : decode cX7_isGood 9 = .ok (.aload_n 0, 1) := by decide +kernel
theorem dX7_isGood_10 : decode cX7_isGood 10 = .ok (.getfield 60, 3) := by decide +kernel
theorem dX7_isGood_13 : decode cX7_isGood 13 = .ok (.if_icmp .ge 179, 3) := by decide +kernel
theorem dX7_isGood_16 : decode cX7_isGood 16 = .ok (.iload_n 2, 1) := by decide +kernel
theorem dX7_isGood_17 : decode cX7_isGood 17 = .ok (.ifCond .eq 175, 3) := by decide +kernel
theorem dX7_isGood_20 : decode cX7_isGood 20 = .ok (.iconst 0, 1) := by decide +kernel
theorem dX7_isGood_21 : decode cX7_isGood 21 = .ok (.istore 4, 2) := by decide +kernel
theorem dX7_isGood_23 : decode cX7_isGood 23 = .ok (.iconst 1, 1) := by decide +kernel
theorem dX7_isGood_24 : decode cX7_isGood 24 = .ok (.istore 5, 2) := by decide +kernel
theorem dX7_isGood_26 : decode cX7_isGood 26 = .ok (.iload 5, 2) := by decide +kernel
theorem dX7_isGood_28 : decode cX7_isGood 28 = .ok (.aload_n 0, 1) := by decide +kernel
theorem dX7_isGood_29 : decode cX7_isGood 29 = .ok (.getfield 60, 3) := by decide +kernel
theorem dX7_isGood_32 : decode cX7_isGood 32 = .ok (.if_icmp .ge 85, 3) := by decide +kernel
theorem dX7_isGood_35 : decode cX7_isGood 35 = .ok (.iload 4, 2) := by decide +kernel
theorem dX7_isGood_37 : decode cX7_isGood 37 = .ok (.aload_n 0, 1) := by decide +kernel
theorem dX7_isGood_38 : decode cX7_isGood 38 = .ok (.getfield 9, 3) := by decide +kernel
theorem dX7_isGood_41 : decode cX7_isGood 41 = .ok (.iload 5, 2) := by decide +kernel
theorem dX7_isGood_43 : decode cX7_isGood 43 = .ok (.iaload, 1) := by decide +kernel
theorem dX7_isGood_44 : decode cX7_isGood 44 = .ok (.iload_n 3, 1) := by decide +kernel
theorem dX7_isGood_45 : decode cX7_isGood 45 = .ok (.if_icmp .ne 16, 3) := by decide +kernel
theorem dX7_isGood_48 : decode cX7_isGood 48 = .ok (.iload_n 1, 1) := by decide +kernel
theorem dX7_isGood_49 : decode cX7_isGood 49 = .ok (.iload 5, 2) := by decide +kernel
theorem dX7_isGood_51 : decode cX7_isGood 51 = .ok (.invokestatic 71, 3) := by decide +kernel
theorem dX7_isGood_54 : decode cX7_isGood 54 = .ok (.ifCond .eq 7, 3) := by decide +kernel
theorem dX7_isGood_57 : decode cX7_isGood 57 = .ok (.iconst 1, 1) := by decide +kernel
theorem dX7_isGood_58 : decode cX7_isGood 58 = .ok (.goto 4, 3) := by decide +kernel
theorem dX7_isGood_61 : decode cX7_isGood 61 = .ok (.iconst 0, 1) := by decide +kernel
theorem dX7_isGood_62 : decode cX7_isGood 62 = .ok (.iadd, 1) := by decide +kernel
theorem dX7_isGood_63 : decode cX7_isGood 63 = .ok (.istore 4, 2) := by decide +kernel
theorem dX7_isGood_65 : decode cX7_isGood 65 = .ok (.iload_n 2, 1) := by decide +kernel
theorem dX7_isGood_66 : decode cX7_isGood 66 = .ok (.aload_n 0, 1) := by decide +kernel
theorem dX7_isGood_67 : decode cX7_isGood 67 = .ok (.getfield 9, 3) := by decide +kernel
theorem dX7_isGood_70 : decode cX7_isGood 70 = .ok (.iload 5, 2) := by decide +kernel
theorem dX7_isGood_72 : decode cX7_isGood 72 = .ok (.iaload, 1) := by decide +kernel
theorem dX7_isGood_73 : decode cX7_isGood 73 = .ok (.iload_n 3, 1) := by decide +kernel
theorem dX7_isGood_74 : decode cX7_isGood 74 = .ok (.if_icmp .ne 30, 3) := by decide +kernel
theorem dX7_isGood_77 : decode cX7_isGood 77 = .ok (.aload_n 0, 1) := by decide +kernel
theorem dX7_isGood_78 : decode cX7_isGood 78 = .ok (.getfield 22, 3) := by decide +kernel
theorem dX7_isGood_81 : decode cX7_isGood 81 = .ok (.iload 5, 2) := by decide +kernel
theorem dX7_isGood_83 : decode cX7_isGood 83 = .ok (.baload, 1) := by decide +kernel
theorem dX7_isGood_84 : decode cX7_isGood 84 = .ok (.ifCond .eq 20, 3) := by decide +kernel
theorem dX7_isGood_87 : decode cX7_isGood 87 = .ok (.iload_n 1, 1) := by decide +kernel
theorem dX7_isGood_88 : decode cX7_isGood 88 = .ok (.iload_n 3, 1) := by decide +kernel
theorem dX7_isGood_89 : decode cX7_isGood 89 = .ok (.invokestatic 71, 3) := by decide +kernel
theorem dX7_isGood_92 : decode cX7_isGood 92 = .ok (.ifCond .eq 12, 3) := by decide +kernel
theorem dX7_isGood_95 : decode cX7_isGood 95 = .ok (.iload_n 1, 1) := by decide +kernel
theorem dX7_isGood_96 : decode cX7_isGood 96 = .ok (.iload 5, 2) := by decide +kernel
theorem dX7_isGood_98 : decode cX7_isGood 98 = .ok (.invokestatic 71, 3) := by decide +kernel
theorem dX7_isGood_101 : decode cX7_isGood 101 = .ok (.ifCond .eq 7, 3) := by decide +kernel
theorem dX7_isGood_104 : decode cX7_isGood 104 = .ok (.iconst 1, 1) := by decide +kernel
theorem dX7_isGood_105 : decode cX7_isGood 105 = .ok (.goto 4, 3) := by decide +kernel
theorem dX7_isGood_108 : decode cX7_isGood 108 = .ok (.iconst 0, 1) := by decide +kernel
theorem dX7_isGood_109 : decode cX7_isGood 109 = .ok (.iand, 1) := by decide +kernel
theorem dX7_isGood_110 : decode cX7_isGood 110 = .ok (.istore_n 2, 1) := by decide +kernel
theorem dX7_isGood_111 : decode cX7_isGood 111 = .ok (.iinc 5 1, 3) := by decide +kernel
theorem dX7_isGood_114 : decode cX7_isGood 114 = .ok (.goto (-88), 3) := by decide +kernel
theorem dX7_isGood_117 : decode cX7_isGood 117 = .ok (.iload_n 2, 1) := by decide +kernel
theorem dX7_isGood_118 : decode cX7_isGood 118 = .ok (.iload_n 1, 1) := by decide +kernel
theorem dX7_isGood_119 : decode cX7_isGood 119 = .ok (.iload_n 3, 1) := by decide +kernel
theorem dX7_isGood_120 : decode cX7_isGood 120 = .ok (.invokestatic 71, 3) := by decide +kernel
theorem dX7_isGood_123 : decode cX7_isGood 123 = .ok (.ifCond .eq 20, 3) := by decide +kernel
theorem dX7_isGood_126 : decode cX7_isGood 126 = .ok (.iload_n 3, 1) := by decide +kernel
theorem dX7_isGood_127 : decode cX7_isGood 127 = .ok (.ifCond .eq 16, 3) := by decide +kernel
theorem dX7_isGood_130 : decode cX7_isGood 130 = .ok (.iload_n 1, 1) := by decide +kernel
theorem dX7_isGood_131 : decode cX7_isGood 131 = .ok (.aload_n 0, 1) := by decide +kernel
theorem dX7_isGood_132 : decode cX7_isGood 132 = .ok (.getfield 9, 3) := by decide +kernel
theorem dX7_isGood_135 : decode cX7_isGood 135 = .ok (.iload_n 3, 1) := by decide +kernel
theorem dX7_isGood_136 : decode cX7_isGood 136 = .ok (.iaload, 1) := by decide +kernel
theorem dX7_isGood_137 : decode cX7_isGood 137 = .ok (.invokestatic 71, 3) := by decide +kernel
theorem dX7_isGood_140 : decode cX7_isGood 140 = .ok (.ifCond .eq 7, 3) := by decide +kernel
theorem dX7_isGood_143 : decode cX7_isGood 143 = .ok (.iconst 1, 1) := by decide +kernel
theorem dX7_isGood_144 : decode cX7_isGood 144 = .ok (.goto 4, 3) := by decide +kernel
theorem dX7_isGood_147 : decode cX7_isGood 147 = .ok (.iconst 0, 1) := by decide +kernel
theorem dX7_isGood_148 : decode cX7_isGood 148 = .ok (.iand, 1) := by decide +kernel
theorem dX7_isGood_149 : decode cX7_isGood 149 = .ok (.istore_n 2, 1) := by decide +kernel
theorem dX7_isGood_150 : decode cX7_isGood 150 = .ok (.iload_n 2, 1) := by decide +kernel
theorem dX7_isGood_151 : decode cX7_isGood 151 = .ok (.iload_n 1, 1) := by decide +kernel
theorem dX7_isGood_152 : decode cX7_isGood 152 = .ok (.iload_n 3, 1) := by decide +kernel
theorem dX7_isGood_153 : decode cX7_isGood 153 = .ok (.invokestatic 71, 3) := by decide +kernel
theorem dX7_isGood_156 : decode cX7_isGood 156 = .ok (.ifCond .eq 23, 3) := by decide +kernel
theorem dX7_isGood_159 : decode cX7_isGood 159 = .ok (.iload 4, 2) := by decide +kernel
theorem dX7_isGood_161 : decode cX7_isGood 161 = .ok (.aload_n 0, 1) := by decide +kernel
theorem dX7_isGood_162 : decode cX7_isGood 162 = .ok (.getfield 16, 3) := by decide +kernel
theorem dX7_isGood_165 : decode cX7_isGood 165 = .ok (.iload_n 3, 1) := by decide +kernel
theorem dX7_isGood_166 : decode cX7_isGood 166 = .ok (.iaload, 1) := by decide +kernel
theorem dX7_isGood_167 : decode cX7_isGood 167 = .ok (.aload_n 0, 1) := by decide +kernel
theorem dX7_isGood_168 : decode cX7_isGood 168 = .ok (.getfield 19, 3) := by decide +kernel
theorem dX7_isGood_171 : decode cX7_isGood 171 = .ok (.iload_n 3, 1) := by decide +kernel
theorem dX7_isGood_172 : decode cX7_isGood 172 = .ok (.iaload, 1) := by decide +kernel
theorem dX7_isGood_173 : decode cX7_isGood 173 = .ok (.invokestatic 67, 3) := by decide +kernel
theorem dX7_isGood_176 : decode cX7_isGood 176 = .ok (.ifCond .eq 7, 3) := by decide +kernel
theorem dX7_isGood_179 : decode cX7_isGood 179 = .ok (.iconst 1, 1) := by decide +kernel
theorem dX7_isGood_180 : decode cX7_isGood 180 = .ok (.goto 4, 3) := by decide +kernel
theorem dX7_isGood_183 : decode cX7_isGood 183 = .ok (.iconst 0, 1) := by decide +kernel
theorem dX7_isGood_184 : decode cX7_isGood 184 = .ok (.iand, 1) := by decide +kernel
theorem dX7_isGood_185 : decode cX7_isGood 185 = .ok (.istore_n 2, 1) := by decide +kernel
theorem dX7_isGood_186 : decode cX7_isGood 186 = .ok (.iinc 3 1, 3) := by decide +kernel
theorem dX7_isGood_189 : decode cX7_isGood 189 = .ok (.goto (-181), 3) := by decide +kernel
theorem dX7_isGood_192 : decode cX7_isGood 192 = .ok (.iconst 0, 1) := by decide +kernel
theorem dX7_isGood_193 : decode cX7_isGood 193 = .ok (.istore_n 3, 1) := by decide +kernel
theorem dX7_isGood_194 : decode cX7_isGood 194 = .ok (.iload_n 3, 1) := by decide +kernel
theorem dX7_isGood_195 : decode cX7_isGood 195 = .ok (.aload_n 0, 1) := by decide +kernel
theorem dX7_isGood_196 : decode cX7_isGood 196 = .ok (.getfield 75, 3) := by decide +kernel
theorem dX7_isGood_199 : decode cX7_isGood 199 = .ok (.if_icmp .ge 37, 3) := by decide +kernel
theorem dX7_isGood_202 : decode cX7_isGood 202 = .ok (.iload_n 2, 1) := by decide +kernel
theorem dX7_isGood_203 : decode cX7_isGood 203 = .ok (.ifCond .eq 33, 3) := by decide +kernel
theorem dX7_isGood_206 : decode cX7_isGood 206 = .ok (.aload_n 0, 1) := by decide +kernel
theorem dX7_isGood_207 : decode cX7_isGood 207 = .ok (.getfield 26, 3) := by decide +kernel
theorem dX7_isGood_210 : decode cX7_isGood 210 = .ok (.iload_n 3, 1) := by decide +kernel
theorem dX7_isGood_211 : decode cX7_isGood 211 = .ok (.baload, 1) := by decide +kernel
theorem dX7_isGood_212 : decode cX7_isGood 212 = .ok (.ifCond .ne 12, 3) := by decide +kernel
theorem dX7_isGood_215 : decode cX7_isGood 215 = .ok (.aload_n 0, 1) := by decide +kernel
theorem dX7_isGood_216 : decode cX7_isGood 216 = .ok (.iload_n 3, 1) := by decide +kernel
theorem dX7_isGood_217 : decode cX7_isGood 217 = .ok (.iload_n 1, 1) := by decide +kernel
theorem dX7_isGood_218 : decode cX7_isGood 218 = .ok (.invokevirtual 78, 3) := by decide +kernel
theorem dX7_isGood_221 : decode cX7_isGood 221 = .ok (.ifCond .eq 7, 3) := by decide +kernel
theorem dX7_isGood_224 : decode cX7_isGood 224 = .ok (.iconst 1, 1) := by decide +kernel
theorem dX7_isGood_225 : decode cX7_isGood 225 = .ok (.goto 4, 3) := by decide +kernel
theorem dX7_isGood_228 : decode cX7_isGood 228 = .ok (.iconst 0, 1) := by decide +kernel
theorem dX7_isGood_229 : decode cX7_isGood 229 = .ok (.istore_n 2, 1) := by decide +kernel
theorem dX7_isGood_230 : decode cX7_isGood 230 = .ok (.iinc 3 1, 3) := by decide +kernel
theorem dX7_isGood_233 : decode cX7_isGood 233 = .ok (.goto (-39), 3) := by decide +kernel
theorem dX7_isGood_236 : decode cX7_isGood 236 = .ok (.iload_n 2, 1) := by decide +kernel
theorem dX7_isGood_237 : decode cX7_isGood 237 = .ok (.ireturn, 1) := by decide +kernel
theorem dX7_completes_0 : decode cX7_completes 0 = .ok (.iload_n 1, 1) := by decide +kernel
theorem dX7_completes_1 : decode cX7_completes 1 = .ok (.aload_n 0, 1) := by decide +kernel
theorem dX7_completes_2 : decode cX7_completes 2 = .ok (.getfield 81, 3) := by decide +kernel
theorem dX7_completes_5 : decode cX7_completes 5 = .ok (.iand, 1) := by decide +kernel
theorem dX7_completes_6 : decode cX7_completes 6 = .ok (.aload_n 0, 1) := by decide +kernel
theorem dX7_completes_7 : decode cX7_completes 7 = .ok (.getfield 81, 3) := by decide +kernel
theorem dX7_completes_10 : decode cX7_completes 10 = .ok (.if_icmp .ne 24, 3) := by decide +kernel
theorem dX7_completes_13 : decode cX7_completes 13 = .ok (.iload_n 1, 1) := by decide +kernel
theorem dX7_completes_14 : decode cX7_completes 14 = .ok (.aload_n 0, 1) := by decide +kernel
theorem dX7_completes_15 : decode cX7_completes 15 = .ok (.getfield 84, 3) := by decide +kernel
theorem dX7_completes_18 : decode cX7_completes 18 = .ok (.iand, 1) := by decide +kernel
theorem dX7_completes_19 : decode cX7_completes 19 = .ok (.ifCond .ne 15, 3) := by decide +kernel
theorem dX7_completes_22 : decode cX7_completes 22 = .ok (.aload_n 0, 1) := by decide +kernel
theorem dX7_completes_23 : decode cX7_completes 23 = .ok (.iload_n 1, 1) := by decide +kernel
theorem dX7_completes_24 : decode cX7_completes 24 = .ok (.invokevirtual 87, 3) := by decide +kernel
theorem dX7_completes_27 : decode cX7_completes 27 = .ok (.ifCond .eq 7, 3) := by decide +kernel
theorem dX7_completes_30 : decode cX7_completes 30 = .ok (.iconst 1, 1) := by decide +kernel
theorem dX7_completes_31 : decode cX7_completes 31 = .ok (.goto 4, 3) := by decide +kernel
theorem dX7_completes_34 : decode cX7_completes 34 = .ok (.iconst 0, 1) := by decide +kernel
theorem dX7_completes_35 : decode cX7_completes 35 = .ok (.ireturn, 1) := by decide +kernel
theorem dX7_isNoneLeft_0 : decode cX7_isNoneLeft 0 = .ok (.iconst 1, 1) := by decide +kernel
theorem dX7_isNoneLeft_1 : decode cX7_isNoneLeft 1 = .ok (.istore_n 1, 1) := by decide +kernel
theorem dX7_isNoneLeft_2 : decode cX7_isNoneLeft 2 = .ok (.iload_n 1, 1) := by decide +kernel
theorem dX7_isNoneLeft_3 : decode cX7_isNoneLeft 3 = .ok (.iconst 1, 1) := by decide +kernel
theorem dX7_isNoneLeft_4 : decode cX7_isNoneLeft 4 = .ok (.aload_n 0, 1) := by decide +kernel
theorem dX7_isNoneLeft_5 : decode cX7_isNoneLeft 5 = .ok (.getfield 60, 3) := by decide +kernel
theorem dX7_isNoneLeft_8 : decode cX7_isNoneLeft 8 = .ok (.ishl, 1) := by decide +kernel
theorem dX7_isNoneLeft_9 : decode cX7_isNoneLeft 9 = .ok (.if_icmp .ge 19, 3) := by decide +kernel
theorem dX7_isNoneLeft_12 : decode cX7_isNoneLeft 12 = .ok (.aload_n 0, 1) := by decide +kernel
theorem dX7_isNoneLeft_13 : decode cX7_isNoneLeft 13 = .ok (.iload_n 1, 1) := by decide +kernel
theorem dX7_isNoneLeft_14 : decode cX7_isNoneLeft 14 = .ok (.invokevirtual 91, 3) := by decide +kernel
theorem dX7_isNoneLeft_17 : decode cX7_isNoneLeft 17 = .ok (.ifCond .eq 5, 3) := by decide +kernel
theorem dX7_isNoneLeft_20 : decode cX7_isNoneLeft 20 = .ok (.iconst 0, 1) := by decide +kernel
theorem dX7_isNoneLeft_21 : decode cX7_isNoneLeft 21 = .ok (.ireturn, 1) := by decide +kernel
theorem dX7_isNoneLeft_22 : decode cX7_isNoneLeft 22 = .ok (.iinc 1 2, 3) := by decide +kernel
theorem dX7_isNoneLeft_25 : decode cX7_isNoneLeft 25 = .ok (.goto (-23), 3) := by decide +kernel
theorem dX7_isNoneLeft_28 : decode cX7_isNoneLeft 28 = .ok (.iconst 1, 1) := by decide +kernel
theorem dX7_isNoneLeft_29 : decode cX7_isNoneLeft 29 = .ok (.ireturn, 1) := by decide +kernel
theorem dX7_addFeature_0 : decode cX7_addFeature 0 = .ok (.aload_n 0, 1) := by decide +kernel
theorem dX7_addFeature_1 : decode cX7_addFeature 1 = .ok (.aload_n 0, 1) := by decide +kernel
theorem dX7_addFeature_2 : decode cX7_addFeature 2 = .ok (.iload_n 1, 1) := by decide +kernel
theorem dX7_addFeature_3 : decode cX7_addFeature 3 = .ok (.invokevirtual 94, 3) := by decide +kernel
theorem dX7_addFeature_6 : decode cX7_addFeature 6 = .ok (.iconst 1, 1) := by decide +kernel
theorem dX7_addFeature_7 : decode cX7_addFeature 7 = .ok (.invokevirtual 97, 3) := by decide +kernel
theorem dX7_addFeature_10 : decode cX7_addFeature 10 = .ok (.ifCond .ne 49, 3) := by decide +kernel
theorem dX7_addFeature_13 : decode cX7_addFeature 13 = .ok (.aload_n 0, 1) := by decide +kernel
theorem dX7_addFeature_14 : decode cX7_addFeature 14 = .ok (.iload_n 2, 1) := by decide +kernel
theorem dX7_addFeature_15 : decode cX7_addFeature 15 = .ok (.iconst 0, 1) := by decide +kernel
theorem dX7_addFeature_16 : decode cX7_addFeature 16 = .ok (.sipush 999, 3) := by decide +kernel
theorem dX7_addFeature_19 : decode cX7_addFeature 19 = .ok (.invokestatic 67, 3) := by decide +kernel
theorem dX7_addFeature_22 : decode cX7_addFeature 22 = .ok (.ifCond .ne 7, 3) := by decide +kernel
theorem dX7_addFeature_25 : decode cX7_addFeature 25 = .ok (.iconst 1, 1) := by decide +kernel
theorem dX7_addFeature_26 : decode cX7_addFeature 26 = .ok (.goto 4, 3) := by decide +kernel
theorem dX7_addFeature_29 : decode cX7_addFeature 29 = .ok (.iconst 0, 1) := by decide +kernel
theorem dX7_addFeature_30 : decode cX7_addFeature 30 = .ok (.iconst 2, 1) := by decide +kernel
theorem dX7_addFeature_31 : decode cX7_addFeature 31 = .ok (.invokevirtual 97, 3) := by decide +kernel
theorem dX7_addFeature_34 : decode cX7_addFeature 34 = .ok (.ifCond .ne 25, 3) := by decide +kernel
theorem dX7_addFeature_37 : decode cX7_addFeature 37 = .ok (.aload_n 0, 1) := by decide +kernel
theorem dX7_addFeature_38 : decode cX7_addFeature 38 = .ok (.aload_n 0, 1) := by decide +kernel
theorem dX7_addFeature_39 : decode cX7_addFeature 39 = .ok (.getfield 60, 3) := by decide +kernel
theorem dX7_addFeature_42 : decode cX7_addFeature 42 = .ok (.bipush 12, 2) := by decide +kernel
theorem dX7_addFeature_44 : decode cX7_addFeature 44 = .ok (.if_icmp .ne 7, 3) := by decide +kernel
theorem dX7_addFeature_47 : decode cX7_addFeature 47 = .ok (.iconst 1, 1) := by decide +kernel
theorem dX7_addFeature_48 : decode cX7_addFeature 48 = .ok (.goto 4, 3) := by decide +kernel
theorem dX7_addFeature_51 : decode cX7_addFeature 51 = .ok (.iconst 0, 1) := by decide +kernel
theorem dX7_addFeature_52 : decode cX7_addFeature 52 = .ok (.iconst 3, 1) := by decide +kernel
theorem dX7_addFeature_53 : decode cX7_addFeature 53 = .ok (.invokevirtual 97, 3) := by decide +kernel
theorem dX7_addFeature_56 : decode cX7_addFeature 56 = .ok (.ifCond .eq 5, 3) := by decide +kernel
theorem dX7_addFeature_59 : decode cX7_addFeature 59 = .ok (.iconst 0, 1) := by decide +kernel
theorem dX7_addFeature_60 : decode cX7_addFeature 60 = .ok (.ireturn, 1) := by decide +kernel
theorem dX7_addFeature_61 : decode cX7_addFeature 61 = .ok (.aload_n 0, 1) := by decide +kernel
theorem dX7_addFeature_62 : decode cX7_addFeature 62 = .ok (.getfield 9, 3) := by decide +kernel
theorem dX7_addFeature_65 : decode cX7_addFeature 65 = .ok (.aload_n 0, 1) := by decide +kernel
theorem dX7_addFeature_66 : decode cX7_addFeature 66 = .ok (.getfield 60, 3) := by decide +kernel
theorem dX7_addFeature_69 : decode cX7_addFeature 69 = .ok (.iload_n 1, 1) := by decide +kernel
theorem dX7_addFeature_70 : decode cX7_addFeature 70 = .ok (.iastore, 1) := by decide +kernel
theorem dX7_addFeature_71 : decode cX7_addFeature 71 = .ok (.aload_n 0, 1) := by decide +kernel
theorem dX7_addFeature_72 : decode cX7_addFeature 72 = .ok (.getfield 13, 3) := by decide +kernel
theorem dX7_addFeature_75 : decode cX7_addFeature 75 = .ok (.aload_n 0, 1) := by decide +kernel
theorem dX7_addFeature_76 : decode cX7_addFeature 76 = .ok (.getfield 60, 3) := by decide +kernel
theorem dX7_addFeature_79 : decode cX7_addFeature 79 = .ok (.iload_n 2, 1) := by decide +kernel
theorem dX7_addFeature_80 : decode cX7_addFeature 80 = .ok (.iastore, 1) := by decide +kernel
theorem dX7_addFeature_81 : decode cX7_addFeature 81 = .ok (.aload_n 0, 1) := by decide +kernel
theorem dX7_addFeature_82 : decode cX7_addFeature 82 = .ok (.getfield 19, 3) := by decide +kernel
theorem dX7_addFeature_85 : decode cX7_addFeature 85 = .ok (.aload_n 0, 1) := by decide +kernel
theorem dX7_addFeature_86 : decode cX7_addFeature 86 = .ok (.getfield 60, 3) := by decide +kernel
theorem dX7_addFeature_89 : decode cX7_addFeature 89 = .ok (.bipush 12, 2) := by decide +kernel
theorem dX7_addFeature_91 : decode cX7_addFeature 91 = .ok (.iastore, 1) := by decide +kernel
theorem dX7_addFeature_92 : decode cX7_addFeature 92 = .ok (.aload_n 0, 1) := by decide +kernel
theorem dX7_addFeature_93 : decode cX7_addFeature 93 = .ok (.dup, 1) := by decide +kernel
theorem dX7_addFeature_94 : decode cX7_addFeature 94 = .ok (.getfield 60, 3) := by decide +kernel
theorem dX7_addFeature_97 : decode cX7_addFeature 97 = .ok (.iconst 1, 1) := by decide +kernel
theorem dX7_addFeature_98 : decode cX7_addFeature 98 = .ok (.iadd, 1) := by decide +kernel
theorem dX7_addFeature_99 : decode cX7_addFeature 99 = .ok (.putfield 60, 3) := by decide +kernel
theorem dX7_addFeature_102 : decode cX7_addFeature 102 = .ok (.aload_n 0, 1) := by decide +kernel
theorem dX7_addFeature_103 : decode cX7_addFeature 103 = .ok (.getfield 60, 3) := by decide +kernel
theorem dX7_addFeature_106 : decode cX7_addFeature 106 = .ok (.iconst 1, 1) := by decide +kernel
theorem dX7_addFeature_107 : decode cX7_addFeature 107 = .ok (.isub, 1) := by decide +kernel
theorem dX7_addFeature_108 : decode cX7_addFeature 108 = .ok (.ireturn, 1) := by decide +kernel
theorem dX7_setMandatory_0 : decode cX7_setMandatory 0 = .ok (.aload_n 0, 1) := by decide +kernel
theorem dX7_setMandatory_1 : decode cX7_setMandatory 1 = .ok (.aload_n 0, 1) := by decide +kernel
theorem dX7_setMandatory_2 : decode cX7_setMandatory 2 = .ok (.iload_n 1, 1) := by decide +kernel
theorem dX7_setMandatory_3 : decode cX7_setMandatory 3 = .ok (.invokevirtual 94, 3) := by decide +kernel
theorem dX7_setMandatory_6 : decode cX7_setMandatory 6 = .ok (.iconst 1, 1) := by decide +kernel
theorem dX7_setMandatory_7 : decode cX7_setMandatory 7 = .ok (.invokevirtual 97, 3) := by decide +kernel
theorem dX7_setMandatory_10 : decode cX7_setMandatory 10 = .ok (.ifCond .ne 20, 3) := by decide +kernel
theorem dX7_setMandatory_13 : decode cX7_setMandatory 13 = .ok (.aload_n 0, 1) := by decide +kernel
theorem dX7_setMandatory_14 : decode cX7_setMandatory 14 = .ok (.iload_n 1, 1) := by decide +kernel
theorem dX7_setMandatory_15 : decode cX7_setMandatory 15 = .ok (.ifCond .ne 7, 3) := by decide +kernel
theorem dX7_setMandatory_18 : decode cX7_setMandatory 18 = .ok (.iconst 1, 1) := by decide +kernel
theorem dX7_setMandatory_19 : decode cX7_setMandatory 19 = .ok (.goto 4, 3) := by decide +kernel
theorem dX7_setMandatory_22 : decode cX7_setMandatory 22 = .ok (.iconst 0, 1) := by decide +kernel
theorem dX7_setMandatory_23 : decode cX7_setMandatory 23 = .ok (.iconst 2, 1) := by decide +kernel
theorem dX7_setMandatory_24 : decode cX7_setMandatory 24 = .ok (.invokevirtual 97, 3) := by decide +kernel
theorem dX7_setMandatory_27 : decode cX7_setMandatory 27 = .ok (.ifCond .eq 5, 3) := by decide +kernel
theorem dX7_setMandatory_30 : decode cX7_setMandatory 30 = .ok (.iconst 0, 1) := by decide +kernel
theorem dX7_setMandatory_31 : decode cX7_setMandatory 31 = .ok (.ireturn, 1) := by decide +kernel
theorem dX7_setMandatory_32 : decode cX7_setMandatory 32 = .ok (.aload_n 0, 1) := by decide +kernel
theorem dX7_setMandatory_33 : decode cX7_setMandatory 33 = .ok (.getfield 22, 3) := by decide +kernel
theorem dX7_setMandatory_36 : decode cX7_setMandatory 36 = .ok (.iload_n 1, 1) := by decide +kernel
theorem dX7_setMandatory_37 : decode cX7_setMandatory 37 = .ok (.baload, 1) := by decide +kernel
theorem dX7_setMandatory_38 : decode cX7_setMandatory 38 = .ok (.istore_n 3, 1) := by decide +kernel
theorem dX7_setMandatory_39 : decode cX7_setMandatory 39 = .ok (.aload_n 0, 1) := by decide +kernel
theorem dX7_setMandatory_40 : decode cX7_setMandatory 40 = .ok (.getfield 22, 3) := by decide +kernel
theorem dX7_setMandatory_43 : decode cX7_setMandatory 43 = .ok (.iload_n 1, 1) := by decide +kernel
theorem dX7_setMandatory_44 : decode cX7_setMandatory 44 = .ok (.iload_n 2, 1) := by decide +kernel
theorem dX7_setMandatory_45 : decode cX7_setMandatory 45 = .ok (.bastore, 1) := by decide +kernel
theorem dX7_setMandatory_46 : decode cX7_setMandatory 46 = .ok (.aload_n 0, 1) := by decide +kernel
theorem dX7_setMandatory_47 : decode cX7_setMandatory 47 = .ok (.aload_n 0, 1) := by decide +kernel
theorem dX7_setMandatory_48 : decode cX7_setMandatory 48 = .ok (.invokevirtual 101, 3) := by decide +kernel
theorem dX7_setMandatory_51 : decode cX7_setMandatory 51 = .ok (.iconst 3, 1) := by decide +kernel
theorem dX7_setMandatory_52 : decode cX7_setMandatory 52 = .ok (.invokevirtual 97, 3) := by decide +kernel
theorem dX7_setMandatory_55 : decode cX7_setMandatory 55 = .ok (.ifCond .eq 10, 3) := by decide +kernel
theorem dX7_setMandatory_58 : decode cX7_setMandatory 58 = .ok (.aload_n 0, 1) := by decide +kernel
theorem dX7_setMandatory_59 : decode cX7_setMandatory 59 = .ok (.getfield 22, 3) := by decide +kernel
theorem dX7_setMandatory_62 : decode cX7_setMandatory 62 = .ok (.iload_n 1, 1) := by decide +kernel
theorem dX7_setMandatory_63 : decode cX7_setMandatory 63 = .ok (.iload_n 3, 1) := by decide +kernel
theorem dX7_setMandatory_64 : decode cX7_setMandatory 64 = .ok (.bastore, 1) := by decide +kernel
theorem dX7_setMandatory_65 : decode cX7_setMandatory 65 = .ok (.iload_n 3, 1) := by decide +kernel
theorem dX7_setMandatory_66 : decode cX7_setMandatory 66 = .ok (.ireturn, 1) := by decide +kernel
theorem dX7_setGroup_0 : decode cX7_setGroup 0 = .ok (.aload_n 0, 1) := by decide +kernel
theorem dX7_setGroup_1 : decode cX7_setGroup 1 = .ok (.aload_n 0, 1) := by decide +kernel
theorem dX7_setGroup_2 : decode cX7_setGroup 2 = .ok (.iload_n 1, 1) := by decide +kernel
theorem dX7_setGroup_3 : decode cX7_setGroup 3 = .ok (.invokevirtual 94, 3) := by decide +kernel
theorem dX7_setGroup_6 : decode cX7_setGroup 6 = .ok (.iconst 1, 1) := by decide +kernel
theorem dX7_setGroup_7 : decode cX7_setGroup 7 = .ok (.invokevirtual 97, 3) := by decide +kernel
theorem dX7_setGroup_10 : decode cX7_setGroup 10 = .ok (.ifCond .ne 30, 3) := by decide +kernel
theorem dX7_setGroup_13 : decode cX7_setGroup 13 = .ok (.aload_n 0, 1) := by decide +kernel
theorem dX7_setGroup_14 : decode cX7_setGroup 14 = .ok (.iload_n 2, 1) := by decide +kernel
theorem dX7_setGroup_15 : decode cX7_setGroup 15 = .ok (.ifCond .lt 13, 3) := by decide +kernel
theorem dX7_setGroup_18 : decode cX7_setGroup 18 = .ok (.iload_n 3, 1) := by decide +kernel
theorem dX7_setGroup_19 : decode cX7_setGroup 19 = .ok (.iload_n 2, 1) := by decide +kernel
theorem dX7_setGroup_20 : decode cX7_setGroup 20 = .ok (.bipush 12, 2) := by decide +kernel
theorem dX7_setGroup_22 : decode cX7_setGroup 22 = .ok (.invokestatic 67, 3) := by decide +kernel
theorem dX7_setGroup_25 : decode cX7_setGroup 25 = .ok (.ifCond .ne 7, 3) := by decide +kernel
theorem dX7_setGroup_28 : decode cX7_setGroup 28 = .ok (.iconst 1, 1) := by decide +kernel
theorem dX7_setGroup_29 : decode cX7_setGroup 29 = .ok (.goto 4, 3) := by decide +kernel
theorem dX7_setGroup_32 : decode cX7_setGroup 32 = .ok (.iconst 0, 1) := by decide +kernel
theorem dX7_setGroup_33 : decode cX7_setGroup 33 = .ok (.iconst 2, 1) := by decide +kernel
theorem dX7_setGroup_34 : decode cX7_setGroup 34 = .ok (.invokevirtual 97, 3) := by decide +kernel
theorem dX7_setGroup_37 : decode cX7_setGroup 37 = .ok (.ifCond .eq 5, 3) := by decide +kernel
theorem dX7_setGroup_40 : decode cX7_setGroup 40 = .ok (.iconst 0, 1) := by decide +kernel
theorem dX7_setGroup_41 : decode cX7_setGroup 41 = .ok (.ireturn, 1) := by decide +kernel
theorem dX7_setGroup_42 : decode cX7_setGroup 42 = .ok (.aload_n 0, 1) := by decide +kernel
theorem dX7_setGroup_43 : decode cX7_setGroup 43 = .ok (.getfield 16, 3) := by decide +kernel
theorem dX7_setGroup_46 : decode cX7_setGroup 46 = .ok (.iload_n 1, 1) := by decide +kernel
theorem dX7_setGroup_47 : decode cX7_setGroup 47 = .ok (.iaload, 1) := by decide +kernel
theorem dX7_setGroup_48 : decode cX7_setGroup 48 = .ok (.istore 4, 2) := by decide +kernel
theorem dX7_setGroup_50 : decode cX7_setGroup 50 = .ok (.aload_n 0, 1) := by decide +kernel
theorem dX7_setGroup_51 : decode cX7_setGroup 51 = .ok (.getfield 19, 3) := by decide +kernel
theorem dX7_setGroup_54 : decode cX7_setGroup 54 = .ok (.iload_n 1, 1) := by decide +kernel
theorem dX7_setGroup_55 : decode cX7_setGroup 55 = .ok (.iaload, 1) := by decide +kernel
theorem dX7_setGroup_56 : decode cX7_setGroup 56 = .ok (.istore 5, 2) := by decide +kernel
theorem dX7_setGroup_58 : decode cX7_setGroup 58 = .ok (.aload_n 0, 1) := by decide +kernel
theorem dX7_setGroup_59 : decode cX7_setGroup 59 = .ok (.getfield 16, 3) := by decide +kernel
theorem dX7_setGroup_62 : decode cX7_setGroup 62 = .ok (.iload_n 1, 1) := by decide +kernel
theorem dX7_setGroup_63 : decode cX7_setGroup 63 = .ok (.iload_n 2, 1) := by decide +kernel
theorem dX7_setGroup_64 : decode cX7_setGroup 64 = .ok (.iastore, 1) := by decide +kernel
theorem dX7_setGroup_65 : decode cX7_setGroup 65 = .ok (.aload_n 0, 1) := by decide +kernel
theorem dX7_setGroup_66 : decode cX7_setGroup 66 = .ok (.getfield 19, 3) := by decide +kernel
theorem dX7_setGroup_69 : decode cX7_setGroup 69 = .ok (.iload_n 1, 1) := by decide +kernel
theorem dX7_setGroup_70 : decode cX7_setGroup 70 = .ok (.iload_n 3, 1) := by decide +kernel
theorem dX7_setGroup_71 : decode cX7_setGroup 71 = .ok (.iastore, 1) := by decide +kernel
theorem dX7_setGroup_72 : decode cX7_setGroup 72 = .ok (.aload_n 0, 1) := by decide +kernel
theorem dX7_setGroup_73 : decode cX7_setGroup 73 = .ok (.aload_n 0, 1) := by decide +kernel
theorem dX7_setGroup_74 : decode cX7_setGroup 74 = .ok (.invokevirtual 101, 3) := by decide +kernel
theorem dX7_setGroup_77 : decode cX7_setGroup 77 = .ok (.iconst 3, 1) := by decide +kernel
theorem dX7_setGroup_78 : decode cX7_setGroup 78 = .ok (.invokevirtual 97, 3) := by decide +kernel
theorem dX7_setGroup_81 : decode cX7_setGroup 81 = .ok (.ifCond .eq 19, 3) := by decide +kernel
theorem dX7_setGroup_84 : decode cX7_setGroup 84 = .ok (.aload_n 0, 1) := by decide +kernel
theorem dX7_setGroup_85 : decode cX7_setGroup 85 = .ok (.getfield 16, 3) := by decide +kernel
theorem dX7_setGroup_88 : decode cX7_setGroup 88 = .ok (.iload_n 1, 1) := by decide +kernel
theorem dX7_setGroup_89 : decode cX7_setGroup 89 = .ok (.iload 4, 2) := by decide +kernel
theorem dX7_setGroup_91 : decode cX7_setGroup 91 = .ok (.iastore, 1) := by decide +kernel
theorem dX7_setGroup_92 : decode cX7_setGroup 92 = .ok (.aload_n 0, 1) := by decide +kernel
theorem dX7_setGroup_93 : decode cX7_setGroup 93 = .ok (.getfield 19, 3) := by decide +kernel
theorem dX7_setGroup_96 : decode cX7_setGroup 96 = .ok (.iload_n 1, 1) := by decide +kernel
theorem dX7_setGroup_97 : decode cX7_setGroup 97 = .ok (.iload 5, 2) := by decide +kernel
theorem dX7_setGroup_99 : decode cX7_setGroup 99 = .ok (.iastore, 1) := by decide +kernel
theorem dX7_setGroup_100 : decode cX7_setGroup 100 = .ok (.iconst 0, 1) := by decide +kernel
theorem dX7_setGroup_101 : decode cX7_setGroup 101 = .ok (.istore 6, 2) := by decide +kernel
theorem dX7_setGroup_103 : decode cX7_setGroup 103 = .ok (.iconst 1, 1) := by decide +kernel
theorem dX7_setGroup_104 : decode cX7_setGroup 104 = .ok (.istore 7, 2) := by decide +kernel
theorem dX7_setGroup_106 : decode cX7_setGroup 106 = .ok (.iload 7, 2) := by decide +kernel
theorem dX7_setGroup_108 : decode cX7_setGroup 108 = .ok (.aload_n 0, 1) := by decide +kernel
theorem dX7_setGroup_109 : decode cX7_setGroup 109 = .ok (.getfield 60, 3) := by decide +kernel
theorem dX7_setGroup_112 : decode cX7_setGroup 112 = .ok (.if_icmp .ge 30, 3) := by decide +kernel
theorem dX7_setGroup_115 : decode cX7_setGroup 115 = .ok (.iload 6, 2) := by decide +kernel
theorem dX7_setGroup_117 : decode cX7_setGroup 117 = .ok (.aload_n 0, 1) := by decide +kernel
theorem dX7_setGroup_118 : decode cX7_setGroup 118 = .ok (.getfield 9, 3) := by decide +kernel
theorem dX7_setGroup_121 : decode cX7_setGroup 121 = .ok (.iload 7, 2) := by decide +kernel
theorem dX7_setGroup_123 : decode cX7_setGroup 123 = .ok (.iaload, 1) := by decide +kernel
theorem dX7_setGroup_124 : decode cX7_setGroup 124 = .ok (.iload_n 1, 1) := by decide +kernel
theorem dX7_setGroup_125 : decode cX7_setGroup 125 = .ok (.if_icmp .ne 7, 3) := by decide +kernel
theorem dX7_setGroup_128 : decode cX7_setGroup 128 = .ok (.iconst 1, 1) := by decide +kernel
theorem dX7_setGroup_129 : decode cX7_setGroup 129 = .ok (.goto 4, 3) := by decide +kernel
theorem dX7_setGroup_132 : decode cX7_setGroup 132 = .ok (.iconst 0, 1) := by decide +kernel
theorem dX7_setGroup_133 : decode cX7_setGroup 133 = .ok (.iadd, 1) := by decide +kernel
theorem dX7_setGroup_134 : decode cX7_setGroup 134 = .ok (.istore 6, 2) := by decide +kernel
theorem dX7_setGroup_136 : decode cX7_setGroup 136 = .ok (.iinc 7 1, 3) := by decide +kernel
theorem dX7_setGroup_139 : decode cX7_setGroup 139 = .ok (.goto (-33), 3) := by decide +kernel
theorem dX7_setGroup_142 : decode cX7_setGroup 142 = .ok (.iload 6, 2) := by decide +kernel
theorem dX7_setGroup_144 : decode cX7_setGroup 144 = .ok (.ireturn, 1) := by decide +kernel
theorem dX7_adds_0 : decode cX7_adds 0 = .ok (.aload_n 0, 1) := by decide +kernel
theorem dX7_adds_1 : decode cX7_adds 1 = .ok (.aload_n 0, 1) := by decide +kernel
theorem dX7_adds_2 : decode cX7_adds 2 = .ok (.iload_n 2, 1) := by decide +kernel
theorem dX7_adds_3 : decode cX7_adds 3 = .ok (.invokevirtual 94, 3) := by decide +kernel
theorem dX7_adds_6 : decode cX7_adds 6 = .ok (.ifCond .ne 20, 3) := by decide +kernel
theorem dX7_adds_9 : decode cX7_adds 9 = .ok (.aload_n 0, 1) := by decide +kernel
theorem dX7_adds_10 : decode cX7_adds 10 = .ok (.iload_n 3, 1) := by decide +kernel
theorem dX7_adds_11 : decode cX7_adds 11 = .ok (.invokevirtual 94, 3) := by decide +kernel
theorem dX7_adds_14 : decode cX7_adds 14 = .ok (.ifCond .ne 12, 3) := by decide +kernel
theorem dX7_adds_17 : decode cX7_adds 17 = .ok (.aload_n 0, 1) := by decide +kernel
theorem dX7_adds_18 : decode cX7_adds 18 = .ok (.iload 4, 2) := by decide +kernel
theorem dX7_adds_20 : decode cX7_adds 20 = .ok (.invokevirtual 94, 3) := by decide +kernel
theorem dX7_adds_23 : decode cX7_adds 23 = .ok (.ifCond .eq 7, 3) := by decide +kernel
theorem dX7_adds_26 : decode cX7_adds 26 = .ok (.iconst 1, 1) := by decide +kernel
theorem dX7_adds_27 : decode cX7_adds 27 = .ok (.goto 4, 3) := by decide +kernel
theorem dX7_adds_30 : decode cX7_adds 30 = .ok (.iconst 0, 1) := by decide +kernel
theorem dX7_adds_31 : decode cX7_adds 31 = .ok (.iconst 1, 1) := by decide +kernel
theorem dX7_adds_32 : decode cX7_adds 32 = .ok (.invokevirtual 97, 3) := by decide +kernel
theorem dX7_adds_35 : decode cX7_adds 35 = .ok (.ifCond .ne 61, 3) := by decide +kernel
theorem dX7_adds_38 : decode cX7_adds 38 = .ok (.aload_n 0, 1) := by decide +kernel
theorem dX7_adds_39 : decode cX7_adds 39 = .ok (.iload_n 2, 1) := by decide +kernel
theorem dX7_adds_40 : decode cX7_adds 40 = .ok (.iload_n 3, 1) := by decide +kernel
theorem dX7_adds_41 : decode cX7_adds 41 = .ok (.if_icmp .eq 21, 3) := by decide +kernel
theorem dX7_adds_44 : decode cX7_adds 44 = .ok (.iload_n 1, 1) := by decide +kernel
theorem dX7_adds_45 : decode cX7_adds 45 = .ok (.bipush 97, 2) := by decide +kernel
theorem dX7_adds_47 : decode cX7_adds 47 = .ok (.if_icmp .ne 19, 3) := by decide +kernel
theorem dX7_adds_50 : decode cX7_adds 50 = .ok (.iload_n 2, 1) := by decide +kernel
theorem dX7_adds_51 : decode cX7_adds 51 = .ok (.iload 4, 2) := by decide +kernel
theorem dX7_adds_53 : decode cX7_adds 53 = .ok (.if_icmp .eq 9, 3) := by decide +kernel
theorem dX7_adds_56 : decode cX7_adds 56 = .ok (.iload_n 3, 1) := by decide +kernel
theorem dX7_adds_57 : decode cX7_adds 57 = .ok (.iload 4, 2) := by decide +kernel
theorem dX7_adds_59 : decode cX7_adds 59 = .ok (.if_icmp .ne 7, 3) := by decide +kernel
theorem dX7_adds_62 : decode cX7_adds 62 = .ok (.iconst 1, 1) := by decide +kernel
theorem dX7_adds_63 : decode cX7_adds 63 = .ok (.goto 4, 3) := by decide +kernel
theorem dX7_adds_66 : decode cX7_adds 66 = .ok (.iconst 0, 1) := by decide +kernel
theorem dX7_adds_67 : decode cX7_adds 67 = .ok (.iconst 2, 1) := by decide +kernel
theorem dX7_adds_68 : decode cX7_adds 68 = .ok (.invokevirtual 97, 3) := by decide +kernel
theorem dX7_adds_71 : decode cX7_adds 71 = .ok (.ifCond .ne 25, 3) := by decide +kernel
theorem dX7_adds_74 : decode cX7_adds 74 = .ok (.aload_n 0, 1) := by decide +kernel
theorem dX7_adds_75 : decode cX7_adds 75 = .ok (.aload_n 0, 1) := by decide +kernel
theorem dX7_adds_76 : decode cX7_adds 76 = .ok (.getfield 75, 3) := by decide +kernel
theorem dX7_adds_79 : decode cX7_adds 79 = .ok (.bipush 20, 2) := by decide +kernel
theorem dX7_adds_81 : decode cX7_adds 81 = .ok (.if_icmp .ne 7, 3) := by decide +kernel
theorem dX7_adds_84 : decode cX7_adds 84 = .ok (.iconst 1, 1) := by decide +kernel
theorem dX7_adds_85 : decode cX7_adds 85 = .ok (.goto 4, 3) := by decide +kernel
theorem dX7_adds_88 : decode cX7_adds 88 = .ok (.iconst 0, 1) := by decide +kernel
theorem dX7_adds_89 : decode cX7_adds 89 = .ok (.iconst 3, 1) := by decide +kernel
theorem dX7_adds_90 : decode cX7_adds 90 = .ok (.invokevirtual 97, 3) := by decide +kernel
theorem dX7_adds_93 : decode cX7_adds 93 = .ok (.ifCond .eq 5, 3) := by decide +kernel
theorem dX7_adds_96 : decode cX7_adds 96 = .ok (.iconst 0, 1) := by decide +kernel
theorem dX7_adds_97 : decode cX7_adds 97 = .ok (.ireturn, 1) := by decide +kernel
theorem dX7_adds_98 : decode cX7_adds 98 = .ok (.aload_n 0, 1) := by decide +kernel
theorem dX7_adds_99 : decode cX7_adds 99 = .ok (.getfield 29, 3) := by decide +kernel
theorem dX7_adds_102 : decode cX7_adds 102 = .ok (.aload_n 0, 1) := by decide +kernel
theorem dX7_adds_103 : decode cX7_adds 103 = .ok (.getfield 75, 3) := by decide +kernel
theorem dX7_adds_106 : decode cX7_adds 106 = .ok (.iload_n 1, 1) := by decide +kernel
theorem dX7_adds_107 : decode cX7_adds 107 = .ok (.castore, 1) := by decide +kernel
theorem dX7_adds_108 : decode cX7_adds 108 = .ok (.aload_n 0, 1) := by decide +kernel
theorem dX7_adds_109 : decode cX7_adds 109 = .ok (.getfield 39, 3) := by decide +kernel
theorem dX7_adds_112 : decode cX7_adds 112 = .ok (.aload_n 0, 1) := by decide +kernel
theorem dX7_adds_113 : decode cX7_adds 113 = .ok (.getfield 75, 3) := by decide +kernel
theorem dX7_adds_116 : decode cX7_adds 116 = .ok (.iload_n 2, 1) := by decide +kernel
theorem dX7_adds_117 : decode cX7_adds 117 = .ok (.iastore, 1) := by decide +kernel
theorem dX7_adds_118 : decode cX7_adds 118 = .ok (.aload_n 0, 1) := by decide +kernel
theorem dX7_adds_119 : decode cX7_adds 119 = .ok (.getfield 42, 3) := by decide +kernel
theorem dX7_adds_122 : decode cX7_adds 122 = .ok (.aload_n 0, 1) := by decide +kernel
theorem dX7_adds_123 : decode cX7_adds 123 = .ok (.getfield 75, 3) := by decide +kernel
theorem dX7_adds_126 : decode cX7_adds 126 = .ok (.iload_n 3, 1) := by decide +kernel
theorem dX7_adds_127 : decode cX7_adds 127 = .ok (.iastore, 1) := by decide +kernel
theorem dX7_adds_128 : decode cX7_adds 128 = .ok (.aload_n 0, 1) := by decide +kernel
theorem dX7_adds_129 : decode cX7_adds 129 = .ok (.getfield 45, 3) := by decide +kernel
theorem dX7_adds_132 : decode cX7_adds 132 = .ok (.aload_n 0, 1) := by decide +kernel
theorem dX7_adds_133 : decode cX7_adds 133 = .ok (.getfield 75, 3) := by decide +kernel
theorem dX7_adds_136 : decode cX7_adds 136 = .ok (.iload 4, 2) := by decide +kernel
theorem dX7_adds_138 : decode cX7_adds 138 = .ok (.iastore, 1) := by decide +kernel
theorem dX7_adds_139 : decode cX7_adds 139 = .ok (.aload_n 0, 1) := by decide +kernel
theorem dX7_adds_140 : decode cX7_adds 140 = .ok (.getfield 26, 3) := by decide +kernel
theorem dX7_adds_143 : decode cX7_adds 143 = .ok (.aload_n 0, 1) := by decide +kernel
theorem dX7_adds_144 : decode cX7_adds 144 = .ok (.getfield 75, 3) := by decide +kernel
theorem dX7_adds_147 : decode cX7_adds 147 = .ok (.iconst 0, 1) := by decide +kernel
theorem dX7_adds_148 : decode cX7_adds 148 = .ok (.bastore, 1) := by decide +kernel
theorem dX7_adds_149 : decode cX7_adds 149 = .ok (.aload_n 0, 1) := by decide +kernel
theorem dX7_adds_150 : decode cX7_adds 150 = .ok (.dup, 1) := by decide +kernel
theorem dX7_adds_151 : decode cX7_adds 151 = .ok (.getfield 75, 3) := by decide +kernel
theorem dX7_adds_154 : decode cX7_adds 154 = .ok (.iconst 1, 1) := by decide +kernel
theorem dX7_adds_155 : decode cX7_adds 155 = .ok (.iadd, 1) := by decide +kernel
theorem dX7_adds_156 : decode cX7_adds 156 = .ok (.putfield 75, 3) := by decide +kernel
theorem dX7_adds_159 : decode cX7_adds 159 = .ok (.aload_n 0, 1) := by decide +kernel
theorem dX7_adds_160 : decode cX7_adds 160 = .ok (.aload_n 0, 1) := by decide +kernel
theorem dX7_adds_161 : decode cX7_adds 161 = .ok (.invokevirtual 101, 3) := by decide +kernel
theorem dX7_adds_164 : decode cX7_adds 164 = .ok (.iconst 4, 1) := by decide +kernel
theorem dX7_adds_165 : decode cX7_adds 165 = .ok (.invokevirtual 97, 3) := by decide +kernel
theorem dX7_adds_168 : decode cX7_adds 168 = .ok (.ifCond .eq 13, 3) := by decide +kernel
theorem dX7_adds_171 : decode cX7_adds 171 = .ok (.aload_n 0, 1) := by decide +kernel
theorem dX7_adds_172 : decode cX7_adds 172 = .ok (.dup, 1) := by decide +kernel
theorem dX7_adds_173 : decode cX7_adds 173 = .ok (.getfield 75, 3) := by decide +kernel
theorem dX7_adds_176 : decode cX7_adds 176 = .ok (.iconst 1, 1) := by decide +kernel
theorem dX7_adds_177 : decode cX7_adds 177 = .ok (.isub, 1) := by decide +kernel
theorem dX7_adds_178 : decode cX7_adds 178 = .ok (.putfield 75, 3) := by decide +kernel
theorem dX7_adds_181 : decode cX7_adds 181 = .ok (.aload_n 0, 1) := by decide +kernel
theorem dX7_adds_182 : decode cX7_adds 182 = .ok (.getfield 75, 3) := by decide +kernel
theorem dX7_adds_185 : decode cX7_adds 185 = .ok (.iconst 1, 1) := by decide +kernel
theorem dX7_adds_186 : decode cX7_adds 186 = .ok (.isub, 1) := by decide +kernel
theorem dX7_adds_187 : decode cX7_adds 187 = .ok (.ireturn, 1) := by decide +kernel
theorem dX7_require_0 : decode cX7_require 0 = .ok (.aload_n 0, 1) := by decide +kernel
theorem dX7_require_1 : decode cX7_require 1 = .ok (.bipush 114, 2) := by decide +kernel
theorem dX7_require_3 : decode cX7_require 3 = .ok (.iload_n 1, 1) := by decide +kernel
theorem dX7_require_4 : decode cX7_require 4 = .ok (.iload_n 2, 1) := by decide +kernel
theorem dX7_require_5 : decode cX7_require 5 = .ok (.iload_n 1, 1) := by decide +kernel
theorem dX7_require_6 : decode cX7_require 6 = .ok (.invokevirtual 105, 3) := by decide +kernel
theorem dX7_require_9 : decode cX7_require 9 = .ok (.ireturn, 1) := by decide +kernel
theorem dX7_exclude_0 : decode cX7_exclude 0 = .ok (.aload_n 0, 1) := by decide +kernel
theorem dX7_exclude_1 : decode cX7_exclude 1 = .ok (.bipush 101, 2) := by decide +kernel
theorem dX7_exclude_3 : decode cX7_exclude 3 = .ok (.iload_n 1, 1) := by decide +kernel
theorem dX7_exclude_4 : decode cX7_exclude 4 = .ok (.iload_n 2, 1) := by decide +kernel
theorem dX7_exclude_5 : decode cX7_exclude 5 = .ok (.iload_n 1, 1) := by decide +kernel
theorem dX7_exclude_6 : decode cX7_exclude 6 = .ok (.invokevirtual 105, 3) := by decide +kernel
theorem dX7_exclude_9 : decode cX7_exclude 9 = .ok (.ireturn, 1) := by decide +kernel
theorem dX7_any_0 : decode cX7_any 0 = .ok (.aload_n 0, 1) := by decide +kernel
theorem dX7_any_1 : decode cX7_any 1 = .ok (.bipush 97, 2) := by decide +kernel
theorem dX7_any_3 : decode cX7_any 3 = .ok (.iload_n 1, 1) := by decide +kernel
theorem dX7_any_4 : decode cX7_any 4 = .ok (.iload_n 2, 1) := by decide +kernel
theorem dX7_any_5 : decode cX7_any 5 = .ok (.iload_n 3, 1) := by decide +kernel
theorem dX7_any_6 : decode cX7_any 6 = .ok (.invokevirtual 105, 3) := by decide +kernel
theorem dX7_any_9 : decode cX7_any 9 = .ok (.ireturn, 1) := by decide +kernel
theorem dX7_lift_0 : decode cX7_lift 0 = .ok (.aload_n 0, 1) := by decide +kernel
theorem dX7_lift_1 : decode cX7_lift 1 = .ok (.iload_n 1, 1) := by decide +kernel
theorem dX7_lift_2 : decode cX7_lift 2 = .ok (.iconst 0, 1) := by decide +kernel
theorem dX7_lift_3 : decode cX7_lift 3 = .ok (.aload_n 0, 1) := by decide +kernel
theorem dX7_lift_4 : decode cX7_lift 4 = .ok (.getfield 75, 3) := by decide +kernel
theorem dX7_lift_7 : decode cX7_lift 7 = .ok (.iconst 1, 1) := by decide +kernel
theorem dX7_lift_8 : decode cX7_lift 8 = .ok (.isub, 1) := by decide +kernel
theorem dX7_lift_9 : decode cX7_lift 9 = .ok (.invokestatic 67, 3) := by decide +kernel
theorem dX7_lift_12 : decode cX7_lift 12 = .ok (.ifCond .ne 7, 3) := by decide +kernel
theorem dX7_lift_15 : decode cX7_lift 15 = .ok (.iconst 1, 1) := by decide +kernel
theorem dX7_lift_16 : decode cX7_lift 16 = .ok (.goto 4, 3) := by decide +kernel
theorem dX7_lift_19 : decode cX7_lift 19 = .ok (.iconst 0, 1) := by decide +kernel
theorem dX7_lift_20 : decode cX7_lift 20 = .ok (.iconst 1, 1) := by decide +kernel
theorem dX7_lift_21 : decode cX7_lift 21 = .ok (.invokevirtual 97, 3) := by decide +kernel
theorem dX7_lift_24 : decode cX7_lift 24 = .ok (.ifCond .ne 17, 3) := by decide +kernel
theorem dX7_lift_27 : decode cX7_lift 27 = .ok (.aload_n 0, 1) := by decide +kernel
theorem dX7_lift_28 : decode cX7_lift 28 = .ok (.aload_n 0, 1) := by decide +kernel
theorem dX7_lift_29 : decode cX7_lift 29 = .ok (.getfield 26, 3) := by decide +kernel
theorem dX7_lift_32 : decode cX7_lift 32 = .ok (.iload_n 1, 1) := by decide +kernel
theorem dX7_lift_33 : decode cX7_lift 33 = .ok (.baload, 1) := by decide +kernel
theorem dX7_lift_34 : decode cX7_lift 34 = .ok (.iconst 2, 1) := by decide +kernel
theorem dX7_lift_35 : decode cX7_lift 35 = .ok (.invokevirtual 97, 3) := by decide +kernel
theorem dX7_lift_38 : decode cX7_lift 38 = .ok (.ifCond .eq 5, 3) := by decide +kernel
theorem dX7_lift_41 : decode cX7_lift 41 = .ok (.iconst 0, 1) := by decide +kernel
theorem dX7_lift_42 : decode cX7_lift 42 = .ok (.ireturn, 1) := by decide +kernel
theorem dX7_lift_43 : decode cX7_lift 43 = .ok (.aload_n 0, 1) := by decide +kernel
theorem dX7_lift_44 : decode cX7_lift 44 = .ok (.getfield 26, 3) := by decide +kernel
theorem dX7_lift_47 : decode cX7_lift 47 = .ok (.iload_n 1, 1) := by decide +kernel
theorem dX7_lift_48 : decode cX7_lift 48 = .ok (.iconst 1, 1) := by decide +kernel
theorem dX7_lift_49 : decode cX7_lift 49 = .ok (.bastore, 1) := by decide +kernel
theorem dX7_lift_50 : decode cX7_lift 50 = .ok (.iconst 0, 1) := by decide +kernel
theorem dX7_lift_51 : decode cX7_lift 51 = .ok (.istore_n 2, 1) := by decide +kernel
theorem dX7_lift_52 : decode cX7_lift 52 = .ok (.iconst 0, 1) := by decide +kernel
theorem dX7_lift_53 : decode cX7_lift 53 = .ok (.istore_n 3, 1) := by decide +kernel
theorem dX7_lift_54 : decode cX7_lift 54 = .ok (.iload_n 3, 1) := by decide +kernel
theorem dX7_lift_55 : decode cX7_lift 55 = .ok (.aload_n 0, 1) := by decide +kernel
theorem dX7_lift_56 : decode cX7_lift 56 = .ok (.getfield 75, 3) := by decide +kernel
theorem dX7_lift_59 : decode cX7_lift 59 = .ok (.if_icmp .ge 26, 3) := by decide +kernel
theorem dX7_lift_62 : decode cX7_lift 62 = .ok (.iload_n 2, 1) := by decide +kernel
theorem dX7_lift_63 : decode cX7_lift 63 = .ok (.aload_n 0, 1) := by decide +kernel
theorem dX7_lift_64 : decode cX7_lift 64 = .ok (.getfield 26, 3) := by decide +kernel
theorem dX7_lift_67 : decode cX7_lift 67 = .ok (.iload_n 3, 1) := by decide +kernel
theorem dX7_lift_68 : decode cX7_lift 68 = .ok (.baload, 1) := by decide +kernel
theorem dX7_lift_69 : decode cX7_lift 69 = .ok (.ifCond .eq 7, 3) := by decide +kernel
theorem dX7_lift_72 : decode cX7_lift 72 = .ok (.iconst 0, 1) := by decide +kernel
theorem dX7_lift_73 : decode cX7_lift 73 = .ok (.goto 4, 3) := by decide +kernel
theorem dX7_lift_76 : decode cX7_lift 76 = .ok (.iconst 1, 1) := by decide +kernel
theorem dX7_lift_77 : decode cX7_lift 77 = .ok (.iadd, 1) := by decide +kernel
theorem dX7_lift_78 : decode cX7_lift 78 = .ok (.istore_n 2, 1) := by decide +kernel
theorem dX7_lift_79 : decode cX7_lift 79 = .ok (.iinc 3 1, 3) := by decide +kernel
theorem dX7_lift_82 : decode cX7_lift 82 = .ok (.goto (-28), 3) := by decide +kernel
theorem dX7_lift_85 : decode cX7_lift 85 = .ok (.iload_n 2, 1) := by decide +kernel
theorem dX7_lift_86 : decode cX7_lift 86 = .ok (.ireturn, 1) := by decide +kernel
theorem dX7_isDecided_0 : decode cX7_isDecided 0 = .ok (.aload_n 0, 1) := by decide +kernel
theorem dX7_isDecided_1 : decode cX7_isDecided 1 = .ok (.getfield 81, 3) := by decide +kernel
theorem dX7_isDecided_4 : decode cX7_isDecided 4 = .ok (.aload_n 0, 1) := by decide +kernel
theorem dX7_isDecided_5 : decode cX7_isDecided 5 = .ok (.getfield 84, 3) := by decide +kernel
theorem dX7_isDecided_8 : decode cX7_isDecided 8 = .ok (.ior, 1) := by decide +kernel
theorem dX7_isDecided_9 : decode cX7_isDecided 9 = .ok (.iload_n 1, 1) := by decide +kernel
theorem dX7_isDecided_10 : decode cX7_isDecided 10 = .ok (.invokestatic 71, 3) := by decide +kernel
theorem dX7_isDecided_13 : decode cX7_isDecided 13 = .ok (.ireturn, 1) := by decide +kernel
theorem dX7_decides_0 : decode cX7_decides 0 = .ok (.aload_n 0, 1) := by decide +kernel
theorem dX7_decides_1 : decode cX7_decides 1 = .ok (.aload_n 0, 1) := by decide +kernel
theorem dX7_decides_2 : decode cX7_decides 2 = .ok (.iload_n 1, 1) := by decide +kernel
theorem dX7_decides_3 : decode cX7_decides 3 = .ok (.invokevirtual 94, 3) := by decide +kernel
theorem dX7_decides_6 : decode cX7_decides 6 = .ok (.iconst 1, 1) := by decide +kernel
theorem dX7_decides_7 : decode cX7_decides 7 = .ok (.invokevirtual 97, 3) := by decide +kernel
theorem dX7_decides_10 : decode cX7_decides 10 = .ok (.ifCond .ne 33, 3) := by decide +kernel
theorem dX7_decides_13 : decode cX7_decides 13 = .ok (.aload_n 0, 1) := by decide +kernel
theorem dX7_decides_14 : decode cX7_decides 14 = .ok (.iload_n 1, 1) := by decide +kernel
theorem dX7_decides_15 : decode cX7_decides 15 = .ok (.ifCond .ne 7, 3) := by decide +kernel
theorem dX7_decides_18 : decode cX7_decides 18 = .ok (.iconst 1, 1) := by decide +kernel
theorem dX7_decides_19 : decode cX7_decides 19 = .ok (.goto 4, 3) := by decide +kernel
theorem dX7_decides_22 : decode cX7_decides 22 = .ok (.iconst 0, 1) := by decide +kernel
theorem dX7_decides_23 : decode cX7_decides 23 = .ok (.iconst 2, 1) := by decide +kernel
theorem dX7_decides_24 : decode cX7_decides 24 = .ok (.invokevirtual 97, 3) := by decide +kernel
theorem dX7_decides_27 : decode cX7_decides 27 = .ok (.ifCond .ne 16, 3) := by decide +kernel
theorem dX7_decides_30 : decode cX7_decides 30 = .ok (.aload_n 0, 1) := by decide +kernel
theorem dX7_decides_31 : decode cX7_decides 31 = .ok (.aload_n 0, 1) := by decide +kernel
theorem dX7_decides_32 : decode cX7_decides 32 = .ok (.iload_n 1, 1) := by decide +kernel
theorem dX7_decides_33 : decode cX7_decides 33 = .ok (.invokevirtual 109, 3) := by decide +kernel
theorem dX7_decides_36 : decode cX7_decides 36 = .ok (.iconst 3, 1) := by decide +kernel
theorem dX7_decides_37 : decode cX7_decides 37 = .ok (.invokevirtual 97, 3) := by decide +kernel
theorem dX7_decides_40 : decode cX7_decides 40 = .ok (.ifCond .eq 5, 3) := by decide +kernel
theorem dX7_decides_43 : decode cX7_decides 43 = .ok (.iconst 0, 1) := by decide +kernel
theorem dX7_decides_44 : decode cX7_decides 44 = .ok (.ireturn, 1) := by decide +kernel
theorem dX7_decides_45 : decode cX7_decides 45 = .ok (.aload_n 0, 1) := by decide +kernel
theorem dX7_decides_46 : decode cX7_decides 46 = .ok (.dup, 1) := by decide +kernel
theorem dX7_decides_47 : decode cX7_decides 47 = .ok (.getfield 81, 3) := by decide +kernel
theorem dX7_decides_50 : decode cX7_decides 50 = .ok (.iload_n 2, 1) := by decide +kernel
theorem dX7_decides_51 : decode cX7_decides 51 = .ok (.ifCond .eq 9, 3) := by decide +kernel
theorem dX7_decides_54 : decode cX7_decides 54 = .ok (.iconst 1, 1) := by decide +kernel
theorem dX7_decides_55 : decode cX7_decides 55 = .ok (.iload_n 1, 1) := by decide +kernel
theorem dX7_decides_56 : decode cX7_decides 56 = .ok (.ishl, 1) := by decide +kernel
theorem dX7_decides_57 : decode cX7_decides 57 = .ok (.goto 4, 3) := by decide +kernel
theorem dX7_decides_60 : decode cX7_decides 60 = .ok (.iconst 0, 1) := by decide +kernel
theorem dX7_decides_61 : decode cX7_decides 61 = .ok (.ior, 1) := by decide +kernel
theorem dX7_decides_62 : decode cX7_decides 62 = .ok (.putfield 81, 3) := by decide +kernel
theorem dX7_decides_65 : decode cX7_decides 65 = .ok (.aload_n 0, 1) := by decide +kernel
theorem dX7_decides_66 : decode cX7_decides 66 = .ok (.dup, 1) := by decide +kernel
theorem dX7_decides_67 : decode cX7_decides 67 = .ok (.getfield 84, 3) := by decide +kernel
theorem dX7_decides_70 : decode cX7_decides 70 = .ok (.iload_n 2, 1) := by decide +kernel
theorem dX7_decides_71 : decode cX7_decides 71 = .ok (.ifCond .eq 7, 3) := by decide +kernel
theorem dX7_decides_74 : decode cX7_decides 74 = .ok (.iconst 0, 1) := by decide +kernel
theorem dX7_decides_75 : decode cX7_decides 75 = .ok (.goto 6, 3) := by decide +kernel
theorem dX7_decides_78 : decode cX7_decides 78 = .ok (.iconst 1, 1) := by decide +kernel
theorem dX7_decides_79 : decode cX7_decides 79 = .ok (.iload_n 1, 1) := by decide +kernel
theorem dX7_decides_80 : decode cX7_decides 80 = .ok (.ishl, 1) := by decide +kernel
theorem dX7_decides_81 : decode cX7_decides 81 = .ok (.ior, 1) := by decide +kernel
theorem dX7_decides_82 : decode cX7_decides 82 = .ok (.putfield 84, 3) := by decide +kernel
theorem dX7_decides_85 : decode cX7_decides 85 = .ok (.aload_n 0, 1) := by decide +kernel
theorem dX7_decides_86 : decode cX7_decides 86 = .ok (.aload_n 0, 1) := by decide +kernel
theorem dX7_decides_87 : decode cX7_decides 87 = .ok (.invokevirtual 101, 3) := by decide +kernel
theorem dX7_decides_90 : decode cX7_decides 90 = .ok (.iconst 4, 1) := by decide +kernel
theorem dX7_decides_91 : decode cX7_decides 91 = .ok (.invokevirtual 97, 3) := by decide +kernel
theorem dX7_decides_94 : decode cX7_decides 94 = .ok (.ifCond .eq 31, 3) := by decide +kernel
theorem dX7_decides_97 : decode cX7_decides 97 = .ok (.aload_n 0, 1) := by decide +kernel
theorem dX7_decides_98 : decode cX7_decides 98 = .ok (.dup, 1) := by decide +kernel
theorem dX7_decides_99 : decode cX7_decides 99 = .ok (.getfield 81, 3) := by decide +kernel
theorem dX7_decides_102 : decode cX7_decides 102 = .ok (.iconst 1, 1) := by decide +kernel
theorem dX7_decides_103 : decode cX7_decides 103 = .ok (.iload_n 1, 1) := by decide +kernel
theorem dX7_decides_104 : decode cX7_decides 104 = .ok (.ishl, 1) := by decide +kernel
theorem dX7_decides_105 : decode cX7_decides 105 = .ok (.iconst (-1), 1) := by decide +kernel
theorem dX7_decides_106 : decode cX7_decides 106 = .ok (.ixor, 1) := by decide +kernel
theorem dX7_decides_107 : decode cX7_decides 107 = .ok (.iand, 1) := by decide +kernel
theorem dX7_decides_108 : decode cX7_decides 108 = .ok (.putfield 81, 3) := by decide +kernel
theorem dX7_decides_111 : decode cX7_decides 111 = .ok (.aload_n 0, 1) := by decide +kernel
theorem dX7_decides_112 : decode cX7_decides 112 = .ok (.dup, 1) := by decide +kernel
theorem dX7_decides_113 : decode cX7_decides 113 = .ok (.getfield 84, 3) := by decide +kernel
theorem dX7_decides_116 : decode cX7_decides 116 = .ok (.iconst 1, 1) := by decide +kernel
theorem dX7_decides_117 : decode cX7_decides 117 = .ok (.iload_n 1, 1) := by decide +kernel
theorem dX7_decides_118 : decode cX7_decides 118 = .ok (.ishl, 1) := by decide +kernel
theorem dX7_decides_119 : decode cX7_decides 119 = .ok (.iconst (-1), 1) := by decide +kernel
theorem dX7_decides_120 : decode cX7_decides 120 = .ok (.ixor, 1) := by decide +kernel
theorem dX7_decides_121 : decode cX7_decides 121 = .ok (.iand, 1) := by decide +kernel
theorem dX7_decides_122 : decode cX7_decides 122 = .ok (.putfield 84, 3) := by decide +kernel
theorem dX7_decides_125 : decode cX7_decides 125 = .ok (.aload_n 0, 1) := by decide +kernel
theorem dX7_decides_126 : decode cX7_decides 126 = .ok (.invokevirtual 112, 3) := by decide +kernel
theorem dX7_decides_129 : decode cX7_decides 129 = .ok (.ireturn, 1) := by decide +kernel
theorem dX7_choose_0 : decode cX7_choose 0 = .ok (.aload_n 0, 1) := by decide +kernel
theorem dX7_choose_1 : decode cX7_choose 1 = .ok (.iload_n 1, 1) := by decide +kernel
theorem dX7_choose_2 : decode cX7_choose 2 = .ok (.iconst 1, 1) := by decide +kernel
theorem dX7_choose_3 : decode cX7_choose 3 = .ok (.invokevirtual 116, 3) := by decide +kernel
theorem dX7_choose_6 : decode cX7_choose 6 = .ok (.ireturn, 1) := by decide +kernel
theorem dX7_refuse_0 : decode cX7_refuse 0 = .ok (.aload_n 0, 1) := by decide +kernel
theorem dX7_refuse_1 : decode cX7_refuse 1 = .ok (.iload_n 1, 1) := by decide +kernel
theorem dX7_refuse_2 : decode cX7_refuse 2 = .ok (.iconst 0, 1) := by decide +kernel
theorem dX7_refuse_3 : decode cX7_refuse 3 = .ok (.invokevirtual 116, 3) := by decide +kernel
theorem dX7_refuse_6 : decode cX7_refuse 6 = .ok (.ireturn, 1) := by decide +kernel
theorem dX7_retract_0 : decode cX7_retract 0 = .ok (.aload_n 0, 1) := by decide +kernel
theorem dX7_retract_1 : decode cX7_retract 1 = .ok (.aload_n 0, 1) := by decide +kernel
theorem dX7_retract_2 : decode cX7_retract 2 = .ok (.iload_n 1, 1) := by decide +kernel
theorem dX7_retract_3 : decode cX7_retract 3 = .ok (.invokevirtual 94, 3) := by decide +kernel
theorem dX7_retract_6 : decode cX7_retract 6 = .ok (.iconst 1, 1) := by decide +kernel
theorem dX7_retract_7 : decode cX7_retract 7 = .ok (.invokevirtual 97, 3) := by decide +kernel
theorem dX7_retract_10 : decode cX7_retract 10 = .ok (.ifCond .ne 24, 3) := by decide +kernel
theorem dX7_retract_13 : decode cX7_retract 13 = .ok (.aload_n 0, 1) := by decide +kernel
theorem dX7_retract_14 : decode cX7_retract 14 = .ok (.aload_n 0, 1) := by decide +kernel
theorem dX7_retract_15 : decode cX7_retract 15 = .ok (.iload_n 1, 1) := by decide +kernel
theorem dX7_retract_16 : decode cX7_retract 16 = .ok (.invokevirtual 109, 3) := by decide +kernel
theorem dX7_retract_19 : decode cX7_retract 19 = .ok (.ifCond .ne 7, 3) := by decide +kernel
theorem dX7_retract_22 : decode cX7_retract 22 = .ok (.iconst 1, 1) := by decide +kernel
theorem dX7_retract_23 : decode cX7_retract 23 = .ok (.goto 4, 3) := by decide +kernel
theorem dX7_retract_26 : decode cX7_retract 26 = .ok (.iconst 0, 1) := by decide +kernel
theorem dX7_retract_27 : decode cX7_retract 27 = .ok (.iconst 2, 1) := by decide +kernel
theorem dX7_retract_28 : decode cX7_retract 28 = .ok (.invokevirtual 97, 3) := by decide +kernel
theorem dX7_retract_31 : decode cX7_retract 31 = .ok (.ifCond .eq 6, 3) := by decide +kernel
theorem dX7_retract_34 : decode cX7_retract 34 = .ok (.bipush 45, 2) := by decide +kernel
theorem dX7_retract_36 : decode cX7_retract 36 = .ok (.ireturn, 1) := by decide +kernel
theorem dX7_retract_37 : decode cX7_retract 37 = .ok (.aload_n 0, 1) := by decide +kernel
theorem dX7_retract_38 : decode cX7_retract 38 = .ok (.getfield 81, 3) := by decide +kernel
theorem dX7_retract_41 : decode cX7_retract 41 = .ok (.iload_n 1, 1) := by decide +kernel
theorem dX7_retract_42 : decode cX7_retract 42 = .ok (.invokestatic 71, 3) := by decide +kernel
theorem dX7_retract_45 : decode cX7_retract 45 = .ok (.ifCond .eq 8, 3) := by decide +kernel
theorem dX7_retract_48 : decode cX7_retract 48 = .ok (.bipush 99, 2) := by decide +kernel
theorem dX7_retract_50 : decode cX7_retract 50 = .ok (.goto 5, 3) := by decide +kernel
theorem dX7_retract_53 : decode cX7_retract 53 = .ok (.bipush 114, 2) := by decide +kernel
theorem dX7_retract_55 : decode cX7_retract 55 = .ok (.istore_n 2, 1) := by decide +kernel
theorem dX7_retract_56 : decode cX7_retract 56 = .ok (.aload_n 0, 1) := by decide +kernel
theorem dX7_retract_57 : decode cX7_retract 57 = .ok (.dup, 1) := by decide +kernel
theorem dX7_retract_58 : decode cX7_retract 58 = .ok (.getfield 81, 3) := by decide +kernel
theorem dX7_retract_61 : decode cX7_retract 61 = .ok (.iconst 1, 1) := by decide +kernel
theorem dX7_retract_62 : decode cX7_retract 62 = .ok (.iload_n 1, 1) := by decide +kernel
theorem dX7_retract_63 : decode cX7_retract 63 = .ok (.ishl, 1) := by decide +kernel
theorem dX7_retract_64 : decode cX7_retract 64 = .ok (.iconst (-1), 1) := by decide +kernel
theorem dX7_retract_65 : decode cX7_retract 65 = .ok (.ixor, 1) := by decide +kernel
theorem dX7_retract_66 : decode cX7_retract 66 = .ok (.iand, 1) := by decide +kernel
theorem dX7_retract_67 : decode cX7_retract 67 = .ok (.putfield 81, 3) := by decide +kernel
theorem dX7_retract_70 : decode cX7_retract 70 = .ok (.aload_n 0, 1) := by decide +kernel
theorem dX7_retract_71 : decode cX7_retract 71 = .ok (.dup, 1) := by decide +kernel
theorem dX7_retract_72 : decode cX7_retract 72 = .ok (.getfield 84, 3) := by decide +kernel
theorem dX7_retract_75 : decode cX7_retract 75 = .ok (.iconst 1, 1) := by decide +kernel
theorem dX7_retract_76 : decode cX7_retract 76 = .ok (.iload_n 1, 1) := by decide +kernel
theorem dX7_retract_77 : decode cX7_retract 77 = .ok (.ishl, 1) := by decide +kernel
theorem dX7_retract_78 : decode cX7_retract 78 = .ok (.iconst (-1), 1) := by decide +kernel
theorem dX7_retract_79 : decode cX7_retract 79 = .ok (.ixor, 1) := by decide +kernel
theorem dX7_retract_80 : decode cX7_retract 80 = .ok (.iand, 1) := by decide +kernel
theorem dX7_retract_81 : decode cX7_retract 81 = .ok (.putfield 84, 3) := by decide +kernel
theorem dX7_retract_84 : decode cX7_retract 84 = .ok (.iload_n 2, 1) := by decide +kernel
theorem dX7_retract_85 : decode cX7_retract 85 = .ok (.ireturn, 1) := by decide +kernel
theorem dX7_retractAll_0 : decode cX7_retractAll 0 = .ok (.aload_n 0, 1) := by decide +kernel
theorem dX7_retractAll_1 : decode cX7_retractAll 1 = .ok (.iconst 0, 1) := by decide +kernel
theorem dX7_retractAll_2 : decode cX7_retractAll 2 = .ok (.putfield 64, 3) := by decide +kernel
theorem dX7_retractAll_5 : decode cX7_retractAll 5 = .ok (.aload_n 0, 1) := by decide +kernel
theorem dX7_retractAll_6 : decode cX7_retractAll 6 = .ok (.getfield 81, 3) := by decide +kernel
theorem dX7_retractAll_9 : decode cX7_retractAll 9 = .ok (.aload_n 0, 1) := by decide +kernel
theorem dX7_retractAll_10 : decode cX7_retractAll 10 = .ok (.getfield 84, 3) := by decide +kernel
theorem dX7_retractAll_13 : decode cX7_retractAll 13 = .ok (.ior, 1) := by decide +kernel
theorem dX7_retractAll_14 : decode cX7_retractAll 14 = .ok (.invokestatic 120, 3) := by decide +kernel
theorem dX7_retractAll_17 : decode cX7_retractAll 17 = .ok (.istore_n 1, 1) := by decide +kernel
theorem dX7_retractAll_18 : decode cX7_retractAll 18 = .ok (.aload_n 0, 1) := by decide +kernel
theorem dX7_retractAll_19 : decode cX7_retractAll 19 = .ok (.iconst 0, 1) := by decide +kernel
theorem dX7_retractAll_20 : decode cX7_retractAll 20 = .ok (.putfield 81, 3) := by decide +kernel
theorem dX7_retractAll_23 : decode cX7_retractAll 23 = .ok (.aload_n 0, 1) := by decide +kernel
theorem dX7_retractAll_24 : decode cX7_retractAll 24 = .ok (.iconst 0, 1) := by decide +kernel
theorem dX7_retractAll_25 : decode cX7_retractAll 25 = .ok (.putfield 84, 3) := by decide +kernel
theorem dX7_retractAll_28 : decode cX7_retractAll 28 = .ok (.iload_n 1, 1) := by decide +kernel
theorem dX7_retractAll_29 : decode cX7_retractAll 29 = .ok (.ireturn, 1) := by decide +kernel
theorem dX7_stateOf_0 : decode cX7_stateOf 0 = .ok (.aload_n 0, 1) := by decide +kernel
theorem dX7_stateOf_1 : decode cX7_stateOf 1 = .ok (.aload_n 0, 1) := by decide +kernel
theorem dX7_stateOf_2 : decode cX7_stateOf 2 = .ok (.iload_n 1, 1) := by decide +kernel
theorem dX7_stateOf_3 : decode cX7_stateOf 3 = .ok (.invokevirtual 94, 3) := by decide +kernel
theorem dX7_stateOf_6 : decode cX7_stateOf 6 = .ok (.iconst 1, 1) := by decide +kernel
theorem dX7_stateOf_7 : decode cX7_stateOf 7 = .ok (.invokevirtual 97, 3) := by decide +kernel
theorem dX7_stateOf_10 : decode cX7_stateOf 10 = .ok (.ifCond .eq 6, 3) := by decide +kernel
theorem dX7_stateOf_13 : decode cX7_stateOf 13 = .ok (.bipush 45, 2) := by decide +kernel
theorem dX7_stateOf_15 : decode cX7_stateOf 15 = .ok (.ireturn, 1) := by decide +kernel
theorem dX7_stateOf_16 : decode cX7_stateOf 16 = .ok (.iconst 0, 1) := by decide +kernel
theorem dX7_stateOf_17 : decode cX7_stateOf 17 = .ok (.istore_n 2, 1) := by decide +kernel
theorem dX7_stateOf_18 : decode cX7_stateOf 18 = .ok (.iconst 0, 1) := by decide +kernel
theorem dX7_stateOf_19 : decode cX7_stateOf 19 = .ok (.istore_n 3, 1) := by decide +kernel
theorem dX7_stateOf_20 : decode cX7_stateOf 20 = .ok (.iconst 1, 1) := by decide +kernel
theorem dX7_stateOf_21 : decode cX7_stateOf 21 = .ok (.istore 4, 2) := by decide +kernel
theorem dX7_stateOf_23 : decode cX7_stateOf 23 = .ok (.iload 4, 2) := by decide +kernel
theorem dX7_stateOf_25 : decode cX7_stateOf 25 = .ok (.iconst 1, 1) := by decide +kernel
theorem dX7_stateOf_26 : decode cX7_stateOf 26 = .ok (.aload_n 0, 1) := by decide +kernel
theorem dX7_stateOf_27 : decode cX7_stateOf 27 = .ok (.getfield 60, 3) := by decide +kernel
theorem dX7_stateOf_30 : decode cX7_stateOf 30 = .ok (.ishl, 1) := by decide +kernel
theorem dX7_stateOf_31 : decode cX7_stateOf 31 = .ok (.if_icmp .ge 61, 3) := by decide +kernel
theorem dX7_stateOf_34 : decode cX7_stateOf 34 = .ok (.aload_n 0, 1) := by decide +kernel
theorem dX7_stateOf_35 : decode cX7_stateOf 35 = .ok (.iload 4, 2) := by decide +kernel
theorem dX7_stateOf_37 : decode cX7_stateOf 37 = .ok (.invokevirtual 91, 3) := by decide +kernel
theorem dX7_stateOf_40 : decode cX7_stateOf 40 = .ok (.istore 5, 2) := by decide +kernel
theorem dX7_stateOf_42 : decode cX7_stateOf 42 = .ok (.iload_n 2, 1) := by decide +kernel
theorem dX7_stateOf_43 : decode cX7_stateOf 43 = .ok (.iload 5, 2) := by decide +kernel
theorem dX7_stateOf_45 : decode cX7_stateOf 45 = .ok (.ifCond .eq 16, 3) := by decide +kernel
theorem dX7_stateOf_48 : decode cX7_stateOf 48 = .ok (.iload 4, 2) := by decide +kernel
theorem dX7_stateOf_50 : decode cX7_stateOf 50 = .ok (.iload_n 1, 1) := by decide +kernel
theorem dX7_stateOf_51 : decode cX7_stateOf 51 = .ok (.invokestatic 71, 3) := by decide +kernel
theorem dX7_stateOf_54 : decode cX7_stateOf 54 = .ok (.ifCond .eq 7, 3) := by decide +kernel
theorem dX7_stateOf_57 : decode cX7_stateOf 57 = .ok (.iconst 1, 1) := by decide +kernel
theorem dX7_stateOf_58 : decode cX7_stateOf 58 = .ok (.goto 4, 3) := by decide +kernel
theorem dX7_stateOf_61 : decode cX7_stateOf 61 = .ok (.iconst 0, 1) := by decide +kernel
theorem dX7_stateOf_62 : decode cX7_stateOf 62 = .ok (.iadd, 1) := by decide +kernel
theorem dX7_stateOf_63 : decode cX7_stateOf 63 = .ok (.istore_n 2, 1) := by decide +kernel
theorem dX7_stateOf_64 : decode cX7_stateOf 64 = .ok (.iload_n 3, 1) := by decide +kernel
theorem dX7_stateOf_65 : decode cX7_stateOf 65 = .ok (.iload 5, 2) := by decide +kernel
theorem dX7_stateOf_67 : decode cX7_stateOf 67 = .ok (.ifCond .eq 16, 3) := by decide +kernel
theorem dX7_stateOf_70 : decode cX7_stateOf 70 = .ok (.iload 4, 2) := by decide +kernel
theorem dX7_stateOf_72 : decode cX7_stateOf 72 = .ok (.iload_n 1, 1) := by decide +kernel
theorem dX7_stateOf_73 : decode cX7_stateOf 73 = .ok (.invokestatic 71, 3) := by decide +kernel
theorem dX7_stateOf_76 : decode cX7_stateOf 76 = .ok (.ifCond .ne 7, 3) := by decide +kernel
theorem dX7_stateOf_79 : decode cX7_stateOf 79 = .ok (.iconst 1, 1) := by decide +kernel
theorem dX7_stateOf_80 : decode cX7_stateOf 80 = .ok (.goto 4, 3) := by decide +kernel
theorem dX7_stateOf_83 : decode cX7_stateOf 83 = .ok (.iconst 0, 1) := by decide +kernel
theorem dX7_stateOf_84 : decode cX7_stateOf 84 = .ok (.iadd, 1) := by decide +kernel
theorem dX7_stateOf_85 : decode cX7_stateOf 85 = .ok (.istore_n 3, 1) := by decide +kernel
theorem dX7_stateOf_86 : decode cX7_stateOf 86 = .ok (.iinc 4 2, 3) := by decide +kernel
theorem dX7_stateOf_89 : decode cX7_stateOf 89 = .ok (.goto (-66), 3) := by decide +kernel
theorem dX7_stateOf_92 : decode cX7_stateOf 92 = .ok (.aload_n 0, 1) := by decide +kernel
theorem dX7_stateOf_93 : decode cX7_stateOf 93 = .ok (.getfield 81, 3) := by decide +kernel
theorem dX7_stateOf_96 : decode cX7_stateOf 96 = .ok (.iload_n 1, 1) := by decide +kernel
theorem dX7_stateOf_97 : decode cX7_stateOf 97 = .ok (.invokestatic 71, 3) := by decide +kernel
theorem dX7_stateOf_100 : decode cX7_stateOf 100 = .ok (.ifCond .eq 8, 3) := by decide +kernel
theorem dX7_stateOf_103 : decode cX7_stateOf 103 = .ok (.bipush 99, 2) := by decide +kernel
theorem dX7_stateOf_105 : decode cX7_stateOf 105 = .ok (.goto 39, 3) := by decide +kernel
theorem dX7_stateOf_108 : decode cX7_stateOf 108 = .ok (.aload_n 0, 1) := by decide +kernel
theorem dX7_stateOf_109 : decode cX7_stateOf 109 = .ok (.getfield 84, 3) := by decide +kernel
theorem dX7_stateOf_112 : decode cX7_stateOf 112 = .ok (.iload_n 1, 1) := by decide +kernel
theorem dX7_stateOf_113 : decode cX7_stateOf 113 = .ok (.invokestatic 71, 3) := by decide +kernel
theorem dX7_stateOf_116 : decode cX7_stateOf 116 = .ok (.ifCond .eq 8, 3) := by decide +kernel
theorem dX7_stateOf_119 : decode cX7_stateOf 119 = .ok (.bipush 114, 2) := by decide +kernel
theorem dX7_stateOf_121 : decode cX7_stateOf 121 = .ok (.goto 23, 3) := by decide +kernel
theorem dX7_stateOf_124 : decode cX7_stateOf 124 = .ok (.iload_n 3, 1) := by decide +kernel
theorem dX7_stateOf_125 : decode cX7_stateOf 125 = .ok (.ifCond .ne 8, 3) := by decide +kernel
theorem dX7_stateOf_128 : decode cX7_stateOf 128 = .ok (.bipush 97, 2) := by decide +kernel
theorem dX7_stateOf_130 : decode cX7_stateOf 130 = .ok (.goto 14, 3) := by decide +kernel
theorem dX7_stateOf_133 : decode cX7_stateOf 133 = .ok (.iload_n 2, 1) := by decide +kernel
theorem dX7_stateOf_134 : decode cX7_stateOf 134 = .ok (.ifCond .ne 8, 3) := by decide +kernel
theorem dX7_stateOf_137 : decode cX7_stateOf 137 = .ok (.bipush 120, 2) := by decide +kernel
theorem dX7_stateOf_139 : decode cX7_stateOf 139 = .ok (.goto 5, 3) := by decide +kernel
theorem dX7_stateOf_142 : decode cX7_stateOf 142 = .ok (.bipush 111, 2) := by decide +kernel
theorem dX7_stateOf_144 : decode cX7_stateOf 144 = .ok (.ireturn, 1) := by decide +kernel
theorem dX7_stateByAll_0 : decode cX7_stateByAll 0 = .ok (.aload_n 0, 1) := by decide +kernel
theorem dX7_stateByAll_1 : decode cX7_stateByAll 1 = .ok (.iload_n 1, 1) := by decide +kernel
theorem dX7_stateByAll_2 : decode cX7_stateByAll 2 = .ok (.invokevirtual 126, 3) := by decide +kernel
theorem dX7_stateByAll_5 : decode cX7_stateByAll 5 = .ok (.ireturn, 1) := by decide +kernel
theorem dX7_children_0 : decode cX7_children 0 = .ok (.iconst 0, 1) := by decide +kernel
theorem dX7_children_1 : decode cX7_children 1 = .ok (.istore_n 3, 1) := by decide +kernel
theorem dX7_children_2 : decode cX7_children 2 = .ok (.iconst 1, 1) := by decide +kernel
theorem dX7_children_3 : decode cX7_children 3 = .ok (.istore 4, 2) := by decide +kernel
theorem dX7_children_5 : decode cX7_children 5 = .ok (.iload 4, 2) := by decide +kernel
theorem dX7_children_7 : decode cX7_children 7 = .ok (.aload_n 0, 1) := by decide +kernel
theorem dX7_children_8 : decode cX7_children 8 = .ok (.getfield 60, 3) := by decide +kernel
theorem dX7_children_11 : decode cX7_children 11 = .ok (.if_icmp .ge 59, 3) := by decide +kernel
theorem dX7_children_14 : decode cX7_children 14 = .ok (.iload_n 3, 1) := by decide +kernel
theorem dX7_children_15 : decode cX7_children 15 = .ok (.aload_n 0, 1) := by decide +kernel
theorem dX7_children_16 : decode cX7_children 16 = .ok (.getfield 9, 3) := by decide +kernel
theorem dX7_children_19 : decode cX7_children 19 = .ok (.iload 4, 2) := by decide +kernel
theorem dX7_children_21 : decode cX7_children 21 = .ok (.iaload, 1) := by decide +kernel
theorem dX7_children_22 : decode cX7_children 22 = .ok (.iload_n 1, 1) := by decide +kernel
theorem dX7_children_23 : decode cX7_children 23 = .ok (.if_icmp .ne 38, 3) := by decide +kernel
theorem dX7_children_26 : decode cX7_children 26 = .ok (.iload_n 2, 1) := by decide +kernel
theorem dX7_children_27 : decode cX7_children 27 = .ok (.ifCond .eq 18, 3) := by decide +kernel
theorem dX7_children_30 : decode cX7_children 30 = .ok (.aload_n 0, 1) := by decide +kernel
theorem dX7_children_31 : decode cX7_children 31 = .ok (.getfield 130, 3) := by decide +kernel
theorem dX7_children_34 : decode cX7_children 34 = .ok (.iload 4, 2) := by decide +kernel
theorem dX7_children_36 : decode cX7_children 36 = .ok (.invokestatic 71, 3) := by decide +kernel
theorem dX7_children_39 : decode cX7_children 39 = .ok (.ifCond .eq 22, 3) := by decide +kernel
theorem dX7_children_42 : decode cX7_children 42 = .ok (.goto 15, 3) := by decide +kernel
theorem dX7_children_45 : decode cX7_children 45 = .ok (.aload_n 0, 1) := by decide +kernel
theorem dX7_children_46 : decode cX7_children 46 = .ok (.getfield 133, 3) := by decide +kernel
theorem dX7_children_49 : decode cX7_children 49 = .ok (.iload 4, 2) := by decide +kernel
theorem dX7_children_51 : decode cX7_children 51 = .ok (.invokestatic 71, 3) := by decide +kernel
theorem dX7_children_54 : decode cX7_children 54 = .ok (.ifCond .ne 7, 3) := by decide +kernel
theorem dX7_children_57 : decode cX7_children 57 = .ok (.iconst 1, 1) := by decide +kernel
theorem dX7_children_58 : decode cX7_children 58 = .ok (.goto 4, 3) := by decide +kernel
theorem dX7_children_61 : decode cX7_children 61 = .ok (.iconst 0, 1) := by decide +kernel
theorem dX7_children_62 : decode cX7_children 62 = .ok (.iadd, 1) := by decide +kernel
theorem dX7_children_63 : decode cX7_children 63 = .ok (.istore_n 3, 1) := by decide +kernel
theorem dX7_children_64 : decode cX7_children 64 = .ok (.iinc 4 1, 3) := by decide +kernel
theorem dX7_children_67 : decode cX7_children 67 = .ok (.goto (-62), 3) := by decide +kernel
theorem dX7_children_70 : decode cX7_children 70 = .ok (.iload_n 3, 1) := by decide +kernel
theorem dX7_children_71 : decode cX7_children 71 = .ok (.ireturn, 1) := by decide +kernel
theorem dX7_hasOffChild_0 : decode cX7_hasOffChild 0 = .ok (.iconst 0, 1) := by decide +kernel
theorem dX7_hasOffChild_1 : decode cX7_hasOffChild 1 = .ok (.istore_n 2, 1) := by decide +kernel
theorem dX7_hasOffChild_2 : decode cX7_hasOffChild 2 = .ok (.iconst 1, 1) := by decide +kernel
theorem dX7_hasOffChild_3 : decode cX7_hasOffChild 3 = .ok (.istore_n 3, 1) := by decide +kernel
theorem dX7_hasOffChild_4 : decode cX7_hasOffChild 4 = .ok (.iload_n 3, 1) := by decide +kernel
theorem dX7_hasOffChild_5 : decode cX7_hasOffChild 5 = .ok (.aload_n 0, 1) := by decide +kernel
theorem dX7_hasOffChild_6 : decode cX7_hasOffChild 6 = .ok (.getfield 60, 3) := by decide +kernel
theorem dX7_hasOffChild_9 : decode cX7_hasOffChild 9 = .ok (.if_icmp .ge 47, 3) := by decide +kernel
theorem dX7_hasOffChild_12 : decode cX7_hasOffChild 12 = .ok (.iload_n 2, 1) := by decide +kernel
theorem dX7_hasOffChild_13 : decode cX7_hasOffChild 13 = .ok (.aload_n 0, 1) := by decide +kernel
theorem dX7_hasOffChild_14 : decode cX7_hasOffChild 14 = .ok (.getfield 9, 3) := by decide +kernel
theorem dX7_hasOffChild_17 : decode cX7_hasOffChild 17 = .ok (.iload_n 3, 1) := by decide +kernel
theorem dX7_hasOffChild_18 : decode cX7_hasOffChild 18 = .ok (.iaload, 1) := by decide +kernel
theorem dX7_hasOffChild_19 : decode cX7_hasOffChild 19 = .ok (.iload_n 1, 1) := by decide +kernel
theorem dX7_hasOffChild_20 : decode cX7_hasOffChild 20 = .ok (.if_icmp .ne 27, 3) := by decide +kernel
theorem dX7_hasOffChild_23 : decode cX7_hasOffChild 23 = .ok (.aload_n 0, 1) := by decide +kernel
theorem dX7_hasOffChild_24 : decode cX7_hasOffChild 24 = .ok (.getfield 22, 3) := by decide +kernel
theorem dX7_hasOffChild_27 : decode cX7_hasOffChild 27 = .ok (.iload_n 3, 1) := by decide +kernel
theorem dX7_hasOffChild_28 : decode cX7_hasOffChild 28 = .ok (.baload, 1) := by decide +kernel
theorem dX7_hasOffChild_29 : decode cX7_hasOffChild 29 = .ok (.ifCond .eq 18, 3) := by decide +kernel
theorem dX7_hasOffChild_32 : decode cX7_hasOffChild 32 = .ok (.aload_n 0, 1) := by decide +kernel
theorem dX7_hasOffChild_33 : decode cX7_hasOffChild 33 = .ok (.getfield 133, 3) := by decide +kernel
theorem dX7_hasOffChild_36 : decode cX7_hasOffChild 36 = .ok (.iload_n 3, 1) := by decide +kernel
theorem dX7_hasOffChild_37 : decode cX7_hasOffChild 37 = .ok (.invokestatic 71, 3) := by decide +kernel
theorem dX7_hasOffChild_40 : decode cX7_hasOffChild 40 = .ok (.ifCond .eq 7, 3) := by decide +kernel
theorem dX7_hasOffChild_43 : decode cX7_hasOffChild 43 = .ok (.iconst 1, 1) := by decide +kernel
theorem dX7_hasOffChild_44 : decode cX7_hasOffChild 44 = .ok (.goto 4, 3) := by decide +kernel
theorem dX7_hasOffChild_47 : decode cX7_hasOffChild 47 = .ok (.iconst 0, 1) := by decide +kernel
theorem dX7_hasOffChild_48 : decode cX7_hasOffChild 48 = .ok (.ior, 1) := by decide +kernel
theorem dX7_hasOffChild_49 : decode cX7_hasOffChild 49 = .ok (.istore_n 2, 1) := by decide +kernel
theorem dX7_hasOffChild_50 : decode cX7_hasOffChild 50 = .ok (.iinc 3 1, 3) := by decide +kernel
theorem dX7_hasOffChild_53 : decode cX7_hasOffChild 53 = .ok (.goto (-49), 3) := by decide +kernel
theorem dX7_hasOffChild_56 : decode cX7_hasOffChild 56 = .ok (.iload_n 2, 1) := by decide +kernel
theorem dX7_hasOffChild_57 : decode cX7_hasOffChild 57 = .ok (.ireturn, 1) := by decide +kernel
theorem dX7_told_0 : decode cX7_told 0 = .ok (.aload_n 0, 1) := by decide +kernel
theorem dX7_told_1 : decode cX7_told 1 = .ok (.getfield 29, 3) := by decide +kernel
theorem dX7_told_4 : decode cX7_told 4 = .ok (.iload_n 1, 1) := by decide +kernel
theorem dX7_told_5 : decode cX7_told 5 = .ok (.caload, 1) := by decide +kernel
theorem dX7_told_6 : decode cX7_told 6 = .ok (.bipush 114, 2) := by decide +kernel
theorem dX7_told_8 : decode cX7_told 8 = .ok (.if_icmp .ne 65, 3) := by decide +kernel
theorem dX7_told_11 : decode cX7_told 11 = .ok (.iload_n 2, 1) := by decide +kernel
theorem dX7_told_12 : decode cX7_told 12 = .ok (.aload_n 0, 1) := by decide +kernel
theorem dX7_told_13 : decode cX7_told 13 = .ok (.getfield 42, 3) := by decide +kernel
theorem dX7_told_16 : decode cX7_told 16 = .ok (.iload_n 1, 1) := by decide +kernel
theorem dX7_told_17 : decode cX7_told 17 = .ok (.iaload, 1) := by decide +kernel
theorem dX7_told_18 : decode cX7_told 18 = .ok (.if_icmp .ne 23, 3) := by decide +kernel
theorem dX7_told_21 : decode cX7_told 21 = .ok (.aload_n 0, 1) := by decide +kernel
theorem dX7_told_22 : decode cX7_told 22 = .ok (.getfield 130, 3) := by decide +kernel
theorem dX7_told_25 : decode cX7_told 25 = .ok (.aload_n 0, 1) := by decide +kernel
theorem dX7_told_26 : decode cX7_told 26 = .ok (.getfield 39, 3) := by decide +kernel
theorem dX7_told_29 : decode cX7_told 29 = .ok (.iload_n 1, 1) := by decide +kernel
theorem dX7_told_30 : decode cX7_told 30 = .ok (.iaload, 1) := by decide +kernel
theorem dX7_told_31 : decode cX7_told 31 = .ok (.invokestatic 71, 3) := by decide +kernel
theorem dX7_told_34 : decode cX7_told 34 = .ok (.ifCond .eq 7, 3) := by decide +kernel
theorem dX7_told_37 : decode cX7_told 37 = .ok (.iconst 1, 1) := by decide +kernel
theorem dX7_told_38 : decode cX7_told 38 = .ok (.goto 34, 3) := by decide +kernel
theorem dX7_told_41 : decode cX7_told 41 = .ok (.iload_n 2, 1) := by decide +kernel
