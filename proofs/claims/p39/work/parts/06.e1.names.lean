theorem dL_isDecided_79 : decode cL_isDecided 79 = .ok (.iastore, 1) := by decide +kernel
theorem dL_isDecided_80 : decode cL_isDecided 80 = .ok (.aload_n 1, 1) := by decide +kernel
theorem dL_isDecided_81 : decode cL_isDecided 81 = .ok (.iconst 4, 1) := by decide +kernel
theorem dL_isDecided_82 : decode cL_isDecided 82 = .ok (.aload 4, 2) := by decide +kernel
theorem dL_isDecided_84 : decode cL_isDecided 84 = .ok (.iconst 4, 1) := by decide +kernel
theorem dL_isDecided_85 : decode cL_isDecided 85 = .ok (.iaload, 1) := by decide +kernel
theorem dL_isDecided_86 : decode cL_isDecided 86 = .ok (.iastore, 1) := by decide +kernel
theorem dL_isDecided_87 : decode cL_isDecided 87 = .ok (.iload_n 3, 1) := by decide +kernel
theorem dL_isDecided_88 : decode cL_isDecided 88 = .ok (.ifCond .eq 11, 3) := by decide +kernel
theorem dL_isDecided_91 : decode cL_isDecided 91 = .ok (.aload_n 0, 1) := by decide +kernel
theorem dL_isDecided_92 : decode cL_isDecided 92 = .ok (.iload_n 2, 1) := by decide +kernel
theorem dL_isDecided_93 : decode cL_isDecided 93 = .ok (.invokestatic 122, 3) := by decide +kernel
theorem dL_isDecided_96 : decode cL_isDecided 96 = .ok (.goto 8, 3) := by decide +kernel
theorem dL_isDecided_99 : decode cL_isDecided 99 = .ok (.aload_n 0, 1) := by decide +kernel
theorem dL_isDecided_100 : decode cL_isDecided 100 = .ok (.iload_n 2, 1) := by decide +kernel
theorem dL_isDecided_101 : decode cL_isDecided 101 = .ok (.invokestatic 124, 3) := by decide +kernel
theorem dL_isDecided_104 : decode cL_isDecided 104 = .ok (.istore 6, 2) := by decide +kernel
theorem dL_isDecided_106 : decode cL_isDecided 106 = .ok (.iload 5, 2) := by decide +kernel
theorem dL_isDecided_108 : decode cL_isDecided 108 = .ok (.ifCond .ge 18, 3) := by decide +kernel
theorem dL_isDecided_111 : decode cL_isDecided 111 = .ok (.iload 6, 2) := by decide +kernel
theorem dL_isDecided_113 : decode cL_isDecided 113 = .ok (.iload 5, 2) := by decide +kernel
theorem dL_isDecided_115 : decode cL_isDecided 115 = .ok (.if_icmp .ne 7, 3) := by decide +kernel
theorem dL_isDecided_118 : decode cL_isDecided 118 = .ok (.iconst 1, 1) := by decide +kernel
theorem dL_isDecided_119 : decode cL_isDecided 119 = .ok (.goto 21, 3) := by decide +kernel
theorem dL_isDecided_122 : decode cL_isDecided 122 = .ok (.iconst 0, 1) := by decide +kernel
theorem dL_isDecided_123 : decode cL_isDecided 123 = .ok (.goto 17, 3) := by decide +kernel
theorem dL_isDecided_126 : decode cL_isDecided 126 = .ok (.iload 6, 2) := by decide +kernel
theorem dL_isDecided_128 : decode cL_isDecided 128 = .ok (.aload_n 0, 1) := by decide +kernel
theorem dL_isDecided_129 : decode cL_isDecided 129 = .ok (.invokevirtual 126, 3) := by decide +kernel
theorem dL_isDecided_132 : decode cL_isDecided 132 = .ok (.if_icmp .ne 7, 3) := by decide +kernel
theorem dL_isDecided_135 : decode cL_isDecided 135 = .ok (.iconst 1, 1) := by decide +kernel
theorem dL_isDecided_136 : decode cL_isDecided 136 = .ok (.goto 4, 3) := by decide +kernel
theorem dL_isDecided_139 : decode cL_isDecided 139 = .ok (.iconst 0, 1) := by decide +kernel
theorem dL_isDecided_140 : decode cL_isDecided 140 = .ok (.ireturn, 1) := by decide +kernel
theorem dL_isRetracted_0 : decode cL_isRetracted 0 = .ok (.aload_n 1, 1) := by decide +kernel
theorem dL_isRetracted_1 : decode cL_isRetracted 1 = .ok (.iconst 3, 1) := by decide +kernel
theorem dL_isRetracted_2 : decode cL_isRetracted 2 = .ok (.iaload, 1) := by decide +kernel
theorem dL_isRetracted_3 : decode cL_isRetracted 3 = .ok (.iload_n 2, 1) := by decide +kernel
theorem dL_isRetracted_4 : decode cL_isRetracted 4 = .ok (.invokestatic 77, 3) := by decide +kernel
theorem dL_isRetracted_7 : decode cL_isRetracted 7 = .ok (.istore_n 3, 1) := by decide +kernel
theorem dL_isRetracted_8 : decode cL_isRetracted 8 = .ok (.iload_n 3, 1) := by decide +kernel
theorem dL_isRetracted_9 : decode cL_isRetracted 9 = .ok (.ifCond .ne 29, 3) := by decide +kernel
theorem dL_isRetracted_12 : decode cL_isRetracted 12 = .ok (.aload_n 1, 1) := by decide +kernel
theorem dL_isRetracted_13 : decode cL_isRetracted 13 = .ok (.iconst 4, 1) := by decide +kernel
theorem dL_isRetracted_14 : decode cL_isRetracted 14 = .ok (.iaload, 1) := by decide +kernel
theorem dL_isRetracted_15 : decode cL_isRetracted 15 = .ok (.iload_n 2, 1) := by decide +kernel
theorem dL_isRetracted_16 : decode cL_isRetracted 16 = .ok (.invokestatic 77, 3) := by decide +kernel
theorem dL_isRetracted_19 : decode cL_isRetracted 19 = .ok (.ifCond .ne 19, 3) := by decide +kernel
theorem dL_isRetracted_22 : decode cL_isRetracted 22 = .ok (.aload_n 0, 1) := by decide +kernel
theorem dL_isRetracted_23 : decode cL_isRetracted 23 = .ok (.iload_n 2, 1) := by decide +kernel
theorem dL_isRetracted_24 : decode cL_isRetracted 24 = .ok (.invokestatic 130, 3) := by decide +kernel
theorem dL_isRetracted_27 : decode cL_isRetracted 27 = .ok (.ldc 20, 2) := by decide +kernel
theorem dL_isRetracted_29 : decode cL_isRetracted 29 = .ok (.if_icmp .ne 7, 3) := by decide +kernel
theorem dL_isRetracted_32 : decode cL_isRetracted 32 = .ok (.iconst 1, 1) := by decide +kernel
theorem dL_isRetracted_33 : decode cL_isRetracted 33 = .ok (.goto 4, 3) := by decide +kernel
theorem dL_isRetracted_36 : decode cL_isRetracted 36 = .ok (.iconst 0, 1) := by decide +kernel
theorem dL_isRetracted_37 : decode cL_isRetracted 37 = .ok (.ireturn, 1) := by decide +kernel
theorem dL_isRetracted_38 : decode cL_isRetracted 38 = .ok (.aload_n 1, 1) := by decide +kernel
theorem dL_isRetracted_39 : decode cL_isRetracted 39 = .ok (.iconst 3, 1) := by decide +kernel
theorem dL_isRetracted_40 : decode cL_isRetracted 40 = .ok (.dup2, 1) := by decide +kernel
theorem dL_isRetracted_41 : decode cL_isRetracted 41 = .ok (.iaload, 1) := by decide +kernel
theorem dL_isRetracted_42 : decode cL_isRetracted 42 = .ok (.iconst 1, 1) := by decide +kernel
theorem dL_isRetracted_43 : decode cL_isRetracted 43 = .ok (.iload_n 2, 1) := by decide +kernel
theorem dL_isRetracted_44 : decode cL_isRetracted 44 = .ok (.ishl, 1) := by decide +kernel
theorem dL_isRetracted_45 : decode cL_isRetracted 45 = .ok (.iconst (-1), 1) := by decide +kernel
theorem dL_isRetracted_46 : decode cL_isRetracted 46 = .ok (.ixor, 1) := by decide +kernel
theorem dL_isRetracted_47 : decode cL_isRetracted 47 = .ok (.iand, 1) := by decide +kernel
theorem dL_isRetracted_48 : decode cL_isRetracted 48 = .ok (.iastore, 1) := by decide +kernel
theorem dL_isRetracted_49 : decode cL_isRetracted 49 = .ok (.aload_n 1, 1) := by decide +kernel
theorem dL_isRetracted_50 : decode cL_isRetracted 50 = .ok (.iconst 4, 1) := by decide +kernel
theorem dL_isRetracted_51 : decode cL_isRetracted 51 = .ok (.dup2, 1) := by decide +kernel
theorem dL_isRetracted_52 : decode cL_isRetracted 52 = .ok (.iaload, 1) := by decide +kernel
theorem dL_isRetracted_53 : decode cL_isRetracted 53 = .ok (.iconst 1, 1) := by decide +kernel
theorem dL_isRetracted_54 : decode cL_isRetracted 54 = .ok (.iload_n 2, 1) := by decide +kernel
theorem dL_isRetracted_55 : decode cL_isRetracted 55 = .ok (.ishl, 1) := by decide +kernel
theorem dL_isRetracted_56 : decode cL_isRetracted 56 = .ok (.iconst (-1), 1) := by decide +kernel
theorem dL_isRetracted_57 : decode cL_isRetracted 57 = .ok (.ixor, 1) := by decide +kernel
theorem dL_isRetracted_58 : decode cL_isRetracted 58 = .ok (.iand, 1) := by decide +kernel
theorem dL_isRetracted_59 : decode cL_isRetracted 59 = .ok (.iastore, 1) := by decide +kernel
theorem dL_isRetracted_60 : decode cL_isRetracted 60 = .ok (.aload_n 0, 1) := by decide +kernel
theorem dL_isRetracted_61 : decode cL_isRetracted 61 = .ok (.iload_n 2, 1) := by decide +kernel
theorem dL_isRetracted_62 : decode cL_isRetracted 62 = .ok (.invokestatic 130, 3) := by decide +kernel
theorem dL_isRetracted_65 : decode cL_isRetracted 65 = .ok (.iload_n 3, 1) := by decide +kernel
theorem dL_isRetracted_66 : decode cL_isRetracted 66 = .ok (.ifCond .eq 8, 3) := by decide +kernel
theorem dL_isRetracted_69 : decode cL_isRetracted 69 = .ok (.bipush 99, 2) := by decide +kernel
theorem dL_isRetracted_71 : decode cL_isRetracted 71 = .ok (.goto 5, 3) := by decide +kernel
theorem dL_isRetracted_74 : decode cL_isRetracted 74 = .ok (.bipush 114, 2) := by decide +kernel
theorem dL_isRetracted_76 : decode cL_isRetracted 76 = .ok (.if_icmp .ne 7, 3) := by decide +kernel
theorem dL_isRetracted_79 : decode cL_isRetracted 79 = .ok (.iconst 1, 1) := by decide +kernel
theorem dL_isRetracted_80 : decode cL_isRetracted 80 = .ok (.goto 4, 3) := by decide +kernel
theorem dL_isRetracted_83 : decode cL_isRetracted 83 = .ok (.iconst 0, 1) := by decide +kernel
theorem dL_isRetracted_84 : decode cL_isRetracted 84 = .ok (.ireturn, 1) := by decide +kernel
theorem dL_isDone_0 : decode cL_isDone 0 = .ok (.aload_n 2, 1) := by decide +kernel
theorem dL_isDone_1 : decode cL_isDone 1 = .ok (.iload_n 3, 1) := by decide +kernel
theorem dL_isDone_2 : decode cL_isDone 2 = .ok (.iconst 1, 1) := by decide +kernel
theorem dL_isDone_3 : decode cL_isDone 3 = .ok (.iadd, 1) := by decide +kernel
theorem dL_isDone_4 : decode cL_isDone 4 = .ok (.aload_n 1, 1) := by decide +kernel
theorem dL_isDone_5 : decode cL_isDone 5 = .ok (.iconst 0, 1) := by decide +kernel
theorem dL_isDone_6 : decode cL_isDone 6 = .ok (.iaload, 1) := by decide +kernel
theorem dL_isDone_7 : decode cL_isDone 7 = .ok (.invokestatic 92, 3) := by decide +kernel
theorem dL_isDone_10 : decode cL_isDone 10 = .ok (.istore 4, 2) := by decide +kernel
theorem dL_isDone_12 : decode cL_isDone 12 = .ok (.aload_n 2, 1) := by decide +kernel
theorem dL_isDone_13 : decode cL_isDone 13 = .ok (.iload_n 3, 1) := by decide +kernel
theorem dL_isDone_14 : decode cL_isDone 14 = .ok (.iconst 2, 1) := by decide +kernel
theorem dL_isDone_15 : decode cL_isDone 15 = .ok (.iadd, 1) := by decide +kernel
theorem dL_isDone_16 : decode cL_isDone 16 = .ok (.aload_n 1, 1) := by decide +kernel
theorem dL_isDone_17 : decode cL_isDone 17 = .ok (.iconst 0, 1) := by decide +kernel
theorem dL_isDone_18 : decode cL_isDone 18 = .ok (.iaload, 1) := by decide +kernel
theorem dL_isDone_19 : decode cL_isDone 19 = .ok (.invokestatic 92, 3) := by decide +kernel
theorem dL_isDone_22 : decode cL_isDone 22 = .ok (.istore 5, 2) := by decide +kernel
theorem dL_isDone_24 : decode cL_isDone 24 = .ok (.aload_n 2, 1) := by decide +kernel
theorem dL_isDone_25 : decode cL_isDone 25 = .ok (.iload_n 3, 1) := by decide +kernel
theorem dL_isDone_26 : decode cL_isDone 26 = .ok (.bipush 16, 2) := by decide +kernel
theorem dL_isDone_28 : decode cL_isDone 28 = .ok (.invokestatic 92, 3) := by decide +kernel
theorem dL_isDone_31 : decode cL_isDone 31 = .ok (.tableswitch 209 0 14 #[73, 73, 73, 83, 107, 131, 131, 131, 159, 177, 177, 177, 177, 201, 201], 73) := by decide +kernel
theorem dL_isDone_104 : decode cL_isDone 104 = .ok (.aload_n 0, 1) := by decide +kernel
theorem dL_isDone_105 : decode cL_isDone 105 = .ok (.aload_n 1, 1) := by decide +kernel
theorem dL_isDone_106 : decode cL_isDone 106 = .ok (.aload_n 2, 1) := by decide +kernel
theorem dL_isDone_107 : decode cL_isDone 107 = .ok (.iload_n 3, 1) := by decide +kernel
theorem dL_isDone_108 : decode cL_isDone 108 = .ok (.iconst 1, 1) := by decide +kernel
theorem dL_isDone_109 : decode cL_isDone 109 = .ok (.iadd, 1) := by decide +kernel
theorem dL_isDone_110 : decode cL_isDone 110 = .ok (.invokestatic 132, 3) := by decide +kernel
theorem dL_isDone_113 : decode cL_isDone 113 = .ok (.ireturn, 1) := by decide +kernel
theorem dL_isDone_114 : decode cL_isDone 114 = .ok (.aload_n 0, 1) := by decide +kernel
theorem dL_isDone_115 : decode cL_isDone 115 = .ok (.aload_n 1, 1) := by decide +kernel
theorem dL_isDone_116 : decode cL_isDone 116 = .ok (.iload 4, 2) := by decide +kernel
theorem dL_isDone_118 : decode cL_isDone 118 = .ok (.aload_n 2, 1) := by decide +kernel
theorem dL_isDone_119 : decode cL_isDone 119 = .ok (.iload_n 3, 1) := by decide +kernel
theorem dL_isDone_120 : decode cL_isDone 120 = .ok (.iconst 2, 1) := by decide +kernel
theorem dL_isDone_121 : decode cL_isDone 121 = .ok (.iadd, 1) := by decide +kernel
theorem dL_isDone_122 : decode cL_isDone 122 = .ok (.iconst 3, 1) := by decide +kernel
theorem dL_isDone_123 : decode cL_isDone 123 = .ok (.invokestatic 92, 3) := by decide +kernel
theorem dL_isDone_126 : decode cL_isDone 126 = .ok (.aload_n 2, 1) := by decide +kernel
theorem dL_isDone_127 : decode cL_isDone 127 = .ok (.iload_n 3, 1) := by decide +kernel
theorem dL_isDone_128 : decode cL_isDone 128 = .ok (.iconst 3, 1) := by decide +kernel
theorem dL_isDone_129 : decode cL_isDone 129 = .ok (.iadd, 1) := by decide +kernel
theorem dL_isDone_130 : decode cL_isDone 130 = .ok (.iconst 4, 1) := by decide +kernel
theorem dL_isDone_131 : decode cL_isDone 131 = .ok (.invokestatic 92, 3) := by decide +kernel
theorem dL_isDone_134 : decode cL_isDone 134 = .ok (.invokestatic 136, 3) := by decide +kernel
theorem dL_isDone_137 : decode cL_isDone 137 = .ok (.ireturn, 1) := by decide +kernel
theorem dL_isDone_138 : decode cL_isDone 138 = .ok (.aload_n 0, 1) := by decide +kernel
theorem dL_isDone_139 : decode cL_isDone 139 = .ok (.aload_n 1, 1) := by decide +kernel
theorem dL_isDone_140 : decode cL_isDone 140 = .ok (.iload 4, 2) := by decide +kernel
theorem dL_isDone_142 : decode cL_isDone 142 = .ok (.aload_n 2, 1) := by decide +kernel
theorem dL_isDone_143 : decode cL_isDone 143 = .ok (.iload_n 3, 1) := by decide +kernel
theorem dL_isDone_144 : decode cL_isDone 144 = .ok (.iconst 2, 1) := by decide +kernel
theorem dL_isDone_145 : decode cL_isDone 145 = .ok (.iadd, 1) := by decide +kernel
theorem dL_isDone_146 : decode cL_isDone 146 = .ok (.iconst 3, 1) := by decide +kernel
theorem dL_isDone_147 : decode cL_isDone 147 = .ok (.invokestatic 92, 3) := by decide +kernel
theorem dL_isDone_150 : decode cL_isDone 150 = .ok (.ifCond .le 7, 3) := by decide +kernel
theorem dL_isDone_153 : decode cL_isDone 153 = .ok (.iconst 1, 1) := by decide +kernel
theorem dL_isDone_154 : decode cL_isDone 154 = .ok (.goto 4, 3) := by decide +kernel
theorem dL_isDone_157 : decode cL_isDone 157 = .ok (.iconst 0, 1) := by decide +kernel
theorem dL_isDone_158 : decode cL_isDone 158 = .ok (.invokestatic 140, 3) := by decide +kernel
theorem dL_isDone_161 : decode cL_isDone 161 = .ok (.ireturn, 1) := by decide +kernel
theorem dL_isDone_162 : decode cL_isDone 162 = .ok (.aload_n 0, 1) := by decide +kernel
theorem dL_isDone_163 : decode cL_isDone 163 = .ok (.aload_n 1, 1) := by decide +kernel
theorem dL_isDone_164 : decode cL_isDone 164 = .ok (.aload_n 2, 1) := by decide +kernel
theorem dL_isDone_165 : decode cL_isDone 165 = .ok (.iload_n 3, 1) := by decide +kernel
theorem dL_isDone_166 : decode cL_isDone 166 = .ok (.iconst 4, 1) := by decide +kernel
theorem dL_isDone_167 : decode cL_isDone 167 = .ok (.iadd, 1) := by decide +kernel
theorem dL_isDone_168 : decode cL_isDone 168 = .ok (.iconst 3, 1) := by decide +kernel
theorem dL_isDone_169 : decode cL_isDone 169 = .ok (.invokestatic 92, 3) := by decide +kernel
theorem dL_isDone_172 : decode cL_isDone 172 = .ok (.iload 4, 2) := by decide +kernel
theorem dL_isDone_174 : decode cL_isDone 174 = .ok (.iload 5, 2) := by decide +kernel
theorem dL_isDone_176 : decode cL_isDone 176 = .ok (.aload_n 2, 1) := by decide +kernel
theorem dL_isDone_177 : decode cL_isDone 177 = .ok (.iload_n 3, 1) := by decide +kernel
theorem dL_isDone_178 : decode cL_isDone 178 = .ok (.iconst 3, 1) := by decide +kernel
theorem dL_isDone_179 : decode cL_isDone 179 = .ok (.iadd, 1) := by decide +kernel
theorem dL_isDone_180 : decode cL_isDone 180 = .ok (.aload_n 1, 1) := by decide +kernel
theorem dL_isDone_181 : decode cL_isDone 181 = .ok (.iconst 0, 1) := by decide +kernel
theorem dL_isDone_182 : decode cL_isDone 182 = .ok (.iaload, 1) := by decide +kernel
theorem dL_isDone_183 : decode cL_isDone 183 = .ok (.invokestatic 92, 3) := by decide +kernel
theorem dL_isDone_186 : decode cL_isDone 186 = .ok (.invokestatic 144, 3) := by decide +kernel
theorem dL_isDone_189 : decode cL_isDone 189 = .ok (.ireturn, 1) := by decide +kernel
theorem dL_isDone_190 : decode cL_isDone 190 = .ok (.aload_n 0, 1) := by decide +kernel
theorem dL_isDone_191 : decode cL_isDone 191 = .ok (.aload_n 1, 1) := by decide +kernel
theorem dL_isDone_192 : decode cL_isDone 192 = .ok (.aload_n 2, 1) := by decide +kernel
theorem dL_isDone_193 : decode cL_isDone 193 = .ok (.iload_n 3, 1) := by decide +kernel
theorem dL_isDone_194 : decode cL_isDone 194 = .ok (.iconst 1, 1) := by decide +kernel
theorem dL_isDone_195 : decode cL_isDone 195 = .ok (.iadd, 1) := by decide +kernel
theorem dL_isDone_196 : decode cL_isDone 196 = .ok (.aload_n 1, 1) := by decide +kernel
theorem dL_isDone_197 : decode cL_isDone 197 = .ok (.iconst 1, 1) := by decide +kernel
theorem dL_isDone_198 : decode cL_isDone 198 = .ok (.iaload, 1) := by decide +kernel
theorem dL_isDone_199 : decode cL_isDone 199 = .ok (.iconst 1, 1) := by decide +kernel
theorem dL_isDone_200 : decode cL_isDone 200 = .ok (.iadd, 1) := by decide +kernel
theorem dL_isDone_201 : decode cL_isDone 201 = .ok (.invokestatic 92, 3) := by decide +kernel
theorem dL_isDone_204 : decode cL_isDone 204 = .ok (.invokestatic 148, 3) := by decide +kernel
theorem dL_isDone_207 : decode cL_isDone 207 = .ok (.ireturn, 1) := by decide +kernel
theorem dL_isDone_208 : decode cL_isDone 208 = .ok (.aload_n 0, 1) := by decide +kernel
theorem dL_isDone_209 : decode cL_isDone 209 = .ok (.aload_n 1, 1) := by decide +kernel
theorem dL_isDone_210 : decode cL_isDone 210 = .ok (.iload 4, 2) := by decide +kernel
theorem dL_isDone_212 : decode cL_isDone 212 = .ok (.aload_n 2, 1) := by decide +kernel
theorem dL_isDone_213 : decode cL_isDone 213 = .ok (.iload_n 3, 1) := by decide +kernel
theorem dL_isDone_214 : decode cL_isDone 214 = .ok (.iconst 3, 1) := by decide +kernel
theorem dL_isDone_215 : decode cL_isDone 215 = .ok (.iadd, 1) := by decide +kernel
theorem dL_isDone_216 : decode cL_isDone 216 = .ok (.iconst 2, 1) := by decide +kernel
theorem dL_isDone_217 : decode cL_isDone 217 = .ok (.invokestatic 92, 3) := by decide +kernel
theorem dL_isDone_220 : decode cL_isDone 220 = .ok (.ifCond .ne 7, 3) := by decide +kernel
theorem dL_isDone_223 : decode cL_isDone 223 = .ok (.iconst 1, 1) := by decide +kernel
theorem dL_isDone_224 : decode cL_isDone 224 = .ok (.goto 4, 3) := by decide +kernel
theorem dL_isDone_227 : decode cL_isDone 227 = .ok (.iconst 0, 1) := by decide +kernel
theorem dL_isDone_228 : decode cL_isDone 228 = .ok (.invokestatic 152, 3) := by decide +kernel
theorem dL_isDone_231 : decode cL_isDone 231 = .ok (.ireturn, 1) := by decide +kernel
theorem dL_isDone_232 : decode cL_isDone 232 = .ok (.aload_n 0, 1) := by decide +kernel
theorem dL_isDone_233 : decode cL_isDone 233 = .ok (.aload_n 1, 1) := by decide +kernel
theorem dL_isDone_234 : decode cL_isDone 234 = .ok (.iload 4, 2) := by decide +kernel
theorem dL_isDone_236 : decode cL_isDone 236 = .ok (.invokestatic 155, 3) := by decide +kernel
theorem dL_isDone_239 : decode cL_isDone 239 = .ok (.ireturn, 1) := by decide +kernel
theorem dL_isDone_240 : decode cL_isDone 240 = .ok (.aload_n 1, 1) := by decide +kernel
theorem dL_isDone_241 : decode cL_isDone 241 = .ok (.iconst 3, 1) := by decide +kernel
theorem dL_isDone_242 : decode cL_isDone 242 = .ok (.iaload, 1) := by decide +kernel
theorem dL_isDone_243 : decode cL_isDone 243 = .ok (.aload_n 1, 1) := by decide +kernel
theorem dL_isDone_244 : decode cL_isDone 244 = .ok (.iconst 4, 1) := by decide +kernel
theorem dL_isDone_245 : decode cL_isDone 245 = .ok (.iaload, 1) := by decide +kernel
theorem dL_isDone_246 : decode cL_isDone 246 = .ok (.ior, 1) := by decide +kernel
theorem dL_isDone_247 : decode cL_isDone 247 = .ok (.invokestatic 158, 3) := by decide +kernel
theorem dL_isDone_250 : decode cL_isDone 250 = .ok (.istore 6, 2) := by decide +kernel
theorem dL_isDone_252 : decode cL_isDone 252 = .ok (.aload_n 1, 1) := by decide +kernel
theorem dL_isDone_253 : decode cL_isDone 253 = .ok (.iconst 3, 1) := by decide +kernel
theorem dL_isDone_254 : decode cL_isDone 254 = .ok (.iconst 0, 1) := by decide +kernel
theorem dL_isDone_255 : decode cL_isDone 255 = .ok (.iastore, 1) := by decide +kernel
theorem dL_isDone_256 : decode cL_isDone 256 = .ok (.aload_n 1, 1) := by decide +kernel
theorem dL_isDone_257 : decode cL_isDone 257 = .ok (.iconst 4, 1) := by decide +kernel
theorem dL_isDone_258 : decode cL_isDone 258 = .ok (.iconst 0, 1) := by decide +kernel
theorem dL_isDone_259 : decode cL_isDone 259 = .ok (.iastore, 1) := by decide +kernel
theorem dL_isDone_260 : decode cL_isDone 260 = .ok (.aload_n 0, 1) := by decide +kernel
theorem dL_isDone_261 : decode cL_isDone 261 = .ok (.invokevirtual 161, 3) := by decide +kernel
theorem dL_isDone_264 : decode cL_isDone 264 = .ok (.iload 6, 2) := by decide +kernel
theorem dL_isDone_266 : decode cL_isDone 266 = .ok (.if_icmp .ne 7, 3) := by decide +kernel
theorem dL_isDone_269 : decode cL_isDone 269 = .ok (.iconst 1, 1) := by decide +kernel
theorem dL_isDone_270 : decode cL_isDone 270 = .ok (.goto 4, 3) := by decide +kernel
theorem dL_isDone_273 : decode cL_isDone 273 = .ok (.iconst 0, 1) := by decide +kernel
theorem dL_isDone_274 : decode cL_isDone 274 = .ok (.ireturn, 1) := by decide +kernel
theorem dL_begun_0 : decode cL_begun 0 = .ok (.new 10, 3) := by decide +kernel
theorem dL_begun_3 : decode cL_begun 3 = .ok (.dup, 1) := by decide +kernel
theorem dL_begun_4 : decode cL_begun 4 = .ok (.invokespecial 164, 3) := by decide +kernel
theorem dL_begun_7 : decode cL_begun 7 = .ok (.astore_n 2, 1) := by decide +kernel
theorem dL_begun_8 : decode cL_begun 8 = .ok (.aload_n 1, 1) := by decide +kernel
theorem dL_begun_9 : decode cL_begun 9 = .ok (.iconst 0, 1) := by decide +kernel
theorem dL_begun_10 : decode cL_begun 10 = .ok (.iconst 1, 1) := by decide +kernel
theorem dL_begun_11 : decode cL_begun 11 = .ok (.iastore, 1) := by decide +kernel
theorem dL_begun_12 : decode cL_begun 12 = .ok (.aload_n 1, 1) := by decide +kernel
theorem dL_begun_13 : decode cL_begun 13 = .ok (.bipush 70, 2) := by decide +kernel
theorem dL_begun_15 : decode cL_begun 15 = .ok (.bipush 12, 2) := by decide +kernel
theorem dL_begun_17 : decode cL_begun 17 = .ok (.iastore, 1) := by decide +kernel
theorem dL_begun_18 : decode cL_begun 18 = .ok (.iconst 1, 1) := by decide +kernel
theorem dL_begun_19 : decode cL_begun 19 = .ok (.istore_n 3, 1) := by decide +kernel
theorem dL_begun_20 : decode cL_begun 20 = .ok (.iconst 2, 1) := by decide +kernel
theorem dL_begun_21 : decode cL_begun 21 = .ok (.aload_n 0, 1) := by decide +kernel
theorem dL_begun_22 : decode cL_begun 22 = .ok (.iconst 0, 1) := by decide +kernel
theorem dL_begun_23 : decode cL_begun 23 = .ok (.bipush 6, 2) := by decide +kernel
theorem dL_begun_25 : decode cL_begun 25 = .ok (.invokestatic 92, 3) := by decide +kernel
theorem dL_begun_28 : decode cL_begun 28 = .ok (.iadd, 1) := by decide +kernel
theorem dL_begun_29 : decode cL_begun 29 = .ok (.istore 4, 2) := by decide +kernel
theorem dL_begun_31 : decode cL_begun 31 = .ok (.iload 4, 2) := by decide +kernel
theorem dL_begun_33 : decode cL_begun 33 = .ok (.ifCond .le 24, 3) := by decide +kernel
theorem dL_begun_36 : decode cL_begun 36 = .ok (.iload_n 3, 1) := by decide +kernel
theorem dL_begun_37 : decode cL_begun 37 = .ok (.aload_n 2, 1) := by decide +kernel
theorem dL_begun_38 : decode cL_begun 38 = .ok (.aload_n 1, 1) := by decide +kernel
theorem dL_begun_39 : decode cL_begun 39 = .ok (.aload_n 0, 1) := by decide +kernel
theorem dL_begun_40 : decode cL_begun 40 = .ok (.iconst 1, 1) := by decide +kernel
theorem dL_begun_41 : decode cL_begun 41 = .ok (.iconst 3, 1) := by decide +kernel
theorem dL_begun_42 : decode cL_begun 42 = .ok (.iload 4, 2) := by decide +kernel
theorem dL_begun_44 : decode cL_begun 44 = .ok (.imul, 1) := by decide +kernel
theorem dL_begun_45 : decode cL_begun 45 = .ok (.iadd, 1) := by decide +kernel
theorem dL_begun_46 : decode cL_begun 46 = .ok (.invokestatic 132, 3) := by decide +kernel
theorem dL_begun_49 : decode cL_begun 49 = .ok (.iand, 1) := by decide +kernel
theorem dL_begun_50 : decode cL_begun 50 = .ok (.istore_n 3, 1) := by decide +kernel
theorem dL_begun_51 : decode cL_begun 51 = .ok (.iinc 4 (-1), 3) := by decide +kernel
theorem dL_begun_54 : decode cL_begun 54 = .ok (.goto (-23), 3) := by decide +kernel
theorem dL_begun_57 : decode cL_begun 57 = .ok (.iload_n 3, 1) := by decide +kernel
theorem dL_begun_58 : decode cL_begun 58 = .ok (.ifCond .eq 7, 3) := by decide +kernel
theorem dL_begun_61 : decode cL_begun 61 = .ok (.aload_n 2, 1) := by decide +kernel
theorem dL_begun_62 : decode cL_begun 62 = .ok (.goto 4, 3) := by decide +kernel
theorem dL_begun_65 : decode cL_begun 65 = .ok (.aconst_null, 1) := by decide +kernel
theorem dL_begun_66 : decode cL_begun 66 = .ok (.areturn, 1) := by decide +kernel
theorem dL_areStates_0 : decode cL_areStates 0 = .ok (.iconst 0, 1) := by decide +kernel
theorem dL_areStates_1 : decode cL_areStates 1 = .ok (.istore_n 2, 1) := by decide +kernel
theorem dL_areStates_2 : decode cL_areStates 2 = .ok (.lconst 0, 1) := by decide +kernel
theorem dL_areStates_3 : decode cL_areStates 3 = .ok (.lstore_n 3, 1) := by decide +kernel
theorem dL_areStates_4 : decode cL_areStates 4 = .ok (.iconst 0, 1) := by decide +kernel
theorem dL_areStates_5 : decode cL_areStates 5 = .ok (.istore 5, 2) := by decide +kernel
theorem dL_areStates_7 : decode cL_areStates 7 = .ok (.iconst 0, 1) := by decide +kernel
theorem dL_areStates_8 : decode cL_areStates 8 = .ok (.istore 6, 2) := by decide +kernel
theorem dL_areStates_10 : decode cL_areStates 10 = .ok (.iload 6, 2) := by decide +kernel
theorem dL_areStates_12 : decode cL_areStates 12 = .ok (.iconst 1, 1) := by decide +kernel
theorem dL_areStates_13 : decode cL_areStates 13 = .ok (.aload_n 1, 1) := by decide +kernel
theorem dL_areStates_14 : decode cL_areStates 14 = .ok (.iconst 0, 1) := by decide +kernel
theorem dL_areStates_15 : decode cL_areStates 15 = .ok (.iaload, 1) := by decide +kernel
theorem dL_areStates_16 : decode cL_areStates 16 = .ok (.ishl, 1) := by decide +kernel
theorem dL_areStates_17 : decode cL_areStates 17 = .ok (.if_icmp .ge 45, 3) := by decide +kernel
theorem dL_areStates_20 : decode cL_areStates 20 = .ok (.aload_n 1, 1) := by decide +kernel
theorem dL_areStates_21 : decode cL_areStates 21 = .ok (.iload 6, 2) := by decide +kernel
theorem dL_areStates_23 : decode cL_areStates 23 = .ok (.invokestatic 89, 3) := by decide +kernel
theorem dL_areStates_26 : decode cL_areStates 26 = .ok (.ifCond .eq 30, 3) := by decide +kernel
theorem dL_areStates_29 : decode cL_areStates 29 = .ok (.lload_n 3, 1) := by decide +kernel
theorem dL_areStates_30 : decode cL_areStates 30 = .ok (.lconst 1, 1) := by decide +kernel
theorem dL_areStates_31 : decode cL_areStates 31 = .ok (.ladd, 1) := by decide +kernel
theorem dL_areStates_32 : decode cL_areStates 32 = .ok (.lstore_n 3, 1) := by decide +kernel
theorem dL_areStates_33 : decode cL_areStates 33 = .ok (.lload_n 3, 1) := by decide +kernel
theorem dL_areStates_34 : decode cL_areStates 34 = .ok (.lconst 1, 1) := by decide +kernel
theorem dL_areStates_35 : decode cL_areStates 35 = .ok (.lcmp, 1) := by decide +kernel
theorem dL_areStates_36 : decode cL_areStates 36 = .ok (.ifCond .ne 8, 3) := by decide +kernel
theorem dL_areStates_39 : decode cL_areStates 39 = .ok (.iload 6, 2) := by decide +kernel
theorem dL_areStates_41 : decode cL_areStates 41 = .ok (.goto 7, 3) := by decide +kernel
theorem dL_areStates_44 : decode cL_areStates 44 = .ok (.iload_n 2, 1) := by decide +kernel
theorem dL_areStates_45 : decode cL_areStates 45 = .ok (.iload 6, 2) := by decide +kernel
theorem dL_areStates_47 : decode cL_areStates 47 = .ok (.iand, 1) := by decide +kernel
theorem dL_areStates_48 : decode cL_areStates 48 = .ok (.istore_n 2, 1) := by decide +kernel
theorem dL_areStates_49 : decode cL_areStates 49 = .ok (.iload 5, 2) := by decide +kernel
theorem dL_areStates_51 : decode cL_areStates 51 = .ok (.iload 6, 2) := by decide +kernel
theorem dL_areStates_53 : decode cL_areStates 53 = .ok (.ior, 1) := by decide +kernel
theorem dL_areStates_54 : decode cL_areStates 54 = .ok (.istore 5, 2) := by decide +kernel
theorem dL_areStates_56 : decode cL_areStates 56 = .ok (.iinc 6 1, 3) := by decide +kernel
theorem dL_areStates_59 : decode cL_areStates 59 = .ok (.goto (-49), 3) := by decide +kernel
theorem dL_areStates_62 : decode cL_areStates 62 = .ok (.iconst 0, 1) := by decide +kernel
theorem dL_areStates_63 : decode cL_areStates 63 = .ok (.istore 6, 2) := by decide +kernel
theorem dL_areStates_65 : decode cL_areStates 65 = .ok (.iload 6, 2) := by decide +kernel
theorem dL_areStates_67 : decode cL_areStates 67 = .ok (.aload_n 1, 1) := by decide +kernel
theorem dL_areStates_68 : decode cL_areStates 68 = .ok (.iconst 0, 1) := by decide +kernel
theorem dL_areStates_69 : decode cL_areStates 69 = .ok (.iaload, 1) := by decide +kernel
theorem dL_areStates_70 : decode cL_areStates 70 = .ok (.if_icmp .ge 98, 3) := by decide +kernel
theorem dL_areStates_73 : decode cL_areStates 73 = .ok (.aload_n 1, 1) := by decide +kernel
theorem dL_areStates_74 : decode cL_areStates 74 = .ok (.iconst 3, 1) := by decide +kernel
theorem dL_areStates_75 : decode cL_areStates 75 = .ok (.iaload, 1) := by decide +kernel
theorem dL_areStates_76 : decode cL_areStates 76 = .ok (.iload 6, 2) := by decide +kernel
theorem dL_areStates_78 : decode cL_areStates 78 = .ok (.invokestatic 77, 3) := by decide +kernel
theorem dL_areStates_81 : decode cL_areStates 81 = .ok (.ifCond .eq 8, 3) := by decide +kernel
theorem dL_areStates_84 : decode cL_areStates 84 = .ok (.bipush 99, 2) := by decide +kernel
theorem dL_areStates_86 : decode cL_areStates 86 = .ok (.goto 50, 3) := by decide +kernel
theorem dL_areStates_89 : decode cL_areStates 89 = .ok (.aload_n 1, 1) := by decide +kernel
theorem dL_areStates_90 : decode cL_areStates 90 = .ok (.iconst 4, 1) := by decide +kernel
theorem dL_areStates_91 : decode cL_areStates 91 = .ok (.iaload, 1) := by decide +kernel
theorem dL_areStates_92 : decode cL_areStates 92 = .ok (.iload 6, 2) := by decide +kernel
theorem dL_areStates_94 : decode cL_areStates 94 = .ok (.invokestatic 77, 3) := by decide +kernel
theorem dL_areStates_97 : decode cL_areStates 97 = .ok (.ifCond .eq 8, 3) := by decide +kernel
theorem dL_areStates_100 : decode cL_areStates 100 = .ok (.bipush 114, 2) := by decide +kernel
theorem dL_areStates_102 : decode cL_areStates 102 = .ok (.goto 34, 3) := by decide +kernel
theorem dL_areStates_105 : decode cL_areStates 105 = .ok (.iload_n 2, 1) := by decide +kernel
theorem dL_areStates_106 : decode cL_areStates 106 = .ok (.iload 6, 2) := by decide +kernel
theorem dL_areStates_108 : decode cL_areStates 108 = .ok (.invokestatic 77, 3) := by decide +kernel
theorem dL_areStates_111 : decode cL_areStates 111 = .ok (.ifCond .eq 8, 3) := by decide +kernel
theorem dL_areStates_114 : decode cL_areStates 114 = .ok (.bipush 97, 2) := by decide +kernel
theorem dL_areStates_116 : decode cL_areStates 116 = .ok (.goto 20, 3) := by decide +kernel
theorem dL_areStates_119 : decode cL_areStates 119 = .ok (.iload 5, 2) := by decide +kernel
theorem dL_areStates_121 : decode cL_areStates 121 = .ok (.iload 6, 2) := by decide +kernel
theorem dL_areStates_123 : decode cL_areStates 123 = .ok (.invokestatic 77, 3) := by decide +kernel
theorem dL_areStates_126 : decode cL_areStates 126 = .ok (.ifCond .eq 8, 3) := by decide +kernel
theorem dL_areStates_129 : decode cL_areStates 129 = .ok (.bipush 111, 2) := by decide +kernel
theorem dL_areStates_131 : decode cL_areStates 131 = .ok (.goto 5, 3) := by decide +kernel
theorem dL_areStates_134 : decode cL_areStates 134 = .ok (.bipush 120, 2) := by decide +kernel
theorem dL_areStates_136 : decode cL_areStates 136 = .ok (.istore 7, 2) := by decide +kernel
theorem dL_areStates_138 : decode cL_areStates 138 = .ok (.aload_n 0, 1) := by decide +kernel
theorem dL_areStates_139 : decode cL_areStates 139 = .ok (.iload 6, 2) := by decide +kernel
theorem dL_areStates_141 : decode cL_areStates 141 = .ok (.invokestatic 165, 3) := by decide +kernel
theorem dL_areStates_144 : decode cL_areStates 144 = .ok (.iload 7, 2) := by decide +kernel
theorem dL_areStates_146 : decode cL_areStates 146 = .ok (.if_icmp .ne 14, 3) := by decide +kernel
theorem dL_areStates_149 : decode cL_areStates 149 = .ok (.aload_n 0, 1) := by decide +kernel
theorem dL_areStates_150 : decode cL_areStates 150 = .ok (.iload 6, 2) := by decide +kernel
theorem dL_areStates_152 : decode cL_areStates 152 = .ok (.invokestatic 167, 3) := by decide +kernel
theorem dL_areStates_155 : decode cL_areStates 155 = .ok (.iload 7, 2) := by decide +kernel
theorem dL_areStates_157 : decode cL_areStates 157 = .ok (.if_icmp .eq 5, 3) := by decide +kernel
theorem dL_areStates_160 : decode cL_areStates 160 = .ok (.iconst 0, 1) := by decide +kernel
theorem dL_areStates_161 : decode cL_areStates 161 = .ok (.ireturn, 1) := by decide +kernel
theorem dL_areStates_162 : decode cL_areStates 162 = .ok (.iinc 6 1, 3) := by decide +kernel
theorem dL_areStates_165 : decode cL_areStates 165 = .ok (.goto (-100), 3) := by decide +kernel
theorem dL_areStates_168 : decode cL_areStates 168 = .ok (.lload_n 3, 1) := by decide +kernel
theorem dL_areStates_169 : decode cL_areStates 169 = .ok (.lconst 0, 1) := by decide +kernel
theorem dL_areStates_170 : decode cL_areStates 170 = .ok (.lcmp, 1) := by decide +kernel
theorem dL_areStates_171 : decode cL_areStates 171 = .ok (.ifCond .le 25, 3) := by decide +kernel
theorem dL_areStates_174 : decode cL_areStates 174 = .ok (.aload_n 0, 1) := by decide +kernel
theorem dL_areStates_175 : decode cL_areStates 175 = .ok (.invokevirtual 169, 3) := by decide +kernel
theorem dL_areStates_178 : decode cL_areStates 178 = .ok (.lload_n 3, 1) := by decide +kernel
theorem dL_areStates_179 : decode cL_areStates 179 = .ok (.lcmp, 1) := by decide +kernel
theorem dL_areStates_180 : decode cL_areStates 180 = .ok (.ifCond .ne 16, 3) := by decide +kernel
theorem dL_areStates_183 : decode cL_areStates 183 = .ok (.aload_n 0, 1) := by decide +kernel
theorem dL_areStates_184 : decode cL_areStates 184 = .ok (.invokevirtual 173, 3) := by decide +kernel
theorem dL_areStates_187 : decode cL_areStates 187 = .ok (.lload_n 3, 1) := by decide +kernel
theorem dL_areStates_188 : decode cL_areStates 188 = .ok (.lcmp, 1) := by decide +kernel
theorem dL_areStates_189 : decode cL_areStates 189 = .ok (.ifCond .ne 7, 3) := by decide +kernel
theorem dL_areStates_192 : decode cL_areStates 192 = .ok (.iconst 1, 1) := by decide +kernel
theorem dL_areStates_193 : decode cL_areStates 193 = .ok (.goto 4, 3) := by decide +kernel
theorem dL_areStates_196 : decode cL_areStates 196 = .ok (.iconst 0, 1) := by decide +kernel
theorem dL_areStates_197 : decode cL_areStates 197 = .ok (.ireturn, 1) := by decide +kernel
theorem dL_law_0 : decode cL_law 0 = .ok (.sipush 250, 3) := by decide +kernel
theorem dL_law_3 : decode cL_law 3 = .ok (.newarray .int, 2) := by decide +kernel
theorem dL_law_5 : decode cL_law 5 = .ok (.astore_n 1, 1) := by decide +kernel
theorem dL_law_6 : decode cL_law 6 = .ok (.aload_n 0, 1) := by decide +kernel
theorem dL_law_7 : decode cL_law 7 = .ok (.aload_n 1, 1) := by decide +kernel
theorem dL_law_8 : decode cL_law 8 = .ok (.invokestatic 176, 3) := by decide +kernel
theorem dL_law_11 : decode cL_law 11 = .ok (.astore_n 2, 1) := by decide +kernel
theorem dL_law_12 : decode cL_law 12 = .ok (.aload_n 2, 1) := by decide +kernel
theorem dL_law_13 : decode cL_law 13 = .ok (.ifnonnull 5, 3) := by decide +kernel
theorem dL_law_16 : decode cL_law 16 = .ok (.iconst 0, 1) := by decide +kernel
theorem dL_law_17 : decode cL_law 17 = .ok (.ireturn, 1) := by decide +kernel
theorem dL_law_18 : decode cL_law 18 = .ok (.iconst 0, 1) := by decide +kernel
theorem dL_law_19 : decode cL_law 19 = .ok (.istore_n 3, 1) := by decide +kernel
theorem dL_law_20 : decode cL_law 20 = .ok (.iload_n 3, 1) := by decide +kernel
theorem dL_law_21 : decode cL_law 21 = .ok (.bipush 24, 2) := by decide +kernel
theorem dL_law_23 : decode cL_law 23 = .ok (.if_icmp .ge 89, 3) := by decide +kernel
theorem dL_law_26 : decode cL_law 26 = .ok (.bipush 30, 2) := by decide +kernel
theorem dL_law_28 : decode cL_law 28 = .ok (.bipush 6, 2) := by decide +kernel
theorem dL_law_30 : decode cL_law 30 = .ok (.iload_n 3, 1) := by decide +kernel
theorem dL_law_31 : decode cL_law 31 = .ok (.imul, 1) := by decide +kernel
theorem dL_law_32 : decode cL_law 32 = .ok (.iadd, 1) := by decide +kernel
theorem dL_law_33 : decode cL_law 33 = .ok (.istore 4, 2) := by decide +kernel
theorem dL_law_35 : decode cL_law 35 = .ok (.aload_n 0, 1) := by decide +kernel
theorem dL_law_36 : decode cL_law 36 = .ok (.iload 4, 2) := by decide +kernel
theorem dL_law_38 : decode cL_law 38 = .ok (.iconst 5, 1) := by decide +kernel
theorem dL_law_39 : decode cL_law 39 = .ok (.iadd, 1) := by decide +kernel
theorem dL_law_40 : decode cL_law 40 = .ok (.iconst 1, 1) := by decide +kernel
theorem dL_law_41 : decode cL_law 41 = .ok (.aload_n 1, 1) := by decide +kernel
theorem dL_law_42 : decode cL_law 42 = .ok (.iconst 0, 1) := by decide +kernel
theorem dL_law_43 : decode cL_law 43 = .ok (.iaload, 1) := by decide +kernel
theorem dL_law_44 : decode cL_law 44 = .ok (.ishl, 1) := by decide +kernel
theorem dL_law_45 : decode cL_law 45 = .ok (.invokestatic 92, 3) := by decide +kernel
theorem dL_law_48 : decode cL_law 48 = .ok (.iload_n 3, 1) := by decide +kernel
theorem dL_law_49 : decode cL_law 49 = .ok (.iconst 2, 1) := by decide +kernel
theorem dL_law_50 : decode cL_law 50 = .ok (.irem, 1) := by decide +kernel
theorem dL_law_51 : decode cL_law 51 = .ok (.ifCond .ne 7, 3) := by decide +kernel
theorem dL_law_54 : decode cL_law 54 = .ok (.iconst 1, 1) := by decide +kernel
theorem dL_law_55 : decode cL_law 55 = .ok (.goto 4, 3) := by decide +kernel
theorem dL_law_58 : decode cL_law 58 = .ok (.iconst 0, 1) := by decide +kernel
theorem dL_law_59 : decode cL_law 59 = .ok (.ior, 1) := by decide +kernel
theorem dL_law_60 : decode cL_law 60 = .ok (.istore 5, 2) := by decide +kernel
theorem dL_law_62 : decode cL_law 62 = .ok (.aload_n 2, 1) := by decide +kernel
theorem dL_law_63 : decode cL_law 63 = .ok (.aload_n 1, 1) := by decide +kernel
theorem dL_law_64 : decode cL_law 64 = .ok (.aload_n 0, 1) := by decide +kernel
theorem dL_law_65 : decode cL_law 65 = .ok (.iload 4, 2) := by decide +kernel
theorem dL_law_67 : decode cL_law 67 = .ok (.invokestatic 180, 3) := by decide +kernel
theorem dL_law_70 : decode cL_law 70 = .ok (.ifCond .eq 34, 3) := by decide +kernel
theorem dL_law_73 : decode cL_law 73 = .ok (.aload_n 2, 1) := by decide +kernel
theorem dL_law_74 : decode cL_law 74 = .ok (.aload_n 1, 1) := by decide +kernel
theorem dL_law_75 : decode cL_law 75 = .ok (.invokestatic 183, 3) := by decide +kernel
theorem dL_law_78 : decode cL_law 78 = .ok (.ifCond .eq 26, 3) := by decide +kernel
theorem dL_law_81 : decode cL_law 81 = .ok (.aload_n 2, 1) := by decide +kernel
theorem dL_law_82 : decode cL_law 82 = .ok (.iload 5, 2) := by decide +kernel
theorem dL_law_84 : decode cL_law 84 = .ok (.invokestatic 187, 3) := by decide +kernel
theorem dL_law_87 : decode cL_law 87 = .ok (.aload_n 1, 1) := by decide +kernel
theorem dL_law_88 : decode cL_law 88 = .ok (.iload 5, 2) := by decide +kernel
theorem dL_law_90 : decode cL_law 90 = .ok (.invokestatic 85, 3) := by decide +kernel
theorem dL_law_93 : decode cL_law 93 = .ok (.ifCond .eq 7, 3) := by decide +kernel
theorem dL_law_96 : decode cL_law 96 = .ok (.iconst 1, 1) := by decide +kernel
theorem dL_law_97 : decode cL_law 97 = .ok (.goto 4, 3) := by decide +kernel
theorem dL_law_100 : decode cL_law 100 = .ok (.iconst 0, 1) := by decide +kernel
theorem dL_law_101 : decode cL_law 101 = .ok (.if_icmp .eq 5, 3) := by decide +kernel
theorem dL_law_104 : decode cL_law 104 = .ok (.iconst 0, 1) := by decide +kernel
theorem dL_law_105 : decode cL_law 105 = .ok (.ireturn, 1) := by decide +kernel
theorem dL_law_106 : decode cL_law 106 = .ok (.iinc 3 1, 3) := by decide +kernel
theorem dL_law_109 : decode cL_law 109 = .ok (.goto (-89), 3) := by decide +kernel
theorem dL_law_112 : decode cL_law 112 = .ok (.aload_n 2, 1) := by decide +kernel
theorem dL_law_113 : decode cL_law 113 = .ok (.aload_n 1, 1) := by decide +kernel
theorem dL_law_114 : decode cL_law 114 = .ok (.iconst 0, 1) := by decide +kernel
theorem dL_law_115 : decode cL_law 115 = .ok (.iaload, 1) := by decide +kernel
theorem dL_law_116 : decode cL_law 116 = .ok (.iconst 0, 1) := by decide +kernel
theorem dL_law_117 : decode cL_law 117 = .ok (.invokestatic 96, 3) := by decide +kernel
theorem dL_law_120 : decode cL_law 120 = .ok (.ldc 17, 2) := by decide +kernel
theorem dL_law_122 : decode cL_law 122 = .ok (.if_icmp .ne 172, 3) := by decide +kernel
theorem dL_law_125 : decode cL_law 125 = .ok (.aload_n 2, 1) := by decide +kernel
theorem dL_law_126 : decode cL_law 126 = .ok (.iconst 0, 1) := by decide +kernel
theorem dL_law_127 : decode cL_law 127 = .ok (.iconst (-1), 1) := by decide +kernel
theorem dL_law_128 : decode cL_law 128 = .ok (.invokestatic 96, 3) := by decide +kernel
theorem dL_law_131 : decode cL_law 131 = .ok (.ldc 20, 2) := by decide +kernel
theorem dL_law_133 : decode cL_law 133 = .ok (.if_icmp .ne 161, 3) := by decide +kernel
theorem dL_law_136 : decode cL_law 136 = .ok (.aload_n 2, 1) := by decide +kernel
theorem dL_law_137 : decode cL_law 137 = .ok (.aload_n 1, 1) := by decide +kernel
theorem dL_law_138 : decode cL_law 138 = .ok (.iconst 0, 1) := by decide +kernel
theorem dL_law_139 : decode cL_law 139 = .ok (.iaload, 1) := by decide +kernel
theorem dL_law_140 : decode cL_law 140 = .ok (.iconst 1, 1) := by decide +kernel
theorem dL_law_141 : decode cL_law 141 = .ok (.invokestatic 110, 3) := by decide +kernel
theorem dL_law_144 : decode cL_law 144 = .ok (.ldc 17, 2) := by decide +kernel
theorem dL_law_146 : decode cL_law 146 = .ok (.if_icmp .ne 148, 3) := by decide +kernel
theorem dL_law_149 : decode cL_law 149 = .ok (.aload_n 2, 1) := by decide +kernel
theorem dL_law_150 : decode cL_law 150 = .ok (.iconst (-1), 1) := by decide +kernel
theorem dL_law_151 : decode cL_law 151 = .ok (.iconst 0, 1) := by decide +kernel
theorem dL_law_152 : decode cL_law 152 = .ok (.iconst 0, 1) := by decide +kernel
theorem dL_law_153 : decode cL_law 153 = .ok (.invokestatic 103, 3) := by decide +kernel
theorem dL_law_156 : decode cL_law 156 = .ok (.ldc 17, 2) := by decide +kernel
theorem dL_law_158 : decode cL_law 158 = .ok (.if_icmp .ne 136, 3) := by decide +kernel
theorem dL_law_161 : decode cL_law 161 = .ok (.aload_n 2, 1) := by decide +kernel
theorem dL_law_162 : decode cL_law 162 = .ok (.iconst 0, 1) := by decide +kernel
theorem dL_law_163 : decode cL_law 163 = .ok (.iconst (-1), 1) := by decide +kernel
theorem dL_law_164 : decode cL_law 164 = .ok (.iconst 0, 1) := by decide +kernel
theorem dL_law_165 : decode cL_law 165 = .ok (.invokestatic 103, 3) := by decide +kernel
theorem dL_law_168 : decode cL_law 168 = .ok (.ldc 20, 2) := by decide +kernel
theorem dL_law_170 : decode cL_law 170 = .ok (.if_icmp .ne 124, 3) := by decide +kernel
theorem dL_law_173 : decode cL_law 173 = .ok (.aload_n 2, 1) := by decide +kernel
theorem dL_law_174 : decode cL_law 174 = .ok (.iconst 0, 1) := by decide +kernel
theorem dL_law_175 : decode cL_law 175 = .ok (.iconst 0, 1) := by decide +kernel
theorem dL_law_176 : decode cL_law 176 = .ok (.bipush 13, 2) := by decide +kernel
theorem dL_law_178 : decode cL_law 178 = .ok (.invokestatic 103, 3) := by decide +kernel
theorem dL_law_181 : decode cL_law 181 = .ok (.ldc 20, 2) := by decide +kernel
theorem dL_law_183 : decode cL_law 183 = .ok (.if_icmp .ne 111, 3) := by decide +kernel
theorem dL_law_186 : decode cL_law 186 = .ok (.aload_n 2, 1) := by decide +kernel
theorem dL_law_187 : decode cL_law 187 = .ok (.iconst 0, 1) := by decide +kernel
theorem dL_law_188 : decode cL_law 188 = .ok (.aload_n 1, 1) := by decide +kernel
theorem dL_law_189 : decode cL_law 189 = .ok (.iconst 0, 1) := by decide +kernel
theorem dL_law_190 : decode cL_law 190 = .ok (.iaload, 1) := by decide +kernel
theorem dL_law_191 : decode cL_law 191 = .ok (.invokestatic 113, 3) := by decide +kernel
theorem dL_law_194 : decode cL_law 194 = .ok (.ldc 17, 2) := by decide +kernel
theorem dL_law_196 : decode cL_law 196 = .ok (.if_icmp .ne 98, 3) := by decide +kernel
theorem dL_law_199 : decode cL_law 199 = .ok (.aload_n 2, 1) := by decide +kernel
theorem dL_law_200 : decode cL_law 200 = .ok (.iconst (-1), 1) := by decide +kernel
theorem dL_law_201 : decode cL_law 201 = .ok (.iconst 0, 1) := by decide +kernel
theorem dL_law_202 : decode cL_law 202 = .ok (.invokestatic 115, 3) := by decide +kernel
theorem dL_law_205 : decode cL_law 205 = .ok (.ldc 17, 2) := by decide +kernel
theorem dL_law_207 : decode cL_law 207 = .ok (.if_icmp .ne 87, 3) := by decide +kernel
theorem dL_law_210 : decode cL_law 210 = .ok (.aload_n 2, 1) := by decide +kernel
theorem dL_law_211 : decode cL_law 211 = .ok (.iconst 0, 1) := by decide +kernel
theorem dL_law_212 : decode cL_law 212 = .ok (.iconst 0, 1) := by decide +kernel
theorem dL_law_213 : decode cL_law 213 = .ok (.aload_n 1, 1) := by decide +kernel
theorem dL_law_214 : decode cL_law 214 = .ok (.iconst 0, 1) := by decide +kernel
theorem dL_law_215 : decode cL_law 215 = .ok (.iaload, 1) := by decide +kernel
theorem dL_law_216 : decode cL_law 216 = .ok (.invokestatic 117, 3) := by decide +kernel
theorem dL_law_219 : decode cL_law 219 = .ok (.ldc 17, 2) := by decide +kernel
theorem dL_law_221 : decode cL_law 221 = .ok (.if_icmp .ne 73, 3) := by decide +kernel
theorem dL_law_224 : decode cL_law 224 = .ok (.aload_n 2, 1) := by decide +kernel
theorem dL_law_225 : decode cL_law 225 = .ok (.iconst (-1), 1) := by decide +kernel
theorem dL_law_226 : decode cL_law 226 = .ok (.invokestatic 119, 3) := by decide +kernel
theorem dL_law_229 : decode cL_law 229 = .ok (.ldc 17, 2) := by decide +kernel
theorem dL_law_231 : decode cL_law 231 = .ok (.if_icmp .ne 63, 3) := by decide +kernel
theorem dL_law_234 : decode cL_law 234 = .ok (.aload_n 2, 1) := by decide +kernel
theorem dL_law_235 : decode cL_law 235 = .ok (.aload_n 1, 1) := by decide +kernel
theorem dL_law_236 : decode cL_law 236 = .ok (.iconst 0, 1) := by decide +kernel
theorem dL_law_237 : decode cL_law 237 = .ok (.iaload, 1) := by decide +kernel
theorem dL_law_238 : decode cL_law 238 = .ok (.invokestatic 122, 3) := by decide +kernel
theorem dL_law_241 : decode cL_law 241 = .ok (.ldc 17, 2) := by decide +kernel
theorem dL_law_243 : decode cL_law 243 = .ok (.if_icmp .ne 51, 3) := by decide +kernel
theorem dL_law_246 : decode cL_law 246 = .ok (.aload_n 2, 1) := by decide +kernel
theorem dL_law_247 : decode cL_law 247 = .ok (.iconst (-1), 1) := by decide +kernel
theorem dL_law_248 : decode cL_law 248 = .ok (.invokestatic 124, 3) := by decide +kernel
theorem dL_law_251 : decode cL_law 251 = .ok (.ldc 17, 2) := by decide +kernel
theorem dL_law_253 : decode cL_law 253 = .ok (.if_icmp .ne 41, 3) := by decide +kernel
theorem dL_law_256 : decode cL_law 256 = .ok (.aload_n 2, 1) := by decide +kernel
theorem dL_law_257 : decode cL_law 257 = .ok (.aload_n 1, 1) := by decide +kernel
theorem dL_law_258 : decode cL_law 258 = .ok (.iconst 0, 1) := by decide +kernel
theorem dL_law_259 : decode cL_law 259 = .ok (.iaload, 1) := by decide +kernel
theorem dL_law_260 : decode cL_law 260 = .ok (.invokestatic 130, 3) := by decide +kernel
theorem dL_law_263 : decode cL_law 263 = .ok (.ldc 17, 2) := by decide +kernel
theorem dL_law_265 : decode cL_law 265 = .ok (.if_icmp .ne 29, 3) := by decide +kernel
theorem dL_law_268 : decode cL_law 268 = .ok (.aload_n 2, 1) := by decide +kernel
theorem dL_law_269 : decode cL_law 269 = .ok (.iconst (-1), 1) := by decide +kernel
theorem dL_law_270 : decode cL_law 270 = .ok (.invokestatic 165, 3) := by decide +kernel
theorem dL_law_273 : decode cL_law 273 = .ok (.ldc 17, 2) := by decide +kernel
theorem dL_law_275 : decode cL_law 275 = .ok (.if_icmp .ne 19, 3) := by decide +kernel
theorem dL_law_278 : decode cL_law 278 = .ok (.aload_n 2, 1) := by decide +kernel
theorem dL_law_279 : decode cL_law 279 = .ok (.aload_n 1, 1) := by decide +kernel
theorem dL_law_280 : decode cL_law 280 = .ok (.iconst 0, 1) := by decide +kernel
theorem dL_law_281 : decode cL_law 281 = .ok (.iaload, 1) := by decide +kernel
theorem dL_law_282 : decode cL_law 282 = .ok (.invokestatic 167, 3) := by decide +kernel
theorem dL_law_285 : decode cL_law 285 = .ok (.ldc 17, 2) := by decide +kernel
theorem dL_law_287 : decode cL_law 287 = .ok (.if_icmp .ne 7, 3) := by decide +kernel
theorem dL_law_290 : decode cL_law 290 = .ok (.iconst 1, 1) := by decide +kernel
theorem dL_law_291 : decode cL_law 291 = .ok (.goto 4, 3) := by decide +kernel
theorem dL_law_294 : decode cL_law 294 = .ok (.iconst 0, 1) := by decide +kernel
theorem dL_law_295 : decode cL_law 295 = .ok (.istore_n 3, 1) := by decide +kernel
theorem dL_law_296 : decode cL_law 296 = .ok (.iload_n 3, 1) := by decide +kernel
theorem dL_law_297 : decode cL_law 297 = .ok (.ifCond .eq 31, 3) := by decide +kernel
theorem dL_law_300 : decode cL_law 300 = .ok (.aload_n 2, 1) := by decide +kernel
theorem dL_law_301 : decode cL_law 301 = .ok (.iconst (-1), 1) := by decide +kernel
theorem dL_law_302 : decode cL_law 302 = .ok (.invokestatic 187, 3) := by decide +kernel
theorem dL_law_305 : decode cL_law 305 = .ok (.ldc 17, 2) := by decide +kernel
theorem dL_law_307 : decode cL_law 307 = .ok (.if_icmp .ne 21, 3) := by decide +kernel
theorem dL_law_310 : decode cL_law 310 = .ok (.aload_n 2, 1) := by decide +kernel
theorem dL_law_311 : decode cL_law 311 = .ok (.iconst 1, 1) := by decide +kernel
theorem dL_law_312 : decode cL_law 312 = .ok (.aload_n 1, 1) := by decide +kernel
theorem dL_law_313 : decode cL_law 313 = .ok (.iconst 0, 1) := by decide +kernel
theorem dL_law_314 : decode cL_law 314 = .ok (.iaload, 1) := by decide +kernel
theorem dL_law_315 : decode cL_law 315 = .ok (.ishl, 1) := by decide +kernel
theorem dL_law_316 : decode cL_law 316 = .ok (.invokestatic 187, 3) := by decide +kernel
theorem dL_law_319 : decode cL_law 319 = .ok (.ldc 17, 2) := by decide +kernel
theorem dL_law_321 : decode cL_law 321 = .ok (.if_icmp .ne 7, 3) := by decide +kernel
theorem dL_law_324 : decode cL_law 324 = .ok (.iconst 1, 1) := by decide +kernel
theorem dL_law_325 : decode cL_law 325 = .ok (.goto 4, 3) := by decide +kernel
theorem dL_law_328 : decode cL_law 328 = .ok (.iconst 0, 1) := by decide +kernel
theorem dL_law_329 : decode cL_law 329 = .ok (.ireturn, 1) := by decide +kernel
