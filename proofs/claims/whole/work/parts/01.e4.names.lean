theorem dX7_told_42 : decode cX7_told 42 = .ok (.aload_n 0, 1) := by decide +kernel
theorem dX7_told_43 : decode cX7_told 43 = .ok (.getfield 39, 3) := by decide +kernel
theorem dX7_told_46 : decode cX7_told 46 = .ok (.iload_n 1, 1) := by decide +kernel
theorem dX7_told_47 : decode cX7_told 47 = .ok (.iaload, 1) := by decide +kernel
theorem dX7_told_48 : decode cX7_told 48 = .ok (.if_icmp .ne 23, 3) := by decide +kernel
theorem dX7_told_51 : decode cX7_told 51 = .ok (.aload_n 0, 1) := by decide +kernel
theorem dX7_told_52 : decode cX7_told 52 = .ok (.getfield 133, 3) := by decide +kernel
theorem dX7_told_55 : decode cX7_told 55 = .ok (.aload_n 0, 1) := by decide +kernel
theorem dX7_told_56 : decode cX7_told 56 = .ok (.getfield 42, 3) := by decide +kernel
theorem dX7_told_59 : decode cX7_told 59 = .ok (.iload_n 1, 1) := by decide +kernel
theorem dX7_told_60 : decode cX7_told 60 = .ok (.iaload, 1) := by decide +kernel
theorem dX7_told_61 : decode cX7_told 61 = .ok (.invokestatic 71, 3) := by decide +kernel
theorem dX7_told_64 : decode cX7_told 64 = .ok (.ifCond .eq 7, 3) := by decide +kernel
theorem dX7_told_67 : decode cX7_told 67 = .ok (.iconst (-1), 1) := by decide +kernel
theorem dX7_told_68 : decode cX7_told 68 = .ok (.goto 4, 3) := by decide +kernel
theorem dX7_told_71 : decode cX7_told 71 = .ok (.iconst 0, 1) := by decide +kernel
theorem dX7_told_72 : decode cX7_told 72 = .ok (.ireturn, 1) := by decide +kernel
theorem dX7_told_73 : decode cX7_told 73 = .ok (.aload_n 0, 1) := by decide +kernel
theorem dX7_told_74 : decode cX7_told 74 = .ok (.getfield 29, 3) := by decide +kernel
theorem dX7_told_77 : decode cX7_told 77 = .ok (.iload_n 1, 1) := by decide +kernel
theorem dX7_told_78 : decode cX7_told 78 = .ok (.caload, 1) := by decide +kernel
theorem dX7_told_79 : decode cX7_told 79 = .ok (.bipush 101, 2) := by decide +kernel
theorem dX7_told_81 : decode cX7_told 81 = .ok (.if_icmp .ne 61, 3) := by decide +kernel
theorem dX7_told_84 : decode cX7_told 84 = .ok (.iload_n 2, 1) := by decide +kernel
theorem dX7_told_85 : decode cX7_told 85 = .ok (.aload_n 0, 1) := by decide +kernel
theorem dX7_told_86 : decode cX7_told 86 = .ok (.getfield 42, 3) := by decide +kernel
theorem dX7_told_89 : decode cX7_told 89 = .ok (.iload_n 1, 1) := by decide +kernel
theorem dX7_told_90 : decode cX7_told 90 = .ok (.iaload, 1) := by decide +kernel
theorem dX7_told_91 : decode cX7_told 91 = .ok (.if_icmp .ne 19, 3) := by decide +kernel
theorem dX7_told_94 : decode cX7_told 94 = .ok (.aload_n 0, 1) := by decide +kernel
theorem dX7_told_95 : decode cX7_told 95 = .ok (.getfield 130, 3) := by decide +kernel
theorem dX7_told_98 : decode cX7_told 98 = .ok (.aload_n 0, 1) := by decide +kernel
theorem dX7_told_99 : decode cX7_told 99 = .ok (.getfield 39, 3) := by decide +kernel
theorem dX7_told_102 : decode cX7_told 102 = .ok (.iload_n 1, 1) := by decide +kernel
theorem dX7_told_103 : decode cX7_told 103 = .ok (.iaload, 1) := by decide +kernel
theorem dX7_told_104 : decode cX7_told 104 = .ok (.invokestatic 71, 3) := by decide +kernel
theorem dX7_told_107 : decode cX7_told 107 = .ok (.ifCond .ne 29, 3) := by decide +kernel
theorem dX7_told_110 : decode cX7_told 110 = .ok (.iload_n 2, 1) := by decide +kernel
theorem dX7_told_111 : decode cX7_told 111 = .ok (.aload_n 0, 1) := by decide +kernel
theorem dX7_told_112 : decode cX7_told 112 = .ok (.getfield 39, 3) := by decide +kernel
theorem dX7_told_115 : decode cX7_told 115 = .ok (.iload_n 1, 1) := by decide +kernel
theorem dX7_told_116 : decode cX7_told 116 = .ok (.iaload, 1) := by decide +kernel
theorem dX7_told_117 : decode cX7_told 117 = .ok (.if_icmp .ne 23, 3) := by decide +kernel
theorem dX7_told_120 : decode cX7_told 120 = .ok (.aload_n 0, 1) := by decide +kernel
theorem dX7_told_121 : decode cX7_told 121 = .ok (.getfield 130, 3) := by decide +kernel
theorem dX7_told_124 : decode cX7_told 124 = .ok (.aload_n 0, 1) := by decide +kernel
theorem dX7_told_125 : decode cX7_told 125 = .ok (.getfield 42, 3) := by decide +kernel
theorem dX7_told_128 : decode cX7_told 128 = .ok (.iload_n 1, 1) := by decide +kernel
theorem dX7_told_129 : decode cX7_told 129 = .ok (.iaload, 1) := by decide +kernel
theorem dX7_told_130 : decode cX7_told 130 = .ok (.invokestatic 71, 3) := by decide +kernel
theorem dX7_told_133 : decode cX7_told 133 = .ok (.ifCond .eq 7, 3) := by decide +kernel
theorem dX7_told_136 : decode cX7_told 136 = .ok (.iconst (-1), 1) := by decide +kernel
theorem dX7_told_137 : decode cX7_told 137 = .ok (.goto 4, 3) := by decide +kernel
theorem dX7_told_140 : decode cX7_told 140 = .ok (.iconst 0, 1) := by decide +kernel
theorem dX7_told_141 : decode cX7_told 141 = .ok (.ireturn, 1) := by decide +kernel
theorem dX7_told_142 : decode cX7_told 142 = .ok (.iconst 1, 1) := by decide +kernel
theorem dX7_told_143 : decode cX7_told 143 = .ok (.aload_n 0, 1) := by decide +kernel
theorem dX7_told_144 : decode cX7_told 144 = .ok (.getfield 39, 3) := by decide +kernel
theorem dX7_told_147 : decode cX7_told 147 = .ok (.iload_n 1, 1) := by decide +kernel
theorem dX7_told_148 : decode cX7_told 148 = .ok (.iaload, 1) := by decide +kernel
theorem dX7_told_149 : decode cX7_told 149 = .ok (.ishl, 1) := by decide +kernel
theorem dX7_told_150 : decode cX7_told 150 = .ok (.iconst 1, 1) := by decide +kernel
theorem dX7_told_151 : decode cX7_told 151 = .ok (.aload_n 0, 1) := by decide +kernel
theorem dX7_told_152 : decode cX7_told 152 = .ok (.getfield 42, 3) := by decide +kernel
theorem dX7_told_155 : decode cX7_told 155 = .ok (.iload_n 1, 1) := by decide +kernel
theorem dX7_told_156 : decode cX7_told 156 = .ok (.iaload, 1) := by decide +kernel
theorem dX7_told_157 : decode cX7_told 157 = .ok (.ishl, 1) := by decide +kernel
theorem dX7_told_158 : decode cX7_told 158 = .ok (.ior, 1) := by decide +kernel
theorem dX7_told_159 : decode cX7_told 159 = .ok (.iconst 1, 1) := by decide +kernel
theorem dX7_told_160 : decode cX7_told 160 = .ok (.aload_n 0, 1) := by decide +kernel
theorem dX7_told_161 : decode cX7_told 161 = .ok (.getfield 45, 3) := by decide +kernel
theorem dX7_told_164 : decode cX7_told 164 = .ok (.iload_n 1, 1) := by decide +kernel
theorem dX7_told_165 : decode cX7_told 165 = .ok (.iaload, 1) := by decide +kernel
theorem dX7_told_166 : decode cX7_told 166 = .ok (.ishl, 1) := by decide +kernel
theorem dX7_told_167 : decode cX7_told 167 = .ok (.ior, 1) := by decide +kernel
theorem dX7_told_168 : decode cX7_told 168 = .ok (.istore_n 3, 1) := by decide +kernel
theorem dX7_told_169 : decode cX7_told 169 = .ok (.iload_n 3, 1) := by decide +kernel
theorem dX7_told_170 : decode cX7_told 170 = .ok (.iconst 1, 1) := by decide +kernel
theorem dX7_told_171 : decode cX7_told 171 = .ok (.iload_n 2, 1) := by decide +kernel
theorem dX7_told_172 : decode cX7_told 172 = .ok (.ishl, 1) := by decide +kernel
theorem dX7_told_173 : decode cX7_told 173 = .ok (.iconst (-1), 1) := by decide +kernel
theorem dX7_told_174 : decode cX7_told 174 = .ok (.ixor, 1) := by decide +kernel
theorem dX7_told_175 : decode cX7_told 175 = .ok (.iand, 1) := by decide +kernel
theorem dX7_told_176 : decode cX7_told 176 = .ok (.istore_n 3, 1) := by decide +kernel
theorem dX7_told_177 : decode cX7_told 177 = .ok (.iload_n 2, 1) := by decide +kernel
theorem dX7_told_178 : decode cX7_told 178 = .ok (.aload_n 0, 1) := by decide +kernel
theorem dX7_told_179 : decode cX7_told 179 = .ok (.getfield 39, 3) := by decide +kernel
theorem dX7_told_182 : decode cX7_told 182 = .ok (.iload_n 1, 1) := by decide +kernel
theorem dX7_told_183 : decode cX7_told 183 = .ok (.iaload, 1) := by decide +kernel
theorem dX7_told_184 : decode cX7_told 184 = .ok (.if_icmp .eq 23, 3) := by decide +kernel
theorem dX7_told_187 : decode cX7_told 187 = .ok (.iload_n 2, 1) := by decide +kernel
theorem dX7_told_188 : decode cX7_told 188 = .ok (.aload_n 0, 1) := by decide +kernel
theorem dX7_told_189 : decode cX7_told 189 = .ok (.getfield 42, 3) := by decide +kernel
theorem dX7_told_192 : decode cX7_told 192 = .ok (.iload_n 1, 1) := by decide +kernel
theorem dX7_told_193 : decode cX7_told 193 = .ok (.iaload, 1) := by decide +kernel
theorem dX7_told_194 : decode cX7_told 194 = .ok (.if_icmp .eq 13, 3) := by decide +kernel
theorem dX7_told_197 : decode cX7_told 197 = .ok (.iload_n 2, 1) := by decide +kernel
theorem dX7_told_198 : decode cX7_told 198 = .ok (.aload_n 0, 1) := by decide +kernel
theorem dX7_told_199 : decode cX7_told 199 = .ok (.getfield 45, 3) := by decide +kernel
theorem dX7_told_202 : decode cX7_told 202 = .ok (.iload_n 1, 1) := by decide +kernel
theorem dX7_told_203 : decode cX7_told 203 = .ok (.iaload, 1) := by decide +kernel
theorem dX7_told_204 : decode cX7_told 204 = .ok (.if_icmp .ne 17, 3) := by decide +kernel
theorem dX7_told_207 : decode cX7_told 207 = .ok (.aload_n 0, 1) := by decide +kernel
theorem dX7_told_208 : decode cX7_told 208 = .ok (.getfield 133, 3) := by decide +kernel
theorem dX7_told_211 : decode cX7_told 211 = .ok (.iload_n 3, 1) := by decide +kernel
theorem dX7_told_212 : decode cX7_told 212 = .ok (.iand, 1) := by decide +kernel
theorem dX7_told_213 : decode cX7_told 213 = .ok (.iload_n 3, 1) := by decide +kernel
theorem dX7_told_214 : decode cX7_told 214 = .ok (.if_icmp .ne 7, 3) := by decide +kernel
theorem dX7_told_217 : decode cX7_told 217 = .ok (.iconst 1, 1) := by decide +kernel
theorem dX7_told_218 : decode cX7_told 218 = .ok (.goto 4, 3) := by decide +kernel
theorem dX7_told_221 : decode cX7_told 221 = .ok (.iconst 0, 1) := by decide +kernel
theorem dX7_told_222 : decode cX7_told 222 = .ok (.ireturn, 1) := by decide +kernel
theorem dX7_becomes_0 : decode cX7_becomes 0 = .ok (.aload_n 0, 1) := by decide +kernel
theorem dX7_becomes_1 : decode cX7_becomes 1 = .ok (.dup, 1) := by decide +kernel
theorem dX7_becomes_2 : decode cX7_becomes 2 = .ok (.getfield 130, 3) := by decide +kernel
theorem dX7_becomes_5 : decode cX7_becomes 5 = .ok (.iload_n 2, 1) := by decide +kernel
theorem dX7_becomes_6 : decode cX7_becomes 6 = .ok (.ifCond .eq 9, 3) := by decide +kernel
theorem dX7_becomes_9 : decode cX7_becomes 9 = .ok (.iconst 1, 1) := by decide +kernel
theorem dX7_becomes_10 : decode cX7_becomes 10 = .ok (.iload_n 1, 1) := by decide +kernel
theorem dX7_becomes_11 : decode cX7_becomes 11 = .ok (.ishl, 1) := by decide +kernel
theorem dX7_becomes_12 : decode cX7_becomes 12 = .ok (.goto 4, 3) := by decide +kernel
theorem dX7_becomes_15 : decode cX7_becomes 15 = .ok (.iconst 0, 1) := by decide +kernel
theorem dX7_becomes_16 : decode cX7_becomes 16 = .ok (.ior, 1) := by decide +kernel
theorem dX7_becomes_17 : decode cX7_becomes 17 = .ok (.putfield 130, 3) := by decide +kernel
theorem dX7_becomes_20 : decode cX7_becomes 20 = .ok (.aload_n 0, 1) := by decide +kernel
theorem dX7_becomes_21 : decode cX7_becomes 21 = .ok (.dup, 1) := by decide +kernel
theorem dX7_becomes_22 : decode cX7_becomes 22 = .ok (.getfield 133, 3) := by decide +kernel
theorem dX7_becomes_25 : decode cX7_becomes 25 = .ok (.iload_n 2, 1) := by decide +kernel
theorem dX7_becomes_26 : decode cX7_becomes 26 = .ok (.ifCond .eq 7, 3) := by decide +kernel
theorem dX7_becomes_29 : decode cX7_becomes 29 = .ok (.iconst 0, 1) := by decide +kernel
theorem dX7_becomes_30 : decode cX7_becomes 30 = .ok (.goto 6, 3) := by decide +kernel
theorem dX7_becomes_33 : decode cX7_becomes 33 = .ok (.iconst 1, 1) := by decide +kernel
theorem dX7_becomes_34 : decode cX7_becomes 34 = .ok (.iload_n 1, 1) := by decide +kernel
theorem dX7_becomes_35 : decode cX7_becomes 35 = .ok (.ishl, 1) := by decide +kernel
theorem dX7_becomes_36 : decode cX7_becomes 36 = .ok (.ior, 1) := by decide +kernel
theorem dX7_becomes_37 : decode cX7_becomes 37 = .ok (.putfield 133, 3) := by decide +kernel
theorem dX7_becomes_40 : decode cX7_becomes 40 = .ok (.aload_n 0, 1) := by decide +kernel
theorem dX7_becomes_41 : decode cX7_becomes 41 = .ok (.getfield 36, 3) := by decide +kernel
theorem dX7_becomes_44 : decode cX7_becomes 44 = .ok (.iload_n 1, 1) := by decide +kernel
theorem dX7_becomes_45 : decode cX7_becomes 45 = .ok (.iload_n 3, 1) := by decide +kernel
theorem dX7_becomes_46 : decode cX7_becomes 46 = .ok (.castore, 1) := by decide +kernel
theorem dX7_becomes_47 : decode cX7_becomes 47 = .ok (.iconst 1, 1) := by decide +kernel
theorem dX7_becomes_48 : decode cX7_becomes 48 = .ok (.ireturn, 1) := by decide +kernel
theorem dX7_isKnown_0 : decode cX7_isKnown 0 = .ok (.aload_n 0, 1) := by decide +kernel
theorem dX7_isKnown_1 : decode cX7_isKnown 1 = .ok (.getfield 9, 3) := by decide +kernel
theorem dX7_isKnown_4 : decode cX7_isKnown 4 = .ok (.iload_n 1, 1) := by decide +kernel
theorem dX7_isKnown_5 : decode cX7_isKnown 5 = .ok (.iaload, 1) := by decide +kernel
theorem dX7_isKnown_6 : decode cX7_isKnown 6 = .ok (.istore_n 2, 1) := by decide +kernel
theorem dX7_isKnown_7 : decode cX7_isKnown 7 = .ok (.aload_n 0, 1) := by decide +kernel
theorem dX7_isKnown_8 : decode cX7_isKnown 8 = .ok (.iload_n 1, 1) := by decide +kernel
theorem dX7_isKnown_9 : decode cX7_isKnown 9 = .ok (.iconst 1, 1) := by decide +kernel
theorem dX7_isKnown_10 : decode cX7_isKnown 10 = .ok (.invokevirtual 136, 3) := by decide +kernel
theorem dX7_isKnown_13 : decode cX7_isKnown 13 = .ok (.ifCond .le 12, 3) := by decide +kernel
theorem dX7_isKnown_16 : decode cX7_isKnown 16 = .ok (.aload_n 0, 1) := by decide +kernel
theorem dX7_isKnown_17 : decode cX7_isKnown 17 = .ok (.iload_n 1, 1) := by decide +kernel
theorem dX7_isKnown_18 : decode cX7_isKnown 18 = .ok (.iconst 1, 1) := by decide +kernel
theorem dX7_isKnown_19 : decode cX7_isKnown 19 = .ok (.bipush 99, 2) := by decide +kernel
theorem dX7_isKnown_21 : decode cX7_isKnown 21 = .ok (.invokevirtual 139, 3) := by decide +kernel
theorem dX7_isKnown_24 : decode cX7_isKnown 24 = .ok (.ireturn, 1) := by decide +kernel
theorem dX7_isKnown_25 : decode cX7_isKnown 25 = .ok (.aload_n 0, 1) := by decide +kernel
theorem dX7_isKnown_26 : decode cX7_isKnown 26 = .ok (.getfield 133, 3) := by decide +kernel
theorem dX7_isKnown_29 : decode cX7_isKnown 29 = .ok (.iload_n 2, 1) := by decide +kernel
theorem dX7_isKnown_30 : decode cX7_isKnown 30 = .ok (.invokestatic 71, 3) := by decide +kernel
theorem dX7_isKnown_33 : decode cX7_isKnown 33 = .ok (.ifCond .eq 12, 3) := by decide +kernel
theorem dX7_isKnown_36 : decode cX7_isKnown 36 = .ok (.aload_n 0, 1) := by decide +kernel
theorem dX7_isKnown_37 : decode cX7_isKnown 37 = .ok (.iload_n 1, 1) := by decide +kernel
theorem dX7_isKnown_38 : decode cX7_isKnown 38 = .ok (.iconst 0, 1) := by decide +kernel
theorem dX7_isKnown_39 : decode cX7_isKnown 39 = .ok (.bipush 112, 2) := by decide +kernel
theorem dX7_isKnown_41 : decode cX7_isKnown 41 = .ok (.invokevirtual 139, 3) := by decide +kernel
theorem dX7_isKnown_44 : decode cX7_isKnown 44 = .ok (.ireturn, 1) := by decide +kernel
theorem dX7_isKnown_45 : decode cX7_isKnown 45 = .ok (.aload_n 0, 1) := by decide +kernel
theorem dX7_isKnown_46 : decode cX7_isKnown 46 = .ok (.getfield 22, 3) := by decide +kernel
theorem dX7_isKnown_49 : decode cX7_isKnown 49 = .ok (.iload_n 1, 1) := by decide +kernel
theorem dX7_isKnown_50 : decode cX7_isKnown 50 = .ok (.baload, 1) := by decide +kernel
theorem dX7_isKnown_51 : decode cX7_isKnown 51 = .ok (.ifCond .eq 23, 3) := by decide +kernel
theorem dX7_isKnown_54 : decode cX7_isKnown 54 = .ok (.aload_n 0, 1) := by decide +kernel
theorem dX7_isKnown_55 : decode cX7_isKnown 55 = .ok (.getfield 130, 3) := by decide +kernel
theorem dX7_isKnown_58 : decode cX7_isKnown 58 = .ok (.iload_n 2, 1) := by decide +kernel
theorem dX7_isKnown_59 : decode cX7_isKnown 59 = .ok (.invokestatic 71, 3) := by decide +kernel
theorem dX7_isKnown_62 : decode cX7_isKnown 62 = .ok (.ifCond .eq 12, 3) := by decide +kernel
theorem dX7_isKnown_65 : decode cX7_isKnown 65 = .ok (.aload_n 0, 1) := by decide +kernel
theorem dX7_isKnown_66 : decode cX7_isKnown 66 = .ok (.iload_n 1, 1) := by decide +kernel
theorem dX7_isKnown_67 : decode cX7_isKnown 67 = .ok (.iconst 1, 1) := by decide +kernel
theorem dX7_isKnown_68 : decode cX7_isKnown 68 = .ok (.bipush 109, 2) := by decide +kernel
theorem dX7_isKnown_70 : decode cX7_isKnown 70 = .ok (.invokevirtual 139, 3) := by decide +kernel
theorem dX7_isKnown_73 : decode cX7_isKnown 73 = .ok (.ireturn, 1) := by decide +kernel
theorem dX7_isKnown_74 : decode cX7_isKnown 74 = .ok (.aload_n 0, 1) := by decide +kernel
theorem dX7_isKnown_75 : decode cX7_isKnown 75 = .ok (.iload_n 1, 1) := by decide +kernel
theorem dX7_isKnown_76 : decode cX7_isKnown 76 = .ok (.invokevirtual 143, 3) := by decide +kernel
theorem dX7_isKnown_79 : decode cX7_isKnown 79 = .ok (.ifCond .eq 12, 3) := by decide +kernel
theorem dX7_isKnown_82 : decode cX7_isKnown 82 = .ok (.aload_n 0, 1) := by decide +kernel
theorem dX7_isKnown_83 : decode cX7_isKnown 83 = .ok (.iload_n 1, 1) := by decide +kernel
theorem dX7_isKnown_84 : decode cX7_isKnown 84 = .ok (.iconst 0, 1) := by decide +kernel
theorem dX7_isKnown_85 : decode cX7_isKnown 85 = .ok (.bipush 107, 2) := by decide +kernel
theorem dX7_isKnown_87 : decode cX7_isKnown 87 = .ok (.invokevirtual 139, 3) := by decide +kernel
theorem dX7_isKnown_90 : decode cX7_isKnown 90 = .ok (.ireturn, 1) := by decide +kernel
theorem dX7_isKnown_91 : decode cX7_isKnown 91 = .ok (.aload_n 0, 1) := by decide +kernel
theorem dX7_isKnown_92 : decode cX7_isKnown 92 = .ok (.getfield 130, 3) := by decide +kernel
theorem dX7_isKnown_95 : decode cX7_isKnown 95 = .ok (.iload_n 2, 1) := by decide +kernel
theorem dX7_isKnown_96 : decode cX7_isKnown 96 = .ok (.invokestatic 71, 3) := by decide +kernel
theorem dX7_isKnown_99 : decode cX7_isKnown 99 = .ok (.ifCond .eq 27, 3) := by decide +kernel
theorem dX7_isKnown_102 : decode cX7_isKnown 102 = .ok (.aload_n 0, 1) := by decide +kernel
theorem dX7_isKnown_103 : decode cX7_isKnown 103 = .ok (.iload_n 2, 1) := by decide +kernel
theorem dX7_isKnown_104 : decode cX7_isKnown 104 = .ok (.iconst 1, 1) := by decide +kernel
theorem dX7_isKnown_105 : decode cX7_isKnown 105 = .ok (.invokevirtual 136, 3) := by decide +kernel
theorem dX7_isKnown_108 : decode cX7_isKnown 108 = .ok (.aload_n 0, 1) := by decide +kernel
theorem dX7_isKnown_109 : decode cX7_isKnown 109 = .ok (.getfield 19, 3) := by decide +kernel
theorem dX7_isKnown_112 : decode cX7_isKnown 112 = .ok (.iload_n 2, 1) := by decide +kernel
theorem dX7_isKnown_113 : decode cX7_isKnown 113 = .ok (.iaload, 1) := by decide +kernel
theorem dX7_isKnown_114 : decode cX7_isKnown 114 = .ok (.if_icmp .ne 12, 3) := by decide +kernel
theorem dX7_isKnown_117 : decode cX7_isKnown 117 = .ok (.aload_n 0, 1) := by decide +kernel
theorem dX7_isKnown_118 : decode cX7_isKnown 118 = .ok (.iload_n 1, 1) := by decide +kernel
theorem dX7_isKnown_119 : decode cX7_isKnown 119 = .ok (.iconst 0, 1) := by decide +kernel
theorem dX7_isKnown_120 : decode cX7_isKnown 120 = .ok (.bipush 102, 2) := by decide +kernel
theorem dX7_isKnown_122 : decode cX7_isKnown 122 = .ok (.invokevirtual 139, 3) := by decide +kernel
theorem dX7_isKnown_125 : decode cX7_isKnown 125 = .ok (.ireturn, 1) := by decide +kernel
theorem dX7_isKnown_126 : decode cX7_isKnown 126 = .ok (.aload_n 0, 1) := by decide +kernel
theorem dX7_isKnown_127 : decode cX7_isKnown 127 = .ok (.getfield 130, 3) := by decide +kernel
theorem dX7_isKnown_130 : decode cX7_isKnown 130 = .ok (.iload_n 2, 1) := by decide +kernel
theorem dX7_isKnown_131 : decode cX7_isKnown 131 = .ok (.invokestatic 71, 3) := by decide +kernel
theorem dX7_isKnown_134 : decode cX7_isKnown 134 = .ok (.ifCond .eq 27, 3) := by decide +kernel
theorem dX7_isKnown_137 : decode cX7_isKnown 137 = .ok (.aload_n 0, 1) := by decide +kernel
theorem dX7_isKnown_138 : decode cX7_isKnown 138 = .ok (.iload_n 2, 1) := by decide +kernel
theorem dX7_isKnown_139 : decode cX7_isKnown 139 = .ok (.iconst 0, 1) := by decide +kernel
theorem dX7_isKnown_140 : decode cX7_isKnown 140 = .ok (.invokevirtual 136, 3) := by decide +kernel
theorem dX7_isKnown_143 : decode cX7_isKnown 143 = .ok (.aload_n 0, 1) := by decide +kernel
theorem dX7_isKnown_144 : decode cX7_isKnown 144 = .ok (.getfield 16, 3) := by decide +kernel
theorem dX7_isKnown_147 : decode cX7_isKnown 147 = .ok (.iload_n 2, 1) := by decide +kernel
theorem dX7_isKnown_148 : decode cX7_isKnown 148 = .ok (.iaload, 1) := by decide +kernel
theorem dX7_isKnown_149 : decode cX7_isKnown 149 = .ok (.if_icmp .ne 12, 3) := by decide +kernel
theorem dX7_isKnown_152 : decode cX7_isKnown 152 = .ok (.aload_n 0, 1) := by decide +kernel
theorem dX7_isKnown_153 : decode cX7_isKnown 153 = .ok (.iload_n 1, 1) := by decide +kernel
theorem dX7_isKnown_154 : decode cX7_isKnown 154 = .ok (.iconst 1, 1) := by decide +kernel
theorem dX7_isKnown_155 : decode cX7_isKnown 155 = .ok (.bipush 110, 2) := by decide +kernel
theorem dX7_isKnown_157 : decode cX7_isKnown 157 = .ok (.invokevirtual 139, 3) := by decide +kernel
theorem dX7_isKnown_160 : decode cX7_isKnown 160 = .ok (.ireturn, 1) := by decide +kernel
theorem dX7_isKnown_161 : decode cX7_isKnown 161 = .ok (.aload_n 0, 1) := by decide +kernel
theorem dX7_isKnown_162 : decode cX7_isKnown 162 = .ok (.iload_n 1, 1) := by decide +kernel
theorem dX7_isKnown_163 : decode cX7_isKnown 163 = .ok (.iconst 0, 1) := by decide +kernel
theorem dX7_isKnown_164 : decode cX7_isKnown 164 = .ok (.invokevirtual 136, 3) := by decide +kernel
theorem dX7_isKnown_167 : decode cX7_isKnown 167 = .ok (.aload_n 0, 1) := by decide +kernel
theorem dX7_isKnown_168 : decode cX7_isKnown 168 = .ok (.getfield 16, 3) := by decide +kernel
theorem dX7_isKnown_171 : decode cX7_isKnown 171 = .ok (.iload_n 1, 1) := by decide +kernel
theorem dX7_isKnown_172 : decode cX7_isKnown 172 = .ok (.iaload, 1) := by decide +kernel
theorem dX7_isKnown_173 : decode cX7_isKnown 173 = .ok (.if_icmp .lt 18, 3) := by decide +kernel
theorem dX7_isKnown_176 : decode cX7_isKnown 176 = .ok (.aload_n 0, 1) := by decide +kernel
theorem dX7_isKnown_177 : decode cX7_isKnown 177 = .ok (.iload_n 1, 1) := by decide +kernel
theorem dX7_isKnown_178 : decode cX7_isKnown 178 = .ok (.iconst 1, 1) := by decide +kernel
theorem dX7_isKnown_179 : decode cX7_isKnown 179 = .ok (.invokevirtual 136, 3) := by decide +kernel
theorem dX7_isKnown_182 : decode cX7_isKnown 182 = .ok (.aload_n 0, 1) := by decide +kernel
theorem dX7_isKnown_183 : decode cX7_isKnown 183 = .ok (.getfield 19, 3) := by decide +kernel
theorem dX7_isKnown_186 : decode cX7_isKnown 186 = .ok (.iload_n 1, 1) := by decide +kernel
theorem dX7_isKnown_187 : decode cX7_isKnown 187 = .ok (.iaload, 1) := by decide +kernel
theorem dX7_isKnown_188 : decode cX7_isKnown 188 = .ok (.if_icmp .le 12, 3) := by decide +kernel
theorem dX7_isKnown_191 : decode cX7_isKnown 191 = .ok (.aload_n 0, 1) := by decide +kernel
theorem dX7_isKnown_192 : decode cX7_isKnown 192 = .ok (.iload_n 1, 1) := by decide +kernel
theorem dX7_isKnown_193 : decode cX7_isKnown 193 = .ok (.iconst 0, 1) := by decide +kernel
theorem dX7_isKnown_194 : decode cX7_isKnown 194 = .ok (.bipush 103, 2) := by decide +kernel
theorem dX7_isKnown_196 : decode cX7_isKnown 196 = .ok (.invokevirtual 139, 3) := by decide +kernel
theorem dX7_isKnown_199 : decode cX7_isKnown 199 = .ok (.ireturn, 1) := by decide +kernel
theorem dX7_isKnown_200 : decode cX7_isKnown 200 = .ok (.iconst 0, 1) := by decide +kernel
theorem dX7_isKnown_201 : decode cX7_isKnown 201 = .ok (.istore_n 3, 1) := by decide +kernel
theorem dX7_isKnown_202 : decode cX7_isKnown 202 = .ok (.iload_n 3, 1) := by decide +kernel
theorem dX7_isKnown_203 : decode cX7_isKnown 203 = .ok (.aload_n 0, 1) := by decide +kernel
theorem dX7_isKnown_204 : decode cX7_isKnown 204 = .ok (.getfield 75, 3) := by decide +kernel
theorem dX7_isKnown_207 : decode cX7_isKnown 207 = .ok (.if_icmp .ge 60, 3) := by decide +kernel
theorem dX7_isKnown_210 : decode cX7_isKnown 210 = .ok (.aload_n 0, 1) := by decide +kernel
theorem dX7_isKnown_211 : decode cX7_isKnown 211 = .ok (.getfield 26, 3) := by decide +kernel
theorem dX7_isKnown_214 : decode cX7_isKnown 214 = .ok (.iload_n 3, 1) := by decide +kernel
theorem dX7_isKnown_215 : decode cX7_isKnown 215 = .ok (.baload, 1) := by decide +kernel
theorem dX7_isKnown_216 : decode cX7_isKnown 216 = .ok (.ifCond .eq 7, 3) := by decide +kernel
theorem dX7_isKnown_219 : decode cX7_isKnown 219 = .ok (.iconst 0, 1) := by decide +kernel
theorem dX7_isKnown_220 : decode cX7_isKnown 220 = .ok (.goto 9, 3) := by decide +kernel
theorem dX7_isKnown_223 : decode cX7_isKnown 223 = .ok (.aload_n 0, 1) := by decide +kernel
theorem dX7_isKnown_224 : decode cX7_isKnown 224 = .ok (.iload_n 3, 1) := by decide +kernel
theorem dX7_isKnown_225 : decode cX7_isKnown 225 = .ok (.iload_n 1, 1) := by decide +kernel
theorem dX7_isKnown_226 : decode cX7_isKnown 226 = .ok (.invokevirtual 146, 3) := by decide +kernel
theorem dX7_isKnown_229 : decode cX7_isKnown 229 = .ok (.istore 4, 2) := by decide +kernel
theorem dX7_isKnown_231 : decode cX7_isKnown 231 = .ok (.iload 4, 2) := by decide +kernel
theorem dX7_isKnown_233 : decode cX7_isKnown 233 = .ok (.ifCond .eq 28, 3) := by decide +kernel
theorem dX7_isKnown_236 : decode cX7_isKnown 236 = .ok (.aload_n 0, 1) := by decide +kernel
theorem dX7_isKnown_237 : decode cX7_isKnown 237 = .ok (.getfield 57, 3) := by decide +kernel
theorem dX7_isKnown_240 : decode cX7_isKnown 240 = .ok (.iload_n 1, 1) := by decide +kernel
theorem dX7_isKnown_241 : decode cX7_isKnown 241 = .ok (.iload_n 3, 1) := by decide +kernel
theorem dX7_isKnown_242 : decode cX7_isKnown 242 = .ok (.iastore, 1) := by decide +kernel
theorem dX7_isKnown_243 : decode cX7_isKnown 243 = .ok (.aload_n 0, 1) := by decide +kernel
theorem dX7_isKnown_244 : decode cX7_isKnown 244 = .ok (.iload_n 1, 1) := by decide +kernel
theorem dX7_isKnown_245 : decode cX7_isKnown 245 = .ok (.iload 4, 2) := by decide +kernel
theorem dX7_isKnown_247 : decode cX7_isKnown 247 = .ok (.ifCond .le 7, 3) := by decide +kernel
theorem dX7_isKnown_250 : decode cX7_isKnown 250 = .ok (.iconst 1, 1) := by decide +kernel
theorem dX7_isKnown_251 : decode cX7_isKnown 251 = .ok (.goto 4, 3) := by decide +kernel
theorem dX7_isKnown_254 : decode cX7_isKnown 254 = .ok (.iconst 0, 1) := by decide +kernel
theorem dX7_isKnown_255 : decode cX7_isKnown 255 = .ok (.bipush 114, 2) := by decide +kernel
theorem dX7_isKnown_257 : decode cX7_isKnown 257 = .ok (.invokevirtual 139, 3) := by decide +kernel
theorem dX7_isKnown_260 : decode cX7_isKnown 260 = .ok (.ireturn, 1) := by decide +kernel
theorem dX7_isKnown_261 : decode cX7_isKnown 261 = .ok (.iinc 3 1, 3) := by decide +kernel
theorem dX7_isKnown_264 : decode cX7_isKnown 264 = .ok (.goto (-62), 3) := by decide +kernel
theorem dX7_isKnown_267 : decode cX7_isKnown 267 = .ok (.iconst 0, 1) := by decide +kernel
theorem dX7_isKnown_268 : decode cX7_isKnown 268 = .ok (.ireturn, 1) := by decide +kernel
theorem dX7_deduces_0 : decode cX7_deduces 0 = .ok (.aload_n 0, 1) := by decide +kernel
theorem dX7_deduces_1 : decode cX7_deduces 1 = .ok (.iconst 1, 1) := by decide +kernel
theorem dX7_deduces_2 : decode cX7_deduces 2 = .ok (.aload_n 0, 1) := by decide +kernel
theorem dX7_deduces_3 : decode cX7_deduces 3 = .ok (.getfield 81, 3) := by decide +kernel
theorem dX7_deduces_6 : decode cX7_deduces 6 = .ok (.ior, 1) := by decide +kernel
theorem dX7_deduces_7 : decode cX7_deduces 7 = .ok (.putfield 130, 3) := by decide +kernel
theorem dX7_deduces_10 : decode cX7_deduces 10 = .ok (.aload_n 0, 1) := by decide +kernel
theorem dX7_deduces_11 : decode cX7_deduces 11 = .ok (.aload_n 0, 1) := by decide +kernel
theorem dX7_deduces_12 : decode cX7_deduces 12 = .ok (.getfield 84, 3) := by decide +kernel
theorem dX7_deduces_15 : decode cX7_deduces 15 = .ok (.putfield 133, 3) := by decide +kernel
theorem dX7_deduces_18 : decode cX7_deduces 18 = .ok (.iconst 0, 1) := by decide +kernel
theorem dX7_deduces_19 : decode cX7_deduces 19 = .ok (.istore_n 1, 1) := by decide +kernel
theorem dX7_deduces_20 : decode cX7_deduces 20 = .ok (.iload_n 1, 1) := by decide +kernel
theorem dX7_deduces_21 : decode cX7_deduces 21 = .ok (.aload_n 0, 1) := by decide +kernel
theorem dX7_deduces_22 : decode cX7_deduces 22 = .ok (.getfield 60, 3) := by decide +kernel
theorem dX7_deduces_25 : decode cX7_deduces 25 = .ok (.if_icmp .ge 39, 3) := by decide +kernel
theorem dX7_deduces_28 : decode cX7_deduces 28 = .ok (.aload_n 0, 1) := by decide +kernel
theorem dX7_deduces_29 : decode cX7_deduces 29 = .ok (.getfield 36, 3) := by decide +kernel
theorem dX7_deduces_32 : decode cX7_deduces 32 = .ok (.iload_n 1, 1) := by decide +kernel
theorem dX7_deduces_33 : decode cX7_deduces 33 = .ok (.iload_n 1, 1) := by decide +kernel
theorem dX7_deduces_34 : decode cX7_deduces 34 = .ok (.ifCond .ne 8, 3) := by decide +kernel
theorem dX7_deduces_37 : decode cX7_deduces 37 = .ok (.bipush 111, 2) := by decide +kernel
theorem dX7_deduces_39 : decode cX7_deduces 39 = .ok (.goto 18, 3) := by decide +kernel
theorem dX7_deduces_42 : decode cX7_deduces 42 = .ok (.aload_n 0, 1) := by decide +kernel
theorem dX7_deduces_43 : decode cX7_deduces 43 = .ok (.iload_n 1, 1) := by decide +kernel
theorem dX7_deduces_44 : decode cX7_deduces 44 = .ok (.invokevirtual 109, 3) := by decide +kernel
theorem dX7_deduces_47 : decode cX7_deduces 47 = .ok (.ifCond .eq 8, 3) := by decide +kernel
theorem dX7_deduces_50 : decode cX7_deduces 50 = .ok (.bipush 100, 2) := by decide +kernel
theorem dX7_deduces_52 : decode cX7_deduces 52 = .ok (.goto 5, 3) := by decide +kernel
theorem dX7_deduces_55 : decode cX7_deduces 55 = .ok (.bipush 45, 2) := by decide +kernel
theorem dX7_deduces_57 : decode cX7_deduces 57 = .ok (.castore, 1) := by decide +kernel
theorem dX7_deduces_58 : decode cX7_deduces 58 = .ok (.iinc 1 1, 3) := by decide +kernel
theorem dX7_deduces_61 : decode cX7_deduces 61 = .ok (.goto (-41), 3) := by decide +kernel
theorem dX7_deduces_64 : decode cX7_deduces 64 = .ok (.iconst 1, 1) := by decide +kernel
theorem dX7_deduces_65 : decode cX7_deduces 65 = .ok (.istore_n 1, 1) := by decide +kernel
theorem dX7_deduces_66 : decode cX7_deduces 66 = .ok (.iload_n 1, 1) := by decide +kernel
theorem dX7_deduces_67 : decode cX7_deduces 67 = .ok (.aload_n 0, 1) := by decide +kernel
theorem dX7_deduces_68 : decode cX7_deduces 68 = .ok (.getfield 60, 3) := by decide +kernel
theorem dX7_deduces_71 : decode cX7_deduces 71 = .ok (.if_icmp .ge 38, 3) := by decide +kernel
theorem dX7_deduces_74 : decode cX7_deduces 74 = .ok (.aload_n 0, 1) := by decide +kernel
theorem dX7_deduces_75 : decode cX7_deduces 75 = .ok (.getfield 130, 3) := by decide +kernel
theorem dX7_deduces_78 : decode cX7_deduces 78 = .ok (.aload_n 0, 1) := by decide +kernel
theorem dX7_deduces_79 : decode cX7_deduces 79 = .ok (.getfield 133, 3) := by decide +kernel
theorem dX7_deduces_82 : decode cX7_deduces 82 = .ok (.ior, 1) := by decide +kernel
theorem dX7_deduces_83 : decode cX7_deduces 83 = .ok (.iload_n 1, 1) := by decide +kernel
theorem dX7_deduces_84 : decode cX7_deduces 84 = .ok (.invokestatic 71, 3) := by decide +kernel
theorem dX7_deduces_87 : decode cX7_deduces 87 = .ok (.ifCond .ne 15, 3) := by decide +kernel
theorem dX7_deduces_90 : decode cX7_deduces 90 = .ok (.aload_n 0, 1) := by decide +kernel
theorem dX7_deduces_91 : decode cX7_deduces 91 = .ok (.iload_n 1, 1) := by decide +kernel
theorem dX7_deduces_92 : decode cX7_deduces 92 = .ok (.invokevirtual 150, 3) := by decide +kernel
theorem dX7_deduces_95 : decode cX7_deduces 95 = .ok (.ifCond .eq 7, 3) := by decide +kernel
theorem dX7_deduces_98 : decode cX7_deduces 98 = .ok (.iconst 1, 1) := by decide +kernel
theorem dX7_deduces_99 : decode cX7_deduces 99 = .ok (.goto 6, 3) := by decide +kernel
theorem dX7_deduces_102 : decode cX7_deduces 102 = .ok (.iload_n 1, 1) := by decide +kernel
theorem dX7_deduces_103 : decode cX7_deduces 103 = .ok (.iconst 1, 1) := by decide +kernel
theorem dX7_deduces_104 : decode cX7_deduces 104 = .ok (.iadd, 1) := by decide +kernel
theorem dX7_deduces_105 : decode cX7_deduces 105 = .ok (.istore_n 1, 1) := by decide +kernel
theorem dX7_deduces_106 : decode cX7_deduces 106 = .ok (.goto (-40), 3) := by decide +kernel
theorem dX7_deduces_109 : decode cX7_deduces 109 = .ok (.return_, 1) := by decide +kernel
theorem dX7_unknowns_0 : decode cX7_unknowns 0 = .ok (.aload_n 0, 1) := by decide +kernel
theorem dX7_unknowns_1 : decode cX7_unknowns 1 = .ok (.invokevirtual 153, 3) := by decide +kernel
theorem dX7_unknowns_4 : decode cX7_unknowns 4 = .ok (.aload_n 0, 1) := by decide +kernel
theorem dX7_unknowns_5 : decode cX7_unknowns 5 = .ok (.getfield 60, 3) := by decide +kernel
theorem dX7_unknowns_8 : decode cX7_unknowns 8 = .ok (.aload_n 0, 1) := by decide +kernel
theorem dX7_unknowns_9 : decode cX7_unknowns 9 = .ok (.getfield 130, 3) := by decide +kernel
theorem dX7_unknowns_12 : decode cX7_unknowns 12 = .ok (.aload_n 0, 1) := by decide +kernel
theorem dX7_unknowns_13 : decode cX7_unknowns 13 = .ok (.getfield 133, 3) := by decide +kernel
theorem dX7_unknowns_16 : decode cX7_unknowns 16 = .ok (.ior, 1) := by decide +kernel
theorem dX7_unknowns_17 : decode cX7_unknowns 17 = .ok (.invokestatic 120, 3) := by decide +kernel
theorem dX7_unknowns_20 : decode cX7_unknowns 20 = .ok (.isub, 1) := by decide +kernel
theorem dX7_unknowns_21 : decode cX7_unknowns 21 = .ok (.ireturn, 1) := by decide +kernel
theorem dX7_known_0 : decode cX7_known 0 = .ok (.aload_n 0, 1) := by decide +kernel
theorem dX7_known_1 : decode cX7_known 1 = .ok (.invokevirtual 153, 3) := by decide +kernel
theorem dX7_known_4 : decode cX7_known 4 = .ok (.aload_n 0, 1) := by decide +kernel
theorem dX7_known_5 : decode cX7_known 5 = .ok (.aload_n 0, 1) := by decide +kernel
theorem dX7_known_6 : decode cX7_known 6 = .ok (.iload_n 1, 1) := by decide +kernel
theorem dX7_known_7 : decode cX7_known 7 = .ok (.invokevirtual 94, 3) := by decide +kernel
theorem dX7_known_10 : decode cX7_known 10 = .ok (.iconst 1, 1) := by decide +kernel
theorem dX7_known_11 : decode cX7_known 11 = .ok (.invokevirtual 97, 3) := by decide +kernel
theorem dX7_known_14 : decode cX7_known 14 = .ok (.ifCond .eq 8, 3) := by decide +kernel
theorem dX7_known_17 : decode cX7_known 17 = .ok (.bipush 45, 2) := by decide +kernel
theorem dX7_known_19 : decode cX7_known 19 = .ok (.goto 37, 3) := by decide +kernel
theorem dX7_known_22 : decode cX7_known 22 = .ok (.aload_n 0, 1) := by decide +kernel
theorem dX7_known_23 : decode cX7_known 23 = .ok (.getfield 130, 3) := by decide +kernel
theorem dX7_known_26 : decode cX7_known 26 = .ok (.iload_n 1, 1) := by decide +kernel
theorem dX7_known_27 : decode cX7_known 27 = .ok (.invokestatic 71, 3) := by decide +kernel
theorem dX7_known_30 : decode cX7_known 30 = .ok (.ifCond .eq 8, 3) := by decide +kernel
theorem dX7_known_33 : decode cX7_known 33 = .ok (.bipush 105, 2) := by decide +kernel
theorem dX7_known_35 : decode cX7_known 35 = .ok (.goto 21, 3) := by decide +kernel
theorem dX7_known_38 : decode cX7_known 38 = .ok (.aload_n 0, 1) := by decide +kernel
theorem dX7_known_39 : decode cX7_known 39 = .ok (.getfield 133, 3) := by decide +kernel
theorem dX7_known_42 : decode cX7_known 42 = .ok (.iload_n 1, 1) := by decide +kernel
theorem dX7_known_43 : decode cX7_known 43 = .ok (.invokestatic 71, 3) := by decide +kernel
theorem dX7_known_46 : decode cX7_known 46 = .ok (.ifCond .eq 8, 3) := by decide +kernel
theorem dX7_known_49 : decode cX7_known 49 = .ok (.bipush 110, 2) := by decide +kernel
theorem dX7_known_51 : decode cX7_known 51 = .ok (.goto 5, 3) := by decide +kernel
theorem dX7_known_54 : decode cX7_known 54 = .ok (.bipush 117, 2) := by decide +kernel
theorem dX7_known_56 : decode cX7_known 56 = .ok (.ireturn, 1) := by decide +kernel
theorem dX7_reasonOf_0 : decode cX7_reasonOf 0 = .ok (.aload_n 0, 1) := by decide +kernel
theorem dX7_reasonOf_1 : decode cX7_reasonOf 1 = .ok (.invokevirtual 153, 3) := by decide +kernel
theorem dX7_reasonOf_4 : decode cX7_reasonOf 4 = .ok (.aload_n 0, 1) := by decide +kernel
theorem dX7_reasonOf_5 : decode cX7_reasonOf 5 = .ok (.aload_n 0, 1) := by decide +kernel
theorem dX7_reasonOf_6 : decode cX7_reasonOf 6 = .ok (.iload_n 1, 1) := by decide +kernel
theorem dX7_reasonOf_7 : decode cX7_reasonOf 7 = .ok (.invokevirtual 94, 3) := by decide +kernel
theorem dX7_reasonOf_10 : decode cX7_reasonOf 10 = .ok (.iconst 1, 1) := by decide +kernel
theorem dX7_reasonOf_11 : decode cX7_reasonOf 11 = .ok (.invokevirtual 97, 3) := by decide +kernel
theorem dX7_reasonOf_14 : decode cX7_reasonOf 14 = .ok (.ifCond .ne 27, 3) := by decide +kernel
theorem dX7_reasonOf_17 : decode cX7_reasonOf 17 = .ok (.aload_n 0, 1) := by decide +kernel
theorem dX7_reasonOf_18 : decode cX7_reasonOf 18 = .ok (.aload_n 0, 1) := by decide +kernel
theorem dX7_reasonOf_19 : decode cX7_reasonOf 19 = .ok (.getfield 36, 3) := by decide +kernel
theorem dX7_reasonOf_22 : decode cX7_reasonOf 22 = .ok (.iload_n 1, 1) := by decide +kernel
theorem dX7_reasonOf_23 : decode cX7_reasonOf 23 = .ok (.caload, 1) := by decide +kernel
theorem dX7_reasonOf_24 : decode cX7_reasonOf 24 = .ok (.bipush 45, 2) := by decide +kernel
theorem dX7_reasonOf_26 : decode cX7_reasonOf 26 = .ok (.if_icmp .ne 7, 3) := by decide +kernel
theorem dX7_reasonOf_29 : decode cX7_reasonOf 29 = .ok (.iconst 1, 1) := by decide +kernel
theorem dX7_reasonOf_30 : decode cX7_reasonOf 30 = .ok (.goto 4, 3) := by decide +kernel
theorem dX7_reasonOf_33 : decode cX7_reasonOf 33 = .ok (.iconst 0, 1) := by decide +kernel
theorem dX7_reasonOf_34 : decode cX7_reasonOf 34 = .ok (.iconst 2, 1) := by decide +kernel
theorem dX7_reasonOf_35 : decode cX7_reasonOf 35 = .ok (.invokevirtual 97, 3) := by decide +kernel
theorem dX7_reasonOf_38 : decode cX7_reasonOf 38 = .ok (.ifCond .eq 8, 3) := by decide +kernel
theorem dX7_reasonOf_41 : decode cX7_reasonOf 41 = .ok (.bipush 45, 2) := by decide +kernel
theorem dX7_reasonOf_43 : decode cX7_reasonOf 43 = .ok (.goto 9, 3) := by decide +kernel
theorem dX7_reasonOf_46 : decode cX7_reasonOf 46 = .ok (.aload_n 0, 1) := by decide +kernel
theorem dX7_reasonOf_47 : decode cX7_reasonOf 47 = .ok (.getfield 36, 3) := by decide +kernel
theorem dX7_reasonOf_50 : decode cX7_reasonOf 50 = .ok (.iload_n 1, 1) := by decide +kernel
theorem dX7_reasonOf_51 : decode cX7_reasonOf 51 = .ok (.caload, 1) := by decide +kernel
theorem dX7_reasonOf_52 : decode cX7_reasonOf 52 = .ok (.ireturn, 1) := by decide +kernel
theorem dX7_reasonRule_0 : decode cX7_reasonRule 0 = .ok (.aload_n 0, 1) := by decide +kernel
theorem dX7_reasonRule_1 : decode cX7_reasonRule 1 = .ok (.invokevirtual 153, 3) := by decide +kernel
theorem dX7_reasonRule_4 : decode cX7_reasonRule 4 = .ok (.aload_n 0, 1) := by decide +kernel
theorem dX7_reasonRule_5 : decode cX7_reasonRule 5 = .ok (.aload_n 0, 1) := by decide +kernel
theorem dX7_reasonRule_6 : decode cX7_reasonRule 6 = .ok (.iload_n 1, 1) := by decide +kernel
theorem dX7_reasonRule_7 : decode cX7_reasonRule 7 = .ok (.invokevirtual 94, 3) := by decide +kernel
theorem dX7_reasonRule_10 : decode cX7_reasonRule 10 = .ok (.iconst 1, 1) := by decide +kernel
theorem dX7_reasonRule_11 : decode cX7_reasonRule 11 = .ok (.invokevirtual 97, 3) := by decide +kernel
theorem dX7_reasonRule_14 : decode cX7_reasonRule 14 = .ok (.ifCond .ne 27, 3) := by decide +kernel
theorem dX7_reasonRule_17 : decode cX7_reasonRule 17 = .ok (.aload_n 0, 1) := by decide +kernel
theorem dX7_reasonRule_18 : decode cX7_reasonRule 18 = .ok (.aload_n 0, 1) := by decide +kernel
theorem dX7_reasonRule_19 : decode cX7_reasonRule 19 = .ok (.getfield 36, 3) := by decide +kernel
theorem dX7_reasonRule_22 : decode cX7_reasonRule 22 = .ok (.iload_n 1, 1) := by decide +kernel
theorem dX7_reasonRule_23 : decode cX7_reasonRule 23 = .ok (.caload, 1) := by decide +kernel
theorem dX7_reasonRule_24 : decode cX7_reasonRule 24 = .ok (.bipush 114, 2) := by decide +kernel
theorem dX7_reasonRule_26 : decode cX7_reasonRule 26 = .ok (.if_icmp .eq 7, 3) := by decide +kernel
theorem dX7_reasonRule_29 : decode cX7_reasonRule 29 = .ok (.iconst 1, 1) := by decide +kernel
theorem dX7_reasonRule_30 : decode cX7_reasonRule 30 = .ok (.goto 4, 3) := by decide +kernel
theorem dX7_reasonRule_33 : decode cX7_reasonRule 33 = .ok (.iconst 0, 1) := by decide +kernel
theorem dX7_reasonRule_34 : decode cX7_reasonRule 34 = .ok (.iconst 2, 1) := by decide +kernel
theorem dX7_reasonRule_35 : decode cX7_reasonRule 35 = .ok (.invokevirtual 97, 3) := by decide +kernel
theorem dX7_reasonRule_38 : decode cX7_reasonRule 38 = .ok (.ifCond .eq 7, 3) := by decide +kernel
theorem dX7_reasonRule_41 : decode cX7_reasonRule 41 = .ok (.iconst 0, 1) := by decide +kernel
theorem dX7_reasonRule_42 : decode cX7_reasonRule 42 = .ok (.goto 9, 3) := by decide +kernel
theorem dX7_reasonRule_45 : decode cX7_reasonRule 45 = .ok (.aload_n 0, 1) := by decide +kernel
theorem dX7_reasonRule_46 : decode cX7_reasonRule 46 = .ok (.getfield 57, 3) := by decide +kernel
theorem dX7_reasonRule_49 : decode cX7_reasonRule 49 = .ok (.iload_n 1, 1) := by decide +kernel
theorem dX7_reasonRule_50 : decode cX7_reasonRule 50 = .ok (.iaload, 1) := by decide +kernel
theorem dX7_reasonRule_51 : decode cX7_reasonRule 51 = .ok (.ireturn, 1) := by decide +kernel
theorem dX7_unknown_0 : decode cX7_unknown 0 = .ok (.aload_n 0, 1) := by decide +kernel
theorem dX7_unknown_1 : decode cX7_unknown 1 = .ok (.iconst 0, 1) := by decide +kernel
theorem dX7_unknown_2 : decode cX7_unknown 2 = .ok (.putfield 64, 3) := by decide +kernel
theorem dX7_unknown_5 : decode cX7_unknown 5 = .ok (.aload_n 0, 1) := by decide +kernel
theorem dX7_unknown_6 : decode cX7_unknown 6 = .ok (.invokevirtual 112, 3) := by decide +kernel
theorem dX7_unknown_9 : decode cX7_unknown 9 = .ok (.ireturn, 1) := by decide +kernel
theorem dX7_isNoSet_0 : decode cX7_isNoSet 0 = .ok (.aload_n 0, 1) := by decide +kernel
theorem dX7_isNoSet_1 : decode cX7_isNoSet 1 = .ok (.iload_n 1, 1) := by decide +kernel
theorem dX7_isNoSet_2 : decode cX7_isNoSet 2 = .ok (.ifCond .lt 13, 3) := by decide +kernel
theorem dX7_isNoSet_5 : decode cX7_isNoSet 5 = .ok (.iload_n 1, 1) := by decide +kernel
theorem dX7_isNoSet_6 : decode cX7_isNoSet 6 = .ok (.iconst 1, 1) := by decide +kernel
theorem dX7_isNoSet_7 : decode cX7_isNoSet 7 = .ok (.aload_n 0, 1) := by decide +kernel
theorem dX7_isNoSet_8 : decode cX7_isNoSet 8 = .ok (.getfield 60, 3) := by decide +kernel
theorem dX7_isNoSet_11 : decode cX7_isNoSet 11 = .ok (.ishl, 1) := by decide +kernel
theorem dX7_isNoSet_12 : decode cX7_isNoSet 12 = .ok (.if_icmp .lt 7, 3) := by decide +kernel
theorem dX7_isNoSet_15 : decode cX7_isNoSet 15 = .ok (.iconst 1, 1) := by decide +kernel
theorem dX7_isNoSet_16 : decode cX7_isNoSet 16 = .ok (.goto 4, 3) := by decide +kernel
theorem dX7_isNoSet_19 : decode cX7_isNoSet 19 = .ok (.iconst 0, 1) := by decide +kernel
theorem dX7_isNoSet_20 : decode cX7_isNoSet 20 = .ok (.iconst 1, 1) := by decide +kernel
theorem dX7_isNoSet_21 : decode cX7_isNoSet 21 = .ok (.invokevirtual 97, 3) := by decide +kernel
theorem dX7_isNoSet_24 : decode cX7_isNoSet 24 = .ok (.ireturn, 1) := by decide +kernel
theorem dX7_isConfiguration_0 : decode cX7_isConfiguration 0 = .ok (.aload_n 0, 1) := by decide +kernel
theorem dX7_isConfiguration_1 : decode cX7_isConfiguration 1 = .ok (.iload_n 1, 1) := by decide +kernel
theorem dX7_isConfiguration_2 : decode cX7_isConfiguration 2 = .ok (.invokevirtual 156, 3) := by decide +kernel
theorem dX7_isConfiguration_5 : decode cX7_isConfiguration 5 = .ok (.ifCond .ne 15, 3) := by decide +kernel
theorem dX7_isConfiguration_8 : decode cX7_isConfiguration 8 = .ok (.aload_n 0, 1) := by decide +kernel
theorem dX7_isConfiguration_9 : decode cX7_isConfiguration 9 = .ok (.iload_n 1, 1) := by decide +kernel
theorem dX7_isConfiguration_10 : decode cX7_isConfiguration 10 = .ok (.invokevirtual 87, 3) := by decide +kernel
theorem dX7_isConfiguration_13 : decode cX7_isConfiguration 13 = .ok (.ifCond .eq 7, 3) := by decide +kernel
theorem dX7_isConfiguration_16 : decode cX7_isConfiguration 16 = .ok (.iconst 1, 1) := by decide +kernel
theorem dX7_isConfiguration_17 : decode cX7_isConfiguration 17 = .ok (.goto 4, 3) := by decide +kernel
theorem dX7_isConfiguration_20 : decode cX7_isConfiguration 20 = .ok (.iconst 0, 1) := by decide +kernel
theorem dX7_isConfiguration_21 : decode cX7_isConfiguration 21 = .ok (.ireturn, 1) := by decide +kernel
theorem dX7_completions_0 : decode cX7_completions 0 = .ok (.aload_n 0, 1) := by decide +kernel
theorem dX7_completions_1 : decode cX7_completions 1 = .ok (.iconst 0, 1) := by decide +kernel
theorem dX7_completions_2 : decode cX7_completions 2 = .ok (.putfield 64, 3) := by decide +kernel
theorem dX7_completions_5 : decode cX7_completions 5 = .ok (.lconst 0, 1) := by decide +kernel
theorem dX7_completions_6 : decode cX7_completions 6 = .ok (.lstore_n 1, 1) := by decide +kernel
theorem dX7_completions_7 : decode cX7_completions 7 = .ok (.iconst 1, 1) := by decide +kernel
theorem dX7_completions_8 : decode cX7_completions 8 = .ok (.istore_n 3, 1) := by decide +kernel
theorem dX7_completions_9 : decode cX7_completions 9 = .ok (.iload_n 3, 1) := by decide +kernel
theorem dX7_completions_10 : decode cX7_completions 10 = .ok (.iconst 1, 1) := by decide +kernel
theorem dX7_completions_11 : decode cX7_completions 11 = .ok (.aload_n 0, 1) := by decide +kernel
theorem dX7_completions_12 : decode cX7_completions 12 = .ok (.getfield 60, 3) := by decide +kernel
theorem dX7_completions_15 : decode cX7_completions 15 = .ok (.ishl, 1) := by decide +kernel
theorem dX7_completions_16 : decode cX7_completions 16 = .ok (.if_icmp .ge 25, 3) := by decide +kernel
theorem dX7_completions_19 : decode cX7_completions 19 = .ok (.lload_n 1, 1) := by decide +kernel
theorem dX7_completions_20 : decode cX7_completions 20 = .ok (.aload_n 0, 1) := by decide +kernel
theorem dX7_completions_21 : decode cX7_completions 21 = .ok (.iload_n 3, 1) := by decide +kernel
theorem dX7_completions_22 : decode cX7_completions 22 = .ok (.invokevirtual 91, 3) := by decide +kernel
theorem dX7_completions_25 : decode cX7_completions 25 = .ok (.ifCond .eq 7, 3) := by decide +kernel
theorem dX7_completions_28 : decode cX7_completions 28 = .ok (.lconst 1, 1) := by decide +kernel
theorem dX7_completions_29 : decode cX7_completions 29 = .ok (.goto 4, 3) := by decide +kernel
theorem dX7_completions_32 : decode cX7_completions 32 = .ok (.lconst 0, 1) := by decide +kernel
theorem dX7_completions_33 : decode cX7_completions 33 = .ok (.ladd, 1) := by decide +kernel
theorem dX7_completions_34 : decode cX7_completions 34 = .ok (.lstore_n 1, 1) := by decide +kernel
theorem dX7_completions_35 : decode cX7_completions 35 = .ok (.iinc 3 2, 3) := by decide +kernel
theorem dX7_completions_38 : decode cX7_completions 38 = .ok (.goto (-29), 3) := by decide +kernel
theorem dX7_completions_41 : decode cX7_completions 41 = .ok (.lload_n 1, 1) := by decide +kernel
theorem dX7_completions_42 : decode cX7_completions 42 = .ok (.lreturn, 1) := by decide +kernel
theorem dX7_completionsByAll_0 : decode cX7_completionsByAll 0 = .ok (.aload_n 0, 1) := by decide +kernel
theorem dX7_completionsByAll_1 : decode cX7_completionsByAll 1 = .ok (.invokevirtual 159, 3) := by decide +kernel
theorem dX7_completionsByAll_4 : decode cX7_completionsByAll 4 = .ok (.lreturn, 1) := by decide +kernel
theorem dX7_layer_0 : decode cX7_layer 0 = .ok (.aload_n 0, 1) := by decide +kernel
theorem dX7_layer_1 : decode cX7_layer 1 = .ok (.getfield 33, 3) := by decide +kernel
theorem dX7_layer_4 : decode cX7_layer 4 = .ok (.aload_n 0, 1) := by decide +kernel
theorem dX7_layer_5 : decode cX7_layer 5 = .ok (.getfield 163, 3) := by decide +kernel
theorem dX7_layer_8 : decode cX7_layer 8 = .ok (.iload_n 1, 1) := by decide +kernel
theorem dX7_layer_9 : decode cX7_layer 9 = .ok (.castore, 1) := by decide +kernel
theorem dX7_layer_10 : decode cX7_layer 10 = .ok (.aload_n 0, 1) := by decide +kernel
theorem dX7_layer_11 : decode cX7_layer 11 = .ok (.getfield 48, 3) := by decide +kernel
theorem dX7_layer_14 : decode cX7_layer 14 = .ok (.aload_n 0, 1) := by decide +kernel
theorem dX7_layer_15 : decode cX7_layer 15 = .ok (.getfield 163, 3) := by decide +kernel
theorem dX7_layer_18 : decode cX7_layer 18 = .ok (.iload_n 2, 1) := by decide +kernel
theorem dX7_layer_19 : decode cX7_layer 19 = .ok (.iastore, 1) := by decide +kernel
theorem dX7_layer_20 : decode cX7_layer 20 = .ok (.aload_n 0, 1) := by decide +kernel
theorem dX7_layer_21 : decode cX7_layer 21 = .ok (.getfield 51, 3) := by decide +kernel
theorem dX7_layer_24 : decode cX7_layer 24 = .ok (.aload_n 0, 1) := by decide +kernel
theorem dX7_layer_25 : decode cX7_layer 25 = .ok (.getfield 163, 3) := by decide +kernel
theorem dX7_layer_28 : decode cX7_layer 28 = .ok (.iload_n 3, 1) := by decide +kernel
theorem dX7_layer_29 : decode cX7_layer 29 = .ok (.iastore, 1) := by decide +kernel
theorem dX7_layer_30 : decode cX7_layer 30 = .ok (.aload_n 0, 1) := by decide +kernel
theorem dX7_layer_31 : decode cX7_layer 31 = .ok (.getfield 54, 3) := by decide +kernel
theorem dX7_layer_34 : decode cX7_layer 34 = .ok (.aload_n 0, 1) := by decide +kernel
theorem dX7_layer_35 : decode cX7_layer 35 = .ok (.getfield 163, 3) := by decide +kernel
theorem dX7_layer_38 : decode cX7_layer 38 = .ok (.iload 4, 2) := by decide +kernel
theorem dX7_layer_40 : decode cX7_layer 40 = .ok (.iastore, 1) := by decide +kernel
theorem dX7_layer_41 : decode cX7_layer 41 = .ok (.aload_n 0, 1) := by decide +kernel
theorem dX7_layer_42 : decode cX7_layer 42 = .ok (.dup, 1) := by decide +kernel
theorem dX7_layer_43 : decode cX7_layer 43 = .ok (.getfield 163, 3) := by decide +kernel
theorem dX7_layer_46 : decode cX7_layer 46 = .ok (.iconst 1, 1) := by decide +kernel
theorem dX7_layer_47 : decode cX7_layer 47 = .ok (.iadd, 1) := by decide +kernel
theorem dX7_layer_48 : decode cX7_layer 48 = .ok (.putfield 163, 3) := by decide +kernel
theorem dX7_layer_51 : decode cX7_layer 51 = .ok (.aload_n 0, 1) := by decide +kernel
theorem dX7_layer_52 : decode cX7_layer 52 = .ok (.getfield 163, 3) := by decide +kernel
theorem dX7_layer_55 : decode cX7_layer 55 = .ok (.iconst 1, 1) := by decide +kernel
theorem dX7_layer_56 : decode cX7_layer 56 = .ok (.iadd, 1) := by decide +kernel
theorem dX7_layer_57 : decode cX7_layer 57 = .ok (.ireturn, 1) := by decide +kernel
theorem dX7_addBundle_0 : decode cX7_addBundle 0 = .ok (.aload_n 0, 1) := by decide +kernel
theorem dX7_addBundle_1 : decode cX7_addBundle 1 = .ok (.aload_n 0, 1) := by decide +kernel
theorem dX7_addBundle_2 : decode cX7_addBundle 2 = .ok (.iload_n 1, 1) := by decide +kernel
theorem dX7_addBundle_3 : decode cX7_addBundle 3 = .ok (.invokevirtual 94, 3) := by decide +kernel
theorem dX7_addBundle_6 : decode cX7_addBundle 6 = .ok (.ifCond .ne 11, 3) := by decide +kernel
theorem dX7_addBundle_9 : decode cX7_addBundle 9 = .ok (.aload_n 0, 1) := by decide +kernel
theorem dX7_addBundle_10 : decode cX7_addBundle 10 = .ok (.iload_n 2, 1) := by decide +kernel
theorem dX7_addBundle_11 : decode cX7_addBundle 11 = .ok (.invokevirtual 94, 3) := by decide +kernel
theorem dX7_addBundle_14 : decode cX7_addBundle 14 = .ok (.ifCond .eq 7, 3) := by decide +kernel
theorem dX7_addBundle_17 : decode cX7_addBundle 17 = .ok (.iconst 1, 1) := by decide +kernel
theorem dX7_addBundle_18 : decode cX7_addBundle 18 = .ok (.goto 4, 3) := by decide +kernel
theorem dX7_addBundle_21 : decode cX7_addBundle 21 = .ok (.iconst 0, 1) := by decide +kernel
theorem dX7_addBundle_22 : decode cX7_addBundle 22 = .ok (.iconst 1, 1) := by decide +kernel
theorem dX7_addBundle_23 : decode cX7_addBundle 23 = .ok (.invokevirtual 97, 3) := by decide +kernel
theorem dX7_addBundle_26 : decode cX7_addBundle 26 = .ok (.ifCond .ne 49, 3) := by decide +kernel
theorem dX7_addBundle_29 : decode cX7_addBundle 29 = .ok (.aload_n 0, 1) := by decide +kernel
theorem dX7_addBundle_30 : decode cX7_addBundle 30 = .ok (.iload_n 3, 1) := by decide +kernel
theorem dX7_addBundle_31 : decode cX7_addBundle 31 = .ok (.iconst 0, 1) := by decide +kernel
theorem dX7_addBundle_32 : decode cX7_addBundle 32 = .ok (.sipush 999, 3) := by decide +kernel
theorem dX7_addBundle_35 : decode cX7_addBundle 35 = .ok (.invokestatic 67, 3) := by decide +kernel
theorem dX7_addBundle_38 : decode cX7_addBundle 38 = .ok (.ifCond .ne 7, 3) := by decide +kernel
theorem dX7_addBundle_41 : decode cX7_addBundle 41 = .ok (.iconst 1, 1) := by decide +kernel
theorem dX7_addBundle_42 : decode cX7_addBundle 42 = .ok (.goto 4, 3) := by decide +kernel
theorem dX7_addBundle_45 : decode cX7_addBundle 45 = .ok (.iconst 0, 1) := by decide +kernel
theorem dX7_addBundle_46 : decode cX7_addBundle 46 = .ok (.iconst 2, 1) := by decide +kernel
theorem dX7_addBundle_47 : decode cX7_addBundle 47 = .ok (.invokevirtual 97, 3) := by decide +kernel
theorem dX7_addBundle_50 : decode cX7_addBundle 50 = .ok (.ifCond .ne 25, 3) := by decide +kernel
theorem dX7_addBundle_53 : decode cX7_addBundle 53 = .ok (.aload_n 0, 1) := by decide +kernel
theorem dX7_addBundle_54 : decode cX7_addBundle 54 = .ok (.aload_n 0, 1) := by decide +kernel
theorem dX7_addBundle_55 : decode cX7_addBundle 55 = .ok (.getfield 163, 3) := by decide +kernel
theorem dX7_addBundle_58 : decode cX7_addBundle 58 = .ok (.bipush 6, 2) := by decide +kernel
theorem dX7_addBundle_60 : decode cX7_addBundle 60 = .ok (.if_icmp .ne 7, 3) := by decide +kernel
theorem dX7_addBundle_63 : decode cX7_addBundle 63 = .ok (.iconst 1, 1) := by decide +kernel
theorem dX7_addBundle_64 : decode cX7_addBundle 64 = .ok (.goto 4, 3) := by decide +kernel
theorem dX7_addBundle_67 : decode cX7_addBundle 67 = .ok (.iconst 0, 1) := by decide +kernel
theorem dX7_addBundle_68 : decode cX7_addBundle 68 = .ok (.iconst 3, 1) := by decide +kernel
theorem dX7_addBundle_69 : decode cX7_addBundle 69 = .ok (.invokevirtual 97, 3) := by decide +kernel
theorem dX7_addBundle_72 : decode cX7_addBundle 72 = .ok (.ifCond .eq 7, 3) := by decide +kernel
theorem dX7_addBundle_75 : decode cX7_addBundle 75 = .ok (.iconst 0, 1) := by decide +kernel
theorem dX7_addBundle_76 : decode cX7_addBundle 76 = .ok (.goto 12, 3) := by decide +kernel
theorem dX7_addBundle_79 : decode cX7_addBundle 79 = .ok (.aload_n 0, 1) := by decide +kernel
theorem dX7_addBundle_80 : decode cX7_addBundle 80 = .ok (.bipush 98, 2) := by decide +kernel
theorem dX7_addBundle_82 : decode cX7_addBundle 82 = .ok (.iload_n 1, 1) := by decide +kernel
theorem dX7_addBundle_83 : decode cX7_addBundle 83 = .ok (.iload_n 2, 1) := by decide +kernel
theorem dX7_addBundle_84 : decode cX7_addBundle 84 = .ok (.iload_n 3, 1) := by decide +kernel
theorem dX7_addBundle_85 : decode cX7_addBundle 85 = .ok (.invokevirtual 166, 3) := by decide +kernel
theorem dX7_addBundle_88 : decode cX7_addBundle 88 = .ok (.ireturn, 1) := by decide +kernel
theorem dX7_addPercent_0 : decode cX7_addPercent 0 = .ok (.aload_n 0, 1) := by decide +kernel
theorem dX7_addPercent_1 : decode cX7_addPercent 1 = .ok (.iload_n 1, 1) := by decide +kernel
theorem dX7_addPercent_2 : decode cX7_addPercent 2 = .ok (.iconst 0, 1) := by decide +kernel
theorem dX7_addPercent_3 : decode cX7_addPercent 3 = .ok (.bipush 100, 2) := by decide +kernel
theorem dX7_addPercent_5 : decode cX7_addPercent 5 = .ok (.invokestatic 67, 3) := by decide +kernel
theorem dX7_addPercent_8 : decode cX7_addPercent 8 = .ok (.ifCond .ne 7, 3) := by decide +kernel
theorem dX7_addPercent_11 : decode cX7_addPercent 11 = .ok (.iconst 1, 1) := by decide +kernel
theorem dX7_addPercent_12 : decode cX7_addPercent 12 = .ok (.goto 4, 3) := by decide +kernel
theorem dX7_addPercent_15 : decode cX7_addPercent 15 = .ok (.iconst 0, 1) := by decide +kernel
theorem dX7_addPercent_16 : decode cX7_addPercent 16 = .ok (.iconst 1, 1) := by decide +kernel
theorem dX7_addPercent_17 : decode cX7_addPercent 17 = .ok (.invokevirtual 97, 3) := by decide +kernel
theorem dX7_addPercent_20 : decode cX7_addPercent 20 = .ok (.ifCond .ne 25, 3) := by decide +kernel
theorem dX7_addPercent_23 : decode cX7_addPercent 23 = .ok (.aload_n 0, 1) := by decide +kernel
theorem dX7_addPercent_24 : decode cX7_addPercent 24 = .ok (.aload_n 0, 1) := by decide +kernel
theorem dX7_addPercent_25 : decode cX7_addPercent 25 = .ok (.getfield 163, 3) := by decide +kernel
theorem dX7_addPercent_28 : decode cX7_addPercent 28 = .ok (.bipush 6, 2) := by decide +kernel
theorem dX7_addPercent_30 : decode cX7_addPercent 30 = .ok (.if_icmp .ne 7, 3) := by decide +kernel
theorem dX7_addPercent_33 : decode cX7_addPercent 33 = .ok (.iconst 1, 1) := by decide +kernel
theorem dX7_addPercent_34 : decode cX7_addPercent 34 = .ok (.goto 4, 3) := by decide +kernel
theorem dX7_addPercent_37 : decode cX7_addPercent 37 = .ok (.iconst 0, 1) := by decide +kernel
theorem dX7_addPercent_38 : decode cX7_addPercent 38 = .ok (.iconst 2, 1) := by decide +kernel
theorem dX7_addPercent_39 : decode cX7_addPercent 39 = .ok (.invokevirtual 97, 3) := by decide +kernel
theorem dX7_addPercent_42 : decode cX7_addPercent 42 = .ok (.ifCond .eq 7, 3) := by decide +kernel
theorem dX7_addPercent_45 : decode cX7_addPercent 45 = .ok (.iconst 0, 1) := by decide +kernel
theorem dX7_addPercent_46 : decode cX7_addPercent 46 = .ok (.goto 12, 3) := by decide +kernel
theorem dX7_addPercent_49 : decode cX7_addPercent 49 = .ok (.aload_n 0, 1) := by decide +kernel
theorem dX7_addPercent_50 : decode cX7_addPercent 50 = .ok (.bipush 112, 2) := by decide +kernel
theorem dX7_addPercent_52 : decode cX7_addPercent 52 = .ok (.iconst 0, 1) := by decide +kernel
theorem dX7_addPercent_53 : decode cX7_addPercent 53 = .ok (.iconst 0, 1) := by decide +kernel
theorem dX7_addPercent_54 : decode cX7_addPercent 54 = .ok (.iload_n 1, 1) := by decide +kernel
theorem dX7_addPercent_55 : decode cX7_addPercent 55 = .ok (.invokevirtual 166, 3) := by decide +kernel
theorem dX7_addPercent_58 : decode cX7_addPercent 58 = .ok (.ireturn, 1) := by decide +kernel
theorem dX7_addSurcharge_0 : decode cX7_addSurcharge 0 = .ok (.aload_n 0, 1) := by decide +kernel
theorem dX7_addSurcharge_1 : decode cX7_addSurcharge 1 = .ok (.iload_n 1, 1) := by decide +kernel
theorem dX7_addSurcharge_2 : decode cX7_addSurcharge 2 = .ok (.iconst 0, 1) := by decide +kernel
theorem dX7_addSurcharge_3 : decode cX7_addSurcharge 3 = .ok (.bipush 12, 2) := by decide +kernel
theorem dX7_addSurcharge_5 : decode cX7_addSurcharge 5 = .ok (.invokestatic 67, 3) := by decide +kernel
theorem dX7_addSurcharge_8 : decode cX7_addSurcharge 8 = .ok (.ifCond .eq 14, 3) := by decide +kernel
theorem dX7_addSurcharge_11 : decode cX7_addSurcharge 11 = .ok (.iload_n 2, 1) := by decide +kernel
theorem dX7_addSurcharge_12 : decode cX7_addSurcharge 12 = .ok (.iconst 0, 1) := by decide +kernel
theorem dX7_addSurcharge_13 : decode cX7_addSurcharge 13 = .ok (.sipush 999, 3) := by decide +kernel
theorem dX7_addSurcharge_16 : decode cX7_addSurcharge 16 = .ok (.invokestatic 67, 3) := by decide +kernel
theorem dX7_addSurcharge_19 : decode cX7_addSurcharge 19 = .ok (.ifCond .ne 7, 3) := by decide +kernel
theorem dX7_addSurcharge_22 : decode cX7_addSurcharge 22 = .ok (.iconst 1, 1) := by decide +kernel
theorem dX7_addSurcharge_23 : decode cX7_addSurcharge 23 = .ok (.goto 4, 3) := by decide +kernel
theorem dX7_addSurcharge_26 : decode cX7_addSurcharge 26 = .ok (.iconst 0, 1) := by decide +kernel
theorem dX7_addSurcharge_27 : decode cX7_addSurcharge 27 = .ok (.iconst 1, 1) := by decide +kernel
theorem dX7_addSurcharge_28 : decode cX7_addSurcharge 28 = .ok (.invokevirtual 97, 3) := by decide +kernel
theorem dX7_addSurcharge_31 : decode cX7_addSurcharge 31 = .ok (.ifCond .ne 25, 3) := by decide +kernel
theorem dX7_addSurcharge_34 : decode cX7_addSurcharge 34 = .ok (.aload_n 0, 1) := by decide +kernel
theorem dX7_addSurcharge_35 : decode cX7_addSurcharge 35 = .ok (.aload_n 0, 1) := by decide +kernel
theorem dX7_addSurcharge_36 : decode cX7_addSurcharge 36 = .ok (.getfield 163, 3) := by decide +kernel
theorem dX7_addSurcharge_39 : decode cX7_addSurcharge 39 = .ok (.bipush 6, 2) := by decide +kernel
theorem dX7_addSurcharge_41 : decode cX7_addSurcharge 41 = .ok (.if_icmp .ne 7, 3) := by decide +kernel
theorem dX7_addSurcharge_44 : decode cX7_addSurcharge 44 = .ok (.iconst 1, 1) := by decide +kernel
theorem dX7_addSurcharge_45 : decode cX7_addSurcharge 45 = .ok (.goto 4, 3) := by decide +kernel
theorem dX7_addSurcharge_48 : decode cX7_addSurcharge 48 = .ok (.iconst 0, 1) := by decide +kernel
theorem dX7_addSurcharge_49 : decode cX7_addSurcharge 49 = .ok (.iconst 2, 1) := by decide +kernel
theorem dX7_addSurcharge_50 : decode cX7_addSurcharge 50 = .ok (.invokevirtual 97, 3) := by decide +kernel
theorem dX7_addSurcharge_53 : decode cX7_addSurcharge 53 = .ok (.ifCond .eq 7, 3) := by decide +kernel
theorem dX7_addSurcharge_56 : decode cX7_addSurcharge 56 = .ok (.iconst 0, 1) := by decide +kernel
theorem dX7_addSurcharge_57 : decode cX7_addSurcharge 57 = .ok (.goto 12, 3) := by decide +kernel
theorem dX7_addSurcharge_60 : decode cX7_addSurcharge 60 = .ok (.aload_n 0, 1) := by decide +kernel
theorem dX7_addSurcharge_61 : decode cX7_addSurcharge 61 = .ok (.bipush 115, 2) := by decide +kernel
theorem dX7_addSurcharge_63 : decode cX7_addSurcharge 63 = .ok (.iload_n 1, 1) := by decide +kernel
theorem dX7_addSurcharge_64 : decode cX7_addSurcharge 64 = .ok (.iconst 0, 1) := by decide +kernel
theorem dX7_addSurcharge_65 : decode cX7_addSurcharge 65 = .ok (.iload_n 2, 1) := by decide +kernel
theorem dX7_addSurcharge_66 : decode cX7_addSurcharge 66 = .ok (.invokevirtual 166, 3) := by decide +kernel
theorem dX7_addSurcharge_69 : decode cX7_addSurcharge 69 = .ok (.ireturn, 1) := by decide +kernel
theorem dX7_removeLayer_0 : decode cX7_removeLayer 0 = .ok (.aload_n 0, 1) := by decide +kernel
theorem dX7_removeLayer_1 : decode cX7_removeLayer 1 = .ok (.aload_n 0, 1) := by decide +kernel
theorem dX7_removeLayer_2 : decode cX7_removeLayer 2 = .ok (.getfield 163, 3) := by decide +kernel
theorem dX7_removeLayer_5 : decode cX7_removeLayer 5 = .ok (.ifCond .ne 7, 3) := by decide +kernel
theorem dX7_removeLayer_8 : decode cX7_removeLayer 8 = .ok (.iconst 1, 1) := by decide +kernel
theorem dX7_removeLayer_9 : decode cX7_removeLayer 9 = .ok (.goto 4, 3) := by decide +kernel
theorem dX7_removeLayer_12 : decode cX7_removeLayer 12 = .ok (.iconst 0, 1) := by decide +kernel
theorem dX7_removeLayer_13 : decode cX7_removeLayer 13 = .ok (.iconst 1, 1) := by decide +kernel
theorem dX7_removeLayer_14 : decode cX7_removeLayer 14 = .ok (.invokevirtual 97, 3) := by decide +kernel
theorem dX7_removeLayer_17 : decode cX7_removeLayer 17 = .ok (.ifCond .eq 5, 3) := by decide +kernel
theorem dX7_removeLayer_20 : decode cX7_removeLayer 20 = .ok (.iconst 0, 1) := by decide +kernel
theorem dX7_removeLayer_21 : decode cX7_removeLayer 21 = .ok (.ireturn, 1) := by decide +kernel
theorem dX7_removeLayer_22 : decode cX7_removeLayer 22 = .ok (.aload_n 0, 1) := by decide +kernel
theorem dX7_removeLayer_23 : decode cX7_removeLayer 23 = .ok (.dup, 1) := by decide +kernel
theorem dX7_removeLayer_24 : decode cX7_removeLayer 24 = .ok (.getfield 163, 3) := by decide +kernel
theorem dX7_removeLayer_27 : decode cX7_removeLayer 27 = .ok (.iconst 1, 1) := by decide +kernel
theorem dX7_removeLayer_28 : decode cX7_removeLayer 28 = .ok (.isub, 1) := by decide +kernel
theorem dX7_removeLayer_29 : decode cX7_removeLayer 29 = .ok (.putfield 163, 3) := by decide +kernel
theorem dX7_removeLayer_32 : decode cX7_removeLayer 32 = .ok (.aload_n 0, 1) := by decide +kernel
theorem dX7_removeLayer_33 : decode cX7_removeLayer 33 = .ok (.getfield 163, 3) := by decide +kernel
theorem dX7_removeLayer_36 : decode cX7_removeLayer 36 = .ok (.iconst 1, 1) := by decide +kernel
theorem dX7_removeLayer_37 : decode cX7_removeLayer 37 = .ok (.iadd, 1) := by decide +kernel
theorem dX7_removeLayer_38 : decode cX7_removeLayer 38 = .ok (.ireturn, 1) := by decide +kernel
theorem dX7_priced_0 : decode cX7_priced 0 = .ok (.iconst 0, 1) := by decide +kernel
theorem dX7_priced_1 : decode cX7_priced 1 = .ok (.istore_n 2, 1) := by decide +kernel
theorem dX7_priced_2 : decode cX7_priced 2 = .ok (.iconst 0, 1) := by decide +kernel
theorem dX7_priced_3 : decode cX7_priced 3 = .ok (.istore_n 3, 1) := by decide +kernel
theorem dX7_priced_4 : decode cX7_priced 4 = .ok (.iload_n 3, 1) := by decide +kernel
theorem dX7_priced_5 : decode cX7_priced 5 = .ok (.aload_n 0, 1) := by decide +kernel
theorem dX7_priced_6 : decode cX7_priced 6 = .ok (.getfield 60, 3) := by decide +kernel
theorem dX7_priced_9 : decode cX7_priced 9 = .ok (.if_icmp .ge 30, 3) := by decide +kernel
theorem dX7_priced_12 : decode cX7_priced 12 = .ok (.iload_n 2, 1) := by decide +kernel
theorem dX7_priced_13 : decode cX7_priced 13 = .ok (.iload_n 1, 1) := by decide +kernel
theorem dX7_priced_14 : decode cX7_priced 14 = .ok (.iload_n 3, 1) := by decide +kernel
theorem dX7_priced_15 : decode cX7_priced 15 = .ok (.invokestatic 71, 3) := by decide +kernel
theorem dX7_priced_18 : decode cX7_priced 18 = .ok (.ifCond .eq 12, 3) := by decide +kernel
theorem dX7_priced_21 : decode cX7_priced 21 = .ok (.aload_n 0, 1) := by decide +kernel
theorem dX7_priced_22 : decode cX7_priced 22 = .ok (.getfield 13, 3) := by decide +kernel
theorem dX7_priced_25 : decode cX7_priced 25 = .ok (.iload_n 3, 1) := by decide +kernel
theorem dX7_priced_26 : decode cX7_priced 26 = .ok (.iaload, 1) := by decide +kernel
theorem dX7_priced_27 : decode cX7_priced 27 = .ok (.goto 4, 3) := by decide +kernel
theorem dX7_priced_30 : decode cX7_priced 30 = .ok (.iconst 0, 1) := by decide +kernel
theorem dX7_priced_31 : decode cX7_priced 31 = .ok (.iadd, 1) := by decide +kernel
theorem dX7_priced_32 : decode cX7_priced 32 = .ok (.istore_n 2, 1) := by decide +kernel
theorem dX7_priced_33 : decode cX7_priced 33 = .ok (.iinc 3 1, 3) := by decide +kernel
theorem dX7_priced_36 : decode cX7_priced 36 = .ok (.goto (-32), 3) := by decide +kernel
theorem dX7_priced_39 : decode cX7_priced 39 = .ok (.iconst 0, 1) := by decide +kernel
theorem dX7_priced_40 : decode cX7_priced 40 = .ok (.istore_n 3, 1) := by decide +kernel
theorem dX7_priced_41 : decode cX7_priced 41 = .ok (.iload_n 3, 1) := by decide +kernel
theorem dX7_priced_42 : decode cX7_priced 42 = .ok (.aload_n 0, 1) := by decide +kernel
theorem dX7_priced_43 : decode cX7_priced 43 = .ok (.getfield 163, 3) := by decide +kernel
theorem dX7_priced_46 : decode cX7_priced 46 = .ok (.if_icmp .ge 128, 3) := by decide +kernel
theorem dX7_priced_49 : decode cX7_priced 49 = .ok (.iload_n 2, 1) := by decide +kernel
theorem dX7_priced_50 : decode cX7_priced 50 = .ok (.aload_n 0, 1) := by decide +kernel
theorem dX7_priced_51 : decode cX7_priced 51 = .ok (.getfield 33, 3) := by decide +kernel
theorem dX7_priced_54 : decode cX7_priced 54 = .ok (.iload_n 3, 1) := by decide +kernel
theorem dX7_priced_55 : decode cX7_priced 55 = .ok (.caload, 1) := by decide +kernel
theorem dX7_priced_56 : decode cX7_priced 56 = .ok (.bipush 98, 2) := by decide +kernel
theorem dX7_priced_58 : decode cX7_priced 58 = .ok (.if_icmp .ne 38, 3) := by decide +kernel
theorem dX7_priced_61 : decode cX7_priced 61 = .ok (.iload_n 1, 1) := by decide +kernel
theorem dX7_priced_62 : decode cX7_priced 62 = .ok (.aload_n 0, 1) := by decide +kernel
theorem dX7_priced_63 : decode cX7_priced 63 = .ok (.getfield 48, 3) := by decide +kernel
theorem dX7_priced_66 : decode cX7_priced 66 = .ok (.iload_n 3, 1) := by decide +kernel
theorem dX7_priced_67 : decode cX7_priced 67 = .ok (.iaload, 1) := by decide +kernel
theorem dX7_priced_68 : decode cX7_priced 68 = .ok (.invokestatic 71, 3) := by decide +kernel
theorem dX7_priced_71 : decode cX7_priced 71 = .ok (.ifCond .eq 25, 3) := by decide +kernel
theorem dX7_priced_74 : decode cX7_priced 74 = .ok (.iload_n 1, 1) := by decide +kernel
theorem dX7_priced_75 : decode cX7_priced 75 = .ok (.aload_n 0, 1) := by decide +kernel
theorem dX7_priced_76 : decode cX7_priced 76 = .ok (.getfield 51, 3) := by decide +kernel
theorem dX7_priced_79 : decode cX7_priced 79 = .ok (.iload_n 3, 1) := by decide +kernel
theorem dX7_priced_80 : decode cX7_priced 80 = .ok (.iaload, 1) := by decide +kernel
theorem dX7_priced_81 : decode cX7_priced 81 = .ok (.invokestatic 71, 3) := by decide +kernel
theorem dX7_priced_84 : decode cX7_priced 84 = .ok (.ifCond .eq 12, 3) := by decide +kernel
theorem dX7_priced_87 : decode cX7_priced 87 = .ok (.aload_n 0, 1) := by decide +kernel
theorem dX7_priced_88 : decode cX7_priced 88 = .ok (.getfield 54, 3) := by decide +kernel
theorem dX7_priced_91 : decode cX7_priced 91 = .ok (.iload_n 3, 1) := by decide +kernel
theorem dX7_priced_92 : decode cX7_priced 92 = .ok (.iaload, 1) := by decide +kernel
theorem dX7_priced_93 : decode cX7_priced 93 = .ok (.goto 4, 3) := by decide +kernel
theorem dX7_priced_96 : decode cX7_priced 96 = .ok (.iconst 0, 1) := by decide +kernel
theorem dX7_priced_97 : decode cX7_priced 97 = .ok (.isub, 1) := by decide +kernel
theorem dX7_priced_98 : decode cX7_priced 98 = .ok (.istore_n 2, 1) := by decide +kernel
theorem dX7_priced_99 : decode cX7_priced 99 = .ok (.iload_n 2, 1) := by decide +kernel
theorem dX7_priced_100 : decode cX7_priced 100 = .ok (.aload_n 0, 1) := by decide +kernel
theorem dX7_priced_101 : decode cX7_priced 101 = .ok (.getfield 33, 3) := by decide +kernel
theorem dX7_priced_104 : decode cX7_priced 104 = .ok (.iload_n 3, 1) := by decide +kernel
theorem dX7_priced_105 : decode cX7_priced 105 = .ok (.caload, 1) := by decide +kernel
theorem dX7_priced_106 : decode cX7_priced 106 = .ok (.bipush 112, 2) := by decide +kernel
theorem dX7_priced_108 : decode cX7_priced 108 = .ok (.if_icmp .ne 17, 3) := by decide +kernel
theorem dX7_priced_111 : decode cX7_priced 111 = .ok (.iload_n 2, 1) := by decide +kernel
theorem dX7_priced_112 : decode cX7_priced 112 = .ok (.aload_n 0, 1) := by decide +kernel
theorem dX7_priced_113 : decode cX7_priced 113 = .ok (.getfield 54, 3) := by decide +kernel
theorem dX7_priced_116 : decode cX7_priced 116 = .ok (.iload_n 3, 1) := by decide +kernel
theorem dX7_priced_117 : decode cX7_priced 117 = .ok (.iaload, 1) := by decide +kernel
theorem dX7_priced_118 : decode cX7_priced 118 = .ok (.imul, 1) := by decide +kernel
theorem dX7_priced_119 : decode cX7_priced 119 = .ok (.bipush 100, 2) := by decide +kernel
theorem dX7_priced_121 : decode cX7_priced 121 = .ok (.idiv, 1) := by decide +kernel
theorem dX7_priced_122 : decode cX7_priced 122 = .ok (.goto 4, 3) := by decide +kernel
theorem dX7_priced_125 : decode cX7_priced 125 = .ok (.iconst 0, 1) := by decide +kernel
theorem dX7_priced_126 : decode cX7_priced 126 = .ok (.isub, 1) := by decide +kernel
theorem dX7_priced_127 : decode cX7_priced 127 = .ok (.istore_n 2, 1) := by decide +kernel
theorem dX7_priced_128 : decode cX7_priced 128 = .ok (.iload_n 2, 1) := by decide +kernel
theorem dX7_priced_129 : decode cX7_priced 129 = .ok (.aload_n 0, 1) := by decide +kernel
theorem dX7_priced_130 : decode cX7_priced 130 = .ok (.getfield 33, 3) := by decide +kernel
theorem dX7_priced_133 : decode cX7_priced 133 = .ok (.iload_n 3, 1) := by decide +kernel
theorem dX7_priced_134 : decode cX7_priced 134 = .ok (.caload, 1) := by decide +kernel
theorem dX7_priced_135 : decode cX7_priced 135 = .ok (.bipush 115, 2) := by decide +kernel
theorem dX7_priced_137 : decode cX7_priced 137 = .ok (.if_icmp .ne 28, 3) := by decide +kernel
theorem dX7_priced_140 : decode cX7_priced 140 = .ok (.aload_n 0, 1) := by decide +kernel
theorem dX7_priced_141 : decode cX7_priced 141 = .ok (.getfield 54, 3) := by decide +kernel
theorem dX7_priced_144 : decode cX7_priced 144 = .ok (.iload_n 3, 1) := by decide +kernel
theorem dX7_priced_145 : decode cX7_priced 145 = .ok (.iaload, 1) := by decide +kernel
theorem dX7_priced_146 : decode cX7_priced 146 = .ok (.iconst 0, 1) := by decide +kernel
theorem dX7_priced_147 : decode cX7_priced 147 = .ok (.iload_n 1, 1) := by decide +kernel
theorem dX7_priced_148 : decode cX7_priced 148 = .ok (.invokestatic 120, 3) := by decide +kernel
theorem dX7_priced_151 : decode cX7_priced 151 = .ok (.aload_n 0, 1) := by decide +kernel
theorem dX7_priced_152 : decode cX7_priced 152 = .ok (.getfield 48, 3) := by decide +kernel
theorem dX7_priced_155 : decode cX7_priced 155 = .ok (.iload_n 3, 1) := by decide +kernel
theorem dX7_priced_156 : decode cX7_priced 156 = .ok (.iaload, 1) := by decide +kernel
theorem dX7_priced_157 : decode cX7_priced 157 = .ok (.isub, 1) := by decide +kernel
theorem dX7_priced_158 : decode cX7_priced 158 = .ok (.invokestatic 169, 3) := by decide +kernel
theorem dX7_priced_161 : decode cX7_priced 161 = .ok (.imul, 1) := by decide +kernel
theorem dX7_priced_162 : decode cX7_priced 162 = .ok (.goto 4, 3) := by decide +kernel
theorem dX7_priced_165 : decode cX7_priced 165 = .ok (.iconst 0, 1) := by decide +kernel
theorem dX7_priced_166 : decode cX7_priced 166 = .ok (.iadd, 1) := by decide +kernel
theorem dX7_priced_167 : decode cX7_priced 167 = .ok (.istore_n 2, 1) := by decide +kernel
theorem dX7_priced_168 : decode cX7_priced 168 = .ok (.iinc 3 1, 3) := by decide +kernel
theorem dX7_priced_171 : decode cX7_priced 171 = .ok (.goto (-130), 3) := by decide +kernel
theorem dX7_priced_174 : decode cX7_priced 174 = .ok (.iload_n 2, 1) := by decide +kernel
theorem dX7_priced_175 : decode cX7_priced 175 = .ok (.ireturn, 1) := by decide +kernel
theorem dX7_price_0 : decode cX7_price 0 = .ok (.aload_n 0, 1) := by decide +kernel
theorem dX7_price_1 : decode cX7_price 1 = .ok (.iload_n 1, 1) := by decide +kernel
theorem dX7_price_2 : decode cX7_price 2 = .ok (.invokevirtual 156, 3) := by decide +kernel
theorem dX7_price_5 : decode cX7_price 5 = .ok (.ifCond .eq 7, 3) := by decide +kernel
theorem dX7_price_8 : decode cX7_price 8 = .ok (.iconst 0, 1) := by decide +kernel
theorem dX7_price_9 : decode cX7_price 9 = .ok (.goto 8, 3) := by decide +kernel
theorem dX7_price_12 : decode cX7_price 12 = .ok (.aload_n 0, 1) := by decide +kernel
theorem dX7_price_13 : decode cX7_price 13 = .ok (.iload_n 1, 1) := by decide +kernel
theorem dX7_price_14 : decode cX7_price 14 = .ok (.invokevirtual 174, 3) := by decide +kernel
theorem dX7_price_17 : decode cX7_price 17 = .ok (.ireturn, 1) := by decide +kernel
theorem dX7_isCheaper_0 : decode cX7_isCheaper 0 = .ok (.aload_n 0, 1) := by decide +kernel
theorem dX7_isCheaper_1 : decode cX7_isCheaper 1 = .ok (.iload_n 1, 1) := by decide +kernel
theorem dX7_isCheaper_2 : decode cX7_isCheaper 2 = .ok (.invokevirtual 174, 3) := by decide +kernel
theorem dX7_isCheaper_5 : decode cX7_isCheaper 5 = .ok (.istore_n 3, 1) := by decide +kernel
theorem dX7_isCheaper_6 : decode cX7_isCheaper 6 = .ok (.aload_n 0, 1) := by decide +kernel
theorem dX7_isCheaper_7 : decode cX7_isCheaper 7 = .ok (.iload_n 2, 1) := by decide +kernel
theorem dX7_isCheaper_8 : decode cX7_isCheaper 8 = .ok (.invokevirtual 174, 3) := by decide +kernel
theorem dX7_isCheaper_11 : decode cX7_isCheaper 11 = .ok (.istore 4, 2) := by decide +kernel
theorem dX7_isCheaper_13 : decode cX7_isCheaper 13 = .ok (.iload_n 1, 1) := by decide +kernel
theorem dX7_isCheaper_14 : decode cX7_isCheaper 14 = .ok (.invokestatic 120, 3) := by decide +kernel
theorem dX7_isCheaper_17 : decode cX7_isCheaper 17 = .ok (.istore 5, 2) := by decide +kernel
theorem dX7_isCheaper_19 : decode cX7_isCheaper 19 = .ok (.iload_n 2, 1) := by decide +kernel
theorem dX7_isCheaper_20 : decode cX7_isCheaper 20 = .ok (.invokestatic 120, 3) := by decide +kernel
theorem dX7_isCheaper_23 : decode cX7_isCheaper 23 = .ok (.istore 6, 2) := by decide +kernel
theorem dX7_isCheaper_25 : decode cX7_isCheaper 25 = .ok (.iload_n 3, 1) := by decide +kernel
theorem dX7_isCheaper_26 : decode cX7_isCheaper 26 = .ok (.iload 4, 2) := by decide +kernel
theorem dX7_isCheaper_28 : decode cX7_isCheaper 28 = .ok (.if_icmp .lt 28, 3) := by decide +kernel
theorem dX7_isCheaper_31 : decode cX7_isCheaper 31 = .ok (.iload_n 3, 1) := by decide +kernel
theorem dX7_isCheaper_32 : decode cX7_isCheaper 32 = .ok (.iload 4, 2) := by decide +kernel
theorem dX7_isCheaper_34 : decode cX7_isCheaper 34 = .ok (.if_icmp .ne 26, 3) := by decide +kernel
theorem dX7_isCheaper_37 : decode cX7_isCheaper 37 = .ok (.iload 5, 2) := by decide +kernel
theorem dX7_isCheaper_39 : decode cX7_isCheaper 39 = .ok (.iload 6, 2) := by decide +kernel
theorem dX7_isCheaper_41 : decode cX7_isCheaper 41 = .ok (.if_icmp .lt 15, 3) := by decide +kernel
theorem dX7_isCheaper_44 : decode cX7_isCheaper 44 = .ok (.iload 5, 2) := by decide +kernel
theorem dX7_isCheaper_46 : decode cX7_isCheaper 46 = .ok (.iload 6, 2) := by decide +kernel
theorem dX7_isCheaper_48 : decode cX7_isCheaper 48 = .ok (.if_icmp .ne 12, 3) := by decide +kernel
theorem dX7_isCheaper_51 : decode cX7_isCheaper 51 = .ok (.iload_n 1, 1) := by decide +kernel
theorem dX7_isCheaper_52 : decode cX7_isCheaper 52 = .ok (.iload_n 2, 1) := by decide +kernel
theorem dX7_isCheaper_53 : decode cX7_isCheaper 53 = .ok (.if_icmp .ge 7, 3) := by decide +kernel
theorem dX7_isCheaper_56 : decode cX7_isCheaper 56 = .ok (.iconst 1, 1) := by decide +kernel
theorem dX7_isCheaper_57 : decode cX7_isCheaper 57 = .ok (.goto 4, 3) := by decide +kernel
theorem dX7_isCheaper_60 : decode cX7_isCheaper 60 = .ok (.iconst 0, 1) := by decide +kernel
theorem dX7_isCheaper_61 : decode cX7_isCheaper 61 = .ok (.ireturn, 1) := by decide +kernel
theorem dX7_cheapest_0 : decode cX7_cheapest 0 = .ok (.aload_n 0, 1) := by decide +kernel
theorem dX7_cheapest_1 : decode cX7_cheapest 1 = .ok (.iconst 0, 1) := by decide +kernel
theorem dX7_cheapest_2 : decode cX7_cheapest 2 = .ok (.putfield 64, 3) := by decide +kernel
theorem dX7_cheapest_5 : decode cX7_cheapest 5 = .ok (.iconst (-1), 1) := by decide +kernel
theorem dX7_cheapest_6 : decode cX7_cheapest 6 = .ok (.istore_n 1, 1) := by decide +kernel
theorem dX7_cheapest_7 : decode cX7_cheapest 7 = .ok (.iconst 1, 1) := by decide +kernel
theorem dX7_cheapest_8 : decode cX7_cheapest 8 = .ok (.istore_n 2, 1) := by decide +kernel
theorem dX7_cheapest_9 : decode cX7_cheapest 9 = .ok (.iload_n 2, 1) := by decide +kernel
theorem dX7_cheapest_10 : decode cX7_cheapest 10 = .ok (.iconst 1, 1) := by decide +kernel
theorem dX7_cheapest_11 : decode cX7_cheapest 11 = .ok (.aload_n 0, 1) := by decide +kernel
theorem dX7_cheapest_12 : decode cX7_cheapest 12 = .ok (.getfield 60, 3) := by decide +kernel
theorem dX7_cheapest_15 : decode cX7_cheapest 15 = .ok (.ishl, 1) := by decide +kernel
theorem dX7_cheapest_16 : decode cX7_cheapest 16 = .ok (.if_icmp .ge 36, 3) := by decide +kernel
theorem dX7_cheapest_19 : decode cX7_cheapest 19 = .ok (.aload_n 0, 1) := by decide +kernel
theorem dX7_cheapest_20 : decode cX7_cheapest 20 = .ok (.iload_n 2, 1) := by decide +kernel
theorem dX7_cheapest_21 : decode cX7_cheapest 21 = .ok (.invokevirtual 91, 3) := by decide +kernel
theorem dX7_cheapest_24 : decode cX7_cheapest 24 = .ok (.ifCond .eq 20, 3) := by decide +kernel
theorem dX7_cheapest_27 : decode cX7_cheapest 27 = .ok (.iload_n 1, 1) := by decide +kernel
theorem dX7_cheapest_28 : decode cX7_cheapest 28 = .ok (.ifCond .lt 12, 3) := by decide +kernel
theorem dX7_cheapest_31 : decode cX7_cheapest 31 = .ok (.aload_n 0, 1) := by decide +kernel
theorem dX7_cheapest_32 : decode cX7_cheapest 32 = .ok (.iload_n 2, 1) := by decide +kernel
theorem dX7_cheapest_33 : decode cX7_cheapest 33 = .ok (.iload_n 1, 1) := by decide +kernel
theorem dX7_cheapest_34 : decode cX7_cheapest 34 = .ok (.invokevirtual 177, 3) := by decide +kernel
theorem dX7_cheapest_37 : decode cX7_cheapest 37 = .ok (.ifCond .eq 7, 3) := by decide +kernel
theorem dX7_cheapest_40 : decode cX7_cheapest 40 = .ok (.iload_n 2, 1) := by decide +kernel
theorem dX7_cheapest_41 : decode cX7_cheapest 41 = .ok (.goto 4, 3) := by decide +kernel
theorem dX7_cheapest_44 : decode cX7_cheapest 44 = .ok (.iload_n 1, 1) := by decide +kernel
theorem dX7_cheapest_45 : decode cX7_cheapest 45 = .ok (.istore_n 1, 1) := by decide +kernel
theorem dX7_cheapest_46 : decode cX7_cheapest 46 = .ok (.iinc 2 2, 3) := by decide +kernel
theorem dX7_cheapest_49 : decode cX7_cheapest 49 = .ok (.goto (-40), 3) := by decide +kernel
theorem dX7_cheapest_52 : decode cX7_cheapest 52 = .ok (.iload_n 1, 1) := by decide +kernel
theorem dX7_cheapest_53 : decode cX7_cheapest 53 = .ok (.ireturn, 1) := by decide +kernel
theorem dX7_cheapestByAll_0 : decode cX7_cheapestByAll 0 = .ok (.aload_n 0, 1) := by decide +kernel
theorem dX7_cheapestByAll_1 : decode cX7_cheapestByAll 1 = .ok (.invokevirtual 180, 3) := by decide +kernel
theorem dX7_cheapestByAll_4 : decode cX7_cheapestByAll 4 = .ok (.ireturn, 1) := by decide +kernel
theorem dX7_complete_0 : decode cX7_complete 0 = .ok (.aload_n 0, 1) := by decide +kernel
theorem dX7_complete_1 : decode cX7_complete 1 = .ok (.invokevirtual 180, 3) := by decide +kernel
theorem dX7_complete_4 : decode cX7_complete 4 = .ok (.istore_n 1, 1) := by decide +kernel
theorem dX7_complete_5 : decode cX7_complete 5 = .ok (.iconst 1, 1) := by decide +kernel
theorem dX7_complete_6 : decode cX7_complete 6 = .ok (.istore_n 2, 1) := by decide +kernel
theorem dX7_complete_7 : decode cX7_complete 7 = .ok (.iload_n 2, 1) := by decide +kernel
theorem dX7_complete_8 : decode cX7_complete 8 = .ok (.aload_n 0, 1) := by decide +kernel
theorem dX7_complete_9 : decode cX7_complete 9 = .ok (.getfield 60, 3) := by decide +kernel
theorem dX7_complete_12 : decode cX7_complete 12 = .ok (.if_icmp .ge 57, 3) := by decide +kernel
theorem dX7_complete_15 : decode cX7_complete 15 = .ok (.aload_n 0, 1) := by decide +kernel
theorem dX7_complete_16 : decode cX7_complete 16 = .ok (.dup, 1) := by decide +kernel
theorem dX7_complete_17 : decode cX7_complete 17 = .ok (.getfield 81, 3) := by decide +kernel
theorem dX7_complete_20 : decode cX7_complete 20 = .ok (.iload_n 1, 1) := by decide +kernel
theorem dX7_complete_21 : decode cX7_complete 21 = .ok (.iload_n 2, 1) := by decide +kernel
theorem dX7_complete_22 : decode cX7_complete 22 = .ok (.invokestatic 71, 3) := by decide +kernel
theorem dX7_complete_25 : decode cX7_complete 25 = .ok (.ifCond .eq 9, 3) := by decide +kernel
theorem dX7_complete_28 : decode cX7_complete 28 = .ok (.iconst 1, 1) := by decide +kernel
theorem dX7_complete_29 : decode cX7_complete 29 = .ok (.iload_n 2, 1) := by decide +kernel
theorem dX7_complete_30 : decode cX7_complete 30 = .ok (.ishl, 1) := by decide +kernel
theorem dX7_complete_31 : decode cX7_complete 31 = .ok (.goto 4, 3) := by decide +kernel
theorem dX7_complete_34 : decode cX7_complete 34 = .ok (.iconst 0, 1) := by decide +kernel
theorem dX7_complete_35 : decode cX7_complete 35 = .ok (.ior, 1) := by decide +kernel
theorem dX7_complete_36 : decode cX7_complete 36 = .ok (.putfield 81, 3) := by decide +kernel
theorem dX7_complete_39 : decode cX7_complete 39 = .ok (.aload_n 0, 1) := by decide +kernel
