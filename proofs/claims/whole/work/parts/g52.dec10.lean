theorem dX12_isRight_227 : decode cX12_isRight 227 = .ok (.invokestatic 439, 3) := by decide +kernel
theorem dX12_isRight_230 : decode cX12_isRight 230 = .ok (.aload_n 0, 1) := by decide +kernel
theorem dX12_isRight_231 : decode cX12_isRight 231 = .ok (.aload_n 0, 1) := by decide +kernel
theorem dX12_isRight_232 : decode cX12_isRight 232 = .ok (.getfield 428, 3) := by decide +kernel
theorem dX12_isRight_235 : decode cX12_isRight 235 = .ok (.bipush 16, 2) := by decide +kernel
theorem dX12_isRight_237 : decode cX12_isRight 237 = .ok (.isub, 1) := by decide +kernel
theorem dX12_isRight_238 : decode cX12_isRight 238 = .ok (.bipush 16, 2) := by decide +kernel
theorem dX12_isRight_240 : decode cX12_isRight 240 = .ok (.invokevirtual 450, 3) := by decide +kernel
theorem dX12_isRight_243 : decode cX12_isRight 243 = .ok (.if_icmp .ne 7, 3) := by decide +kernel
theorem dX12_isRight_246 : decode cX12_isRight 246 = .ok (.iconst 1, 1) := by decide +kernel
theorem dX12_isRight_247 : decode cX12_isRight 247 = .ok (.goto 4, 3) := by decide +kernel
theorem dX12_isRight_250 : decode cX12_isRight 250 = .ok (.iconst 0, 1) := by decide +kernel
theorem dX12_isRight_251 : decode cX12_isRight 251 = .ok (.ireturn, 1) := by decide +kernel
theorem dX12_read_0 : decode cX12_read 0 = .ok (.iconst 0, 1) := by decide +kernel
theorem dX12_read_1 : decode cX12_read 1 = .ok (.istore_n 3, 1) := by decide +kernel
theorem dX12_read_2 : decode cX12_read 2 = .ok (.iload_n 2, 1) := by decide +kernel
theorem dX12_read_3 : decode cX12_read 3 = .ok (.iconst 1, 1) := by decide +kernel
theorem dX12_read_4 : decode cX12_read 4 = .ok (.isub, 1) := by decide +kernel
theorem dX12_read_5 : decode cX12_read 5 = .ok (.istore 4, 2) := by decide +kernel
theorem dX12_read_7 : decode cX12_read 7 = .ok (.iload 4, 2) := by decide +kernel
theorem dX12_read_9 : decode cX12_read 9 = .ok (.ifCond .lt 23, 3) := by decide +kernel
theorem dX12_read_12 : decode cX12_read 12 = .ok (.iconst 2, 1) := by decide +kernel
theorem dX12_read_13 : decode cX12_read 13 = .ok (.iload_n 3, 1) := by decide +kernel
theorem dX12_read_14 : decode cX12_read 14 = .ok (.imul, 1) := by decide +kernel
theorem dX12_read_15 : decode cX12_read 15 = .ok (.aload_n 0, 1) := by decide +kernel
theorem dX12_read_16 : decode cX12_read 16 = .ok (.getfield 231, 3) := by decide +kernel
theorem dX12_read_19 : decode cX12_read 19 = .ok (.iload_n 1, 1) := by decide +kernel
theorem dX12_read_20 : decode cX12_read 20 = .ok (.iload 4, 2) := by decide +kernel
theorem dX12_read_22 : decode cX12_read 22 = .ok (.iadd, 1) := by decide +kernel
theorem dX12_read_23 : decode cX12_read 23 = .ok (.iaload, 1) := by decide +kernel
theorem dX12_read_24 : decode cX12_read 24 = .ok (.iadd, 1) := by decide +kernel
theorem dX12_read_25 : decode cX12_read 25 = .ok (.istore_n 3, 1) := by decide +kernel
theorem dX12_read_26 : decode cX12_read 26 = .ok (.iinc 4 (-1), 3) := by decide +kernel
theorem dX12_read_29 : decode cX12_read 29 = .ok (.goto (-22), 3) := by decide +kernel
theorem dX12_read_32 : decode cX12_read 32 = .ok (.iload_n 3, 1) := by decide +kernel
theorem dX12_read_33 : decode cX12_read 33 = .ok (.ireturn, 1) := by decide +kernel
theorem dX12_unitComes_0 : decode cX12_unitComes 0 = .ok (.iconst 4, 1) := by decide +kernel
theorem dX12_unitComes_1 : decode cX12_unitComes 1 = .ok (.iconst 1, 1) := by decide +kernel
theorem dX12_unitComes_2 : decode cX12_unitComes 2 = .ok (.iload_n 1, 1) := by decide +kernel
theorem dX12_unitComes_3 : decode cX12_unitComes 3 = .ok (.isub, 1) := by decide +kernel
theorem dX12_unitComes_4 : decode cX12_unitComes 4 = .ok (.imul, 1) := by decide +kernel
theorem dX12_unitComes_5 : decode cX12_unitComes 5 = .ok (.aload_n 0, 1) := by decide +kernel
theorem dX12_unitComes_6 : decode cX12_unitComes 6 = .ok (.getfield 285, 3) := by decide +kernel
theorem dX12_unitComes_9 : decode cX12_unitComes 9 = .ok (.iconst 2, 1) := by decide +kernel
theorem dX12_unitComes_10 : decode cX12_unitComes 10 = .ok (.iadd, 1) := by decide +kernel
theorem dX12_unitComes_11 : decode cX12_unitComes 11 = .ok (.iconst 4, 1) := by decide +kernel
theorem dX12_unitComes_12 : decode cX12_unitComes 12 = .ok (.irem, 1) := by decide +kernel
theorem dX12_unitComes_13 : decode cX12_unitComes 13 = .ok (.iadd, 1) := by decide +kernel
theorem dX12_unitComes_14 : decode cX12_unitComes 14 = .ok (.istore_n 2, 1) := by decide +kernel
theorem dX12_unitComes_15 : decode cX12_unitComes 15 = .ok (.aload_n 0, 1) := by decide +kernel
theorem dX12_unitComes_16 : decode cX12_unitComes 16 = .ok (.getfield 285, 3) := by decide +kernel
theorem dX12_unitComes_19 : decode cX12_unitComes 19 = .ok (.iconst 2, 1) := by decide +kernel
theorem dX12_unitComes_20 : decode cX12_unitComes 20 = .ok (.if_icmp .lt 12, 3) := by decide +kernel
theorem dX12_unitComes_23 : decode cX12_unitComes 23 = .ok (.aload_n 0, 1) := by decide +kernel
theorem dX12_unitComes_24 : decode cX12_unitComes 24 = .ok (.getfield 213, 3) := by decide +kernel
theorem dX12_unitComes_27 : decode cX12_unitComes 27 = .ok (.iload_n 2, 1) := by decide +kernel
theorem dX12_unitComes_28 : decode cX12_unitComes 28 = .ok (.iaload, 1) := by decide +kernel
theorem dX12_unitComes_29 : decode cX12_unitComes 29 = .ok (.ifCond .ne 4, 3) := by decide +kernel
theorem dX12_unitComes_32 : decode cX12_unitComes 32 = .ok (.return_, 1) := by decide +kernel
theorem dX12_unitComes_33 : decode cX12_unitComes 33 = .ok (.aload_n 0, 1) := by decide +kernel
theorem dX12_unitComes_34 : decode cX12_unitComes 34 = .ok (.iload_n 2, 1) := by decide +kernel
theorem dX12_unitComes_35 : decode cX12_unitComes 35 = .ok (.invokevirtual 453, 3) := by decide +kernel
theorem dX12_unitComes_38 : decode cX12_unitComes 38 = .ok (.ifCond .ne 14, 3) := by decide +kernel
theorem dX12_unitComes_41 : decode cX12_unitComes 41 = .ok (.aload_n 0, 1) := by decide +kernel
theorem dX12_unitComes_42 : decode cX12_unitComes 42 = .ok (.getfield 194, 3) := by decide +kernel
theorem dX12_unitComes_45 : decode cX12_unitComes 45 = .ok (.iload_n 1, 1) := by decide +kernel
theorem dX12_unitComes_46 : decode cX12_unitComes 46 = .ok (.dup2, 1) := by decide +kernel
theorem dX12_unitComes_47 : decode cX12_unitComes 47 = .ok (.iaload, 1) := by decide +kernel
theorem dX12_unitComes_48 : decode cX12_unitComes 48 = .ok (.iconst 1, 1) := by decide +kernel
theorem dX12_unitComes_49 : decode cX12_unitComes 49 = .ok (.iadd, 1) := by decide +kernel
theorem dX12_unitComes_50 : decode cX12_unitComes 50 = .ok (.iastore, 1) := by decide +kernel
theorem dX12_unitComes_51 : decode cX12_unitComes 51 = .ok (.return_, 1) := by decide +kernel
theorem dX12_unitComes_52 : decode cX12_unitComes 52 = .ok (.aload_n 0, 1) := by decide +kernel
theorem dX12_unitComes_53 : decode cX12_unitComes 53 = .ok (.iconst 0, 1) := by decide +kernel
theorem dX12_unitComes_54 : decode cX12_unitComes 54 = .ok (.bipush 7, 2) := by decide +kernel
theorem dX12_unitComes_56 : decode cX12_unitComes 56 = .ok (.invokevirtual 450, 3) := by decide +kernel
theorem dX12_unitComes_59 : decode cX12_unitComes 59 = .ok (.aload_n 0, 1) := by decide +kernel
theorem dX12_unitComes_60 : decode cX12_unitComes 60 = .ok (.getfield 176, 3) := by decide +kernel
theorem dX12_unitComes_63 : decode cX12_unitComes 63 = .ok (.iload_n 1, 1) := by decide +kernel
theorem dX12_unitComes_64 : decode cX12_unitComes 64 = .ok (.iaload, 1) := by decide +kernel
theorem dX12_unitComes_65 : decode cX12_unitComes 65 = .ok (.isub, 1) := by decide +kernel
theorem dX12_unitComes_66 : decode cX12_unitComes 66 = .ok (.invokestatic 456, 3) := by decide +kernel
theorem dX12_unitComes_69 : decode cX12_unitComes 69 = .ok (.istore_n 3, 1) := by decide +kernel
theorem dX12_unitComes_70 : decode cX12_unitComes 70 = .ok (.iload_n 3, 1) := by decide +kernel
theorem dX12_unitComes_71 : decode cX12_unitComes 71 = .ok (.aload_n 0, 1) := by decide +kernel
theorem dX12_unitComes_72 : decode cX12_unitComes 72 = .ok (.getfield 182, 3) := by decide +kernel
theorem dX12_unitComes_75 : decode cX12_unitComes 75 = .ok (.iload_n 1, 1) := by decide +kernel
theorem dX12_unitComes_76 : decode cX12_unitComes 76 = .ok (.iaload, 1) := by decide +kernel
theorem dX12_unitComes_77 : decode cX12_unitComes 77 = .ok (.aload_n 0, 1) := by decide +kernel
theorem dX12_unitComes_78 : decode cX12_unitComes 78 = .ok (.getfield 176, 3) := by decide +kernel
theorem dX12_unitComes_81 : decode cX12_unitComes 81 = .ok (.iload_n 1, 1) := by decide +kernel
theorem dX12_unitComes_82 : decode cX12_unitComes 82 = .ok (.iaload, 1) := by decide +kernel
theorem dX12_unitComes_83 : decode cX12_unitComes 83 = .ok (.isub, 1) := by decide +kernel
theorem dX12_unitComes_84 : decode cX12_unitComes 84 = .ok (.if_icmp .le 4, 3) := by decide +kernel
theorem dX12_unitComes_87 : decode cX12_unitComes 87 = .ok (.return_, 1) := by decide +kernel
theorem dX12_unitComes_88 : decode cX12_unitComes 88 = .ok (.aload_n 0, 1) := by decide +kernel
theorem dX12_unitComes_89 : decode cX12_unitComes 89 = .ok (.getfield 176, 3) := by decide +kernel
theorem dX12_unitComes_92 : decode cX12_unitComes 92 = .ok (.iload_n 1, 1) := by decide +kernel
theorem dX12_unitComes_93 : decode cX12_unitComes 93 = .ok (.dup2, 1) := by decide +kernel
theorem dX12_unitComes_94 : decode cX12_unitComes 94 = .ok (.iaload, 1) := by decide +kernel
theorem dX12_unitComes_95 : decode cX12_unitComes 95 = .ok (.iload_n 3, 1) := by decide +kernel
theorem dX12_unitComes_96 : decode cX12_unitComes 96 = .ok (.iadd, 1) := by decide +kernel
theorem dX12_unitComes_97 : decode cX12_unitComes 97 = .ok (.iastore, 1) := by decide +kernel
theorem dX12_unitComes_98 : decode cX12_unitComes 98 = .ok (.aload_n 0, 1) := by decide +kernel
theorem dX12_unitComes_99 : decode cX12_unitComes 99 = .ok (.getfield 179, 3) := by decide +kernel
theorem dX12_unitComes_102 : decode cX12_unitComes 102 = .ok (.iload_n 1, 1) := by decide +kernel
theorem dX12_unitComes_103 : decode cX12_unitComes 103 = .ok (.aload_n 0, 1) := by decide +kernel
theorem dX12_unitComes_104 : decode cX12_unitComes 104 = .ok (.getfield 179, 3) := by decide +kernel
theorem dX12_unitComes_107 : decode cX12_unitComes 107 = .ok (.iload_n 1, 1) := by decide +kernel
theorem dX12_unitComes_108 : decode cX12_unitComes 108 = .ok (.iaload, 1) := by decide +kernel
theorem dX12_unitComes_109 : decode cX12_unitComes 109 = .ok (.aload_n 0, 1) := by decide +kernel
theorem dX12_unitComes_110 : decode cX12_unitComes 110 = .ok (.getfield 176, 3) := by decide +kernel
theorem dX12_unitComes_113 : decode cX12_unitComes 113 = .ok (.iload_n 1, 1) := by decide +kernel
theorem dX12_unitComes_114 : decode cX12_unitComes 114 = .ok (.iaload, 1) := by decide +kernel
theorem dX12_unitComes_115 : decode cX12_unitComes 115 = .ok (.if_icmp .ge 12, 3) := by decide +kernel
theorem dX12_unitComes_118 : decode cX12_unitComes 118 = .ok (.aload_n 0, 1) := by decide +kernel
theorem dX12_unitComes_119 : decode cX12_unitComes 119 = .ok (.getfield 176, 3) := by decide +kernel
theorem dX12_unitComes_122 : decode cX12_unitComes 122 = .ok (.iload_n 1, 1) := by decide +kernel
theorem dX12_unitComes_123 : decode cX12_unitComes 123 = .ok (.iaload, 1) := by decide +kernel
theorem dX12_unitComes_124 : decode cX12_unitComes 124 = .ok (.goto 9, 3) := by decide +kernel
theorem dX12_unitComes_127 : decode cX12_unitComes 127 = .ok (.aload_n 0, 1) := by decide +kernel
theorem dX12_unitComes_128 : decode cX12_unitComes 128 = .ok (.getfield 179, 3) := by decide +kernel
theorem dX12_unitComes_131 : decode cX12_unitComes 131 = .ok (.iload_n 1, 1) := by decide +kernel
theorem dX12_unitComes_132 : decode cX12_unitComes 132 = .ok (.iaload, 1) := by decide +kernel
theorem dX12_unitComes_133 : decode cX12_unitComes 133 = .ok (.iastore, 1) := by decide +kernel
theorem dX12_unitComes_134 : decode cX12_unitComes 134 = .ok (.aload_n 0, 1) := by decide +kernel
theorem dX12_unitComes_135 : decode cX12_unitComes 135 = .ok (.bipush 7, 2) := by decide +kernel
theorem dX12_unitComes_137 : decode cX12_unitComes 137 = .ok (.iconst 1, 1) := by decide +kernel
theorem dX12_unitComes_138 : decode cX12_unitComes 138 = .ok (.invokevirtual 450, 3) := by decide +kernel
theorem dX12_unitComes_141 : decode cX12_unitComes 141 = .ok (.aload_n 0, 1) := by decide +kernel
theorem dX12_unitComes_142 : decode cX12_unitComes 142 = .ok (.getfield 188, 3) := by decide +kernel
theorem dX12_unitComes_145 : decode cX12_unitComes 145 = .ok (.iload_n 1, 1) := by decide +kernel
theorem dX12_unitComes_146 : decode cX12_unitComes 146 = .ok (.iaload, 1) := by decide +kernel
theorem dX12_unitComes_147 : decode cX12_unitComes 147 = .ok (.if_icmp .eq 28, 3) := by decide +kernel
theorem dX12_unitComes_150 : decode cX12_unitComes 150 = .ok (.aload_n 0, 1) := by decide +kernel
theorem dX12_unitComes_151 : decode cX12_unitComes 151 = .ok (.getfield 188, 3) := by decide +kernel
theorem dX12_unitComes_154 : decode cX12_unitComes 154 = .ok (.iload_n 1, 1) := by decide +kernel
theorem dX12_unitComes_155 : decode cX12_unitComes 155 = .ok (.aload_n 0, 1) := by decide +kernel
theorem dX12_unitComes_156 : decode cX12_unitComes 156 = .ok (.bipush 7, 2) := by decide +kernel
theorem dX12_unitComes_158 : decode cX12_unitComes 158 = .ok (.iconst 1, 1) := by decide +kernel
theorem dX12_unitComes_159 : decode cX12_unitComes 159 = .ok (.invokevirtual 450, 3) := by decide +kernel
theorem dX12_unitComes_162 : decode cX12_unitComes 162 = .ok (.iastore, 1) := by decide +kernel
theorem dX12_unitComes_163 : decode cX12_unitComes 163 = .ok (.aload_n 0, 1) := by decide +kernel
theorem dX12_unitComes_164 : decode cX12_unitComes 164 = .ok (.getfield 179, 3) := by decide +kernel
theorem dX12_unitComes_167 : decode cX12_unitComes 167 = .ok (.iload_n 1, 1) := by decide +kernel
theorem dX12_unitComes_168 : decode cX12_unitComes 168 = .ok (.aload_n 0, 1) := by decide +kernel
theorem dX12_unitComes_169 : decode cX12_unitComes 169 = .ok (.getfield 176, 3) := by decide +kernel
theorem dX12_unitComes_172 : decode cX12_unitComes 172 = .ok (.iload_n 1, 1) := by decide +kernel
theorem dX12_unitComes_173 : decode cX12_unitComes 173 = .ok (.iaload, 1) := by decide +kernel
theorem dX12_unitComes_174 : decode cX12_unitComes 174 = .ok (.iastore, 1) := by decide +kernel
theorem dX12_unitComes_175 : decode cX12_unitComes 175 = .ok (.aload_n 0, 1) := by decide +kernel
theorem dX12_unitComes_176 : decode cX12_unitComes 176 = .ok (.bipush 15, 2) := by decide +kernel
theorem dX12_unitComes_178 : decode cX12_unitComes 178 = .ok (.iconst 1, 1) := by decide +kernel
theorem dX12_unitComes_179 : decode cX12_unitComes 179 = .ok (.invokevirtual 450, 3) := by decide +kernel
theorem dX12_unitComes_182 : decode cX12_unitComes 182 = .ok (.aload_n 0, 1) := by decide +kernel
theorem dX12_unitComes_183 : decode cX12_unitComes 183 = .ok (.getfield 191, 3) := by decide +kernel
theorem dX12_unitComes_186 : decode cX12_unitComes 186 = .ok (.iload_n 1, 1) := by decide +kernel
theorem dX12_unitComes_187 : decode cX12_unitComes 187 = .ok (.iaload, 1) := by decide +kernel
theorem dX12_unitComes_188 : decode cX12_unitComes 188 = .ok (.if_icmp .eq 4, 3) := by decide +kernel
theorem dX12_unitComes_191 : decode cX12_unitComes 191 = .ok (.return_, 1) := by decide +kernel
theorem dX12_unitComes_192 : decode cX12_unitComes 192 = .ok (.aload_n 0, 1) := by decide +kernel
theorem dX12_unitComes_193 : decode cX12_unitComes 193 = .ok (.bipush 8, 2) := by decide +kernel
theorem dX12_unitComes_195 : decode cX12_unitComes 195 = .ok (.bipush 7, 2) := by decide +kernel
theorem dX12_unitComes_197 : decode cX12_unitComes 197 = .ok (.invokevirtual 450, 3) := by decide +kernel
theorem dX12_unitComes_200 : decode cX12_unitComes 200 = .ok (.aload_n 0, 1) := by decide +kernel
theorem dX12_unitComes_201 : decode cX12_unitComes 201 = .ok (.getfield 185, 3) := by decide +kernel
theorem dX12_unitComes_204 : decode cX12_unitComes 204 = .ok (.iload_n 1, 1) := by decide +kernel
theorem dX12_unitComes_205 : decode cX12_unitComes 205 = .ok (.iaload, 1) := by decide +kernel
theorem dX12_unitComes_206 : decode cX12_unitComes 206 = .ok (.isub, 1) := by decide +kernel
theorem dX12_unitComes_207 : decode cX12_unitComes 207 = .ok (.invokestatic 456, 3) := by decide +kernel
theorem dX12_unitComes_210 : decode cX12_unitComes 210 = .ok (.istore 4, 2) := by decide +kernel
theorem dX12_unitComes_212 : decode cX12_unitComes 212 = .ok (.aload_n 0, 1) := by decide +kernel
theorem dX12_unitComes_213 : decode cX12_unitComes 213 = .ok (.bipush 16, 2) := by decide +kernel
theorem dX12_unitComes_215 : decode cX12_unitComes 215 = .ok (.bipush 6, 2) := by decide +kernel
theorem dX12_unitComes_217 : decode cX12_unitComes 217 = .ok (.invokevirtual 450, 3) := by decide +kernel
theorem dX12_unitComes_220 : decode cX12_unitComes 220 = .ok (.istore 5, 2) := by decide +kernel
theorem dX12_unitComes_222 : decode cX12_unitComes 222 = .ok (.iload 4, 2) := by decide +kernel
theorem dX12_unitComes_224 : decode cX12_unitComes 224 = .ok (.iconst 1, 1) := by decide +kernel
theorem dX12_unitComes_225 : decode cX12_unitComes 225 = .ok (.if_icmp .ne 65, 3) := by decide +kernel
theorem dX12_unitComes_228 : decode cX12_unitComes 228 = .ok (.iload 5, 2) := by decide +kernel
theorem dX12_unitComes_230 : decode cX12_unitComes 230 = .ok (.ifCond .le 60, 3) := by decide +kernel
theorem dX12_unitComes_233 : decode cX12_unitComes 233 = .ok (.aload_n 0, 1) := by decide +kernel
theorem dX12_unitComes_234 : decode cX12_unitComes 234 = .ok (.getfield 185, 3) := by decide +kernel
theorem dX12_unitComes_237 : decode cX12_unitComes 237 = .ok (.iload_n 1, 1) := by decide +kernel
theorem dX12_unitComes_238 : decode cX12_unitComes 238 = .ok (.dup2, 1) := by decide +kernel
theorem dX12_unitComes_239 : decode cX12_unitComes 239 = .ok (.iaload, 1) := by decide +kernel
theorem dX12_unitComes_240 : decode cX12_unitComes 240 = .ok (.iconst 1, 1) := by decide +kernel
theorem dX12_unitComes_241 : decode cX12_unitComes 241 = .ok (.iadd, 1) := by decide +kernel
theorem dX12_unitComes_242 : decode cX12_unitComes 242 = .ok (.iastore, 1) := by decide +kernel
theorem dX12_unitComes_243 : decode cX12_unitComes 243 = .ok (.iconst 0, 1) := by decide +kernel
theorem dX12_unitComes_244 : decode cX12_unitComes 244 = .ok (.istore 6, 2) := by decide +kernel
theorem dX12_unitComes_246 : decode cX12_unitComes 246 = .ok (.iload 6, 2) := by decide +kernel
theorem dX12_unitComes_248 : decode cX12_unitComes 248 = .ok (.iload 5, 2) := by decide +kernel
theorem dX12_unitComes_250 : decode cX12_unitComes 250 = .ok (.if_icmp .ge 30, 3) := by decide +kernel
theorem dX12_unitComes_253 : decode cX12_unitComes 253 = .ok (.aload_n 0, 1) := by decide +kernel
theorem dX12_unitComes_254 : decode cX12_unitComes 254 = .ok (.getfield 197, 3) := by decide +kernel
theorem dX12_unitComes_257 : decode cX12_unitComes 257 = .ok (.iload 6, 2) := by decide +kernel
theorem dX12_unitComes_259 : decode cX12_unitComes 259 = .ok (.aload_n 0, 1) := by decide +kernel
theorem dX12_unitComes_260 : decode cX12_unitComes 260 = .ok (.bipush 24, 2) := by decide +kernel
theorem dX12_unitComes_262 : decode cX12_unitComes 262 = .ok (.bipush 8, 2) := by decide +kernel
theorem dX12_unitComes_264 : decode cX12_unitComes 264 = .ok (.iload 6, 2) := by decide +kernel
theorem dX12_unitComes_266 : decode cX12_unitComes 266 = .ok (.imul, 1) := by decide +kernel
theorem dX12_unitComes_267 : decode cX12_unitComes 267 = .ok (.iadd, 1) := by decide +kernel
theorem dX12_unitComes_268 : decode cX12_unitComes 268 = .ok (.bipush 8, 2) := by decide +kernel
theorem dX12_unitComes_270 : decode cX12_unitComes 270 = .ok (.invokevirtual 450, 3) := by decide +kernel
theorem dX12_unitComes_273 : decode cX12_unitComes 273 = .ok (.iastore, 1) := by decide +kernel
theorem dX12_unitComes_274 : decode cX12_unitComes 274 = .ok (.iinc 6 1, 3) := by decide +kernel
theorem dX12_unitComes_277 : decode cX12_unitComes 277 = .ok (.goto (-31), 3) := by decide +kernel
theorem dX12_unitComes_280 : decode cX12_unitComes 280 = .ok (.aload_n 0, 1) := by decide +kernel
theorem dX12_unitComes_281 : decode cX12_unitComes 281 = .ok (.iload_n 1, 1) := by decide +kernel
theorem dX12_unitComes_282 : decode cX12_unitComes 282 = .ok (.iload 5, 2) := by decide +kernel
theorem dX12_unitComes_284 : decode cX12_unitComes 284 = .ok (.invokevirtual 459, 3) := by decide +kernel
theorem dX12_unitComes_287 : decode cX12_unitComes 287 = .ok (.goto 22, 3) := by decide +kernel
theorem dX12_unitComes_290 : decode cX12_unitComes 290 = .ok (.iload 4, 2) := by decide +kernel
theorem dX12_unitComes_292 : decode cX12_unitComes 292 = .ok (.ifCond .eq 17, 3) := by decide +kernel
theorem dX12_unitComes_295 : decode cX12_unitComes 295 = .ok (.aload_n 0, 1) := by decide +kernel
theorem dX12_unitComes_296 : decode cX12_unitComes 296 = .ok (.getfield 191, 3) := by decide +kernel
theorem dX12_unitComes_299 : decode cX12_unitComes 299 = .ok (.iload_n 1, 1) := by decide +kernel
theorem dX12_unitComes_300 : decode cX12_unitComes 300 = .ok (.iconst 1, 1) := by decide +kernel
theorem dX12_unitComes_301 : decode cX12_unitComes 301 = .ok (.aload_n 0, 1) := by decide +kernel
theorem dX12_unitComes_302 : decode cX12_unitComes 302 = .ok (.getfield 191, 3) := by decide +kernel
theorem dX12_unitComes_305 : decode cX12_unitComes 305 = .ok (.iload_n 1, 1) := by decide +kernel
theorem dX12_unitComes_306 : decode cX12_unitComes 306 = .ok (.iaload, 1) := by decide +kernel
theorem dX12_unitComes_307 : decode cX12_unitComes 307 = .ok (.isub, 1) := by decide +kernel
theorem dX12_unitComes_308 : decode cX12_unitComes 308 = .ok (.iastore, 1) := by decide +kernel
theorem dX12_unitComes_309 : decode cX12_unitComes 309 = .ok (.return_, 1) := by decide +kernel
theorem dX12_modulo_0 : decode cX12_modulo 0 = .ok (.iload_n 0, 1) := by decide +kernel
theorem dX12_modulo_1 : decode cX12_modulo 1 = .ok (.sipush 128, 3) := by decide +kernel
theorem dX12_modulo_4 : decode cX12_modulo 4 = .ok (.irem, 1) := by decide +kernel
theorem dX12_modulo_5 : decode cX12_modulo 5 = .ok (.sipush 128, 3) := by decide +kernel
theorem dX12_modulo_8 : decode cX12_modulo 8 = .ok (.iadd, 1) := by decide +kernel
theorem dX12_modulo_9 : decode cX12_modulo 9 = .ok (.sipush 128, 3) := by decide +kernel
theorem dX12_modulo_12 : decode cX12_modulo 12 = .ok (.irem, 1) := by decide +kernel
theorem dX12_modulo_13 : decode cX12_modulo 13 = .ok (.ireturn, 1) := by decide +kernel
theorem dX12_highest_0 : decode cX12_highest 0 = .ok (.iconst 0, 1) := by decide +kernel
theorem dX12_highest_1 : decode cX12_highest 1 = .ok (.istore_n 1, 1) := by decide +kernel
theorem dX12_highest_2 : decode cX12_highest 2 = .ok (.iload_n 0, 1) := by decide +kernel
theorem dX12_highest_3 : decode cX12_highest 3 = .ok (.iload_n 1, 1) := by decide +kernel
theorem dX12_highest_4 : decode cX12_highest 4 = .ok (.iconst 1, 1) := by decide +kernel
theorem dX12_highest_5 : decode cX12_highest 5 = .ok (.iadd, 1) := by decide +kernel
theorem dX12_highest_6 : decode cX12_highest 6 = .ok (.ishr, 1) := by decide +kernel
theorem dX12_highest_7 : decode cX12_highest 7 = .ok (.ifCond .eq 9, 3) := by decide +kernel
theorem dX12_highest_10 : decode cX12_highest 10 = .ok (.iinc 1 1, 3) := by decide +kernel
theorem dX12_highest_13 : decode cX12_highest 13 = .ok (.goto (-11), 3) := by decide +kernel
theorem dX12_highest_16 : decode cX12_highest 16 = .ok (.iload_n 1, 1) := by decide +kernel
theorem dX12_highest_17 : decode cX12_highest 17 = .ok (.ireturn, 1) := by decide +kernel
theorem dX12_codeOf_0 : decode cX12_codeOf 0 = .ok (.iload_n 1, 1) := by decide +kernel
theorem dX12_codeOf_1 : decode cX12_codeOf 1 = .ok (.ifCond .ge 8, 3) := by decide +kernel
theorem dX12_codeOf_4 : decode cX12_codeOf 4 = .ok (.iload_n 1, 1) := by decide +kernel
theorem dX12_codeOf_5 : decode cX12_codeOf 5 = .ok (.ineg, 1) := by decide +kernel
theorem dX12_codeOf_6 : decode cX12_codeOf 6 = .ok (.goto 4, 3) := by decide +kernel
theorem dX12_codeOf_9 : decode cX12_codeOf 9 = .ok (.iload_n 1, 1) := by decide +kernel
theorem dX12_codeOf_10 : decode cX12_codeOf 10 = .ok (.istore_n 2, 1) := by decide +kernel
theorem dX12_codeOf_11 : decode cX12_codeOf 11 = .ok (.iload_n 0, 1) := by decide +kernel
theorem dX12_codeOf_12 : decode cX12_codeOf 12 = .ok (.iconst 1, 1) := by decide +kernel
theorem dX12_codeOf_13 : decode cX12_codeOf 13 = .ok (.if_icmp .ne 61, 3) := by decide +kernel
theorem dX12_codeOf_16 : decode cX12_codeOf 16 = .ok (.iload_n 2, 1) := by decide +kernel
theorem dX12_codeOf_17 : decode cX12_codeOf 17 = .ok (.sipush 8158, 3) := by decide +kernel
theorem dX12_codeOf_20 : decode cX12_codeOf 20 = .ok (.if_icmp .ge 7, 3) := by decide +kernel
theorem dX12_codeOf_23 : decode cX12_codeOf 23 = .ok (.iload_n 2, 1) := by decide +kernel
theorem dX12_codeOf_24 : decode cX12_codeOf 24 = .ok (.goto 6, 3) := by decide +kernel
theorem dX12_codeOf_27 : decode cX12_codeOf 27 = .ok (.sipush 8158, 3) := by decide +kernel
theorem dX12_codeOf_30 : decode cX12_codeOf 30 = .ok (.bipush 33, 2) := by decide +kernel
theorem dX12_codeOf_32 : decode cX12_codeOf 32 = .ok (.iadd, 1) := by decide +kernel
theorem dX12_codeOf_33 : decode cX12_codeOf 33 = .ok (.istore_n 3, 1) := by decide +kernel
theorem dX12_codeOf_34 : decode cX12_codeOf 34 = .ok (.iload_n 3, 1) := by decide +kernel
theorem dX12_codeOf_35 : decode cX12_codeOf 35 = .ok (.invokestatic 462, 3) := by decide +kernel
theorem dX12_codeOf_38 : decode cX12_codeOf 38 = .ok (.iconst 5, 1) := by decide +kernel
theorem dX12_codeOf_39 : decode cX12_codeOf 39 = .ok (.isub, 1) := by decide +kernel
theorem dX12_codeOf_40 : decode cX12_codeOf 40 = .ok (.istore 4, 2) := by decide +kernel
theorem dX12_codeOf_42 : decode cX12_codeOf 42 = .ok (.sipush 255, 3) := by decide +kernel
theorem dX12_codeOf_45 : decode cX12_codeOf 45 = .ok (.iload_n 1, 1) := by decide +kernel
theorem dX12_codeOf_46 : decode cX12_codeOf 46 = .ok (.ifCond .ge 9, 3) := by decide +kernel
theorem dX12_codeOf_49 : decode cX12_codeOf 49 = .ok (.sipush 128, 3) := by decide +kernel
theorem dX12_codeOf_52 : decode cX12_codeOf 52 = .ok (.goto 4, 3) := by decide +kernel
theorem dX12_codeOf_55 : decode cX12_codeOf 55 = .ok (.iconst 0, 1) := by decide +kernel
theorem dX12_codeOf_56 : decode cX12_codeOf 56 = .ok (.isub, 1) := by decide +kernel
theorem dX12_codeOf_57 : decode cX12_codeOf 57 = .ok (.bipush 16, 2) := by decide +kernel
theorem dX12_codeOf_59 : decode cX12_codeOf 59 = .ok (.iload 4, 2) := by decide +kernel
theorem dX12_codeOf_61 : decode cX12_codeOf 61 = .ok (.imul, 1) := by decide +kernel
theorem dX12_codeOf_62 : decode cX12_codeOf 62 = .ok (.isub, 1) := by decide +kernel
theorem dX12_codeOf_63 : decode cX12_codeOf 63 = .ok (.iload_n 3, 1) := by decide +kernel
theorem dX12_codeOf_64 : decode cX12_codeOf 64 = .ok (.iload 4, 2) := by decide +kernel
theorem dX12_codeOf_66 : decode cX12_codeOf 66 = .ok (.iconst 1, 1) := by decide +kernel
theorem dX12_codeOf_67 : decode cX12_codeOf 67 = .ok (.iadd, 1) := by decide +kernel
theorem dX12_codeOf_68 : decode cX12_codeOf 68 = .ok (.ishr, 1) := by decide +kernel
theorem dX12_codeOf_69 : decode cX12_codeOf 69 = .ok (.bipush 16, 2) := by decide +kernel
theorem dX12_codeOf_71 : decode cX12_codeOf 71 = .ok (.irem, 1) := by decide +kernel
theorem dX12_codeOf_72 : decode cX12_codeOf 72 = .ok (.isub, 1) := by decide +kernel
theorem dX12_codeOf_73 : decode cX12_codeOf 73 = .ok (.ireturn, 1) := by decide +kernel
theorem dX12_codeOf_74 : decode cX12_codeOf 74 = .ok (.iload_n 2, 1) := by decide +kernel
theorem dX12_codeOf_75 : decode cX12_codeOf 75 = .ok (.iconst 2, 1) := by decide +kernel
theorem dX12_codeOf_76 : decode cX12_codeOf 76 = .ok (.idiv, 1) := by decide +kernel
theorem dX12_codeOf_77 : decode cX12_codeOf 77 = .ok (.istore_n 3, 1) := by decide +kernel
theorem dX12_codeOf_78 : decode cX12_codeOf 78 = .ok (.iload_n 3, 1) := by decide +kernel
theorem dX12_codeOf_79 : decode cX12_codeOf 79 = .ok (.bipush 32, 2) := by decide +kernel
theorem dX12_codeOf_81 : decode cX12_codeOf 81 = .ok (.if_icmp .ge 7, 3) := by decide +kernel
theorem dX12_codeOf_84 : decode cX12_codeOf 84 = .ok (.iconst 0, 1) := by decide +kernel
theorem dX12_codeOf_85 : decode cX12_codeOf 85 = .ok (.goto 9, 3) := by decide +kernel
theorem dX12_codeOf_88 : decode cX12_codeOf 88 = .ok (.iload_n 3, 1) := by decide +kernel
theorem dX12_codeOf_89 : decode cX12_codeOf 89 = .ok (.invokestatic 462, 3) := by decide +kernel
theorem dX12_codeOf_92 : decode cX12_codeOf 92 = .ok (.iconst 4, 1) := by decide +kernel
theorem dX12_codeOf_93 : decode cX12_codeOf 93 = .ok (.isub, 1) := by decide +kernel
theorem dX12_codeOf_94 : decode cX12_codeOf 94 = .ok (.istore 4, 2) := by decide +kernel
theorem dX12_codeOf_96 : decode cX12_codeOf 96 = .ok (.iload_n 3, 1) := by decide +kernel
theorem dX12_codeOf_97 : decode cX12_codeOf 97 = .ok (.bipush 32, 2) := by decide +kernel
theorem dX12_codeOf_99 : decode cX12_codeOf 99 = .ok (.if_icmp .ge 9, 3) := by decide +kernel
theorem dX12_codeOf_102 : decode cX12_codeOf 102 = .ok (.iload_n 3, 1) := by decide +kernel
theorem dX12_codeOf_103 : decode cX12_codeOf 103 = .ok (.iconst 2, 1) := by decide +kernel
theorem dX12_codeOf_104 : decode cX12_codeOf 104 = .ok (.idiv, 1) := by decide +kernel
theorem dX12_codeOf_105 : decode cX12_codeOf 105 = .ok (.goto 10, 3) := by decide +kernel
theorem dX12_codeOf_108 : decode cX12_codeOf 108 = .ok (.iload_n 3, 1) := by decide +kernel
theorem dX12_codeOf_109 : decode cX12_codeOf 109 = .ok (.iload 4, 2) := by decide +kernel
theorem dX12_codeOf_111 : decode cX12_codeOf 111 = .ok (.ishr, 1) := by decide +kernel
theorem dX12_codeOf_112 : decode cX12_codeOf 112 = .ok (.bipush 16, 2) := by decide +kernel
theorem dX12_codeOf_114 : decode cX12_codeOf 114 = .ok (.irem, 1) := by decide +kernel
theorem dX12_codeOf_115 : decode cX12_codeOf 115 = .ok (.istore 5, 2) := by decide +kernel
theorem dX12_codeOf_117 : decode cX12_codeOf 117 = .ok (.iload_n 1, 1) := by decide +kernel
theorem dX12_codeOf_118 : decode cX12_codeOf 118 = .ok (.ifCond .ge 7, 3) := by decide +kernel
theorem dX12_codeOf_121 : decode cX12_codeOf 121 = .ok (.iconst 0, 1) := by decide +kernel
theorem dX12_codeOf_122 : decode cX12_codeOf 122 = .ok (.goto 6, 3) := by decide +kernel
theorem dX12_codeOf_125 : decode cX12_codeOf 125 = .ok (.sipush 128, 3) := by decide +kernel
theorem dX12_codeOf_128 : decode cX12_codeOf 128 = .ok (.bipush 16, 2) := by decide +kernel
theorem dX12_codeOf_130 : decode cX12_codeOf 130 = .ok (.iload 4, 2) := by decide +kernel
theorem dX12_codeOf_132 : decode cX12_codeOf 132 = .ok (.imul, 1) := by decide +kernel
theorem dX12_codeOf_133 : decode cX12_codeOf 133 = .ok (.iadd, 1) := by decide +kernel
theorem dX12_codeOf_134 : decode cX12_codeOf 134 = .ok (.iload 5, 2) := by decide +kernel
theorem dX12_codeOf_136 : decode cX12_codeOf 136 = .ok (.iadd, 1) := by decide +kernel
theorem dX12_codeOf_137 : decode cX12_codeOf 137 = .ok (.bipush 85, 2) := by decide +kernel
theorem dX12_codeOf_139 : decode cX12_codeOf 139 = .ok (.ixor, 1) := by decide +kernel
theorem dX12_codeOf_140 : decode cX12_codeOf 140 = .ok (.ireturn, 1) := by decide +kernel
theorem dX12_back_0 : decode cX12_back 0 = .ok (.iload_n 0, 1) := by decide +kernel
theorem dX12_back_1 : decode cX12_back 1 = .ok (.iconst 1, 1) := by decide +kernel
theorem dX12_back_2 : decode cX12_back 2 = .ok (.if_icmp .ne 11, 3) := by decide +kernel
theorem dX12_back_5 : decode cX12_back 5 = .ok (.sipush 255, 3) := by decide +kernel
theorem dX12_back_8 : decode cX12_back 8 = .ok (.iload_n 1, 1) := by decide +kernel
theorem dX12_back_9 : decode cX12_back 9 = .ok (.isub, 1) := by decide +kernel
theorem dX12_back_10 : decode cX12_back 10 = .ok (.goto 7, 3) := by decide +kernel
theorem dX12_back_13 : decode cX12_back 13 = .ok (.iload_n 1, 1) := by decide +kernel
theorem dX12_back_14 : decode cX12_back 14 = .ok (.bipush 85, 2) := by decide +kernel
theorem dX12_back_16 : decode cX12_back 16 = .ok (.ixor, 1) := by decide +kernel
theorem dX12_back_17 : decode cX12_back 17 = .ok (.istore_n 2, 1) := by decide +kernel
theorem dX12_back_18 : decode cX12_back 18 = .ok (.iload_n 2, 1) := by decide +kernel
theorem dX12_back_19 : decode cX12_back 19 = .ok (.bipush 16, 2) := by decide +kernel
theorem dX12_back_21 : decode cX12_back 21 = .ok (.idiv, 1) := by decide +kernel
theorem dX12_back_22 : decode cX12_back 22 = .ok (.bipush 8, 2) := by decide +kernel
theorem dX12_back_24 : decode cX12_back 24 = .ok (.irem, 1) := by decide +kernel
theorem dX12_back_25 : decode cX12_back 25 = .ok (.istore_n 3, 1) := by decide +kernel
theorem dX12_back_26 : decode cX12_back 26 = .ok (.iload_n 2, 1) := by decide +kernel
theorem dX12_back_27 : decode cX12_back 27 = .ok (.bipush 16, 2) := by decide +kernel
theorem dX12_back_29 : decode cX12_back 29 = .ok (.irem, 1) := by decide +kernel
theorem dX12_back_30 : decode cX12_back 30 = .ok (.istore 4, 2) := by decide +kernel
theorem dX12_back_32 : decode cX12_back 32 = .ok (.iload_n 0, 1) := by decide +kernel
theorem dX12_back_33 : decode cX12_back 33 = .ok (.iconst 1, 1) := by decide +kernel
theorem dX12_back_34 : decode cX12_back 34 = .ok (.if_icmp .ne 32, 3) := by decide +kernel
theorem dX12_back_37 : decode cX12_back 37 = .ok (.iconst 2, 1) := by decide +kernel
theorem dX12_back_38 : decode cX12_back 38 = .ok (.iload 4, 2) := by decide +kernel
theorem dX12_back_40 : decode cX12_back 40 = .ok (.imul, 1) := by decide +kernel
theorem dX12_back_41 : decode cX12_back 41 = .ok (.bipush 33, 2) := by decide +kernel
theorem dX12_back_43 : decode cX12_back 43 = .ok (.iadd, 1) := by decide +kernel
theorem dX12_back_44 : decode cX12_back 44 = .ok (.iload_n 3, 1) := by decide +kernel
theorem dX12_back_45 : decode cX12_back 45 = .ok (.ishl, 1) := by decide +kernel
theorem dX12_back_46 : decode cX12_back 46 = .ok (.bipush 33, 2) := by decide +kernel
theorem dX12_back_48 : decode cX12_back 48 = .ok (.isub, 1) := by decide +kernel
theorem dX12_back_49 : decode cX12_back 49 = .ok (.istore 5, 2) := by decide +kernel
theorem dX12_back_51 : decode cX12_back 51 = .ok (.iload_n 2, 1) := by decide +kernel
theorem dX12_back_52 : decode cX12_back 52 = .ok (.bipush 127, 2) := by decide +kernel
theorem dX12_back_54 : decode cX12_back 54 = .ok (.if_icmp .le 9, 3) := by decide +kernel
theorem dX12_back_57 : decode cX12_back 57 = .ok (.iload 5, 2) := by decide +kernel
theorem dX12_back_59 : decode cX12_back 59 = .ok (.ineg, 1) := by decide +kernel
theorem dX12_back_60 : decode cX12_back 60 = .ok (.goto 5, 3) := by decide +kernel
theorem dX12_back_63 : decode cX12_back 63 = .ok (.iload 5, 2) := by decide +kernel
theorem dX12_back_65 : decode cX12_back 65 = .ok (.ireturn, 1) := by decide +kernel
theorem dX12_back_66 : decode cX12_back 66 = .ok (.iload_n 3, 1) := by decide +kernel
theorem dX12_back_67 : decode cX12_back 67 = .ok (.ifCond .ne 14, 3) := by decide +kernel
theorem dX12_back_70 : decode cX12_back 70 = .ok (.iconst 2, 1) := by decide +kernel
theorem dX12_back_71 : decode cX12_back 71 = .ok (.iconst 2, 1) := by decide +kernel
theorem dX12_back_72 : decode cX12_back 72 = .ok (.iload 4, 2) := by decide +kernel
theorem dX12_back_74 : decode cX12_back 74 = .ok (.imul, 1) := by decide +kernel
theorem dX12_back_75 : decode cX12_back 75 = .ok (.iconst 1, 1) := by decide +kernel
theorem dX12_back_76 : decode cX12_back 76 = .ok (.iadd, 1) := by decide +kernel
theorem dX12_back_77 : decode cX12_back 77 = .ok (.imul, 1) := by decide +kernel
theorem dX12_back_78 : decode cX12_back 78 = .ok (.goto 16, 3) := by decide +kernel
theorem dX12_back_81 : decode cX12_back 81 = .ok (.iconst 2, 1) := by decide +kernel
theorem dX12_back_82 : decode cX12_back 82 = .ok (.iconst 2, 1) := by decide +kernel
theorem dX12_back_83 : decode cX12_back 83 = .ok (.iload 4, 2) := by decide +kernel
theorem dX12_back_85 : decode cX12_back 85 = .ok (.imul, 1) := by decide +kernel
theorem dX12_back_86 : decode cX12_back 86 = .ok (.bipush 33, 2) := by decide +kernel
theorem dX12_back_88 : decode cX12_back 88 = .ok (.iadd, 1) := by decide +kernel
theorem dX12_back_89 : decode cX12_back 89 = .ok (.iload_n 3, 1) := by decide +kernel
theorem dX12_back_90 : decode cX12_back 90 = .ok (.iconst 1, 1) := by decide +kernel
theorem dX12_back_91 : decode cX12_back 91 = .ok (.isub, 1) := by decide +kernel
theorem dX12_back_92 : decode cX12_back 92 = .ok (.ishl, 1) := by decide +kernel
theorem dX12_back_93 : decode cX12_back 93 = .ok (.imul, 1) := by decide +kernel
theorem dX12_back_94 : decode cX12_back 94 = .ok (.istore 5, 2) := by decide +kernel
theorem dX12_back_96 : decode cX12_back 96 = .ok (.iload_n 2, 1) := by decide +kernel
theorem dX12_back_97 : decode cX12_back 97 = .ok (.sipush 128, 3) := by decide +kernel
theorem dX12_back_100 : decode cX12_back 100 = .ok (.if_icmp .ge 9, 3) := by decide +kernel
theorem dX12_back_103 : decode cX12_back 103 = .ok (.iload 5, 2) := by decide +kernel
theorem dX12_back_105 : decode cX12_back 105 = .ok (.ineg, 1) := by decide +kernel
theorem dX12_back_106 : decode cX12_back 106 = .ok (.goto 5, 3) := by decide +kernel
theorem dX12_back_109 : decode cX12_back 109 = .ok (.iload 5, 2) := by decide +kernel
theorem dX12_back_111 : decode cX12_back 111 = .ok (.ireturn, 1) := by decide +kernel
theorem dX12_heardOf_0 : decode cX12_heardOf 0 = .ok (.iload_n 0, 1) := by decide +kernel
theorem dX12_heardOf_1 : decode cX12_heardOf 1 = .ok (.iload_n 0, 1) := by decide +kernel
theorem dX12_heardOf_2 : decode cX12_heardOf 2 = .ok (.iload_n 1, 1) := by decide +kernel
theorem dX12_heardOf_3 : decode cX12_heardOf 3 = .ok (.invokestatic 262, 3) := by decide +kernel
theorem dX12_heardOf_6 : decode cX12_heardOf 6 = .ok (.invokestatic 465, 3) := by decide +kernel
theorem dX12_heardOf_9 : decode cX12_heardOf 9 = .ok (.ireturn, 1) := by decide +kernel
theorem dX12_given_0 : decode cX12_given 0 = .ok (.aload_n 0, 1) := by decide +kernel
theorem dX12_given_1 : decode cX12_given 1 = .ok (.getfield 101, 3) := by decide +kernel
theorem dX12_given_4 : decode cX12_given 4 = .ok (.iload_n 1, 1) := by decide +kernel
theorem dX12_given_5 : decode cX12_given 5 = .ok (.iaload, 1) := by decide +kernel
theorem dX12_given_6 : decode cX12_given 6 = .ok (.istore_n 3, 1) := by decide +kernel
theorem dX12_given_7 : decode cX12_given 7 = .ok (.iload_n 2, 1) := by decide +kernel
theorem dX12_given_8 : decode cX12_given 8 = .ok (.invokestatic 379, 3) := by decide +kernel
theorem dX12_given_11 : decode cX12_given 11 = .ok (.ifCond .eq 24, 3) := by decide +kernel
theorem dX12_given_14 : decode cX12_given 14 = .ok (.iconst 0, 1) := by decide +kernel
theorem dX12_given_15 : decode cX12_given 15 = .ok (.aload_n 0, 1) := by decide +kernel
theorem dX12_given_16 : decode cX12_given 16 = .ok (.getfield 234, 3) := by decide +kernel
theorem dX12_given_19 : decode cX12_given 19 = .ok (.bipush 16, 2) := by decide +kernel
theorem dX12_given_21 : decode cX12_given 21 = .ok (.iconst 1, 1) := by decide +kernel
theorem dX12_given_22 : decode cX12_given 22 = .ok (.iload_n 3, 1) := by decide +kernel
theorem dX12_given_23 : decode cX12_given 23 = .ok (.isub, 1) := by decide +kernel
theorem dX12_given_24 : decode cX12_given 24 = .ok (.imul, 1) := by decide +kernel
theorem dX12_given_25 : decode cX12_given 25 = .ok (.iload_n 2, 1) := by decide +kernel
theorem dX12_given_26 : decode cX12_given 26 = .ok (.iadd, 1) := by decide +kernel
theorem dX12_given_27 : decode cX12_given 27 = .ok (.bipush 100, 2) := by decide +kernel
theorem dX12_given_29 : decode cX12_given 29 = .ok (.isub, 1) := by decide +kernel
theorem dX12_given_30 : decode cX12_given 30 = .ok (.iaload, 1) := by decide +kernel
theorem dX12_given_31 : decode cX12_given 31 = .ok (.invokestatic 465, 3) := by decide +kernel
theorem dX12_given_34 : decode cX12_given 34 = .ok (.ireturn, 1) := by decide +kernel
theorem dX12_given_35 : decode cX12_given 35 = .ok (.aload_n 0, 1) := by decide +kernel
theorem dX12_given_36 : decode cX12_given 36 = .ok (.getfield 56, 3) := by decide +kernel
theorem dX12_given_39 : decode cX12_given 39 = .ok (.iload_n 2, 1) := by decide +kernel
theorem dX12_given_40 : decode cX12_given 40 = .ok (.iaload, 1) := by decide +kernel
theorem dX12_given_41 : decode cX12_given 41 = .ok (.iload_n 1, 1) := by decide +kernel
theorem dX12_given_42 : decode cX12_given 42 = .ok (.if_icmp .ne 16, 3) := by decide +kernel
theorem dX12_given_45 : decode cX12_given 45 = .ok (.iload_n 3, 1) := by decide +kernel
theorem dX12_given_46 : decode cX12_given 46 = .ok (.aload_n 0, 1) := by decide +kernel
theorem dX12_given_47 : decode cX12_given 47 = .ok (.getfield 89, 3) := by decide +kernel
theorem dX12_given_50 : decode cX12_given 50 = .ok (.iload_n 2, 1) := by decide +kernel
theorem dX12_given_51 : decode cX12_given 51 = .ok (.iaload, 1) := by decide +kernel
theorem dX12_given_52 : decode cX12_given 52 = .ok (.invokestatic 468, 3) := by decide +kernel
theorem dX12_given_55 : decode cX12_given 55 = .ok (.goto 4, 3) := by decide +kernel
theorem dX12_given_58 : decode cX12_given 58 = .ok (.iconst 0, 1) := by decide +kernel
theorem dX12_given_59 : decode cX12_given 59 = .ok (.ireturn, 1) := by decide +kernel
theorem dX12_inRoomOthers_0 : decode cX12_inRoomOthers 0 = .ok (.iconst 0, 1) := by decide +kernel
theorem dX12_inRoomOthers_1 : decode cX12_inRoomOthers 1 = .ok (.istore_n 2, 1) := by decide +kernel
theorem dX12_inRoomOthers_2 : decode cX12_inRoomOthers 2 = .ok (.iconst 0, 1) := by decide +kernel
theorem dX12_inRoomOthers_3 : decode cX12_inRoomOthers 3 = .ok (.istore_n 3, 1) := by decide +kernel
theorem dX12_inRoomOthers_4 : decode cX12_inRoomOthers 4 = .ok (.iload_n 3, 1) := by decide +kernel
theorem dX12_inRoomOthers_5 : decode cX12_inRoomOthers 5 = .ok (.bipush 80, 2) := by decide +kernel
theorem dX12_inRoomOthers_7 : decode cX12_inRoomOthers 7 = .ok (.if_icmp .ge 68, 3) := by decide +kernel
theorem dX12_inRoomOthers_10 : decode cX12_inRoomOthers 10 = .ok (.iload_n 3, 1) := by decide +kernel
theorem dX12_inRoomOthers_11 : decode cX12_inRoomOthers 11 = .ok (.iload_n 1, 1) := by decide +kernel
theorem dX12_inRoomOthers_12 : decode cX12_inRoomOthers 12 = .ok (.if_icmp .eq 57, 3) := by decide +kernel
theorem dX12_inRoomOthers_15 : decode cX12_inRoomOthers 15 = .ok (.aload_n 0, 1) := by decide +kernel
theorem dX12_inRoomOthers_16 : decode cX12_inRoomOthers 16 = .ok (.getfield 95, 3) := by decide +kernel
theorem dX12_inRoomOthers_19 : decode cX12_inRoomOthers 19 = .ok (.iload_n 3, 1) := by decide +kernel
theorem dX12_inRoomOthers_20 : decode cX12_inRoomOthers 20 = .ok (.iaload, 1) := by decide +kernel
theorem dX12_inRoomOthers_21 : decode cX12_inRoomOthers 21 = .ok (.iconst 3, 1) := by decide +kernel
theorem dX12_inRoomOthers_22 : decode cX12_inRoomOthers 22 = .ok (.if_icmp .ne 47, 3) := by decide +kernel
theorem dX12_inRoomOthers_25 : decode cX12_inRoomOthers 25 = .ok (.aload_n 0, 1) := by decide +kernel
theorem dX12_inRoomOthers_26 : decode cX12_inRoomOthers 26 = .ok (.getfield 101, 3) := by decide +kernel
theorem dX12_inRoomOthers_29 : decode cX12_inRoomOthers 29 = .ok (.iload_n 3, 1) := by decide +kernel
theorem dX12_inRoomOthers_30 : decode cX12_inRoomOthers 30 = .ok (.iaload, 1) := by decide +kernel
theorem dX12_inRoomOthers_31 : decode cX12_inRoomOthers 31 = .ok (.aload_n 0, 1) := by decide +kernel
theorem dX12_inRoomOthers_32 : decode cX12_inRoomOthers 32 = .ok (.getfield 101, 3) := by decide +kernel
theorem dX12_inRoomOthers_35 : decode cX12_inRoomOthers 35 = .ok (.iload_n 1, 1) := by decide +kernel
theorem dX12_inRoomOthers_36 : decode cX12_inRoomOthers 36 = .ok (.iaload, 1) := by decide +kernel
theorem dX12_inRoomOthers_37 : decode cX12_inRoomOthers 37 = .ok (.if_icmp .ne 32, 3) := by decide +kernel
theorem dX12_inRoomOthers_40 : decode cX12_inRoomOthers 40 = .ok (.aload_n 0, 1) := by decide +kernel
theorem dX12_inRoomOthers_41 : decode cX12_inRoomOthers 41 = .ok (.getfield 107, 3) := by decide +kernel
theorem dX12_inRoomOthers_44 : decode cX12_inRoomOthers 44 = .ok (.iload_n 3, 1) := by decide +kernel
theorem dX12_inRoomOthers_45 : decode cX12_inRoomOthers 45 = .ok (.iaload, 1) := by decide +kernel
theorem dX12_inRoomOthers_46 : decode cX12_inRoomOthers 46 = .ok (.aload_n 0, 1) := by decide +kernel
theorem dX12_inRoomOthers_47 : decode cX12_inRoomOthers 47 = .ok (.getfield 107, 3) := by decide +kernel
theorem dX12_inRoomOthers_50 : decode cX12_inRoomOthers 50 = .ok (.iload_n 1, 1) := by decide +kernel
theorem dX12_inRoomOthers_51 : decode cX12_inRoomOthers 51 = .ok (.iaload, 1) := by decide +kernel
theorem dX12_inRoomOthers_52 : decode cX12_inRoomOthers 52 = .ok (.if_icmp .ne 17, 3) := by decide +kernel
theorem dX12_inRoomOthers_55 : decode cX12_inRoomOthers 55 = .ok (.iload_n 2, 1) := by decide +kernel
theorem dX12_inRoomOthers_56 : decode cX12_inRoomOthers 56 = .ok (.aload_n 0, 1) := by decide +kernel
theorem dX12_inRoomOthers_57 : decode cX12_inRoomOthers 57 = .ok (.iload_n 3, 1) := by decide +kernel
theorem dX12_inRoomOthers_58 : decode cX12_inRoomOthers 58 = .ok (.aload_n 0, 1) := by decide +kernel
theorem dX12_inRoomOthers_59 : decode cX12_inRoomOthers 59 = .ok (.getfield 104, 3) := by decide +kernel
theorem dX12_inRoomOthers_62 : decode cX12_inRoomOthers 62 = .ok (.iload_n 3, 1) := by decide +kernel
theorem dX12_inRoomOthers_63 : decode cX12_inRoomOthers 63 = .ok (.iaload, 1) := by decide +kernel
theorem dX12_inRoomOthers_64 : decode cX12_inRoomOthers 64 = .ok (.invokevirtual 471, 3) := by decide +kernel
theorem dX12_inRoomOthers_67 : decode cX12_inRoomOthers 67 = .ok (.iadd, 1) := by decide +kernel
theorem dX12_inRoomOthers_68 : decode cX12_inRoomOthers 68 = .ok (.istore_n 2, 1) := by decide +kernel
theorem dX12_inRoomOthers_69 : decode cX12_inRoomOthers 69 = .ok (.iinc 3 1, 3) := by decide +kernel
theorem dX12_inRoomOthers_72 : decode cX12_inRoomOthers 72 = .ok (.goto (-68), 3) := by decide +kernel
theorem dX12_inRoomOthers_75 : decode cX12_inRoomOthers 75 = .ok (.iload_n 2, 1) := by decide +kernel
theorem dX12_inRoomOthers_76 : decode cX12_inRoomOthers 76 = .ok (.sipush 8000, 3) := by decide +kernel
theorem dX12_inRoomOthers_79 : decode cX12_inRoomOthers 79 = .ok (.if_icmp .le 9, 3) := by decide +kernel
theorem dX12_inRoomOthers_82 : decode cX12_inRoomOthers 82 = .ok (.sipush 8000, 3) := by decide +kernel
theorem dX12_inRoomOthers_85 : decode cX12_inRoomOthers 85 = .ok (.goto 17, 3) := by decide +kernel
theorem dX12_inRoomOthers_88 : decode cX12_inRoomOthers 88 = .ok (.iload_n 2, 1) := by decide +kernel
theorem dX12_inRoomOthers_89 : decode cX12_inRoomOthers 89 = .ok (.sipush (-8000), 3) := by decide +kernel
theorem dX12_inRoomOthers_92 : decode cX12_inRoomOthers 92 = .ok (.if_icmp .ge 9, 3) := by decide +kernel
theorem dX12_inRoomOthers_95 : decode cX12_inRoomOthers 95 = .ok (.sipush (-8000), 3) := by decide +kernel
theorem dX12_inRoomOthers_98 : decode cX12_inRoomOthers 98 = .ok (.goto 4, 3) := by decide +kernel
theorem dX12_inRoomOthers_101 : decode cX12_inRoomOthers 101 = .ok (.iload_n 2, 1) := by decide +kernel
theorem dX12_inRoomOthers_102 : decode cX12_inRoomOthers 102 = .ok (.ireturn, 1) := by decide +kernel
theorem dX12_gets_0 : decode cX12_gets 0 = .ok (.aload_n 0, 1) := by decide +kernel
theorem dX12_gets_1 : decode cX12_gets 1 = .ok (.getfield 101, 3) := by decide +kernel
theorem dX12_gets_4 : decode cX12_gets 4 = .ok (.iload_n 1, 1) := by decide +kernel
theorem dX12_gets_5 : decode cX12_gets 5 = .ok (.iaload, 1) := by decide +kernel
theorem dX12_gets_6 : decode cX12_gets 6 = .ok (.istore 4, 2) := by decide +kernel
theorem dX12_gets_8 : decode cX12_gets 8 = .ok (.iload_n 2, 1) := by decide +kernel
theorem dX12_gets_9 : decode cX12_gets 9 = .ok (.invokestatic 379, 3) := by decide +kernel
theorem dX12_gets_12 : decode cX12_gets 12 = .ok (.ifCond .eq 26, 3) := by decide +kernel
theorem dX12_gets_15 : decode cX12_gets 15 = .ok (.aload_n 0, 1) := by decide +kernel
theorem dX12_gets_16 : decode cX12_gets 16 = .ok (.getfield 237, 3) := by decide +kernel
theorem dX12_gets_19 : decode cX12_gets 19 = .ok (.bipush 16, 2) := by decide +kernel
theorem dX12_gets_21 : decode cX12_gets 21 = .ok (.iload 4, 2) := by decide +kernel
theorem dX12_gets_23 : decode cX12_gets 23 = .ok (.imul, 1) := by decide +kernel
theorem dX12_gets_24 : decode cX12_gets 24 = .ok (.iload_n 2, 1) := by decide +kernel
theorem dX12_gets_25 : decode cX12_gets 25 = .ok (.iadd, 1) := by decide +kernel
theorem dX12_gets_26 : decode cX12_gets 26 = .ok (.bipush 100, 2) := by decide +kernel
theorem dX12_gets_28 : decode cX12_gets 28 = .ok (.isub, 1) := by decide +kernel
theorem dX12_gets_29 : decode cX12_gets 29 = .ok (.iconst 0, 1) := by decide +kernel
theorem dX12_gets_30 : decode cX12_gets 30 = .ok (.iload_n 3, 1) := by decide +kernel
theorem dX12_gets_31 : decode cX12_gets 31 = .ok (.invokestatic 262, 3) := by decide +kernel
theorem dX12_gets_34 : decode cX12_gets 34 = .ok (.iastore, 1) := by decide +kernel
theorem dX12_gets_35 : decode cX12_gets 35 = .ok (.goto 25, 3) := by decide +kernel
theorem dX12_gets_38 : decode cX12_gets 38 = .ok (.aload_n 0, 1) := by decide +kernel
theorem dX12_gets_39 : decode cX12_gets 39 = .ok (.getfield 56, 3) := by decide +kernel
theorem dX12_gets_42 : decode cX12_gets 42 = .ok (.iload_n 2, 1) := by decide +kernel
theorem dX12_gets_43 : decode cX12_gets 43 = .ok (.iaload, 1) := by decide +kernel
theorem dX12_gets_44 : decode cX12_gets 44 = .ok (.iload_n 1, 1) := by decide +kernel
theorem dX12_gets_45 : decode cX12_gets 45 = .ok (.if_icmp .ne 15, 3) := by decide +kernel
theorem dX12_gets_48 : decode cX12_gets 48 = .ok (.aload_n 0, 1) := by decide +kernel
theorem dX12_gets_49 : decode cX12_gets 49 = .ok (.getfield 92, 3) := by decide +kernel
theorem dX12_gets_52 : decode cX12_gets 52 = .ok (.iload_n 2, 1) := by decide +kernel
theorem dX12_gets_53 : decode cX12_gets 53 = .ok (.iload 4, 2) := by decide +kernel
theorem dX12_gets_55 : decode cX12_gets 55 = .ok (.iload_n 3, 1) := by decide +kernel
theorem dX12_gets_56 : decode cX12_gets 56 = .ok (.invokestatic 468, 3) := by decide +kernel
theorem dX12_gets_59 : decode cX12_gets 59 = .ok (.iastore, 1) := by decide +kernel
theorem dX12_gets_60 : decode cX12_gets 60 = .ok (.return_, 1) := by decide +kernel
theorem dX12_speaks_0 : decode cX12_speaks 0 = .ok (.iconst 0, 1) := by decide +kernel
theorem dX12_speaks_1 : decode cX12_speaks 1 = .ok (.istore_n 1, 1) := by decide +kernel
theorem dX12_speaks_2 : decode cX12_speaks 2 = .ok (.iload_n 1, 1) := by decide +kernel
theorem dX12_speaks_3 : decode cX12_speaks 3 = .ok (.bipush 16, 2) := by decide +kernel
theorem dX12_speaks_5 : decode cX12_speaks 5 = .ok (.if_icmp .ge 16, 3) := by decide +kernel
theorem dX12_speaks_8 : decode cX12_speaks 8 = .ok (.aload_n 0, 1) := by decide +kernel
theorem dX12_speaks_9 : decode cX12_speaks 9 = .ok (.getfield 92, 3) := by decide +kernel
theorem dX12_speaks_12 : decode cX12_speaks 12 = .ok (.iload_n 1, 1) := by decide +kernel
theorem dX12_speaks_13 : decode cX12_speaks 13 = .ok (.iconst 0, 1) := by decide +kernel
theorem dX12_speaks_14 : decode cX12_speaks 14 = .ok (.iastore, 1) := by decide +kernel
theorem dX12_speaks_15 : decode cX12_speaks 15 = .ok (.iinc 1 1, 3) := by decide +kernel
theorem dX12_speaks_18 : decode cX12_speaks 18 = .ok (.goto (-16), 3) := by decide +kernel
theorem dX12_speaks_21 : decode cX12_speaks 21 = .ok (.iconst 0, 1) := by decide +kernel
theorem dX12_speaks_22 : decode cX12_speaks 22 = .ok (.istore_n 1, 1) := by decide +kernel
theorem dX12_speaks_23 : decode cX12_speaks 23 = .ok (.iload_n 1, 1) := by decide +kernel
theorem dX12_speaks_24 : decode cX12_speaks 24 = .ok (.bipush 32, 2) := by decide +kernel
theorem dX12_speaks_26 : decode cX12_speaks 26 = .ok (.if_icmp .ge 20, 3) := by decide +kernel
theorem dX12_speaks_29 : decode cX12_speaks 29 = .ok (.aload_n 0, 1) := by decide +kernel
theorem dX12_speaks_30 : decode cX12_speaks 30 = .ok (.getfield 237, 3) := by decide +kernel
theorem dX12_speaks_33 : decode cX12_speaks 33 = .ok (.iload_n 1, 1) := by decide +kernel
theorem dX12_speaks_34 : decode cX12_speaks 34 = .ok (.iconst 0, 1) := by decide +kernel
theorem dX12_speaks_35 : decode cX12_speaks 35 = .ok (.iconst 0, 1) := by decide +kernel
theorem dX12_speaks_36 : decode cX12_speaks 36 = .ok (.invokestatic 262, 3) := by decide +kernel
theorem dX12_speaks_39 : decode cX12_speaks 39 = .ok (.iastore, 1) := by decide +kernel
theorem dX12_speaks_40 : decode cX12_speaks 40 = .ok (.iinc 1 1, 3) := by decide +kernel
theorem dX12_speaks_43 : decode cX12_speaks 43 = .ok (.goto (-20), 3) := by decide +kernel
theorem dX12_speaks_46 : decode cX12_speaks 46 = .ok (.iconst 0, 1) := by decide +kernel
theorem dX12_speaks_47 : decode cX12_speaks 47 = .ok (.istore_n 1, 1) := by decide +kernel
theorem dX12_speaks_48 : decode cX12_speaks 48 = .ok (.iload_n 1, 1) := by decide +kernel
theorem dX12_speaks_49 : decode cX12_speaks 49 = .ok (.bipush 80, 2) := by decide +kernel
theorem dX12_speaks_51 : decode cX12_speaks 51 = .ok (.if_icmp .ge 100, 3) := by decide +kernel
theorem dX12_speaks_54 : decode cX12_speaks 54 = .ok (.aload_n 0, 1) := by decide +kernel
theorem dX12_speaks_55 : decode cX12_speaks 55 = .ok (.getfield 95, 3) := by decide +kernel
theorem dX12_speaks_58 : decode cX12_speaks 58 = .ok (.iload_n 1, 1) := by decide +kernel
theorem dX12_speaks_59 : decode cX12_speaks 59 = .ok (.iaload, 1) := by decide +kernel
theorem dX12_speaks_60 : decode cX12_speaks 60 = .ok (.iconst 3, 1) := by decide +kernel
theorem dX12_speaks_61 : decode cX12_speaks 61 = .ok (.if_icmp .eq 6, 3) := by decide +kernel
theorem dX12_speaks_64 : decode cX12_speaks 64 = .ok (.goto 81, 3) := by decide +kernel
theorem dX12_speaks_67 : decode cX12_speaks 67 = .ok (.aload_n 0, 1) := by decide +kernel
theorem dX12_speaks_68 : decode cX12_speaks 68 = .ok (.getfield 107, 3) := by decide +kernel
theorem dX12_speaks_71 : decode cX12_speaks 71 = .ok (.iload_n 1, 1) := by decide +kernel
theorem dX12_speaks_72 : decode cX12_speaks 72 = .ok (.iaload, 1) := by decide +kernel
theorem dX12_speaks_73 : decode cX12_speaks 73 = .ok (.sipush 200, 3) := by decide +kernel
theorem dX12_speaks_76 : decode cX12_speaks 76 = .ok (.if_icmp .lt 7, 3) := by decide +kernel
theorem dX12_speaks_79 : decode cX12_speaks 79 = .ok (.iconst 1, 1) := by decide +kernel
theorem dX12_speaks_80 : decode cX12_speaks 80 = .ok (.goto 4, 3) := by decide +kernel
theorem dX12_speaks_83 : decode cX12_speaks 83 = .ok (.iconst 0, 1) := by decide +kernel
theorem dX12_speaks_84 : decode cX12_speaks 84 = .ok (.istore_n 2, 1) := by decide +kernel
theorem dX12_speaks_85 : decode cX12_speaks 85 = .ok (.aload_n 0, 1) := by decide +kernel
theorem dX12_speaks_86 : decode cX12_speaks 86 = .ok (.iload_n 1, 1) := by decide +kernel
theorem dX12_speaks_87 : decode cX12_speaks 87 = .ok (.aload_n 0, 1) := by decide +kernel
theorem dX12_speaks_88 : decode cX12_speaks 88 = .ok (.getfield 104, 3) := by decide +kernel
theorem dX12_speaks_91 : decode cX12_speaks 91 = .ok (.iload_n 1, 1) := by decide +kernel
theorem dX12_speaks_92 : decode cX12_speaks 92 = .ok (.iaload, 1) := by decide +kernel
theorem dX12_speaks_93 : decode cX12_speaks 93 = .ok (.iload_n 2, 1) := by decide +kernel
theorem dX12_speaks_94 : decode cX12_speaks 94 = .ok (.ifCond .eq 11, 3) := by decide +kernel
theorem dX12_speaks_97 : decode cX12_speaks 97 = .ok (.aload_n 0, 1) := by decide +kernel
theorem dX12_speaks_98 : decode cX12_speaks 98 = .ok (.iload_n 1, 1) := by decide +kernel
theorem dX12_speaks_99 : decode cX12_speaks 99 = .ok (.invokevirtual 474, 3) := by decide +kernel
theorem dX12_speaks_102 : decode cX12_speaks 102 = .ok (.goto 14, 3) := by decide +kernel
theorem dX12_speaks_105 : decode cX12_speaks 105 = .ok (.aload_n 0, 1) := by decide +kernel
theorem dX12_speaks_106 : decode cX12_speaks 106 = .ok (.iload_n 1, 1) := by decide +kernel
theorem dX12_speaks_107 : decode cX12_speaks 107 = .ok (.aload_n 0, 1) := by decide +kernel
theorem dX12_speaks_108 : decode cX12_speaks 108 = .ok (.getfield 107, 3) := by decide +kernel
theorem dX12_speaks_111 : decode cX12_speaks 111 = .ok (.iload_n 1, 1) := by decide +kernel
theorem dX12_speaks_112 : decode cX12_speaks 112 = .ok (.iaload, 1) := by decide +kernel
theorem dX12_speaks_113 : decode cX12_speaks 113 = .ok (.invokevirtual 471, 3) := by decide +kernel
theorem dX12_speaks_116 : decode cX12_speaks 116 = .ok (.invokevirtual 477, 3) := by decide +kernel
theorem dX12_speaks_119 : decode cX12_speaks 119 = .ok (.iload_n 2, 1) := by decide +kernel
theorem dX12_speaks_120 : decode cX12_speaks 120 = .ok (.ifCond .ne 25, 3) := by decide +kernel
theorem dX12_speaks_123 : decode cX12_speaks 123 = .ok (.aload_n 0, 1) := by decide +kernel
theorem dX12_speaks_124 : decode cX12_speaks 124 = .ok (.iload_n 1, 1) := by decide +kernel
theorem dX12_speaks_125 : decode cX12_speaks 125 = .ok (.aload_n 0, 1) := by decide +kernel
theorem dX12_speaks_126 : decode cX12_speaks 126 = .ok (.getfield 107, 3) := by decide +kernel
theorem dX12_speaks_129 : decode cX12_speaks 129 = .ok (.iload_n 1, 1) := by decide +kernel
theorem dX12_speaks_130 : decode cX12_speaks 130 = .ok (.iaload, 1) := by decide +kernel
theorem dX12_speaks_131 : decode cX12_speaks 131 = .ok (.aload_n 0, 1) := by decide +kernel
theorem dX12_speaks_132 : decode cX12_speaks 132 = .ok (.iload_n 1, 1) := by decide +kernel
theorem dX12_speaks_133 : decode cX12_speaks 133 = .ok (.aload_n 0, 1) := by decide +kernel
theorem dX12_speaks_134 : decode cX12_speaks 134 = .ok (.getfield 104, 3) := by decide +kernel
theorem dX12_speaks_137 : decode cX12_speaks 137 = .ok (.iload_n 1, 1) := by decide +kernel
theorem dX12_speaks_138 : decode cX12_speaks 138 = .ok (.iaload, 1) := by decide +kernel
theorem dX12_speaks_139 : decode cX12_speaks 139 = .ok (.invokevirtual 471, 3) := by decide +kernel
theorem dX12_speaks_142 : decode cX12_speaks 142 = .ok (.invokevirtual 477, 3) := by decide +kernel
theorem dX12_speaks_145 : decode cX12_speaks 145 = .ok (.iinc 1 1, 3) := by decide +kernel
theorem dX12_speaks_148 : decode cX12_speaks 148 = .ok (.goto (-100), 3) := by decide +kernel
theorem dX12_speaks_151 : decode cX12_speaks 151 = .ok (.iconst 0, 1) := by decide +kernel
theorem dX12_speaks_152 : decode cX12_speaks 152 = .ok (.istore_n 1, 1) := by decide +kernel
theorem dX12_speaks_153 : decode cX12_speaks 153 = .ok (.iload_n 1, 1) := by decide +kernel
theorem dX12_speaks_154 : decode cX12_speaks 154 = .ok (.bipush 32, 2) := by decide +kernel
theorem dX12_speaks_156 : decode cX12_speaks 156 = .ok (.if_icmp .ge 21, 3) := by decide +kernel
theorem dX12_speaks_159 : decode cX12_speaks 159 = .ok (.aload_n 0, 1) := by decide +kernel
theorem dX12_speaks_160 : decode cX12_speaks 160 = .ok (.getfield 234, 3) := by decide +kernel
theorem dX12_speaks_163 : decode cX12_speaks 163 = .ok (.iload_n 1, 1) := by decide +kernel
theorem dX12_speaks_164 : decode cX12_speaks 164 = .ok (.aload_n 0, 1) := by decide +kernel
theorem dX12_speaks_165 : decode cX12_speaks 165 = .ok (.getfield 237, 3) := by decide +kernel
theorem dX12_speaks_168 : decode cX12_speaks 168 = .ok (.iload_n 1, 1) := by decide +kernel
theorem dX12_speaks_169 : decode cX12_speaks 169 = .ok (.iaload, 1) := by decide +kernel
theorem dX12_speaks_170 : decode cX12_speaks 170 = .ok (.iastore, 1) := by decide +kernel
theorem dX12_speaks_171 : decode cX12_speaks 171 = .ok (.iinc 1 1, 3) := by decide +kernel
theorem dX12_speaks_174 : decode cX12_speaks 174 = .ok (.goto (-21), 3) := by decide +kernel
theorem dX12_speaks_177 : decode cX12_speaks 177 = .ok (.return_, 1) := by decide +kernel
theorem dX12_tariff_0 : decode cX12_tariff 0 = .ok (.iload_n 1, 1) := by decide +kernel
theorem dX12_tariff_1 : decode cX12_tariff 1 = .ok (.i2l, 1) := by decide +kernel
theorem dX12_tariff_2 : decode cX12_tariff 2 = .ok (.lconst 0, 1) := by decide +kernel
theorem dX12_tariff_3 : decode cX12_tariff 3 = .ok (.ldc2_w 279, 3) := by decide +kernel
theorem dX12_tariff_6 : decode cX12_tariff 6 = .ok (.invokestatic 268, 3) := by decide +kernel
theorem dX12_tariff_9 : decode cX12_tariff 9 = .ok (.ifCond .eq 53, 3) := by decide +kernel
theorem dX12_tariff_12 : decode cX12_tariff 12 = .ok (.iload_n 2, 1) := by decide +kernel
theorem dX12_tariff_13 : decode cX12_tariff 13 = .ok (.i2l, 1) := by decide +kernel
theorem dX12_tariff_14 : decode cX12_tariff 14 = .ok (.lconst 0, 1) := by decide +kernel
theorem dX12_tariff_15 : decode cX12_tariff 15 = .ok (.ldc2_w 480, 3) := by decide +kernel
theorem dX12_tariff_18 : decode cX12_tariff 18 = .ok (.invokestatic 268, 3) := by decide +kernel
theorem dX12_tariff_21 : decode cX12_tariff 21 = .ok (.ifCond .eq 41, 3) := by decide +kernel
theorem dX12_tariff_24 : decode cX12_tariff 24 = .ok (.iload_n 3, 1) := by decide +kernel
theorem dX12_tariff_25 : decode cX12_tariff 25 = .ok (.i2l, 1) := by decide +kernel
theorem dX12_tariff_26 : decode cX12_tariff 26 = .ok (.lconst 1, 1) := by decide +kernel
theorem dX12_tariff_27 : decode cX12_tariff 27 = .ok (.ldc2_w 482, 3) := by decide +kernel
theorem dX12_tariff_30 : decode cX12_tariff 30 = .ok (.invokestatic 268, 3) := by decide +kernel
theorem dX12_tariff_33 : decode cX12_tariff 33 = .ok (.ifCond .eq 29, 3) := by decide +kernel
theorem dX12_tariff_36 : decode cX12_tariff 36 = .ok (.iload 4, 2) := by decide +kernel
theorem dX12_tariff_38 : decode cX12_tariff 38 = .ok (.i2l, 1) := by decide +kernel
theorem dX12_tariff_39 : decode cX12_tariff 39 = .ok (.lconst 0, 1) := by decide +kernel
theorem dX12_tariff_40 : decode cX12_tariff 40 = .ok (.ldc2_w 484, 3) := by decide +kernel
theorem dX12_tariff_43 : decode cX12_tariff 43 = .ok (.invokestatic 268, 3) := by decide +kernel
theorem dX12_tariff_46 : decode cX12_tariff 46 = .ok (.ifCond .eq 16, 3) := by decide +kernel
theorem dX12_tariff_49 : decode cX12_tariff 49 = .ok (.iload 5, 2) := by decide +kernel
theorem dX12_tariff_51 : decode cX12_tariff 51 = .ok (.i2l, 1) := by decide +kernel
theorem dX12_tariff_52 : decode cX12_tariff 52 = .ok (.lconst 0, 1) := by decide +kernel
theorem dX12_tariff_53 : decode cX12_tariff 53 = .ok (.ldc2_w 484, 3) := by decide +kernel
theorem dX12_tariff_56 : decode cX12_tariff 56 = .ok (.invokestatic 268, 3) := by decide +kernel
theorem dX12_tariff_59 : decode cX12_tariff 59 = .ok (.ifCond .ne 6, 3) := by decide +kernel
theorem dX12_tariff_62 : decode cX12_tariff 62 = .ok (.bipush (-2), 2) := by decide +kernel
theorem dX12_tariff_64 : decode cX12_tariff 64 = .ok (.ireturn, 1) := by decide +kernel
theorem dX12_tariff_65 : decode cX12_tariff 65 = .ok (.aload_n 0, 1) := by decide +kernel
theorem dX12_tariff_66 : decode cX12_tariff 66 = .ok (.getfield 240, 3) := by decide +kernel
theorem dX12_tariff_69 : decode cX12_tariff 69 = .ok (.iload_n 1, 1) := by decide +kernel
theorem dX12_tariff_70 : decode cX12_tariff 70 = .ok (.iload_n 2, 1) := by decide +kernel
theorem dX12_tariff_71 : decode cX12_tariff 71 = .ok (.iastore, 1) := by decide +kernel
theorem dX12_tariff_72 : decode cX12_tariff 72 = .ok (.aload_n 0, 1) := by decide +kernel
theorem dX12_tariff_73 : decode cX12_tariff 73 = .ok (.getfield 243, 3) := by decide +kernel
theorem dX12_tariff_76 : decode cX12_tariff 76 = .ok (.iload_n 1, 1) := by decide +kernel
theorem dX12_tariff_77 : decode cX12_tariff 77 = .ok (.iload_n 3, 1) := by decide +kernel
theorem dX12_tariff_78 : decode cX12_tariff 78 = .ok (.iastore, 1) := by decide +kernel
theorem dX12_tariff_79 : decode cX12_tariff 79 = .ok (.aload_n 0, 1) := by decide +kernel
theorem dX12_tariff_80 : decode cX12_tariff 80 = .ok (.getfield 246, 3) := by decide +kernel
theorem dX12_tariff_83 : decode cX12_tariff 83 = .ok (.iload_n 1, 1) := by decide +kernel
theorem dX12_tariff_84 : decode cX12_tariff 84 = .ok (.iload 4, 2) := by decide +kernel
theorem dX12_tariff_86 : decode cX12_tariff 86 = .ok (.iastore, 1) := by decide +kernel
theorem dX12_tariff_87 : decode cX12_tariff 87 = .ok (.aload_n 0, 1) := by decide +kernel
theorem dX12_tariff_88 : decode cX12_tariff 88 = .ok (.getfield 249, 3) := by decide +kernel
theorem dX12_tariff_91 : decode cX12_tariff 91 = .ok (.iload_n 1, 1) := by decide +kernel
theorem dX12_tariff_92 : decode cX12_tariff 92 = .ok (.iload 5, 2) := by decide +kernel
theorem dX12_tariff_94 : decode cX12_tariff 94 = .ok (.iastore, 1) := by decide +kernel
theorem dX12_tariff_95 : decode cX12_tariff 95 = .ok (.iconst 1, 1) := by decide +kernel
theorem dX12_tariff_96 : decode cX12_tariff 96 = .ok (.ireturn, 1) := by decide +kernel
theorem dX12_price_0 : decode cX12_price 0 = .ok (.aload_n 0, 1) := by decide +kernel
theorem dX12_price_1 : decode cX12_price 1 = .ok (.getfield 285, 3) := by decide +kernel
theorem dX12_price_4 : decode cX12_price 4 = .ok (.sipush 2400, 3) := by decide +kernel
theorem dX12_price_7 : decode cX12_price 7 = .ok (.irem, 1) := by decide +kernel
theorem dX12_price_8 : decode cX12_price 8 = .ok (.sipush 800, 3) := by decide +kernel
theorem dX12_price_11 : decode cX12_price 11 = .ok (.if_icmp .ge 12, 3) := by decide +kernel
theorem dX12_price_14 : decode cX12_price 14 = .ok (.aload_n 0, 1) := by decide +kernel
theorem dX12_price_15 : decode cX12_price 15 = .ok (.getfield 249, 3) := by decide +kernel
theorem dX12_price_18 : decode cX12_price 18 = .ok (.iload_n 1, 1) := by decide +kernel
theorem dX12_price_19 : decode cX12_price 19 = .ok (.iaload, 1) := by decide +kernel
theorem dX12_price_20 : decode cX12_price 20 = .ok (.goto 9, 3) := by decide +kernel
theorem dX12_price_23 : decode cX12_price 23 = .ok (.aload_n 0, 1) := by decide +kernel
theorem dX12_price_24 : decode cX12_price 24 = .ok (.getfield 246, 3) := by decide +kernel
theorem dX12_price_27 : decode cX12_price 27 = .ok (.iload_n 1, 1) := by decide +kernel
theorem dX12_price_28 : decode cX12_price 28 = .ok (.iaload, 1) := by decide +kernel
theorem dX12_price_29 : decode cX12_price 29 = .ok (.ireturn, 1) := by decide +kernel
theorem dX12_charges_0 : decode cX12_charges 0 = .ok (.aload_n 0, 1) := by decide +kernel
theorem dX12_charges_1 : decode cX12_charges 1 = .ok (.getfield 104, 3) := by decide +kernel
theorem dX12_charges_4 : decode cX12_charges 4 = .ok (.iload_n 1, 1) := by decide +kernel
theorem dX12_charges_5 : decode cX12_charges 5 = .ok (.iaload, 1) := by decide +kernel
theorem dX12_charges_6 : decode cX12_charges 6 = .ok (.istore_n 3, 1) := by decide +kernel
theorem dX12_charges_7 : decode cX12_charges 7 = .ok (.aload_n 0, 1) := by decide +kernel
theorem dX12_charges_8 : decode cX12_charges 8 = .ok (.getfield 77, 3) := by decide +kernel
theorem dX12_charges_11 : decode cX12_charges 11 = .ok (.iload_n 3, 1) := by decide +kernel
theorem dX12_charges_12 : decode cX12_charges 12 = .ok (.iaload, 1) := by decide +kernel
theorem dX12_charges_13 : decode cX12_charges 13 = .ok (.iconst (-1), 1) := by decide +kernel
theorem dX12_charges_14 : decode cX12_charges 14 = .ok (.if_icmp .eq 21, 3) := by decide +kernel
theorem dX12_charges_17 : decode cX12_charges 17 = .ok (.aload_n 0, 1) := by decide +kernel
theorem dX12_charges_18 : decode cX12_charges 18 = .ok (.getfield 77, 3) := by decide +kernel
theorem dX12_charges_21 : decode cX12_charges 21 = .ok (.iload_n 3, 1) := by decide +kernel
theorem dX12_charges_22 : decode cX12_charges 22 = .ok (.iaload, 1) := by decide +kernel
theorem dX12_charges_23 : decode cX12_charges 23 = .ok (.iload_n 2, 1) := by decide +kernel
theorem dX12_charges_24 : decode cX12_charges 24 = .ok (.if_icmp .ge 11, 3) := by decide +kernel
theorem dX12_charges_27 : decode cX12_charges 27 = .ok (.aload_n 0, 1) := by decide +kernel
theorem dX12_charges_28 : decode cX12_charges 28 = .ok (.iload_n 1, 1) := by decide +kernel
theorem dX12_charges_29 : decode cX12_charges 29 = .ok (.iconst 5, 1) := by decide +kernel
theorem dX12_charges_30 : decode cX12_charges 30 = .ok (.iconst (-1), 1) := by decide +kernel
theorem dX12_charges_31 : decode cX12_charges 31 = .ok (.invokevirtual 323, 3) := by decide +kernel
theorem dX12_charges_34 : decode cX12_charges 34 = .ok (.return_, 1) := by decide +kernel
theorem dX12_charges_35 : decode cX12_charges 35 = .ok (.aload_n 0, 1) := by decide +kernel
theorem dX12_charges_36 : decode cX12_charges 36 = .ok (.getfield 77, 3) := by decide +kernel
theorem dX12_charges_39 : decode cX12_charges 39 = .ok (.iload_n 3, 1) := by decide +kernel
theorem dX12_charges_40 : decode cX12_charges 40 = .ok (.iaload, 1) := by decide +kernel
theorem dX12_charges_41 : decode cX12_charges 41 = .ok (.iconst (-1), 1) := by decide +kernel
theorem dX12_charges_42 : decode cX12_charges 42 = .ok (.if_icmp .eq 13, 3) := by decide +kernel
theorem dX12_charges_45 : decode cX12_charges 45 = .ok (.aload_n 0, 1) := by decide +kernel
theorem dX12_charges_46 : decode cX12_charges 46 = .ok (.getfield 77, 3) := by decide +kernel
theorem dX12_charges_49 : decode cX12_charges 49 = .ok (.iload_n 3, 1) := by decide +kernel
theorem dX12_charges_50 : decode cX12_charges 50 = .ok (.dup2, 1) := by decide +kernel
theorem dX12_charges_51 : decode cX12_charges 51 = .ok (.iaload, 1) := by decide +kernel
theorem dX12_charges_52 : decode cX12_charges 52 = .ok (.iload_n 2, 1) := by decide +kernel
theorem dX12_charges_53 : decode cX12_charges 53 = .ok (.isub, 1) := by decide +kernel
theorem dX12_charges_54 : decode cX12_charges 54 = .ok (.iastore, 1) := by decide +kernel
theorem dX12_charges_55 : decode cX12_charges 55 = .ok (.aload_n 0, 1) := by decide +kernel
theorem dX12_charges_56 : decode cX12_charges 56 = .ok (.getfield 137, 3) := by decide +kernel
theorem dX12_charges_59 : decode cX12_charges 59 = .ok (.iload_n 1, 1) := by decide +kernel
theorem dX12_charges_60 : decode cX12_charges 60 = .ok (.dup2, 1) := by decide +kernel
theorem dX12_charges_61 : decode cX12_charges 61 = .ok (.iaload, 1) := by decide +kernel
theorem dX12_charges_62 : decode cX12_charges 62 = .ok (.iload_n 2, 1) := by decide +kernel
theorem dX12_charges_63 : decode cX12_charges 63 = .ok (.iadd, 1) := by decide +kernel
theorem dX12_charges_64 : decode cX12_charges 64 = .ok (.iastore, 1) := by decide +kernel
theorem dX12_charges_65 : decode cX12_charges 65 = .ok (.return_, 1) := by decide +kernel
theorem dX12_records_0 : decode cX12_records 0 = .ok (.iconst 5, 1) := by decide +kernel
theorem dX12_records_1 : decode cX12_records 1 = .ok (.aload_n 0, 1) := by decide +kernel
theorem dX12_records_2 : decode cX12_records 2 = .ok (.getfield 486, 3) := by decide +kernel
theorem dX12_records_5 : decode cX12_records 5 = .ok (.sipush 300, 3) := by decide +kernel
theorem dX12_records_8 : decode cX12_records 8 = .ok (.irem, 1) := by decide +kernel
theorem dX12_records_9 : decode cX12_records 9 = .ok (.imul, 1) := by decide +kernel
theorem dX12_records_10 : decode cX12_records 10 = .ok (.istore_n 2, 1) := by decide +kernel
theorem dX12_records_11 : decode cX12_records 11 = .ok (.aload_n 0, 1) := by decide +kernel
theorem dX12_records_12 : decode cX12_records 12 = .ok (.getfield 252, 3) := by decide +kernel
theorem dX12_records_15 : decode cX12_records 15 = .ok (.iload_n 2, 1) := by decide +kernel
theorem dX12_records_16 : decode cX12_records 16 = .ok (.aload_n 0, 1) := by decide +kernel
theorem dX12_records_17 : decode cX12_records 17 = .ok (.getfield 104, 3) := by decide +kernel
theorem dX12_records_20 : decode cX12_records 20 = .ok (.iload_n 1, 1) := by decide +kernel
theorem dX12_records_21 : decode cX12_records 21 = .ok (.iaload, 1) := by decide +kernel
theorem dX12_records_22 : decode cX12_records 22 = .ok (.iastore, 1) := by decide +kernel
theorem dX12_records_23 : decode cX12_records 23 = .ok (.aload_n 0, 1) := by decide +kernel
theorem dX12_records_24 : decode cX12_records 24 = .ok (.getfield 252, 3) := by decide +kernel
theorem dX12_records_27 : decode cX12_records 27 = .ok (.iload_n 2, 1) := by decide +kernel
theorem dX12_records_28 : decode cX12_records 28 = .ok (.iconst 1, 1) := by decide +kernel
theorem dX12_records_29 : decode cX12_records 29 = .ok (.iadd, 1) := by decide +kernel
theorem dX12_records_30 : decode cX12_records 30 = .ok (.aload_n 0, 1) := by decide +kernel
theorem dX12_records_31 : decode cX12_records 31 = .ok (.getfield 125, 3) := by decide +kernel
theorem dX12_records_34 : decode cX12_records 34 = .ok (.iload_n 1, 1) := by decide +kernel
theorem dX12_records_35 : decode cX12_records 35 = .ok (.iaload, 1) := by decide +kernel
theorem dX12_records_36 : decode cX12_records 36 = .ok (.iastore, 1) := by decide +kernel
theorem dX12_records_37 : decode cX12_records 37 = .ok (.aload_n 0, 1) := by decide +kernel
theorem dX12_records_38 : decode cX12_records 38 = .ok (.getfield 252, 3) := by decide +kernel
theorem dX12_records_41 : decode cX12_records 41 = .ok (.iload_n 2, 1) := by decide +kernel
theorem dX12_records_42 : decode cX12_records 42 = .ok (.iconst 2, 1) := by decide +kernel
theorem dX12_records_43 : decode cX12_records 43 = .ok (.iadd, 1) := by decide +kernel
theorem dX12_records_44 : decode cX12_records 44 = .ok (.aload_n 0, 1) := by decide +kernel
theorem dX12_records_45 : decode cX12_records 45 = .ok (.getfield 134, 3) := by decide +kernel
theorem dX12_records_48 : decode cX12_records 48 = .ok (.iload_n 1, 1) := by decide +kernel
theorem dX12_records_49 : decode cX12_records 49 = .ok (.iaload, 1) := by decide +kernel
theorem dX12_records_50 : decode cX12_records 50 = .ok (.iastore, 1) := by decide +kernel
theorem dX12_records_51 : decode cX12_records 51 = .ok (.aload_n 0, 1) := by decide +kernel
theorem dX12_records_52 : decode cX12_records 52 = .ok (.getfield 252, 3) := by decide +kernel
theorem dX12_records_55 : decode cX12_records 55 = .ok (.iload_n 2, 1) := by decide +kernel
theorem dX12_records_56 : decode cX12_records 56 = .ok (.iconst 3, 1) := by decide +kernel
theorem dX12_records_57 : decode cX12_records 57 = .ok (.iadd, 1) := by decide +kernel
theorem dX12_records_58 : decode cX12_records 58 = .ok (.aload_n 0, 1) := by decide +kernel
theorem dX12_records_59 : decode cX12_records 59 = .ok (.getfield 285, 3) := by decide +kernel
theorem dX12_records_62 : decode cX12_records 62 = .ok (.iastore, 1) := by decide +kernel
theorem dX12_records_63 : decode cX12_records 63 = .ok (.aload_n 0, 1) := by decide +kernel
theorem dX12_records_64 : decode cX12_records 64 = .ok (.getfield 252, 3) := by decide +kernel
theorem dX12_records_67 : decode cX12_records 67 = .ok (.iload_n 2, 1) := by decide +kernel
theorem dX12_records_68 : decode cX12_records 68 = .ok (.iconst 4, 1) := by decide +kernel
theorem dX12_records_69 : decode cX12_records 69 = .ok (.iadd, 1) := by decide +kernel
theorem dX12_records_70 : decode cX12_records 70 = .ok (.aload_n 0, 1) := by decide +kernel
theorem dX12_records_71 : decode cX12_records 71 = .ok (.getfield 137, 3) := by decide +kernel
theorem dX12_records_74 : decode cX12_records 74 = .ok (.iload_n 1, 1) := by decide +kernel
theorem dX12_records_75 : decode cX12_records 75 = .ok (.iaload, 1) := by decide +kernel
theorem dX12_records_76 : decode cX12_records 76 = .ok (.iastore, 1) := by decide +kernel
theorem dX12_records_77 : decode cX12_records 77 = .ok (.aload_n 0, 1) := by decide +kernel
theorem dX12_records_78 : decode cX12_records 78 = .ok (.dup, 1) := by decide +kernel
theorem dX12_records_79 : decode cX12_records 79 = .ok (.getfield 486, 3) := by decide +kernel
theorem dX12_records_82 : decode cX12_records 82 = .ok (.iconst 1, 1) := by decide +kernel
theorem dX12_records_83 : decode cX12_records 83 = .ok (.iadd, 1) := by decide +kernel
theorem dX12_records_84 : decode cX12_records 84 = .ok (.putfield 486, 3) := by decide +kernel
theorem dX12_records_87 : decode cX12_records 87 = .ok (.return_, 1) := by decide +kernel
theorem dX12_tick_0 : decode cX12_tick 0 = .ok (.iload_n 1, 1) := by decide +kernel
theorem dX12_tick_1 : decode cX12_tick 1 = .ok (.i2l, 1) := by decide +kernel
theorem dX12_tick_2 : decode cX12_tick 2 = .ok (.lconst 1, 1) := by decide +kernel
theorem dX12_tick_3 : decode cX12_tick 3 = .ok (.ldc2_w 482, 3) := by decide +kernel
theorem dX12_tick_6 : decode cX12_tick 6 = .ok (.invokestatic 268, 3) := by decide +kernel
theorem dX12_tick_9 : decode cX12_tick 9 = .ok (.ifCond .ne 6, 3) := by decide +kernel
theorem dX12_tick_12 : decode cX12_tick 12 = .ok (.bipush (-2), 2) := by decide +kernel
theorem dX12_tick_14 : decode cX12_tick 14 = .ok (.ireturn, 1) := by decide +kernel
theorem dX12_tick_15 : decode cX12_tick 15 = .ok (.aload_n 0, 1) := by decide +kernel
theorem dX12_tick_16 : decode cX12_tick 16 = .ok (.getfield 285, 3) := by decide +kernel
theorem dX12_tick_19 : decode cX12_tick 19 = .ok (.iload_n 1, 1) := by decide +kernel
theorem dX12_tick_20 : decode cX12_tick 20 = .ok (.iadd, 1) := by decide +kernel
theorem dX12_tick_21 : decode cX12_tick 21 = .ok (.ldc_w 489, 3) := by decide +kernel
theorem dX12_tick_24 : decode cX12_tick 24 = .ok (.if_icmp .le 6, 3) := by decide +kernel
theorem dX12_tick_27 : decode cX12_tick 27 = .ok (.bipush (-3), 2) := by decide +kernel
theorem dX12_tick_29 : decode cX12_tick 29 = .ok (.ireturn, 1) := by decide +kernel
theorem dX12_tick_30 : decode cX12_tick 30 = .ok (.iconst 0, 1) := by decide +kernel
theorem dX12_tick_31 : decode cX12_tick 31 = .ok (.istore_n 2, 1) := by decide +kernel
theorem dX12_tick_32 : decode cX12_tick 32 = .ok (.iload_n 2, 1) := by decide +kernel
theorem dX12_tick_33 : decode cX12_tick 33 = .ok (.iload_n 1, 1) := by decide +kernel
theorem dX12_tick_34 : decode cX12_tick 34 = .ok (.if_icmp .ge 85, 3) := by decide +kernel
theorem dX12_tick_37 : decode cX12_tick 37 = .ok (.aload_n 0, 1) := by decide +kernel
theorem dX12_tick_38 : decode cX12_tick 38 = .ok (.iconst 0, 1) := by decide +kernel
theorem dX12_tick_39 : decode cX12_tick 39 = .ok (.invokevirtual 490, 3) := by decide +kernel
theorem dX12_tick_42 : decode cX12_tick 42 = .ok (.aload_n 0, 1) := by decide +kernel
theorem dX12_tick_43 : decode cX12_tick 43 = .ok (.iconst 1, 1) := by decide +kernel
theorem dX12_tick_44 : decode cX12_tick 44 = .ok (.invokevirtual 490, 3) := by decide +kernel
theorem dX12_tick_47 : decode cX12_tick 47 = .ok (.iconst 0, 1) := by decide +kernel
theorem dX12_tick_48 : decode cX12_tick 48 = .ok (.istore_n 3, 1) := by decide +kernel
theorem dX12_tick_49 : decode cX12_tick 49 = .ok (.iload_n 3, 1) := by decide +kernel
theorem dX12_tick_50 : decode cX12_tick 50 = .ok (.bipush 16, 2) := by decide +kernel
theorem dX12_tick_52 : decode cX12_tick 52 = .ok (.if_icmp .ge 14, 3) := by decide +kernel
theorem dX12_tick_55 : decode cX12_tick 55 = .ok (.aload_n 0, 1) := by decide +kernel
theorem dX12_tick_56 : decode cX12_tick 56 = .ok (.iload_n 3, 1) := by decide +kernel
theorem dX12_tick_57 : decode cX12_tick 57 = .ok (.invokevirtual 493, 3) := by decide +kernel
theorem dX12_tick_60 : decode cX12_tick 60 = .ok (.iinc 3 1, 3) := by decide +kernel
theorem dX12_tick_63 : decode cX12_tick 63 = .ok (.goto (-14), 3) := by decide +kernel
theorem dX12_tick_66 : decode cX12_tick 66 = .ok (.aload_n 0, 1) := by decide +kernel
theorem dX12_tick_67 : decode cX12_tick 67 = .ok (.invokevirtual 496, 3) := by decide +kernel
theorem dX12_tick_70 : decode cX12_tick 70 = .ok (.iconst 0, 1) := by decide +kernel
theorem dX12_tick_71 : decode cX12_tick 71 = .ok (.istore_n 3, 1) := by decide +kernel
theorem dX12_tick_72 : decode cX12_tick 72 = .ok (.iload_n 3, 1) := by decide +kernel
theorem dX12_tick_73 : decode cX12_tick 73 = .ok (.bipush 6, 2) := by decide +kernel
theorem dX12_tick_75 : decode cX12_tick 75 = .ok (.if_icmp .ge 14, 3) := by decide +kernel
theorem dX12_tick_78 : decode cX12_tick 78 = .ok (.aload_n 0, 1) := by decide +kernel
theorem dX12_tick_79 : decode cX12_tick 79 = .ok (.iload_n 3, 1) := by decide +kernel
theorem dX12_tick_80 : decode cX12_tick 80 = .ok (.invokevirtual 499, 3) := by decide +kernel
theorem dX12_tick_83 : decode cX12_tick 83 = .ok (.iinc 3 1, 3) := by decide +kernel
theorem dX12_tick_86 : decode cX12_tick 86 = .ok (.goto (-14), 3) := by decide +kernel
theorem dX12_tick_89 : decode cX12_tick 89 = .ok (.aload_n 0, 1) := by decide +kernel
theorem dX12_tick_90 : decode cX12_tick 90 = .ok (.invokevirtual 502, 3) := by decide +kernel
theorem dX12_tick_93 : decode cX12_tick 93 = .ok (.aload_n 0, 1) := by decide +kernel
theorem dX12_tick_94 : decode cX12_tick 94 = .ok (.iconst 0, 1) := by decide +kernel
theorem dX12_tick_95 : decode cX12_tick 95 = .ok (.invokevirtual 505, 3) := by decide +kernel
theorem dX12_tick_98 : decode cX12_tick 98 = .ok (.aload_n 0, 1) := by decide +kernel
theorem dX12_tick_99 : decode cX12_tick 99 = .ok (.iconst 1, 1) := by decide +kernel
theorem dX12_tick_100 : decode cX12_tick 100 = .ok (.invokevirtual 505, 3) := by decide +kernel
theorem dX12_tick_103 : decode cX12_tick 103 = .ok (.aload_n 0, 1) := by decide +kernel
theorem dX12_tick_104 : decode cX12_tick 104 = .ok (.dup, 1) := by decide +kernel
theorem dX12_tick_105 : decode cX12_tick 105 = .ok (.getfield 285, 3) := by decide +kernel
theorem dX12_tick_108 : decode cX12_tick 108 = .ok (.iconst 1, 1) := by decide +kernel
theorem dX12_tick_109 : decode cX12_tick 109 = .ok (.iadd, 1) := by decide +kernel
theorem dX12_tick_110 : decode cX12_tick 110 = .ok (.putfield 285, 3) := by decide +kernel
theorem dX12_tick_113 : decode cX12_tick 113 = .ok (.iinc 2 1, 3) := by decide +kernel
theorem dX12_tick_116 : decode cX12_tick 116 = .ok (.goto (-84), 3) := by decide +kernel
theorem dX12_tick_119 : decode cX12_tick 119 = .ok (.aload_n 0, 1) := by decide +kernel
theorem dX12_tick_120 : decode cX12_tick 120 = .ok (.getfield 285, 3) := by decide +kernel
theorem dX12_tick_123 : decode cX12_tick 123 = .ok (.ireturn, 1) := by decide +kernel
theorem dX12_sounds_0 : decode cX12_sounds 0 = .ok (.aload_n 0, 1) := by decide +kernel
theorem dX12_sounds_1 : decode cX12_sounds 1 = .ok (.getfield 34, 3) := by decide +kernel
theorem dX12_sounds_4 : decode cX12_sounds 4 = .ok (.iload_n 1, 1) := by decide +kernel
theorem dX12_sounds_5 : decode cX12_sounds 5 = .ok (.baload, 1) := by decide +kernel
theorem dX12_sounds_6 : decode cX12_sounds 6 = .ok (.ifCond .ne 19, 3) := by decide +kernel
theorem dX12_sounds_9 : decode cX12_sounds 9 = .ok (.aload_n 0, 1) := by decide +kernel
theorem dX12_sounds_10 : decode cX12_sounds 10 = .ok (.getfield 62, 3) := by decide +kernel
theorem dX12_sounds_13 : decode cX12_sounds 13 = .ok (.iload_n 1, 1) := by decide +kernel
theorem dX12_sounds_14 : decode cX12_sounds 14 = .ok (.iaload, 1) := by decide +kernel
theorem dX12_sounds_15 : decode cX12_sounds 15 = .ok (.iconst (-1), 1) := by decide +kernel
theorem dX12_sounds_16 : decode cX12_sounds 16 = .ok (.if_icmp .ne 7, 3) := by decide +kernel
theorem dX12_sounds_19 : decode cX12_sounds 19 = .ok (.iconst 0, 1) := by decide +kernel
theorem dX12_sounds_20 : decode cX12_sounds 20 = .ok (.goto 4, 3) := by decide +kernel
