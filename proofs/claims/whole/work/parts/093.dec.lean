theorem dX10_unit_118 : decode cX10_unit 118 = .ok (.iadd, 1) := by decide +kernel
theorem dX10_unit_119 : decode cX10_unit 119 = .ok (.putfield 235, 3) := by decide +kernel
theorem dX10_unit_122 : decode cX10_unit 122 = .ok (.aload_n 0, 1) := by decide +kernel
theorem dX10_unit_123 : decode cX10_unit 123 = .ok (.invokevirtual 275, 3) := by decide +kernel
theorem dX10_unit_126 : decode cX10_unit 126 = .ok (.istore 4, 2) := by decide +kernel
theorem dX10_unit_128 : decode cX10_unit 128 = .ok (.iload_n 3, 1) := by decide +kernel
theorem dX10_unit_129 : decode cX10_unit 129 = .ok (.bipush 60, 2) := by decide +kernel
theorem dX10_unit_131 : decode cX10_unit 131 = .ok (.if_icmp .ne 17, 3) := by decide +kernel
theorem dX10_unit_134 : decode cX10_unit 134 = .ok (.iload_n 2, 1) := by decide +kernel
theorem dX10_unit_135 : decode cX10_unit 135 = .ok (.iload 4, 2) := by decide +kernel
theorem dX10_unit_137 : decode cX10_unit 137 = .ok (.if_icmp .ge 7, 3) := by decide +kernel
theorem dX10_unit_140 : decode cX10_unit 140 = .ok (.iconst 1, 1) := by decide +kernel
theorem dX10_unit_141 : decode cX10_unit 141 = .ok (.goto 38, 3) := by decide +kernel
theorem dX10_unit_144 : decode cX10_unit 144 = .ok (.iconst 0, 1) := by decide +kernel
theorem dX10_unit_145 : decode cX10_unit 145 = .ok (.goto 34, 3) := by decide +kernel
theorem dX10_unit_148 : decode cX10_unit 148 = .ok (.iload_n 3, 1) := by decide +kernel
theorem dX10_unit_149 : decode cX10_unit 149 = .ok (.bipush 61, 2) := by decide +kernel
theorem dX10_unit_151 : decode cX10_unit 151 = .ok (.if_icmp .ne 17, 3) := by decide +kernel
theorem dX10_unit_154 : decode cX10_unit 154 = .ok (.iload_n 2, 1) := by decide +kernel
theorem dX10_unit_155 : decode cX10_unit 155 = .ok (.iload 4, 2) := by decide +kernel
theorem dX10_unit_157 : decode cX10_unit 157 = .ok (.if_icmp .ne 7, 3) := by decide +kernel
theorem dX10_unit_160 : decode cX10_unit 160 = .ok (.iconst 1, 1) := by decide +kernel
theorem dX10_unit_161 : decode cX10_unit 161 = .ok (.goto 18, 3) := by decide +kernel
theorem dX10_unit_164 : decode cX10_unit 164 = .ok (.iconst 0, 1) := by decide +kernel
theorem dX10_unit_165 : decode cX10_unit 165 = .ok (.goto 14, 3) := by decide +kernel
theorem dX10_unit_168 : decode cX10_unit 168 = .ok (.iload_n 2, 1) := by decide +kernel
theorem dX10_unit_169 : decode cX10_unit 169 = .ok (.iload 4, 2) := by decide +kernel
theorem dX10_unit_171 : decode cX10_unit 171 = .ok (.if_icmp .le 7, 3) := by decide +kernel
theorem dX10_unit_174 : decode cX10_unit 174 = .ok (.iconst 1, 1) := by decide +kernel
theorem dX10_unit_175 : decode cX10_unit 175 = .ok (.goto 4, 3) := by decide +kernel
theorem dX10_unit_178 : decode cX10_unit 178 = .ok (.iconst 0, 1) := by decide +kernel
theorem dX10_unit_179 : decode cX10_unit 179 = .ok (.istore_n 2, 1) := by decide +kernel
theorem dX10_unit_180 : decode cX10_unit 180 = .ok (.aload_n 0, 1) := by decide +kernel
theorem dX10_unit_181 : decode cX10_unit 181 = .ok (.bipush 41, 2) := by decide +kernel
theorem dX10_unit_183 : decode cX10_unit 183 = .ok (.invokevirtual 278, 3) := by decide +kernel
theorem dX10_unit_186 : decode cX10_unit 186 = .ok (.ifCond .ne 8, 3) := by decide +kernel
theorem dX10_unit_189 : decode cX10_unit 189 = .ok (.aload_n 0, 1) := by decide +kernel
theorem dX10_unit_190 : decode cX10_unit 190 = .ok (.invokevirtual 272, 3) := by decide +kernel
theorem dX10_unit_193 : decode cX10_unit 193 = .ok (.ireturn, 1) := by decide +kernel
theorem dX10_unit_194 : decode cX10_unit 194 = .ok (.aload_n 0, 1) := by decide +kernel
theorem dX10_unit_195 : decode cX10_unit 195 = .ok (.dup, 1) := by decide +kernel
theorem dX10_unit_196 : decode cX10_unit 196 = .ok (.getfield 269, 3) := by decide +kernel
theorem dX10_unit_199 : decode cX10_unit 199 = .ok (.iconst 1, 1) := by decide +kernel
theorem dX10_unit_200 : decode cX10_unit 200 = .ok (.isub, 1) := by decide +kernel
theorem dX10_unit_201 : decode cX10_unit 201 = .ok (.putfield 269, 3) := by decide +kernel
theorem dX10_unit_204 : decode cX10_unit 204 = .ok (.iload_n 2, 1) := by decide +kernel
theorem dX10_unit_205 : decode cX10_unit 205 = .ok (.ireturn, 1) := by decide +kernel
theorem dX10_unit_206 : decode cX10_unit 206 = .ok (.iconst 0, 1) := by decide +kernel
theorem dX10_unit_207 : decode cX10_unit 207 = .ok (.istore_n 2, 1) := by decide +kernel
theorem dX10_unit_208 : decode cX10_unit 208 = .ok (.iconst 0, 1) := by decide +kernel
theorem dX10_unit_209 : decode cX10_unit 209 = .ok (.istore_n 3, 1) := by decide +kernel
theorem dX10_unit_210 : decode cX10_unit 210 = .ok (.iload_n 3, 1) := by decide +kernel
theorem dX10_unit_211 : decode cX10_unit 211 = .ok (.iconst 5, 1) := by decide +kernel
theorem dX10_unit_212 : decode cX10_unit 212 = .ok (.if_icmp .ge 50, 3) := by decide +kernel
theorem dX10_unit_215 : decode cX10_unit 215 = .ok (.aload_n 0, 1) := by decide +kernel
theorem dX10_unit_216 : decode cX10_unit 216 = .ok (.invokevirtual 252, 3) := by decide +kernel
theorem dX10_unit_219 : decode cX10_unit 219 = .ok (.bipush 48, 2) := by decide +kernel
theorem dX10_unit_221 : decode cX10_unit 221 = .ok (.if_icmp .lt 41, 3) := by decide +kernel
theorem dX10_unit_224 : decode cX10_unit 224 = .ok (.aload_n 0, 1) := by decide +kernel
theorem dX10_unit_225 : decode cX10_unit 225 = .ok (.invokevirtual 252, 3) := by decide +kernel
theorem dX10_unit_228 : decode cX10_unit 228 = .ok (.bipush 57, 2) := by decide +kernel
theorem dX10_unit_230 : decode cX10_unit 230 = .ok (.if_icmp .gt 32, 3) := by decide +kernel
theorem dX10_unit_233 : decode cX10_unit 233 = .ok (.bipush 10, 2) := by decide +kernel
theorem dX10_unit_235 : decode cX10_unit 235 = .ok (.iload_n 2, 1) := by decide +kernel
theorem dX10_unit_236 : decode cX10_unit 236 = .ok (.imul, 1) := by decide +kernel
theorem dX10_unit_237 : decode cX10_unit 237 = .ok (.aload_n 0, 1) := by decide +kernel
theorem dX10_unit_238 : decode cX10_unit 238 = .ok (.invokevirtual 252, 3) := by decide +kernel
theorem dX10_unit_241 : decode cX10_unit 241 = .ok (.iadd, 1) := by decide +kernel
theorem dX10_unit_242 : decode cX10_unit 242 = .ok (.bipush 48, 2) := by decide +kernel
theorem dX10_unit_244 : decode cX10_unit 244 = .ok (.isub, 1) := by decide +kernel
theorem dX10_unit_245 : decode cX10_unit 245 = .ok (.istore_n 2, 1) := by decide +kernel
theorem dX10_unit_246 : decode cX10_unit 246 = .ok (.aload_n 0, 1) := by decide +kernel
theorem dX10_unit_247 : decode cX10_unit 247 = .ok (.dup, 1) := by decide +kernel
theorem dX10_unit_248 : decode cX10_unit 248 = .ok (.getfield 235, 3) := by decide +kernel
theorem dX10_unit_251 : decode cX10_unit 251 = .ok (.iconst 1, 1) := by decide +kernel
theorem dX10_unit_252 : decode cX10_unit 252 = .ok (.iadd, 1) := by decide +kernel
theorem dX10_unit_253 : decode cX10_unit 253 = .ok (.putfield 235, 3) := by decide +kernel
theorem dX10_unit_256 : decode cX10_unit 256 = .ok (.iinc 3 1, 3) := by decide +kernel
theorem dX10_unit_259 : decode cX10_unit 259 = .ok (.goto (-49), 3) := by decide +kernel
theorem dX10_unit_262 : decode cX10_unit 262 = .ok (.iload_n 3, 1) := by decide +kernel
theorem dX10_unit_263 : decode cX10_unit 263 = .ok (.ifCond .ne 10, 3) := by decide +kernel
theorem dX10_unit_266 : decode cX10_unit 266 = .ok (.aload_n 0, 1) := by decide +kernel
theorem dX10_unit_267 : decode cX10_unit 267 = .ok (.invokevirtual 272, 3) := by decide +kernel
theorem dX10_unit_270 : decode cX10_unit 270 = .ok (.goto 4, 3) := by decide +kernel
theorem dX10_unit_273 : decode cX10_unit 273 = .ok (.iload_n 2, 1) := by decide +kernel
theorem dX10_unit_274 : decode cX10_unit 274 = .ok (.ireturn, 1) := by decide +kernel
theorem dX10_goesThrough_0 : decode cX10_goesThrough 0 = .ok (.aload_n 0, 1) := by decide +kernel
theorem dX10_goesThrough_1 : decode cX10_goesThrough 1 = .ok (.iload_n 1, 1) := by decide +kernel
theorem dX10_goesThrough_2 : decode cX10_goesThrough 2 = .ok (.putfield 241, 3) := by decide +kernel
theorem dX10_goesThrough_5 : decode cX10_goesThrough 5 = .ok (.aload_n 0, 1) := by decide +kernel
theorem dX10_goesThrough_6 : decode cX10_goesThrough 6 = .ok (.iload_n 2, 1) := by decide +kernel
theorem dX10_goesThrough_7 : decode cX10_goesThrough 7 = .ok (.putfield 238, 3) := by decide +kernel
theorem dX10_goesThrough_10 : decode cX10_goesThrough 10 = .ok (.aload_n 0, 1) := by decide +kernel
theorem dX10_goesThrough_11 : decode cX10_goesThrough 11 = .ok (.iconst 0, 1) := by decide +kernel
theorem dX10_goesThrough_12 : decode cX10_goesThrough 12 = .ok (.putfield 235, 3) := by decide +kernel
theorem dX10_goesThrough_15 : decode cX10_goesThrough 15 = .ok (.aload_n 0, 1) := by decide +kernel
theorem dX10_goesThrough_16 : decode cX10_goesThrough 16 = .ok (.iconst 0, 1) := by decide +kernel
theorem dX10_goesThrough_17 : decode cX10_goesThrough 17 = .ok (.putfield 269, 3) := by decide +kernel
theorem dX10_goesThrough_20 : decode cX10_goesThrough 20 = .ok (.aload_n 0, 1) := by decide +kernel
theorem dX10_goesThrough_21 : decode cX10_goesThrough 21 = .ok (.iconst 1, 1) := by decide +kernel
theorem dX10_goesThrough_22 : decode cX10_goesThrough 22 = .ok (.putfield 248, 3) := by decide +kernel
theorem dX10_goesThrough_25 : decode cX10_goesThrough 25 = .ok (.aload_n 0, 1) := by decide +kernel
theorem dX10_goesThrough_26 : decode cX10_goesThrough 26 = .ok (.invokevirtual 275, 3) := by decide +kernel
theorem dX10_goesThrough_29 : decode cX10_goesThrough 29 = .ok (.ireturn, 1) := by decide +kernel
theorem dX10_rule_0 : decode cX10_rule 0 = .ok (.iload_n 1, 1) := by decide +kernel
theorem dX10_rule_1 : decode cX10_rule 1 = .ok (.iconst 4, 1) := by decide +kernel
theorem dX10_rule_2 : decode cX10_rule 2 = .ok (.invokestatic 167, 3) := by decide +kernel
theorem dX10_rule_5 : decode cX10_rule 5 = .ok (.ifCond .ne 10, 3) := by decide +kernel
theorem dX10_rule_8 : decode cX10_rule 8 = .ok (.aload_n 0, 1) := by decide +kernel
theorem dX10_rule_9 : decode cX10_rule 9 = .ok (.bipush (-2), 2) := by decide +kernel
theorem dX10_rule_11 : decode cX10_rule 11 = .ok (.invokevirtual 163, 3) := by decide +kernel
theorem dX10_rule_14 : decode cX10_rule 14 = .ok (.ireturn, 1) := by decide +kernel
theorem dX10_rule_15 : decode cX10_rule 15 = .ok (.iload_n 2, 1) := by decide +kernel
theorem dX10_rule_16 : decode cX10_rule 16 = .ok (.aload_n 0, 1) := by decide +kernel
theorem dX10_rule_17 : decode cX10_rule 17 = .ok (.getfield 177, 3) := by decide +kernel
theorem dX10_rule_20 : decode cX10_rule 20 = .ok (.sipush 1500, 3) := by decide +kernel
theorem dX10_rule_23 : decode cX10_rule 23 = .ok (.invokestatic 187, 3) := by decide +kernel
theorem dX10_rule_26 : decode cX10_rule 26 = .ok (.istore_n 3, 1) := by decide +kernel
theorem dX10_rule_27 : decode cX10_rule 27 = .ok (.iload_n 3, 1) := by decide +kernel
theorem dX10_rule_28 : decode cX10_rule 28 = .ok (.ifCond .ne 15, 3) := by decide +kernel
theorem dX10_rule_31 : decode cX10_rule 31 = .ok (.aload_n 0, 1) := by decide +kernel
theorem dX10_rule_32 : decode cX10_rule 32 = .ok (.getfield 281, 3) := by decide +kernel
theorem dX10_rule_35 : decode cX10_rule 35 = .ok (.bipush 30, 2) := by decide +kernel
theorem dX10_rule_37 : decode cX10_rule 37 = .ok (.if_icmp .ne 6, 3) := by decide +kernel
theorem dX10_rule_40 : decode cX10_rule 40 = .ok (.bipush (-6), 2) := by decide +kernel
theorem dX10_rule_42 : decode cX10_rule 42 = .ok (.istore_n 3, 1) := by decide +kernel
theorem dX10_rule_43 : decode cX10_rule 43 = .ok (.iload_n 3, 1) := by decide +kernel
theorem dX10_rule_44 : decode cX10_rule 44 = .ok (.ifCond .eq 9, 3) := by decide +kernel
theorem dX10_rule_47 : decode cX10_rule 47 = .ok (.aload_n 0, 1) := by decide +kernel
theorem dX10_rule_48 : decode cX10_rule 48 = .ok (.iload_n 3, 1) := by decide +kernel
theorem dX10_rule_49 : decode cX10_rule 49 = .ok (.invokevirtual 163, 3) := by decide +kernel
theorem dX10_rule_52 : decode cX10_rule 52 = .ok (.ireturn, 1) := by decide +kernel
theorem dX10_rule_53 : decode cX10_rule 53 = .ok (.aload_n 0, 1) := by decide +kernel
theorem dX10_rule_54 : decode cX10_rule 54 = .ok (.iconst (-1), 1) := by decide +kernel
theorem dX10_rule_55 : decode cX10_rule 55 = .ok (.aload_n 0, 1) := by decide +kernel
theorem dX10_rule_56 : decode cX10_rule 56 = .ok (.getfield 230, 3) := by decide +kernel
theorem dX10_rule_59 : decode cX10_rule 59 = .ok (.invokevirtual 284, 3) := by decide +kernel
theorem dX10_rule_62 : decode cX10_rule 62 = .ok (.istore 4, 2) := by decide +kernel
theorem dX10_rule_64 : decode cX10_rule 64 = .ok (.aload_n 0, 1) := by decide +kernel
theorem dX10_rule_65 : decode cX10_rule 65 = .ok (.getfield 248, 3) := by decide +kernel
theorem dX10_rule_68 : decode cX10_rule 68 = .ok (.ifCond .eq 18, 3) := by decide +kernel
theorem dX10_rule_71 : decode cX10_rule 71 = .ok (.aload_n 0, 1) := by decide +kernel
theorem dX10_rule_72 : decode cX10_rule 72 = .ok (.getfield 235, 3) := by decide +kernel
theorem dX10_rule_75 : decode cX10_rule 75 = .ok (.aload_n 0, 1) := by decide +kernel
theorem dX10_rule_76 : decode cX10_rule 76 = .ok (.getfield 230, 3) := by decide +kernel
theorem dX10_rule_79 : decode cX10_rule 79 = .ok (.if_icmp .ne 7, 3) := by decide +kernel
theorem dX10_rule_82 : decode cX10_rule 82 = .ok (.iconst 1, 1) := by decide +kernel
theorem dX10_rule_83 : decode cX10_rule 83 = .ok (.goto 4, 3) := by decide +kernel
theorem dX10_rule_86 : decode cX10_rule 86 = .ok (.iconst 0, 1) := by decide +kernel
theorem dX10_rule_87 : decode cX10_rule 87 = .ok (.istore 5, 2) := by decide +kernel
theorem dX10_rule_89 : decode cX10_rule 89 = .ok (.aload_n 0, 1) := by decide +kernel
theorem dX10_rule_90 : decode cX10_rule 90 = .ok (.getfield 230, 3) := by decide +kernel
theorem dX10_rule_93 : decode cX10_rule 93 = .ok (.istore 6, 2) := by decide +kernel
theorem dX10_rule_95 : decode cX10_rule 95 = .ok (.aload_n 0, 1) := by decide +kernel
theorem dX10_rule_96 : decode cX10_rule 96 = .ok (.iconst 0, 1) := by decide +kernel
theorem dX10_rule_97 : decode cX10_rule 97 = .ok (.putfield 230, 3) := by decide +kernel
theorem dX10_rule_100 : decode cX10_rule 100 = .ok (.iload 5, 2) := by decide +kernel
theorem dX10_rule_102 : decode cX10_rule 102 = .ok (.ifCond .ne 11, 3) := by decide +kernel
theorem dX10_rule_105 : decode cX10_rule 105 = .ok (.bipush (-20), 2) := by decide +kernel
theorem dX10_rule_107 : decode cX10_rule 107 = .ok (.aload_n 0, 1) := by decide +kernel
theorem dX10_rule_108 : decode cX10_rule 108 = .ok (.getfield 235, 3) := by decide +kernel
theorem dX10_rule_111 : decode cX10_rule 111 = .ok (.isub, 1) := by decide +kernel
theorem dX10_rule_112 : decode cX10_rule 112 = .ok (.ireturn, 1) := by decide +kernel
theorem dX10_rule_113 : decode cX10_rule 113 = .ok (.iconst 0, 1) := by decide +kernel
theorem dX10_rule_114 : decode cX10_rule 114 = .ok (.istore 7, 2) := by decide +kernel
theorem dX10_rule_116 : decode cX10_rule 116 = .ok (.iload 7, 2) := by decide +kernel
theorem dX10_rule_118 : decode cX10_rule 118 = .ok (.iload 6, 2) := by decide +kernel
theorem dX10_rule_120 : decode cX10_rule 120 = .ok (.if_icmp .ge 31, 3) := by decide +kernel
theorem dX10_rule_123 : decode cX10_rule 123 = .ok (.aload_n 0, 1) := by decide +kernel
theorem dX10_rule_124 : decode cX10_rule 124 = .ok (.getfield 145, 3) := by decide +kernel
theorem dX10_rule_127 : decode cX10_rule 127 = .ok (.bipush 60, 2) := by decide +kernel
theorem dX10_rule_129 : decode cX10_rule 129 = .ok (.aload_n 0, 1) := by decide +kernel
theorem dX10_rule_130 : decode cX10_rule 130 = .ok (.getfield 281, 3) := by decide +kernel
theorem dX10_rule_133 : decode cX10_rule 133 = .ok (.imul, 1) := by decide +kernel
theorem dX10_rule_134 : decode cX10_rule 134 = .ok (.iload 7, 2) := by decide +kernel
theorem dX10_rule_136 : decode cX10_rule 136 = .ok (.iadd, 1) := by decide +kernel
theorem dX10_rule_137 : decode cX10_rule 137 = .ok (.aload_n 0, 1) := by decide +kernel
theorem dX10_rule_138 : decode cX10_rule 138 = .ok (.getfield 155, 3) := by decide +kernel
theorem dX10_rule_141 : decode cX10_rule 141 = .ok (.iload 7, 2) := by decide +kernel
theorem dX10_rule_143 : decode cX10_rule 143 = .ok (.iaload, 1) := by decide +kernel
theorem dX10_rule_144 : decode cX10_rule 144 = .ok (.iastore, 1) := by decide +kernel
theorem dX10_rule_145 : decode cX10_rule 145 = .ok (.iinc 7 1, 3) := by decide +kernel
theorem dX10_rule_148 : decode cX10_rule 148 = .ok (.goto (-32), 3) := by decide +kernel
theorem dX10_rule_151 : decode cX10_rule 151 = .ok (.aload_n 0, 1) := by decide +kernel
theorem dX10_rule_152 : decode cX10_rule 152 = .ok (.getfield 136, 3) := by decide +kernel
theorem dX10_rule_155 : decode cX10_rule 155 = .ok (.aload_n 0, 1) := by decide +kernel
theorem dX10_rule_156 : decode cX10_rule 156 = .ok (.getfield 281, 3) := by decide +kernel
theorem dX10_rule_159 : decode cX10_rule 159 = .ok (.iload 6, 2) := by decide +kernel
theorem dX10_rule_161 : decode cX10_rule 161 = .ok (.iastore, 1) := by decide +kernel
theorem dX10_rule_162 : decode cX10_rule 162 = .ok (.aload_n 0, 1) := by decide +kernel
theorem dX10_rule_163 : decode cX10_rule 163 = .ok (.getfield 139, 3) := by decide +kernel
theorem dX10_rule_166 : decode cX10_rule 166 = .ok (.aload_n 0, 1) := by decide +kernel
theorem dX10_rule_167 : decode cX10_rule 167 = .ok (.getfield 281, 3) := by decide +kernel
theorem dX10_rule_170 : decode cX10_rule 170 = .ok (.iload_n 1, 1) := by decide +kernel
theorem dX10_rule_171 : decode cX10_rule 171 = .ok (.iastore, 1) := by decide +kernel
theorem dX10_rule_172 : decode cX10_rule 172 = .ok (.aload_n 0, 1) := by decide +kernel
theorem dX10_rule_173 : decode cX10_rule 173 = .ok (.getfield 142, 3) := by decide +kernel
theorem dX10_rule_176 : decode cX10_rule 176 = .ok (.aload_n 0, 1) := by decide +kernel
theorem dX10_rule_177 : decode cX10_rule 177 = .ok (.getfield 281, 3) := by decide +kernel
theorem dX10_rule_180 : decode cX10_rule 180 = .ok (.iload_n 2, 1) := by decide +kernel
theorem dX10_rule_181 : decode cX10_rule 181 = .ok (.iastore, 1) := by decide +kernel
theorem dX10_rule_182 : decode cX10_rule 182 = .ok (.aload_n 0, 1) := by decide +kernel
theorem dX10_rule_183 : decode cX10_rule 183 = .ok (.dup, 1) := by decide +kernel
theorem dX10_rule_184 : decode cX10_rule 184 = .ok (.getfield 281, 3) := by decide +kernel
theorem dX10_rule_187 : decode cX10_rule 187 = .ok (.iconst 1, 1) := by decide +kernel
theorem dX10_rule_188 : decode cX10_rule 188 = .ok (.iadd, 1) := by decide +kernel
theorem dX10_rule_189 : decode cX10_rule 189 = .ok (.putfield 281, 3) := by decide +kernel
theorem dX10_rule_192 : decode cX10_rule 192 = .ok (.aload_n 0, 1) := by decide +kernel
theorem dX10_rule_193 : decode cX10_rule 193 = .ok (.getfield 281, 3) := by decide +kernel
theorem dX10_rule_196 : decode cX10_rule 196 = .ok (.ireturn, 1) := by decide +kernel
theorem dX10_worth_0 : decode cX10_worth 0 = .ok (.iconst (-1), 1) := by decide +kernel
theorem dX10_worth_1 : decode cX10_worth 1 = .ok (.istore_n 3, 1) := by decide +kernel
theorem dX10_worth_2 : decode cX10_worth 2 = .ok (.iconst 0, 1) := by decide +kernel
theorem dX10_worth_3 : decode cX10_worth 3 = .ok (.istore 4, 2) := by decide +kernel
theorem dX10_worth_5 : decode cX10_worth 5 = .ok (.iload 4, 2) := by decide +kernel
theorem dX10_worth_7 : decode cX10_worth 7 = .ok (.aload_n 0, 1) := by decide +kernel
theorem dX10_worth_8 : decode cX10_worth 8 = .ok (.getfield 281, 3) := by decide +kernel
theorem dX10_worth_11 : decode cX10_worth 11 = .ok (.if_icmp .ge 54, 3) := by decide +kernel
theorem dX10_worth_14 : decode cX10_worth 14 = .ok (.aload_n 0, 1) := by decide +kernel
theorem dX10_worth_15 : decode cX10_worth 15 = .ok (.getfield 139, 3) := by decide +kernel
theorem dX10_worth_18 : decode cX10_worth 18 = .ok (.iload 4, 2) := by decide +kernel
theorem dX10_worth_20 : decode cX10_worth 20 = .ok (.iaload, 1) := by decide +kernel
theorem dX10_worth_21 : decode cX10_worth 21 = .ok (.iload_n 1, 1) := by decide +kernel
theorem dX10_worth_22 : decode cX10_worth 22 = .ok (.if_icmp .ne 37, 3) := by decide +kernel
theorem dX10_worth_25 : decode cX10_worth 25 = .ok (.aload_n 0, 1) := by decide +kernel
theorem dX10_worth_26 : decode cX10_worth 26 = .ok (.getfield 142, 3) := by decide +kernel
theorem dX10_worth_29 : decode cX10_worth 29 = .ok (.iload 4, 2) := by decide +kernel
theorem dX10_worth_31 : decode cX10_worth 31 = .ok (.iaload, 1) := by decide +kernel
theorem dX10_worth_32 : decode cX10_worth 32 = .ok (.iload_n 2, 1) := by decide +kernel
theorem dX10_worth_33 : decode cX10_worth 33 = .ok (.if_icmp .gt 26, 3) := by decide +kernel
theorem dX10_worth_36 : decode cX10_worth 36 = .ok (.iload_n 3, 1) := by decide +kernel
theorem dX10_worth_37 : decode cX10_worth 37 = .ok (.ifCond .lt 19, 3) := by decide +kernel
theorem dX10_worth_40 : decode cX10_worth 40 = .ok (.aload_n 0, 1) := by decide +kernel
theorem dX10_worth_41 : decode cX10_worth 41 = .ok (.getfield 142, 3) := by decide +kernel
theorem dX10_worth_44 : decode cX10_worth 44 = .ok (.iload 4, 2) := by decide +kernel
theorem dX10_worth_46 : decode cX10_worth 46 = .ok (.iaload, 1) := by decide +kernel
theorem dX10_worth_47 : decode cX10_worth 47 = .ok (.aload_n 0, 1) := by decide +kernel
theorem dX10_worth_48 : decode cX10_worth 48 = .ok (.getfield 142, 3) := by decide +kernel
theorem dX10_worth_51 : decode cX10_worth 51 = .ok (.iload_n 3, 1) := by decide +kernel
theorem dX10_worth_52 : decode cX10_worth 52 = .ok (.iaload, 1) := by decide +kernel
theorem dX10_worth_53 : decode cX10_worth 53 = .ok (.if_icmp .lt 6, 3) := by decide +kernel
theorem dX10_worth_56 : decode cX10_worth 56 = .ok (.iload 4, 2) := by decide +kernel
theorem dX10_worth_58 : decode cX10_worth 58 = .ok (.istore_n 3, 1) := by decide +kernel
theorem dX10_worth_59 : decode cX10_worth 59 = .ok (.iinc 4 1, 3) := by decide +kernel
theorem dX10_worth_62 : decode cX10_worth 62 = .ok (.goto (-57), 3) := by decide +kernel
theorem dX10_worth_65 : decode cX10_worth 65 = .ok (.iload_n 3, 1) := by decide +kernel
theorem dX10_worth_66 : decode cX10_worth 66 = .ok (.ifCond .lt 18, 3) := by decide +kernel
theorem dX10_worth_69 : decode cX10_worth 69 = .ok (.aload_n 0, 1) := by decide +kernel
theorem dX10_worth_70 : decode cX10_worth 70 = .ok (.bipush 60, 2) := by decide +kernel
theorem dX10_worth_72 : decode cX10_worth 72 = .ok (.iload_n 3, 1) := by decide +kernel
theorem dX10_worth_73 : decode cX10_worth 73 = .ok (.imul, 1) := by decide +kernel
theorem dX10_worth_74 : decode cX10_worth 74 = .ok (.aload_n 0, 1) := by decide +kernel
theorem dX10_worth_75 : decode cX10_worth 75 = .ok (.getfield 136, 3) := by decide +kernel
theorem dX10_worth_78 : decode cX10_worth 78 = .ok (.iload_n 3, 1) := by decide +kernel
theorem dX10_worth_79 : decode cX10_worth 79 = .ok (.iaload, 1) := by decide +kernel
theorem dX10_worth_80 : decode cX10_worth 80 = .ok (.invokevirtual 284, 3) := by decide +kernel
theorem dX10_worth_83 : decode cX10_worth 83 = .ok (.ireturn, 1) := by decide +kernel
theorem dX10_worth_84 : decode cX10_worth 84 = .ok (.iload_n 1, 1) := by decide +kernel
theorem dX10_worth_85 : decode cX10_worth 85 = .ok (.iconst 1, 1) := by decide +kernel
theorem dX10_worth_86 : decode cX10_worth 86 = .ok (.if_icmp .ne 9, 3) := by decide +kernel
theorem dX10_worth_89 : decode cX10_worth 89 = .ok (.sipush 1095, 3) := by decide +kernel
theorem dX10_worth_92 : decode cX10_worth 92 = .ok (.goto 19, 3) := by decide +kernel
theorem dX10_worth_95 : decode cX10_worth 95 = .ok (.iload_n 1, 1) := by decide +kernel
theorem dX10_worth_96 : decode cX10_worth 96 = .ok (.iconst 3, 1) := by decide +kernel
theorem dX10_worth_97 : decode cX10_worth 97 = .ok (.if_icmp .ne 13, 3) := by decide +kernel
theorem dX10_worth_100 : decode cX10_worth 100 = .ok (.aload_n 0, 1) := by decide +kernel
theorem dX10_worth_101 : decode cX10_worth 101 = .ok (.getfield 158, 3) := by decide +kernel
theorem dX10_worth_104 : decode cX10_worth 104 = .ok (.bipush 102, 2) := by decide +kernel
theorem dX10_worth_106 : decode cX10_worth 106 = .ok (.iaload, 1) := by decide +kernel
theorem dX10_worth_107 : decode cX10_worth 107 = .ok (.goto 4, 3) := by decide +kernel
theorem dX10_worth_110 : decode cX10_worth 110 = .ok (.iconst 1, 1) := by decide +kernel
theorem dX10_worth_111 : decode cX10_worth 111 = .ok (.ireturn, 1) := by decide +kernel
theorem dX10_bare_0 : decode cX10_bare 0 = .ok (.iconst 0, 1) := by decide +kernel
theorem dX10_bare_1 : decode cX10_bare 1 = .ok (.istore_n 1, 1) := by decide +kernel
theorem dX10_bare_2 : decode cX10_bare 2 = .ok (.iload_n 1, 1) := by decide +kernel
theorem dX10_bare_3 : decode cX10_bare 3 = .ok (.sipush 128, 3) := by decide +kernel
theorem dX10_bare_6 : decode cX10_bare 6 = .ok (.if_icmp .ge 16, 3) := by decide +kernel
theorem dX10_bare_9 : decode cX10_bare 9 = .ok (.aload_n 0, 1) := by decide +kernel
theorem dX10_bare_10 : decode cX10_bare 10 = .ok (.getfield 158, 3) := by decide +kernel
theorem dX10_bare_13 : decode cX10_bare 13 = .ok (.iload_n 1, 1) := by decide +kernel
theorem dX10_bare_14 : decode cX10_bare 14 = .ok (.iconst 0, 1) := by decide +kernel
theorem dX10_bare_15 : decode cX10_bare 15 = .ok (.iastore, 1) := by decide +kernel
theorem dX10_bare_16 : decode cX10_bare 16 = .ok (.iinc 1 1, 3) := by decide +kernel
theorem dX10_bare_19 : decode cX10_bare 19 = .ok (.goto (-17), 3) := by decide +kernel
theorem dX10_bare_22 : decode cX10_bare 22 = .ok (.return_, 1) := by decide +kernel
theorem dX10_puts_0 : decode cX10_puts 0 = .ok (.aload_n 0, 1) := by decide +kernel
theorem dX10_puts_1 : decode cX10_puts 1 = .ok (.invokevirtual 220, 3) := by decide +kernel
theorem dX10_puts_4 : decode cX10_puts 4 = .ok (.aload_n 0, 1) := by decide +kernel
theorem dX10_puts_5 : decode cX10_puts 5 = .ok (.getfield 158, 3) := by decide +kernel
theorem dX10_puts_8 : decode cX10_puts 8 = .ok (.bipush 98, 2) := by decide +kernel
theorem dX10_puts_10 : decode cX10_puts 10 = .ok (.aload_n 0, 1) := by decide +kernel
theorem dX10_puts_11 : decode cX10_puts 11 = .ok (.getfield 41, 3) := by decide +kernel
theorem dX10_puts_14 : decode cX10_puts 14 = .ok (.iload_n 1, 1) := by decide +kernel
theorem dX10_puts_15 : decode cX10_puts 15 = .ok (.iaload, 1) := by decide +kernel
theorem dX10_puts_16 : decode cX10_puts 16 = .ok (.iastore, 1) := by decide +kernel
theorem dX10_puts_17 : decode cX10_puts 17 = .ok (.aload_n 0, 1) := by decide +kernel
theorem dX10_puts_18 : decode cX10_puts 18 = .ok (.getfield 158, 3) := by decide +kernel
theorem dX10_puts_21 : decode cX10_puts 21 = .ok (.bipush 116, 2) := by decide +kernel
theorem dX10_puts_23 : decode cX10_puts 23 = .ok (.iload_n 2, 1) := by decide +kernel
theorem dX10_puts_24 : decode cX10_puts 24 = .ok (.iastore, 1) := by decide +kernel
theorem dX10_puts_25 : decode cX10_puts 25 = .ok (.aload_n 0, 1) := by decide +kernel
theorem dX10_puts_26 : decode cX10_puts 26 = .ok (.getfield 158, 3) := by decide +kernel
theorem dX10_puts_29 : decode cX10_puts 29 = .ok (.bipush 115, 2) := by decide +kernel
theorem dX10_puts_31 : decode cX10_puts 31 = .ok (.aload_n 0, 1) := by decide +kernel
theorem dX10_puts_32 : decode cX10_puts 32 = .ok (.getfield 65, 3) := by decide +kernel
theorem dX10_puts_35 : decode cX10_puts 35 = .ok (.iload_n 1, 1) := by decide +kernel
theorem dX10_puts_36 : decode cX10_puts 36 = .ok (.laload, 1) := by decide +kernel
theorem dX10_puts_37 : decode cX10_puts 37 = .ok (.invokestatic 259, 3) := by decide +kernel
theorem dX10_puts_40 : decode cX10_puts 40 = .ok (.iastore, 1) := by decide +kernel
theorem dX10_puts_41 : decode cX10_puts 41 = .ok (.aload_n 0, 1) := by decide +kernel
theorem dX10_puts_42 : decode cX10_puts 42 = .ok (.getfield 158, 3) := by decide +kernel
theorem dX10_puts_45 : decode cX10_puts 45 = .ok (.bipush 111, 2) := by decide +kernel
theorem dX10_puts_47 : decode cX10_puts 47 = .ok (.aload_n 0, 1) := by decide +kernel
theorem dX10_puts_48 : decode cX10_puts 48 = .ok (.getfield 50, 3) := by decide +kernel
theorem dX10_puts_51 : decode cX10_puts 51 = .ok (.iload_n 1, 1) := by decide +kernel
theorem dX10_puts_52 : decode cX10_puts 52 = .ok (.iaload, 1) := by decide +kernel
theorem dX10_puts_53 : decode cX10_puts 53 = .ok (.iastore, 1) := by decide +kernel
theorem dX10_puts_54 : decode cX10_puts 54 = .ok (.aload_n 0, 1) := by decide +kernel
theorem dX10_puts_55 : decode cX10_puts 55 = .ok (.getfield 158, 3) := by decide +kernel
theorem dX10_puts_58 : decode cX10_puts 58 = .ok (.bipush 106, 2) := by decide +kernel
theorem dX10_puts_60 : decode cX10_puts 60 = .ok (.aload_n 0, 1) := by decide +kernel
theorem dX10_puts_61 : decode cX10_puts 61 = .ok (.getfield 47, 3) := by decide +kernel
theorem dX10_puts_64 : decode cX10_puts 64 = .ok (.iload_n 1, 1) := by decide +kernel
theorem dX10_puts_65 : decode cX10_puts 65 = .ok (.iaload, 1) := by decide +kernel
theorem dX10_puts_66 : decode cX10_puts 66 = .ok (.ifCond .lt 7, 3) := by decide +kernel
theorem dX10_puts_69 : decode cX10_puts 69 = .ok (.iconst 1, 1) := by decide +kernel
theorem dX10_puts_70 : decode cX10_puts 70 = .ok (.goto 4, 3) := by decide +kernel
theorem dX10_puts_73 : decode cX10_puts 73 = .ok (.iconst 0, 1) := by decide +kernel
theorem dX10_puts_74 : decode cX10_puts 74 = .ok (.iastore, 1) := by decide +kernel
theorem dX10_puts_75 : decode cX10_puts 75 = .ok (.iconst 0, 1) := by decide +kernel
theorem dX10_puts_76 : decode cX10_puts 76 = .ok (.istore 4, 2) := by decide +kernel
theorem dX10_puts_78 : decode cX10_puts 78 = .ok (.iload 4, 2) := by decide +kernel
theorem dX10_puts_80 : decode cX10_puts 80 = .ok (.aload_n 0, 1) := by decide +kernel
theorem dX10_puts_81 : decode cX10_puts 81 = .ok (.getfield 287, 3) := by decide +kernel
theorem dX10_puts_84 : decode cX10_puts 84 = .ok (.if_icmp .ge 45, 3) := by decide +kernel
theorem dX10_puts_87 : decode cX10_puts 87 = .ok (.aload_n 0, 1) := by decide +kernel
theorem dX10_puts_88 : decode cX10_puts 88 = .ok (.getfield 158, 3) := by decide +kernel
theorem dX10_puts_91 : decode cX10_puts 91 = .ok (.bipush 108, 2) := by decide +kernel
theorem dX10_puts_93 : decode cX10_puts 93 = .ok (.dup2, 1) := by decide +kernel
theorem dX10_puts_94 : decode cX10_puts 94 = .ok (.iaload, 1) := by decide +kernel
theorem dX10_puts_95 : decode cX10_puts 95 = .ok (.aload_n 0, 1) := by decide +kernel
theorem dX10_puts_96 : decode cX10_puts 96 = .ok (.getfield 75, 3) := by decide +kernel
theorem dX10_puts_99 : decode cX10_puts 99 = .ok (.iload 4, 2) := by decide +kernel
theorem dX10_puts_101 : decode cX10_puts 101 = .ok (.iaload, 1) := by decide +kernel
theorem dX10_puts_102 : decode cX10_puts 102 = .ok (.iload_n 1, 1) := by decide +kernel
theorem dX10_puts_103 : decode cX10_puts 103 = .ok (.if_icmp .ne 17, 3) := by decide +kernel
theorem dX10_puts_106 : decode cX10_puts 106 = .ok (.aload_n 0, 1) := by decide +kernel
theorem dX10_puts_107 : decode cX10_puts 107 = .ok (.getfield 90, 3) := by decide +kernel
theorem dX10_puts_110 : decode cX10_puts 110 = .ok (.iload 4, 2) := by decide +kernel
theorem dX10_puts_112 : decode cX10_puts 112 = .ok (.iaload, 1) := by decide +kernel
theorem dX10_puts_113 : decode cX10_puts 113 = .ok (.ifCond .ge 7, 3) := by decide +kernel
theorem dX10_puts_116 : decode cX10_puts 116 = .ok (.iconst 1, 1) := by decide +kernel
theorem dX10_puts_117 : decode cX10_puts 117 = .ok (.goto 4, 3) := by decide +kernel
theorem dX10_puts_120 : decode cX10_puts 120 = .ok (.iconst 0, 1) := by decide +kernel
theorem dX10_puts_121 : decode cX10_puts 121 = .ok (.iadd, 1) := by decide +kernel
theorem dX10_puts_122 : decode cX10_puts 122 = .ok (.iastore, 1) := by decide +kernel
theorem dX10_puts_123 : decode cX10_puts 123 = .ok (.iinc 4 1, 3) := by decide +kernel
theorem dX10_puts_126 : decode cX10_puts 126 = .ok (.goto (-48), 3) := by decide +kernel
theorem dX10_puts_129 : decode cX10_puts 129 = .ok (.aload_n 0, 1) := by decide +kernel
theorem dX10_puts_130 : decode cX10_puts 130 = .ok (.getfield 158, 3) := by decide +kernel
theorem dX10_puts_133 : decode cX10_puts 133 = .ok (.bipush 100, 2) := by decide +kernel
theorem dX10_puts_135 : decode cX10_puts 135 = .ok (.iload_n 3, 1) := by decide +kernel
theorem dX10_puts_136 : decode cX10_puts 136 = .ok (.iastore, 1) := by decide +kernel
theorem dX10_puts_137 : decode cX10_puts 137 = .ok (.return_, 1) := by decide +kernel
theorem dX10_line_0 : decode cX10_line 0 = .ok (.iload_n 1, 1) := by decide +kernel
theorem dX10_line_1 : decode cX10_line 1 = .ok (.iconst 4, 1) := by decide +kernel
theorem dX10_line_2 : decode cX10_line 2 = .ok (.invokestatic 167, 3) := by decide +kernel
theorem dX10_line_5 : decode cX10_line 5 = .ok (.ifCond .ne 10, 3) := by decide +kernel
theorem dX10_line_8 : decode cX10_line 8 = .ok (.aload_n 0, 1) := by decide +kernel
theorem dX10_line_9 : decode cX10_line 9 = .ok (.bipush (-2), 2) := by decide +kernel
theorem dX10_line_11 : decode cX10_line 11 = .ok (.invokevirtual 163, 3) := by decide +kernel
theorem dX10_line_14 : decode cX10_line 14 = .ok (.ireturn, 1) := by decide +kernel
theorem dX10_line_15 : decode cX10_line 15 = .ok (.aload_n 0, 1) := by decide +kernel
theorem dX10_line_16 : decode cX10_line 16 = .ok (.iload_n 2, 1) := by decide +kernel
theorem dX10_line_17 : decode cX10_line 17 = .ok (.invokevirtual 203, 3) := by decide +kernel
theorem dX10_line_20 : decode cX10_line 20 = .ok (.ifCond .eq 16, 3) := by decide +kernel
theorem dX10_line_23 : decode cX10_line 23 = .ok (.aload_n 0, 1) := by decide +kernel
theorem dX10_line_24 : decode cX10_line 24 = .ok (.iload_n 3, 1) := by decide +kernel
theorem dX10_line_25 : decode cX10_line 25 = .ok (.invokevirtual 203, 3) := by decide +kernel
theorem dX10_line_28 : decode cX10_line 28 = .ok (.ifCond .eq 8, 3) := by decide +kernel
theorem dX10_line_31 : decode cX10_line 31 = .ok (.iload_n 2, 1) := by decide +kernel
theorem dX10_line_32 : decode cX10_line 32 = .ok (.iload_n 3, 1) := by decide +kernel
theorem dX10_line_33 : decode cX10_line 33 = .ok (.if_icmp .ne 9, 3) := by decide +kernel
theorem dX10_line_36 : decode cX10_line 36 = .ok (.aload_n 0, 1) := by decide +kernel
theorem dX10_line_37 : decode cX10_line 37 = .ok (.iconst (-1), 1) := by decide +kernel
theorem dX10_line_38 : decode cX10_line 38 = .ok (.invokevirtual 163, 3) := by decide +kernel
theorem dX10_line_41 : decode cX10_line 41 = .ok (.ireturn, 1) := by decide +kernel
theorem dX10_line_42 : decode cX10_line 42 = .ok (.iload 4, 2) := by decide +kernel
theorem dX10_line_44 : decode cX10_line 44 = .ok (.iconst 1, 1) := by decide +kernel
theorem dX10_line_45 : decode cX10_line 45 = .ok (.if_icmp .lt 22, 3) := by decide +kernel
theorem dX10_line_48 : decode cX10_line 48 = .ok (.iload 5, 2) := by decide +kernel
theorem dX10_line_50 : decode cX10_line 50 = .ok (.aload_n 0, 1) := by decide +kernel
theorem dX10_line_51 : decode cX10_line 51 = .ok (.getfield 177, 3) := by decide +kernel
theorem dX10_line_54 : decode cX10_line 54 = .ok (.if_icmp .lt 13, 3) := by decide +kernel
theorem dX10_line_57 : decode cX10_line 57 = .ok (.iload_n 1, 1) := by decide +kernel
theorem dX10_line_58 : decode cX10_line 58 = .ok (.ifCond .le 16, 3) := by decide +kernel
theorem dX10_line_61 : decode cX10_line 61 = .ok (.iload 6, 2) := by decide +kernel
theorem dX10_line_63 : decode cX10_line 63 = .ok (.iconst 1, 1) := by decide +kernel
theorem dX10_line_64 : decode cX10_line 64 = .ok (.if_icmp .ge 10, 3) := by decide +kernel
theorem dX10_line_67 : decode cX10_line 67 = .ok (.aload_n 0, 1) := by decide +kernel
theorem dX10_line_68 : decode cX10_line 68 = .ok (.bipush (-4), 2) := by decide +kernel
theorem dX10_line_70 : decode cX10_line 70 = .ok (.invokevirtual 163, 3) := by decide +kernel
theorem dX10_line_73 : decode cX10_line 73 = .ok (.ireturn, 1) := by decide +kernel
theorem dX10_line_74 : decode cX10_line 74 = .ok (.iload 4, 2) := by decide +kernel
theorem dX10_line_76 : decode cX10_line 76 = .ok (.ldc 206, 2) := by decide +kernel
theorem dX10_line_78 : decode cX10_line 78 = .ok (.if_icmp .gt 31, 3) := by decide +kernel
theorem dX10_line_81 : decode cX10_line 81 = .ok (.iload 5, 2) := by decide +kernel
theorem dX10_line_83 : decode cX10_line 83 = .ok (.sipush 1500, 3) := by decide +kernel
theorem dX10_line_86 : decode cX10_line 86 = .ok (.if_icmp .gt 23, 3) := by decide +kernel
theorem dX10_line_89 : decode cX10_line 89 = .ok (.iload_n 1, 1) := by decide +kernel
theorem dX10_line_90 : decode cX10_line 90 = .ok (.ifCond .le 10, 3) := by decide +kernel
theorem dX10_line_93 : decode cX10_line 93 = .ok (.iload 6, 2) := by decide +kernel
theorem dX10_line_95 : decode cX10_line 95 = .ok (.bipush 90, 2) := by decide +kernel
theorem dX10_line_97 : decode cX10_line 97 = .ok (.if_icmp .gt 12, 3) := by decide +kernel
theorem dX10_line_100 : decode cX10_line 100 = .ok (.aload_n 0, 1) := by decide +kernel
theorem dX10_line_101 : decode cX10_line 101 = .ok (.getfield 287, 3) := by decide +kernel
theorem dX10_line_104 : decode cX10_line 104 = .ok (.bipush 60, 2) := by decide +kernel
theorem dX10_line_106 : decode cX10_line 106 = .ok (.if_icmp .ne 10, 3) := by decide +kernel
theorem dX10_line_109 : decode cX10_line 109 = .ok (.aload_n 0, 1) := by decide +kernel
theorem dX10_line_110 : decode cX10_line 110 = .ok (.bipush (-6), 2) := by decide +kernel
theorem dX10_line_112 : decode cX10_line 112 = .ok (.invokevirtual 163, 3) := by decide +kernel
theorem dX10_line_115 : decode cX10_line 115 = .ok (.ireturn, 1) := by decide +kernel
theorem dX10_line_116 : decode cX10_line 116 = .ok (.aload_n 0, 1) := by decide +kernel
theorem dX10_line_117 : decode cX10_line 117 = .ok (.getfield 287, 3) := by decide +kernel
theorem dX10_line_120 : decode cX10_line 120 = .ok (.istore 7, 2) := by decide +kernel
theorem dX10_line_122 : decode cX10_line 122 = .ok (.aload_n 0, 1) := by decide +kernel
theorem dX10_line_123 : decode cX10_line 123 = .ok (.dup, 1) := by decide +kernel
theorem dX10_line_124 : decode cX10_line 124 = .ok (.getfield 287, 3) := by decide +kernel
theorem dX10_line_127 : decode cX10_line 127 = .ok (.iconst 1, 1) := by decide +kernel
theorem dX10_line_128 : decode cX10_line 128 = .ok (.iadd, 1) := by decide +kernel
theorem dX10_line_129 : decode cX10_line 129 = .ok (.putfield 287, 3) := by decide +kernel
theorem dX10_line_132 : decode cX10_line 132 = .ok (.aload_n 0, 1) := by decide +kernel
theorem dX10_line_133 : decode cX10_line 133 = .ok (.getfield 72, 3) := by decide +kernel
theorem dX10_line_136 : decode cX10_line 136 = .ok (.iload 7, 2) := by decide +kernel
theorem dX10_line_138 : decode cX10_line 138 = .ok (.iload_n 1, 1) := by decide +kernel
theorem dX10_line_139 : decode cX10_line 139 = .ok (.iastore, 1) := by decide +kernel
theorem dX10_line_140 : decode cX10_line 140 = .ok (.aload_n 0, 1) := by decide +kernel
theorem dX10_line_141 : decode cX10_line 141 = .ok (.getfield 75, 3) := by decide +kernel
theorem dX10_line_144 : decode cX10_line 144 = .ok (.iload 7, 2) := by decide +kernel
theorem dX10_line_146 : decode cX10_line 146 = .ok (.iload_n 2, 1) := by decide +kernel
theorem dX10_line_147 : decode cX10_line 147 = .ok (.iastore, 1) := by decide +kernel
theorem dX10_line_148 : decode cX10_line 148 = .ok (.aload_n 0, 1) := by decide +kernel
theorem dX10_line_149 : decode cX10_line 149 = .ok (.getfield 78, 3) := by decide +kernel
theorem dX10_line_152 : decode cX10_line 152 = .ok (.iload 7, 2) := by decide +kernel
theorem dX10_line_154 : decode cX10_line 154 = .ok (.iload_n 3, 1) := by decide +kernel
theorem dX10_line_155 : decode cX10_line 155 = .ok (.iastore, 1) := by decide +kernel
theorem dX10_line_156 : decode cX10_line 156 = .ok (.aload_n 0, 1) := by decide +kernel
theorem dX10_line_157 : decode cX10_line 157 = .ok (.getfield 81, 3) := by decide +kernel
theorem dX10_line_160 : decode cX10_line 160 = .ok (.iload 7, 2) := by decide +kernel
theorem dX10_line_162 : decode cX10_line 162 = .ok (.iload 4, 2) := by decide +kernel
theorem dX10_line_164 : decode cX10_line 164 = .ok (.iastore, 1) := by decide +kernel
theorem dX10_line_165 : decode cX10_line 165 = .ok (.aload_n 0, 1) := by decide +kernel
theorem dX10_line_166 : decode cX10_line 166 = .ok (.getfield 84, 3) := by decide +kernel
theorem dX10_line_169 : decode cX10_line 169 = .ok (.iload 7, 2) := by decide +kernel
theorem dX10_line_171 : decode cX10_line 171 = .ok (.iload 5, 2) := by decide +kernel
theorem dX10_line_173 : decode cX10_line 173 = .ok (.iastore, 1) := by decide +kernel
theorem dX10_line_174 : decode cX10_line 174 = .ok (.aload_n 0, 1) := by decide +kernel
theorem dX10_line_175 : decode cX10_line 175 = .ok (.getfield 87, 3) := by decide +kernel
theorem dX10_line_178 : decode cX10_line 178 = .ok (.iload 7, 2) := by decide +kernel
theorem dX10_line_180 : decode cX10_line 180 = .ok (.iload 6, 2) := by decide +kernel
theorem dX10_line_182 : decode cX10_line 182 = .ok (.iastore, 1) := by decide +kernel
theorem dX10_line_183 : decode cX10_line 183 = .ok (.aload_n 0, 1) := by decide +kernel
theorem dX10_line_184 : decode cX10_line 184 = .ok (.getfield 90, 3) := by decide +kernel
theorem dX10_line_187 : decode cX10_line 187 = .ok (.iload 7, 2) := by decide +kernel
theorem dX10_line_189 : decode cX10_line 189 = .ok (.iconst (-1), 1) := by decide +kernel
theorem dX10_line_190 : decode cX10_line 190 = .ok (.iastore, 1) := by decide +kernel
theorem dX10_line_191 : decode cX10_line 191 = .ok (.aload_n 0, 1) := by decide +kernel
theorem dX10_line_192 : decode cX10_line 192 = .ok (.getfield 99, 3) := by decide +kernel
theorem dX10_line_195 : decode cX10_line 195 = .ok (.iload 7, 2) := by decide +kernel
theorem dX10_line_197 : decode cX10_line 197 = .ok (.bipush (-9), 2) := by decide +kernel
theorem dX10_line_199 : decode cX10_line 199 = .ok (.iastore, 1) := by decide +kernel
theorem dX10_line_200 : decode cX10_line 200 = .ok (.iload 7, 2) := by decide +kernel
theorem dX10_line_202 : decode cX10_line 202 = .ok (.ireturn, 1) := by decide +kernel
theorem dX10_isLine_0 : decode cX10_isLine 0 = .ok (.iload_n 1, 1) := by decide +kernel
theorem dX10_isLine_1 : decode cX10_isLine 1 = .ok (.aload_n 0, 1) := by decide +kernel
theorem dX10_isLine_2 : decode cX10_isLine 2 = .ok (.getfield 287, 3) := by decide +kernel
theorem dX10_isLine_5 : decode cX10_isLine 5 = .ok (.invokestatic 167, 3) := by decide +kernel
theorem dX10_isLine_8 : decode cX10_isLine 8 = .ok (.ireturn, 1) := by decide +kernel
theorem dX10_end_0 : decode cX10_end 0 = .ok (.aload_n 0, 1) := by decide +kernel
theorem dX10_end_1 : decode cX10_end 1 = .ok (.iload_n 1, 1) := by decide +kernel
theorem dX10_end_2 : decode cX10_end 2 = .ok (.invokevirtual 290, 3) := by decide +kernel
theorem dX10_end_5 : decode cX10_end 5 = .ok (.ifCond .ne 9, 3) := by decide +kernel
theorem dX10_end_8 : decode cX10_end 8 = .ok (.aload_n 0, 1) := by decide +kernel
theorem dX10_end_9 : decode cX10_end 9 = .ok (.iconst (-1), 1) := by decide +kernel
theorem dX10_end_10 : decode cX10_end 10 = .ok (.invokevirtual 163, 3) := by decide +kernel
theorem dX10_end_13 : decode cX10_end 13 = .ok (.ireturn, 1) := by decide +kernel
theorem dX10_end_14 : decode cX10_end 14 = .ok (.aload_n 0, 1) := by decide +kernel
theorem dX10_end_15 : decode cX10_end 15 = .ok (.getfield 90, 3) := by decide +kernel
theorem dX10_end_18 : decode cX10_end 18 = .ok (.iload_n 1, 1) := by decide +kernel
theorem dX10_end_19 : decode cX10_end 19 = .ok (.iaload, 1) := by decide +kernel
theorem dX10_end_20 : decode cX10_end 20 = .ok (.ifCond .lt 10, 3) := by decide +kernel
theorem dX10_end_23 : decode cX10_end 23 = .ok (.aload_n 0, 1) := by decide +kernel
theorem dX10_end_24 : decode cX10_end 24 = .ok (.bipush (-3), 2) := by decide +kernel
theorem dX10_end_26 : decode cX10_end 26 = .ok (.invokevirtual 163, 3) := by decide +kernel
theorem dX10_end_29 : decode cX10_end 29 = .ok (.ireturn, 1) := by decide +kernel
theorem dX10_end_30 : decode cX10_end 30 = .ok (.aload_n 0, 1) := by decide +kernel
theorem dX10_end_31 : decode cX10_end 31 = .ok (.getfield 90, 3) := by decide +kernel
theorem dX10_end_34 : decode cX10_end 34 = .ok (.iload_n 1, 1) := by decide +kernel
theorem dX10_end_35 : decode cX10_end 35 = .ok (.aload_n 0, 1) := by decide +kernel
theorem dX10_end_36 : decode cX10_end 36 = .ok (.getfield 177, 3) := by decide +kernel
theorem dX10_end_39 : decode cX10_end 39 = .ok (.iastore, 1) := by decide +kernel
theorem dX10_end_40 : decode cX10_end 40 = .ok (.iconst 1, 1) := by decide +kernel
theorem dX10_end_41 : decode cX10_end 41 = .ok (.ireturn, 1) := by decide +kernel
theorem dX10_lineOf_0 : decode cX10_lineOf 0 = .ok (.aload_n 0, 1) := by decide +kernel
theorem dX10_lineOf_1 : decode cX10_lineOf 1 = .ok (.iload_n 1, 1) := by decide +kernel
theorem dX10_lineOf_2 : decode cX10_lineOf 2 = .ok (.invokevirtual 290, 3) := by decide +kernel
theorem dX10_lineOf_5 : decode cX10_lineOf 5 = .ok (.ifCond .ne 9, 3) := by decide +kernel
theorem dX10_lineOf_8 : decode cX10_lineOf 8 = .ok (.aload_n 0, 1) := by decide +kernel
theorem dX10_lineOf_9 : decode cX10_lineOf 9 = .ok (.iconst (-1), 1) := by decide +kernel
theorem dX10_lineOf_10 : decode cX10_lineOf 10 = .ok (.invokevirtual 163, 3) := by decide +kernel
theorem dX10_lineOf_13 : decode cX10_lineOf 13 = .ok (.ireturn, 1) := by decide +kernel
theorem dX10_lineOf_14 : decode cX10_lineOf 14 = .ok (.iload_n 2, 1) := by decide +kernel
theorem dX10_lineOf_15 : decode cX10_lineOf 15 = .ok (.tableswitch 97 0 8 #[49, 56, 63, 70, 77, 77, 77, 77, 90], 49) := by decide +kernel
theorem dX10_lineOf_64 : decode cX10_lineOf 64 = .ok (.aload_n 0, 1) := by decide +kernel
theorem dX10_lineOf_65 : decode cX10_lineOf 65 = .ok (.getfield 72, 3) := by decide +kernel
theorem dX10_lineOf_68 : decode cX10_lineOf 68 = .ok (.iload_n 1, 1) := by decide +kernel
theorem dX10_lineOf_69 : decode cX10_lineOf 69 = .ok (.iaload, 1) := by decide +kernel
theorem dX10_lineOf_70 : decode cX10_lineOf 70 = .ok (.ireturn, 1) := by decide +kernel
theorem dX10_lineOf_71 : decode cX10_lineOf 71 = .ok (.aload_n 0, 1) := by decide +kernel
theorem dX10_lineOf_72 : decode cX10_lineOf 72 = .ok (.getfield 75, 3) := by decide +kernel
theorem dX10_lineOf_75 : decode cX10_lineOf 75 = .ok (.iload_n 1, 1) := by decide +kernel
theorem dX10_lineOf_76 : decode cX10_lineOf 76 = .ok (.iaload, 1) := by decide +kernel
theorem dX10_lineOf_77 : decode cX10_lineOf 77 = .ok (.ireturn, 1) := by decide +kernel
theorem dX10_lineOf_78 : decode cX10_lineOf 78 = .ok (.aload_n 0, 1) := by decide +kernel
theorem dX10_lineOf_79 : decode cX10_lineOf 79 = .ok (.getfield 78, 3) := by decide +kernel
theorem dX10_lineOf_82 : decode cX10_lineOf 82 = .ok (.iload_n 1, 1) := by decide +kernel
theorem dX10_lineOf_83 : decode cX10_lineOf 83 = .ok (.iaload, 1) := by decide +kernel
theorem dX10_lineOf_84 : decode cX10_lineOf 84 = .ok (.ireturn, 1) := by decide +kernel
theorem dX10_lineOf_85 : decode cX10_lineOf 85 = .ok (.aload_n 0, 1) := by decide +kernel
theorem dX10_lineOf_86 : decode cX10_lineOf 86 = .ok (.getfield 93, 3) := by decide +kernel
theorem dX10_lineOf_89 : decode cX10_lineOf 89 = .ok (.iload_n 1, 1) := by decide +kernel
theorem dX10_lineOf_90 : decode cX10_lineOf 90 = .ok (.iaload, 1) := by decide +kernel
theorem dX10_lineOf_91 : decode cX10_lineOf 91 = .ok (.ireturn, 1) := by decide +kernel
theorem dX10_lineOf_92 : decode cX10_lineOf 92 = .ok (.aload_n 0, 1) := by decide +kernel
theorem dX10_lineOf_93 : decode cX10_lineOf 93 = .ok (.getfield 96, 3) := by decide +kernel
theorem dX10_lineOf_96 : decode cX10_lineOf 96 = .ok (.iconst 4, 1) := by decide +kernel
theorem dX10_lineOf_97 : decode cX10_lineOf 97 = .ok (.iload_n 1, 1) := by decide +kernel
theorem dX10_lineOf_98 : decode cX10_lineOf 98 = .ok (.imul, 1) := by decide +kernel
theorem dX10_lineOf_99 : decode cX10_lineOf 99 = .ok (.iload_n 2, 1) := by decide +kernel
theorem dX10_lineOf_100 : decode cX10_lineOf 100 = .ok (.iadd, 1) := by decide +kernel
theorem dX10_lineOf_101 : decode cX10_lineOf 101 = .ok (.iconst 4, 1) := by decide +kernel
theorem dX10_lineOf_102 : decode cX10_lineOf 102 = .ok (.isub, 1) := by decide +kernel
theorem dX10_lineOf_103 : decode cX10_lineOf 103 = .ok (.iaload, 1) := by decide +kernel
theorem dX10_lineOf_104 : decode cX10_lineOf 104 = .ok (.ireturn, 1) := by decide +kernel
theorem dX10_lineOf_105 : decode cX10_lineOf 105 = .ok (.aload_n 0, 1) := by decide +kernel
theorem dX10_lineOf_106 : decode cX10_lineOf 106 = .ok (.getfield 99, 3) := by decide +kernel
theorem dX10_lineOf_109 : decode cX10_lineOf 109 = .ok (.iload_n 1, 1) := by decide +kernel
theorem dX10_lineOf_110 : decode cX10_lineOf 110 = .ok (.iaload, 1) := by decide +kernel
theorem dX10_lineOf_111 : decode cX10_lineOf 111 = .ok (.ireturn, 1) := by decide +kernel
theorem dX10_lineOf_112 : decode cX10_lineOf 112 = .ok (.aload_n 0, 1) := by decide +kernel
theorem dX10_lineOf_113 : decode cX10_lineOf 113 = .ok (.bipush (-2), 2) := by decide +kernel
theorem dX10_lineOf_115 : decode cX10_lineOf 115 = .ok (.invokevirtual 163, 3) := by decide +kernel
theorem dX10_lineOf_118 : decode cX10_lineOf 118 = .ok (.ireturn, 1) := by decide +kernel
theorem dX10_isDue_0 : decode cX10_isDue 0 = .ok (.iload_n 2, 1) := by decide +kernel
theorem dX10_isDue_1 : decode cX10_isDue 1 = .ok (.aload_n 0, 1) := by decide +kernel
theorem dX10_isDue_2 : decode cX10_isDue 2 = .ok (.getfield 84, 3) := by decide +kernel
theorem dX10_isDue_5 : decode cX10_isDue 5 = .ok (.iload_n 1, 1) := by decide +kernel
theorem dX10_isDue_6 : decode cX10_isDue 6 = .ok (.iaload, 1) := by decide +kernel
theorem dX10_isDue_7 : decode cX10_isDue 7 = .ok (.if_icmp .lt 22, 3) := by decide +kernel
theorem dX10_isDue_10 : decode cX10_isDue 10 = .ok (.aload_n 0, 1) := by decide +kernel
theorem dX10_isDue_11 : decode cX10_isDue 11 = .ok (.getfield 90, 3) := by decide +kernel
theorem dX10_isDue_14 : decode cX10_isDue 14 = .ok (.iload_n 1, 1) := by decide +kernel
theorem dX10_isDue_15 : decode cX10_isDue 15 = .ok (.iaload, 1) := by decide +kernel
theorem dX10_isDue_16 : decode cX10_isDue 16 = .ok (.ifCond .lt 15, 3) := by decide +kernel
theorem dX10_isDue_19 : decode cX10_isDue 19 = .ok (.iload_n 2, 1) := by decide +kernel
theorem dX10_isDue_20 : decode cX10_isDue 20 = .ok (.aload_n 0, 1) := by decide +kernel
theorem dX10_isDue_21 : decode cX10_isDue 21 = .ok (.getfield 90, 3) := by decide +kernel
theorem dX10_isDue_24 : decode cX10_isDue 24 = .ok (.iload_n 1, 1) := by decide +kernel
theorem dX10_isDue_25 : decode cX10_isDue 25 = .ok (.iaload, 1) := by decide +kernel
theorem dX10_isDue_26 : decode cX10_isDue 26 = .ok (.if_icmp .lt 5, 3) := by decide +kernel
theorem dX10_isDue_29 : decode cX10_isDue 29 = .ok (.iconst 0, 1) := by decide +kernel
theorem dX10_isDue_30 : decode cX10_isDue 30 = .ok (.ireturn, 1) := by decide +kernel
theorem dX10_isDue_31 : decode cX10_isDue 31 = .ok (.aload_n 0, 1) := by decide +kernel
theorem dX10_isDue_32 : decode cX10_isDue 32 = .ok (.getfield 72, 3) := by decide +kernel
theorem dX10_isDue_35 : decode cX10_isDue 35 = .ok (.iload_n 1, 1) := by decide +kernel
theorem dX10_isDue_36 : decode cX10_isDue 36 = .ok (.iaload, 1) := by decide +kernel
theorem dX10_isDue_37 : decode cX10_isDue 37 = .ok (.ifCond .ne 21, 3) := by decide +kernel
theorem dX10_isDue_40 : decode cX10_isDue 40 = .ok (.iload_n 2, 1) := by decide +kernel
theorem dX10_isDue_41 : decode cX10_isDue 41 = .ok (.aload_n 0, 1) := by decide +kernel
theorem dX10_isDue_42 : decode cX10_isDue 42 = .ok (.getfield 84, 3) := by decide +kernel
theorem dX10_isDue_45 : decode cX10_isDue 45 = .ok (.iload_n 1, 1) := by decide +kernel
theorem dX10_isDue_46 : decode cX10_isDue 46 = .ok (.iaload, 1) := by decide +kernel
theorem dX10_isDue_47 : decode cX10_isDue 47 = .ok (.if_icmp .ne 7, 3) := by decide +kernel
theorem dX10_isDue_50 : decode cX10_isDue 50 = .ok (.iconst 1, 1) := by decide +kernel
theorem dX10_isDue_51 : decode cX10_isDue 51 = .ok (.goto 30, 3) := by decide +kernel
theorem dX10_isDue_54 : decode cX10_isDue 54 = .ok (.iconst 0, 1) := by decide +kernel
theorem dX10_isDue_55 : decode cX10_isDue 55 = .ok (.goto 26, 3) := by decide +kernel
theorem dX10_isDue_58 : decode cX10_isDue 58 = .ok (.iload_n 2, 1) := by decide +kernel
theorem dX10_isDue_59 : decode cX10_isDue 59 = .ok (.aload_n 0, 1) := by decide +kernel
theorem dX10_isDue_60 : decode cX10_isDue 60 = .ok (.getfield 84, 3) := by decide +kernel
theorem dX10_isDue_63 : decode cX10_isDue 63 = .ok (.iload_n 1, 1) := by decide +kernel
theorem dX10_isDue_64 : decode cX10_isDue 64 = .ok (.iaload, 1) := by decide +kernel
theorem dX10_isDue_65 : decode cX10_isDue 65 = .ok (.isub, 1) := by decide +kernel
theorem dX10_isDue_66 : decode cX10_isDue 66 = .ok (.aload_n 0, 1) := by decide +kernel
theorem dX10_isDue_67 : decode cX10_isDue 67 = .ok (.getfield 87, 3) := by decide +kernel
theorem dX10_isDue_70 : decode cX10_isDue 70 = .ok (.iload_n 1, 1) := by decide +kernel
theorem dX10_isDue_71 : decode cX10_isDue 71 = .ok (.iaload, 1) := by decide +kernel
theorem dX10_isDue_72 : decode cX10_isDue 72 = .ok (.irem, 1) := by decide +kernel
theorem dX10_isDue_73 : decode cX10_isDue 73 = .ok (.ifCond .ne 7, 3) := by decide +kernel
theorem dX10_isDue_76 : decode cX10_isDue 76 = .ok (.iconst 1, 1) := by decide +kernel
theorem dX10_isDue_77 : decode cX10_isDue 77 = .ok (.goto 4, 3) := by decide +kernel
theorem dX10_isDue_80 : decode cX10_isDue 80 = .ok (.iconst 0, 1) := by decide +kernel
theorem dX10_isDue_81 : decode cX10_isDue 81 = .ok (.ireturn, 1) := by decide +kernel
theorem dX10_goesOut_0 : decode cX10_goesOut 0 = .ok (.aload_n 0, 1) := by decide +kernel
theorem dX10_goesOut_1 : decode cX10_goesOut 1 = .ok (.getfield 72, 3) := by decide +kernel
theorem dX10_goesOut_4 : decode cX10_goesOut 4 = .ok (.iload_n 1, 1) := by decide +kernel
theorem dX10_goesOut_5 : decode cX10_goesOut 5 = .ok (.iaload, 1) := by decide +kernel
theorem dX10_goesOut_6 : decode cX10_goesOut 6 = .ok (.iconst 2, 1) := by decide +kernel
theorem dX10_goesOut_7 : decode cX10_goesOut 7 = .ok (.if_icmp .ne 20, 3) := by decide +kernel
theorem dX10_goesOut_10 : decode cX10_goesOut 10 = .ok (.aload_n 0, 1) := by decide +kernel
theorem dX10_goesOut_11 : decode cX10_goesOut 11 = .ok (.aload_n 0, 1) := by decide +kernel
theorem dX10_goesOut_12 : decode cX10_goesOut 12 = .ok (.getfield 75, 3) := by decide +kernel
theorem dX10_goesOut_15 : decode cX10_goesOut 15 = .ok (.iload_n 1, 1) := by decide +kernel
theorem dX10_goesOut_16 : decode cX10_goesOut 16 = .ok (.iaload, 1) := by decide +kernel
theorem dX10_goesOut_17 : decode cX10_goesOut 17 = .ok (.aload_n 0, 1) := by decide +kernel
theorem dX10_goesOut_18 : decode cX10_goesOut 18 = .ok (.getfield 177, 3) := by decide +kernel
theorem dX10_goesOut_21 : decode cX10_goesOut 21 = .ok (.invokevirtual 227, 3) := by decide +kernel
theorem dX10_goesOut_24 : decode cX10_goesOut 24 = .ok (.goto 13, 3) := by decide +kernel
theorem dX10_goesOut_27 : decode cX10_goesOut 27 = .ok (.aload_n 0, 1) := by decide +kernel
theorem dX10_goesOut_28 : decode cX10_goesOut 28 = .ok (.aload_n 0, 1) := by decide +kernel
theorem dX10_goesOut_29 : decode cX10_goesOut 29 = .ok (.getfield 75, 3) := by decide +kernel
theorem dX10_goesOut_32 : decode cX10_goesOut 32 = .ok (.iload_n 1, 1) := by decide +kernel
theorem dX10_goesOut_33 : decode cX10_goesOut 33 = .ok (.iaload, 1) := by decide +kernel
theorem dX10_goesOut_34 : decode cX10_goesOut 34 = .ok (.invokevirtual 217, 3) := by decide +kernel
theorem dX10_goesOut_37 : decode cX10_goesOut 37 = .ok (.istore_n 2, 1) := by decide +kernel
theorem dX10_goesOut_38 : decode cX10_goesOut 38 = .ok (.aload_n 0, 1) := by decide +kernel
theorem dX10_goesOut_39 : decode cX10_goesOut 39 = .ok (.aload_n 0, 1) := by decide +kernel
theorem dX10_goesOut_40 : decode cX10_goesOut 40 = .ok (.getfield 78, 3) := by decide +kernel
theorem dX10_goesOut_43 : decode cX10_goesOut 43 = .ok (.iload_n 1, 1) := by decide +kernel
theorem dX10_goesOut_44 : decode cX10_goesOut 44 = .ok (.iaload, 1) := by decide +kernel
theorem dX10_goesOut_45 : decode cX10_goesOut 45 = .ok (.aload_n 0, 1) := by decide +kernel
theorem dX10_goesOut_46 : decode cX10_goesOut 46 = .ok (.getfield 177, 3) := by decide +kernel
theorem dX10_goesOut_49 : decode cX10_goesOut 49 = .ok (.invokevirtual 227, 3) := by decide +kernel
theorem dX10_goesOut_52 : decode cX10_goesOut 52 = .ok (.istore_n 3, 1) := by decide +kernel
theorem dX10_goesOut_53 : decode cX10_goesOut 53 = .ok (.iload_n 2, 1) := by decide +kernel
theorem dX10_goesOut_54 : decode cX10_goesOut 54 = .ok (.ifCond .lt 7, 3) := by decide +kernel
theorem dX10_goesOut_57 : decode cX10_goesOut 57 = .ok (.iload_n 3, 1) := by decide +kernel
theorem dX10_goesOut_58 : decode cX10_goesOut 58 = .ok (.ifCond .ge 7, 3) := by decide +kernel
theorem dX10_goesOut_61 : decode cX10_goesOut 61 = .ok (.iconst 3, 1) := by decide +kernel
theorem dX10_goesOut_62 : decode cX10_goesOut 62 = .ok (.goto 67, 3) := by decide +kernel
theorem dX10_goesOut_65 : decode cX10_goesOut 65 = .ok (.aload_n 0, 1) := by decide +kernel
theorem dX10_goesOut_66 : decode cX10_goesOut 66 = .ok (.getfield 53, 3) := by decide +kernel
theorem dX10_goesOut_69 : decode cX10_goesOut 69 = .ok (.iload_n 2, 1) := by decide +kernel
theorem dX10_goesOut_70 : decode cX10_goesOut 70 = .ok (.iaload, 1) := by decide +kernel
theorem dX10_goesOut_71 : decode cX10_goesOut 71 = .ok (.iconst 1, 1) := by decide +kernel
theorem dX10_goesOut_72 : decode cX10_goesOut 72 = .ok (.if_icmp .eq 13, 3) := by decide +kernel
theorem dX10_goesOut_75 : decode cX10_goesOut 75 = .ok (.aload_n 0, 1) := by decide +kernel
theorem dX10_goesOut_76 : decode cX10_goesOut 76 = .ok (.getfield 53, 3) := by decide +kernel
theorem dX10_goesOut_79 : decode cX10_goesOut 79 = .ok (.iload_n 3, 1) := by decide +kernel
theorem dX10_goesOut_80 : decode cX10_goesOut 80 = .ok (.iaload, 1) := by decide +kernel
theorem dX10_goesOut_81 : decode cX10_goesOut 81 = .ok (.iconst 1, 1) := by decide +kernel
theorem dX10_goesOut_82 : decode cX10_goesOut 82 = .ok (.if_icmp .ne 7, 3) := by decide +kernel
theorem dX10_goesOut_85 : decode cX10_goesOut 85 = .ok (.iconst 2, 1) := by decide +kernel
theorem dX10_goesOut_86 : decode cX10_goesOut 86 = .ok (.goto 43, 3) := by decide +kernel
theorem dX10_goesOut_89 : decode cX10_goesOut 89 = .ok (.iload_n 2, 1) := by decide +kernel
theorem dX10_goesOut_90 : decode cX10_goesOut 90 = .ok (.iload_n 3, 1) := by decide +kernel
theorem dX10_goesOut_91 : decode cX10_goesOut 91 = .ok (.if_icmp .ne 7, 3) := by decide +kernel
theorem dX10_goesOut_94 : decode cX10_goesOut 94 = .ok (.iconst 4, 1) := by decide +kernel
theorem dX10_goesOut_95 : decode cX10_goesOut 95 = .ok (.goto 34, 3) := by decide +kernel
theorem dX10_goesOut_98 : decode cX10_goesOut 98 = .ok (.aload_n 0, 1) := by decide +kernel
theorem dX10_goesOut_99 : decode cX10_goesOut 99 = .ok (.getfield 65, 3) := by decide +kernel
theorem dX10_goesOut_102 : decode cX10_goesOut 102 = .ok (.iload_n 2, 1) := by decide +kernel
theorem dX10_goesOut_103 : decode cX10_goesOut 103 = .ok (.laload, 1) := by decide +kernel
theorem dX10_goesOut_104 : decode cX10_goesOut 104 = .ok (.aload_n 0, 1) := by decide +kernel
theorem dX10_goesOut_105 : decode cX10_goesOut 105 = .ok (.getfield 81, 3) := by decide +kernel
theorem dX10_goesOut_108 : decode cX10_goesOut 108 = .ok (.iload_n 1, 1) := by decide +kernel
theorem dX10_goesOut_109 : decode cX10_goesOut 109 = .ok (.iaload, 1) := by decide +kernel
theorem dX10_goesOut_110 : decode cX10_goesOut 110 = .ok (.i2l, 1) := by decide +kernel
theorem dX10_goesOut_111 : decode cX10_goesOut 111 = .ok (.lsub, 1) := by decide +kernel
theorem dX10_goesOut_112 : decode cX10_goesOut 112 = .ok (.aload_n 0, 1) := by decide +kernel
theorem dX10_goesOut_113 : decode cX10_goesOut 113 = .ok (.getfield 50, 3) := by decide +kernel
theorem dX10_goesOut_116 : decode cX10_goesOut 116 = .ok (.iload_n 2, 1) := by decide +kernel
theorem dX10_goesOut_117 : decode cX10_goesOut 117 = .ok (.iaload, 1) := by decide +kernel
theorem dX10_goesOut_118 : decode cX10_goesOut 118 = .ok (.ineg, 1) := by decide +kernel
theorem dX10_goesOut_119 : decode cX10_goesOut 119 = .ok (.i2l, 1) := by decide +kernel
theorem dX10_goesOut_120 : decode cX10_goesOut 120 = .ok (.lcmp, 1) := by decide +kernel
theorem dX10_goesOut_121 : decode cX10_goesOut 121 = .ok (.ifCond .ge 7, 3) := by decide +kernel
theorem dX10_goesOut_124 : decode cX10_goesOut 124 = .ok (.iconst 1, 1) := by decide +kernel
theorem dX10_goesOut_125 : decode cX10_goesOut 125 = .ok (.goto 4, 3) := by decide +kernel
theorem dX10_goesOut_128 : decode cX10_goesOut 128 = .ok (.iconst 0, 1) := by decide +kernel
theorem dX10_goesOut_129 : decode cX10_goesOut 129 = .ok (.istore 4, 2) := by decide +kernel
theorem dX10_goesOut_131 : decode cX10_goesOut 131 = .ok (.iload 4, 2) := by decide +kernel
theorem dX10_goesOut_133 : decode cX10_goesOut 133 = .ok (.ifCond .ne 98, 3) := by decide +kernel
theorem dX10_goesOut_136 : decode cX10_goesOut 136 = .ok (.aload_n 0, 1) := by decide +kernel
theorem dX10_goesOut_137 : decode cX10_goesOut 137 = .ok (.getfield 65, 3) := by decide +kernel
theorem dX10_goesOut_140 : decode cX10_goesOut 140 = .ok (.iload_n 2, 1) := by decide +kernel
theorem dX10_goesOut_141 : decode cX10_goesOut 141 = .ok (.dup2, 1) := by decide +kernel
theorem dX10_goesOut_142 : decode cX10_goesOut 142 = .ok (.laload, 1) := by decide +kernel
theorem dX10_goesOut_143 : decode cX10_goesOut 143 = .ok (.aload_n 0, 1) := by decide +kernel
theorem dX10_goesOut_144 : decode cX10_goesOut 144 = .ok (.getfield 81, 3) := by decide +kernel
theorem dX10_goesOut_147 : decode cX10_goesOut 147 = .ok (.iload_n 1, 1) := by decide +kernel
theorem dX10_goesOut_148 : decode cX10_goesOut 148 = .ok (.iaload, 1) := by decide +kernel
theorem dX10_goesOut_149 : decode cX10_goesOut 149 = .ok (.i2l, 1) := by decide +kernel
theorem dX10_goesOut_150 : decode cX10_goesOut 150 = .ok (.lsub, 1) := by decide +kernel
theorem dX10_goesOut_151 : decode cX10_goesOut 151 = .ok (.lastore, 1) := by decide +kernel
theorem dX10_goesOut_152 : decode cX10_goesOut 152 = .ok (.aload_n 0, 1) := by decide +kernel
theorem dX10_goesOut_153 : decode cX10_goesOut 153 = .ok (.getfield 65, 3) := by decide +kernel
theorem dX10_goesOut_156 : decode cX10_goesOut 156 = .ok (.iload_n 3, 1) := by decide +kernel
theorem dX10_goesOut_157 : decode cX10_goesOut 157 = .ok (.dup2, 1) := by decide +kernel
theorem dX10_goesOut_158 : decode cX10_goesOut 158 = .ok (.laload, 1) := by decide +kernel
theorem dX10_goesOut_159 : decode cX10_goesOut 159 = .ok (.aload_n 0, 1) := by decide +kernel
theorem dX10_goesOut_160 : decode cX10_goesOut 160 = .ok (.getfield 81, 3) := by decide +kernel
theorem dX10_goesOut_163 : decode cX10_goesOut 163 = .ok (.iload_n 1, 1) := by decide +kernel
theorem dX10_goesOut_164 : decode cX10_goesOut 164 = .ok (.iaload, 1) := by decide +kernel
theorem dX10_goesOut_165 : decode cX10_goesOut 165 = .ok (.i2l, 1) := by decide +kernel
theorem dX10_goesOut_166 : decode cX10_goesOut 166 = .ok (.ladd, 1) := by decide +kernel
theorem dX10_goesOut_167 : decode cX10_goesOut 167 = .ok (.lastore, 1) := by decide +kernel
theorem dX10_goesOut_168 : decode cX10_goesOut 168 = .ok (.aload_n 0, 1) := by decide +kernel
theorem dX10_goesOut_169 : decode cX10_goesOut 169 = .ok (.getfield 34, 3) := by decide +kernel
theorem dX10_goesOut_172 : decode cX10_goesOut 172 = .ok (.aload_n 0, 1) := by decide +kernel
theorem dX10_goesOut_173 : decode cX10_goesOut 173 = .ok (.getfield 41, 3) := by decide +kernel
theorem dX10_goesOut_176 : decode cX10_goesOut 176 = .ok (.iload_n 2, 1) := by decide +kernel
theorem dX10_goesOut_177 : decode cX10_goesOut 177 = .ok (.iaload, 1) := by decide +kernel
theorem dX10_goesOut_178 : decode cX10_goesOut 178 = .ok (.dup2, 1) := by decide +kernel
theorem dX10_goesOut_179 : decode cX10_goesOut 179 = .ok (.laload, 1) := by decide +kernel
theorem dX10_goesOut_180 : decode cX10_goesOut 180 = .ok (.aload_n 0, 1) := by decide +kernel
theorem dX10_goesOut_181 : decode cX10_goesOut 181 = .ok (.getfield 81, 3) := by decide +kernel
theorem dX10_goesOut_184 : decode cX10_goesOut 184 = .ok (.iload_n 1, 1) := by decide +kernel
theorem dX10_goesOut_185 : decode cX10_goesOut 185 = .ok (.iaload, 1) := by decide +kernel
theorem dX10_goesOut_186 : decode cX10_goesOut 186 = .ok (.i2l, 1) := by decide +kernel
theorem dX10_goesOut_187 : decode cX10_goesOut 187 = .ok (.lsub, 1) := by decide +kernel
theorem dX10_goesOut_188 : decode cX10_goesOut 188 = .ok (.lastore, 1) := by decide +kernel
theorem dX10_goesOut_189 : decode cX10_goesOut 189 = .ok (.aload_n 0, 1) := by decide +kernel
theorem dX10_goesOut_190 : decode cX10_goesOut 190 = .ok (.getfield 34, 3) := by decide +kernel
theorem dX10_goesOut_193 : decode cX10_goesOut 193 = .ok (.aload_n 0, 1) := by decide +kernel
theorem dX10_goesOut_194 : decode cX10_goesOut 194 = .ok (.getfield 41, 3) := by decide +kernel
theorem dX10_goesOut_197 : decode cX10_goesOut 197 = .ok (.iload_n 3, 1) := by decide +kernel
theorem dX10_goesOut_198 : decode cX10_goesOut 198 = .ok (.iaload, 1) := by decide +kernel
theorem dX10_goesOut_199 : decode cX10_goesOut 199 = .ok (.dup2, 1) := by decide +kernel
theorem dX10_goesOut_200 : decode cX10_goesOut 200 = .ok (.laload, 1) := by decide +kernel
theorem dX10_goesOut_201 : decode cX10_goesOut 201 = .ok (.aload_n 0, 1) := by decide +kernel
theorem dX10_goesOut_202 : decode cX10_goesOut 202 = .ok (.getfield 81, 3) := by decide +kernel
theorem dX10_goesOut_205 : decode cX10_goesOut 205 = .ok (.iload_n 1, 1) := by decide +kernel
theorem dX10_goesOut_206 : decode cX10_goesOut 206 = .ok (.iaload, 1) := by decide +kernel
theorem dX10_goesOut_207 : decode cX10_goesOut 207 = .ok (.i2l, 1) := by decide +kernel
theorem dX10_goesOut_208 : decode cX10_goesOut 208 = .ok (.ladd, 1) := by decide +kernel
theorem dX10_goesOut_209 : decode cX10_goesOut 209 = .ok (.lastore, 1) := by decide +kernel
theorem dX10_goesOut_210 : decode cX10_goesOut 210 = .ok (.aload_n 0, 1) := by decide +kernel
theorem dX10_goesOut_211 : decode cX10_goesOut 211 = .ok (.getfield 93, 3) := by decide +kernel
theorem dX10_goesOut_214 : decode cX10_goesOut 214 = .ok (.iload_n 1, 1) := by decide +kernel
theorem dX10_goesOut_215 : decode cX10_goesOut 215 = .ok (.dup2, 1) := by decide +kernel
theorem dX10_goesOut_216 : decode cX10_goesOut 216 = .ok (.iaload, 1) := by decide +kernel
theorem dX10_goesOut_217 : decode cX10_goesOut 217 = .ok (.iconst 1, 1) := by decide +kernel
theorem dX10_goesOut_218 : decode cX10_goesOut 218 = .ok (.iadd, 1) := by decide +kernel
theorem dX10_goesOut_219 : decode cX10_goesOut 219 = .ok (.iastore, 1) := by decide +kernel
theorem dX10_goesOut_220 : decode cX10_goesOut 220 = .ok (.aload_n 0, 1) := by decide +kernel
theorem dX10_goesOut_221 : decode cX10_goesOut 221 = .ok (.getfield 99, 3) := by decide +kernel
theorem dX10_goesOut_224 : decode cX10_goesOut 224 = .ok (.iload_n 1, 1) := by decide +kernel
theorem dX10_goesOut_225 : decode cX10_goesOut 225 = .ok (.aload_n 0, 1) := by decide +kernel
theorem dX10_goesOut_226 : decode cX10_goesOut 226 = .ok (.getfield 177, 3) := by decide +kernel
theorem dX10_goesOut_229 : decode cX10_goesOut 229 = .ok (.iastore, 1) := by decide +kernel
theorem dX10_goesOut_230 : decode cX10_goesOut 230 = .ok (.return_, 1) := by decide +kernel
theorem dX10_goesOut_231 : decode cX10_goesOut 231 = .ok (.aload_n 0, 1) := by decide +kernel
theorem dX10_goesOut_232 : decode cX10_goesOut 232 = .ok (.getfield 96, 3) := by decide +kernel
theorem dX10_goesOut_235 : decode cX10_goesOut 235 = .ok (.iconst 4, 1) := by decide +kernel
theorem dX10_goesOut_236 : decode cX10_goesOut 236 = .ok (.iload_n 1, 1) := by decide +kernel
theorem dX10_goesOut_237 : decode cX10_goesOut 237 = .ok (.imul, 1) := by decide +kernel
theorem dX10_goesOut_238 : decode cX10_goesOut 238 = .ok (.iload 4, 2) := by decide +kernel
theorem dX10_goesOut_240 : decode cX10_goesOut 240 = .ok (.iadd, 1) := by decide +kernel
theorem dX10_goesOut_241 : decode cX10_goesOut 241 = .ok (.iconst 1, 1) := by decide +kernel
theorem dX10_goesOut_242 : decode cX10_goesOut 242 = .ok (.isub, 1) := by decide +kernel
theorem dX10_goesOut_243 : decode cX10_goesOut 243 = .ok (.dup2, 1) := by decide +kernel
theorem dX10_goesOut_244 : decode cX10_goesOut 244 = .ok (.iaload, 1) := by decide +kernel
theorem dX10_goesOut_245 : decode cX10_goesOut 245 = .ok (.iconst 1, 1) := by decide +kernel
theorem dX10_goesOut_246 : decode cX10_goesOut 246 = .ok (.iadd, 1) := by decide +kernel
theorem dX10_goesOut_247 : decode cX10_goesOut 247 = .ok (.iastore, 1) := by decide +kernel
theorem dX10_goesOut_248 : decode cX10_goesOut 248 = .ok (.iload_n 2, 1) := by decide +kernel
theorem dX10_goesOut_249 : decode cX10_goesOut 249 = .ok (.ifCond .ge 12, 3) := by decide +kernel
theorem dX10_goesOut_252 : decode cX10_goesOut 252 = .ok (.aload_n 0, 1) := by decide +kernel
theorem dX10_goesOut_253 : decode cX10_goesOut 253 = .ok (.getfield 75, 3) := by decide +kernel
theorem dX10_goesOut_256 : decode cX10_goesOut 256 = .ok (.iload_n 1, 1) := by decide +kernel
theorem dX10_goesOut_257 : decode cX10_goesOut 257 = .ok (.iaload, 1) := by decide +kernel
theorem dX10_goesOut_258 : decode cX10_goesOut 258 = .ok (.goto 4, 3) := by decide +kernel
theorem dX10_goesOut_261 : decode cX10_goesOut 261 = .ok (.iload_n 2, 1) := by decide +kernel
theorem dX10_goesOut_262 : decode cX10_goesOut 262 = .ok (.istore 5, 2) := by decide +kernel
theorem dX10_goesOut_264 : decode cX10_goesOut 264 = .ok (.iload 4, 2) := by decide +kernel
theorem dX10_goesOut_266 : decode cX10_goesOut 266 = .ok (.iconst 1, 1) := by decide +kernel
theorem dX10_goesOut_267 : decode cX10_goesOut 267 = .ok (.if_icmp .ne 26, 3) := by decide +kernel
theorem dX10_goesOut_270 : decode cX10_goesOut 270 = .ok (.aload_n 0, 1) := by decide +kernel
theorem dX10_goesOut_271 : decode cX10_goesOut 271 = .ok (.getfield 65, 3) := by decide +kernel
theorem dX10_goesOut_274 : decode cX10_goesOut 274 = .ok (.iload 5, 2) := by decide +kernel
theorem dX10_goesOut_276 : decode cX10_goesOut 276 = .ok (.dup2, 1) := by decide +kernel
theorem dX10_goesOut_277 : decode cX10_goesOut 277 = .ok (.laload, 1) := by decide +kernel
theorem dX10_goesOut_278 : decode cX10_goesOut 278 = .ok (.aload_n 0, 1) := by decide +kernel
theorem dX10_goesOut_279 : decode cX10_goesOut 279 = .ok (.getfield 22, 3) := by decide +kernel
theorem dX10_goesOut_282 : decode cX10_goesOut 282 = .ok (.aload_n 0, 1) := by decide +kernel
theorem dX10_goesOut_283 : decode cX10_goesOut 283 = .ok (.getfield 41, 3) := by decide +kernel
theorem dX10_goesOut_286 : decode cX10_goesOut 286 = .ok (.iload 5, 2) := by decide +kernel
theorem dX10_goesOut_288 : decode cX10_goesOut 288 = .ok (.iaload, 1) := by decide +kernel
theorem dX10_goesOut_289 : decode cX10_goesOut 289 = .ok (.iaload, 1) := by decide +kernel
theorem dX10_goesOut_290 : decode cX10_goesOut 290 = .ok (.i2l, 1) := by decide +kernel
theorem dX10_goesOut_291 : decode cX10_goesOut 291 = .ok (.lsub, 1) := by decide +kernel
theorem dX10_goesOut_292 : decode cX10_goesOut 292 = .ok (.lastore, 1) := by decide +kernel
theorem dX10_goesOut_293 : decode cX10_goesOut 293 = .ok (.iconst 0, 1) := by decide +kernel
theorem dX10_goesOut_294 : decode cX10_goesOut 294 = .ok (.istore 6, 2) := by decide +kernel
theorem dX10_goesOut_296 : decode cX10_goesOut 296 = .ok (.iload 6, 2) := by decide +kernel
theorem dX10_goesOut_298 : decode cX10_goesOut 298 = .ok (.aload_n 0, 1) := by decide +kernel
theorem dX10_goesOut_299 : decode cX10_goesOut 299 = .ok (.getfield 211, 3) := by decide +kernel
theorem dX10_goesOut_302 : decode cX10_goesOut 302 = .ok (.if_icmp .ge 189, 3) := by decide +kernel
theorem dX10_goesOut_305 : decode cX10_goesOut 305 = .ok (.aload_n 0, 1) := by decide +kernel
theorem dX10_goesOut_306 : decode cX10_goesOut 306 = .ok (.getfield 114, 3) := by decide +kernel
theorem dX10_goesOut_309 : decode cX10_goesOut 309 = .ok (.iload 6, 2) := by decide +kernel
theorem dX10_goesOut_311 : decode cX10_goesOut 311 = .ok (.iaload, 1) := by decide +kernel
theorem dX10_goesOut_312 : decode cX10_goesOut 312 = .ok (.ifCond .eq 173, 3) := by decide +kernel
theorem dX10_goesOut_315 : decode cX10_goesOut 315 = .ok (.aload_n 0, 1) := by decide +kernel
theorem dX10_goesOut_316 : decode cX10_goesOut 316 = .ok (.getfield 102, 3) := by decide +kernel
theorem dX10_goesOut_319 : decode cX10_goesOut 319 = .ok (.iload 6, 2) := by decide +kernel
theorem dX10_goesOut_321 : decode cX10_goesOut 321 = .ok (.iaload, 1) := by decide +kernel
theorem dX10_goesOut_322 : decode cX10_goesOut 322 = .ok (.iload 5, 2) := by decide +kernel
theorem dX10_goesOut_324 : decode cX10_goesOut 324 = .ok (.if_icmp .eq 18, 3) := by decide +kernel
theorem dX10_goesOut_327 : decode cX10_goesOut 327 = .ok (.aload_n 0, 1) := by decide +kernel
theorem dX10_goesOut_328 : decode cX10_goesOut 328 = .ok (.getfield 105, 3) := by decide +kernel
theorem dX10_goesOut_331 : decode cX10_goesOut 331 = .ok (.iload 6, 2) := by decide +kernel
theorem dX10_goesOut_333 : decode cX10_goesOut 333 = .ok (.iaload, 1) := by decide +kernel
theorem dX10_goesOut_334 : decode cX10_goesOut 334 = .ok (.iload 5, 2) := by decide +kernel
theorem dX10_goesOut_336 : decode cX10_goesOut 336 = .ok (.if_icmp .eq 6, 3) := by decide +kernel
theorem dX10_goesOut_339 : decode cX10_goesOut 339 = .ok (.goto 146, 3) := by decide +kernel
theorem dX10_goesOut_342 : decode cX10_goesOut 342 = .ok (.aload_n 0, 1) := by decide +kernel
theorem dX10_goesOut_343 : decode cX10_goesOut 343 = .ok (.invokevirtual 220, 3) := by decide +kernel
theorem dX10_goesOut_346 : decode cX10_goesOut 346 = .ok (.aload_n 0, 1) := by decide +kernel
theorem dX10_goesOut_347 : decode cX10_goesOut 347 = .ok (.getfield 158, 3) := by decide +kernel
theorem dX10_goesOut_350 : decode cX10_goesOut 350 = .ok (.bipush 98, 2) := by decide +kernel
theorem dX10_goesOut_352 : decode cX10_goesOut 352 = .ok (.aload_n 0, 1) := by decide +kernel
theorem dX10_goesOut_353 : decode cX10_goesOut 353 = .ok (.getfield 41, 3) := by decide +kernel
theorem dX10_goesOut_356 : decode cX10_goesOut 356 = .ok (.iload 5, 2) := by decide +kernel
theorem dX10_goesOut_358 : decode cX10_goesOut 358 = .ok (.iaload, 1) := by decide +kernel
theorem dX10_goesOut_359 : decode cX10_goesOut 359 = .ok (.iastore, 1) := by decide +kernel
theorem dX10_goesOut_360 : decode cX10_goesOut 360 = .ok (.aload_n 0, 1) := by decide +kernel
theorem dX10_goesOut_361 : decode cX10_goesOut 361 = .ok (.getfield 158, 3) := by decide +kernel
theorem dX10_goesOut_364 : decode cX10_goesOut 364 = .ok (.bipush 110, 2) := by decide +kernel
theorem dX10_goesOut_366 : decode cX10_goesOut 366 = .ok (.aload_n 0, 1) := by decide +kernel
theorem dX10_goesOut_367 : decode cX10_goesOut 367 = .ok (.getfield 81, 3) := by decide +kernel
theorem dX10_goesOut_370 : decode cX10_goesOut 370 = .ok (.iload_n 1, 1) := by decide +kernel
theorem dX10_goesOut_371 : decode cX10_goesOut 371 = .ok (.iaload, 1) := by decide +kernel
theorem dX10_goesOut_372 : decode cX10_goesOut 372 = .ok (.iastore, 1) := by decide +kernel
theorem dX10_goesOut_373 : decode cX10_goesOut 373 = .ok (.aload_n 0, 1) := by decide +kernel
theorem dX10_goesOut_374 : decode cX10_goesOut 374 = .ok (.getfield 158, 3) := by decide +kernel
theorem dX10_goesOut_377 : decode cX10_goesOut 377 = .ok (.bipush 102, 2) := by decide +kernel
theorem dX10_goesOut_379 : decode cX10_goesOut 379 = .ok (.aload_n 0, 1) := by decide +kernel
theorem dX10_goesOut_380 : decode cX10_goesOut 380 = .ok (.getfield 22, 3) := by decide +kernel
theorem dX10_goesOut_383 : decode cX10_goesOut 383 = .ok (.aload_n 0, 1) := by decide +kernel
theorem dX10_goesOut_384 : decode cX10_goesOut 384 = .ok (.getfield 41, 3) := by decide +kernel
theorem dX10_goesOut_387 : decode cX10_goesOut 387 = .ok (.iload 5, 2) := by decide +kernel
theorem dX10_goesOut_389 : decode cX10_goesOut 389 = .ok (.iaload, 1) := by decide +kernel
theorem dX10_goesOut_390 : decode cX10_goesOut 390 = .ok (.iaload, 1) := by decide +kernel
theorem dX10_goesOut_391 : decode cX10_goesOut 391 = .ok (.iastore, 1) := by decide +kernel
theorem dX10_goesOut_392 : decode cX10_goesOut 392 = .ok (.aload_n 0, 1) := by decide +kernel
theorem dX10_goesOut_393 : decode cX10_goesOut 393 = .ok (.getfield 158, 3) := by decide +kernel
theorem dX10_goesOut_396 : decode cX10_goesOut 396 = .ok (.bipush 119, 2) := by decide +kernel
theorem dX10_goesOut_398 : decode cX10_goesOut 398 = .ok (.iload 4, 2) := by decide +kernel
theorem dX10_goesOut_400 : decode cX10_goesOut 400 = .ok (.iastore, 1) := by decide +kernel
theorem dX10_goesOut_401 : decode cX10_goesOut 401 = .ok (.aload_n 0, 1) := by decide +kernel
theorem dX10_goesOut_402 : decode cX10_goesOut 402 = .ok (.iconst 3, 1) := by decide +kernel
theorem dX10_goesOut_403 : decode cX10_goesOut 403 = .ok (.aload_n 0, 1) := by decide +kernel
theorem dX10_goesOut_404 : decode cX10_goesOut 404 = .ok (.getfield 177, 3) := by decide +kernel
theorem dX10_goesOut_407 : decode cX10_goesOut 407 = .ok (.invokevirtual 223, 3) := by decide +kernel
theorem dX10_goesOut_410 : decode cX10_goesOut 410 = .ok (.istore 7, 2) := by decide +kernel
theorem dX10_goesOut_412 : decode cX10_goesOut 412 = .ok (.iload 7, 2) := by decide +kernel
theorem dX10_goesOut_414 : decode cX10_goesOut 414 = .ok (.ifCond .le 70, 3) := by decide +kernel
theorem dX10_goesOut_417 : decode cX10_goesOut 417 = .ok (.aload_n 0, 1) := by decide +kernel
theorem dX10_goesOut_418 : decode cX10_goesOut 418 = .ok (.getfield 65, 3) := by decide +kernel
theorem dX10_goesOut_421 : decode cX10_goesOut 421 = .ok (.iload 5, 2) := by decide +kernel
theorem dX10_goesOut_423 : decode cX10_goesOut 423 = .ok (.dup2, 1) := by decide +kernel
theorem dX10_goesOut_424 : decode cX10_goesOut 424 = .ok (.laload, 1) := by decide +kernel
theorem dX10_goesOut_425 : decode cX10_goesOut 425 = .ok (.iload 7, 2) := by decide +kernel
theorem dX10_goesOut_427 : decode cX10_goesOut 427 = .ok (.i2l, 1) := by decide +kernel
theorem dX10_goesOut_428 : decode cX10_goesOut 428 = .ok (.ladd, 1) := by decide +kernel
theorem dX10_goesOut_429 : decode cX10_goesOut 429 = .ok (.lastore, 1) := by decide +kernel
theorem dX10_goesOut_430 : decode cX10_goesOut 430 = .ok (.aload_n 0, 1) := by decide +kernel
theorem dX10_goesOut_431 : decode cX10_goesOut 431 = .ok (.getfield 62, 3) := by decide +kernel
theorem dX10_goesOut_434 : decode cX10_goesOut 434 = .ok (.iload 5, 2) := by decide +kernel
theorem dX10_goesOut_436 : decode cX10_goesOut 436 = .ok (.aload_n 0, 1) := by decide +kernel
theorem dX10_goesOut_437 : decode cX10_goesOut 437 = .ok (.getfield 62, 3) := by decide +kernel
theorem dX10_goesOut_440 : decode cX10_goesOut 440 = .ok (.iload 5, 2) := by decide +kernel
theorem dX10_goesOut_442 : decode cX10_goesOut 442 = .ok (.iaload, 1) := by decide +kernel
theorem dX10_goesOut_443 : decode cX10_goesOut 443 = .ok (.i2l, 1) := by decide +kernel
theorem dX10_goesOut_444 : decode cX10_goesOut 444 = .ok (.iload 7, 2) := by decide +kernel
theorem dX10_goesOut_446 : decode cX10_goesOut 446 = .ok (.i2l, 1) := by decide +kernel
theorem dX10_goesOut_447 : decode cX10_goesOut 447 = .ok (.ladd, 1) := by decide +kernel
theorem dX10_goesOut_448 : decode cX10_goesOut 448 = .ok (.invokestatic 259, 3) := by decide +kernel
theorem dX10_goesOut_451 : decode cX10_goesOut 451 = .ok (.iastore, 1) := by decide +kernel
theorem dX10_goesOut_452 : decode cX10_goesOut 452 = .ok (.aload_n 0, 1) := by decide +kernel
theorem dX10_goesOut_453 : decode cX10_goesOut 453 = .ok (.getfield 28, 3) := by decide +kernel
theorem dX10_goesOut_456 : decode cX10_goesOut 456 = .ok (.aload_n 0, 1) := by decide +kernel
theorem dX10_goesOut_457 : decode cX10_goesOut 457 = .ok (.getfield 117, 3) := by decide +kernel
theorem dX10_goesOut_460 : decode cX10_goesOut 460 = .ok (.iload 6, 2) := by decide +kernel
theorem dX10_goesOut_462 : decode cX10_goesOut 462 = .ok (.iaload, 1) := by decide +kernel
theorem dX10_goesOut_463 : decode cX10_goesOut 463 = .ok (.aload_n 0, 1) := by decide +kernel
theorem dX10_goesOut_464 : decode cX10_goesOut 464 = .ok (.getfield 28, 3) := by decide +kernel
theorem dX10_goesOut_467 : decode cX10_goesOut 467 = .ok (.aload_n 0, 1) := by decide +kernel
theorem dX10_goesOut_468 : decode cX10_goesOut 468 = .ok (.getfield 117, 3) := by decide +kernel
theorem dX10_goesOut_471 : decode cX10_goesOut 471 = .ok (.iload 6, 2) := by decide +kernel
theorem dX10_goesOut_473 : decode cX10_goesOut 473 = .ok (.iaload, 1) := by decide +kernel
theorem dX10_goesOut_474 : decode cX10_goesOut 474 = .ok (.iaload, 1) := by decide +kernel
theorem dX10_goesOut_475 : decode cX10_goesOut 475 = .ok (.i2l, 1) := by decide +kernel
theorem dX10_goesOut_476 : decode cX10_goesOut 476 = .ok (.iload 7, 2) := by decide +kernel
theorem dX10_goesOut_478 : decode cX10_goesOut 478 = .ok (.i2l, 1) := by decide +kernel
theorem dX10_goesOut_479 : decode cX10_goesOut 479 = .ok (.ladd, 1) := by decide +kernel
theorem dX10_goesOut_480 : decode cX10_goesOut 480 = .ok (.invokestatic 259, 3) := by decide +kernel
theorem dX10_goesOut_483 : decode cX10_goesOut 483 = .ok (.iastore, 1) := by decide +kernel
theorem dX10_goesOut_484 : decode cX10_goesOut 484 = .ok (.return_, 1) := by decide +kernel
theorem dX10_goesOut_485 : decode cX10_goesOut 485 = .ok (.iinc 6 1, 3) := by decide +kernel
theorem dX10_goesOut_488 : decode cX10_goesOut 488 = .ok (.goto (-192), 3) := by decide +kernel
theorem dX10_goesOut_491 : decode cX10_goesOut 491 = .ok (.return_, 1) := by decide +kernel
theorem dX10_ask_0 : decode cX10_ask 0 = .ok (.aload_n 0, 1) := by decide +kernel
theorem dX10_ask_1 : decode cX10_ask 1 = .ok (.iload_n 1, 1) := by decide +kernel
theorem dX10_ask_2 : decode cX10_ask 2 = .ok (.invokevirtual 203, 3) := by decide +kernel
theorem dX10_ask_5 : decode cX10_ask 5 = .ok (.ifCond .eq 10, 3) := by decide +kernel
theorem dX10_ask_8 : decode cX10_ask 8 = .ok (.iload_n 2, 1) := by decide +kernel
theorem dX10_ask_9 : decode cX10_ask 9 = .ok (.invokestatic 191, 3) := by decide +kernel
theorem dX10_ask_12 : decode cX10_ask 12 = .ok (.ifCond .ne 9, 3) := by decide +kernel
theorem dX10_ask_15 : decode cX10_ask 15 = .ok (.aload_n 0, 1) := by decide +kernel
theorem dX10_ask_16 : decode cX10_ask 16 = .ok (.iconst (-1), 1) := by decide +kernel
theorem dX10_ask_17 : decode cX10_ask 17 = .ok (.invokevirtual 163, 3) := by decide +kernel
theorem dX10_ask_20 : decode cX10_ask 20 = .ok (.ireturn, 1) := by decide +kernel
theorem dX10_ask_21 : decode cX10_ask 21 = .ok (.aload_n 0, 1) := by decide +kernel
theorem dX10_ask_22 : decode cX10_ask 22 = .ok (.getfield 53, 3) := by decide +kernel
theorem dX10_ask_25 : decode cX10_ask 25 = .ok (.iload_n 1, 1) := by decide +kernel
theorem dX10_ask_26 : decode cX10_ask 26 = .ok (.iaload, 1) := by decide +kernel
theorem dX10_ask_27 : decode cX10_ask 27 = .ok (.ifCond .ne 21, 3) := by decide +kernel
theorem dX10_ask_30 : decode cX10_ask 30 = .ok (.aload_n 0, 1) := by decide +kernel
theorem dX10_ask_31 : decode cX10_ask 31 = .ok (.iload_n 1, 1) := by decide +kernel
theorem dX10_ask_32 : decode cX10_ask 32 = .ok (.invokevirtual 214, 3) := by decide +kernel
theorem dX10_ask_35 : decode cX10_ask 35 = .ok (.ifCond .ne 13, 3) := by decide +kernel
theorem dX10_ask_38 : decode cX10_ask 38 = .ok (.aload_n 0, 1) := by decide +kernel
theorem dX10_ask_39 : decode cX10_ask 39 = .ok (.getfield 41, 3) := by decide +kernel
theorem dX10_ask_42 : decode cX10_ask 42 = .ok (.iload_n 1, 1) := by decide +kernel
theorem dX10_ask_43 : decode cX10_ask 43 = .ok (.iaload, 1) := by decide +kernel
theorem dX10_ask_44 : decode cX10_ask 44 = .ok (.iload_n 2, 1) := by decide +kernel
theorem dX10_ask_45 : decode cX10_ask 45 = .ok (.if_icmp .ne 10, 3) := by decide +kernel
theorem dX10_ask_48 : decode cX10_ask 48 = .ok (.aload_n 0, 1) := by decide +kernel
theorem dX10_ask_49 : decode cX10_ask 49 = .ok (.bipush (-3), 2) := by decide +kernel
theorem dX10_ask_51 : decode cX10_ask 51 = .ok (.invokevirtual 163, 3) := by decide +kernel
theorem dX10_ask_54 : decode cX10_ask 54 = .ok (.ireturn, 1) := by decide +kernel
theorem dX10_ask_55 : decode cX10_ask 55 = .ok (.aload_n 0, 1) := by decide +kernel
theorem dX10_ask_56 : decode cX10_ask 56 = .ok (.iload_n 1, 1) := by decide +kernel
theorem dX10_ask_57 : decode cX10_ask 57 = .ok (.iload_n 2, 1) := by decide +kernel
theorem dX10_ask_58 : decode cX10_ask 58 = .ok (.iconst 0, 1) := by decide +kernel
theorem dX10_ask_59 : decode cX10_ask 59 = .ok (.invokevirtual 293, 3) := by decide +kernel
theorem dX10_ask_62 : decode cX10_ask 62 = .ok (.aload_n 0, 1) := by decide +kernel
theorem dX10_ask_63 : decode cX10_ask 63 = .ok (.iconst 0, 1) := by decide +kernel
theorem dX10_ask_64 : decode cX10_ask 64 = .ok (.aload_n 0, 1) := by decide +kernel
theorem dX10_ask_65 : decode cX10_ask 65 = .ok (.getfield 177, 3) := by decide +kernel
theorem dX10_ask_68 : decode cX10_ask 68 = .ok (.invokevirtual 223, 3) := by decide +kernel
theorem dX10_ask_71 : decode cX10_ask 71 = .ok (.ifCond .gt 10, 3) := by decide +kernel
theorem dX10_ask_74 : decode cX10_ask 74 = .ok (.aload_n 0, 1) := by decide +kernel
theorem dX10_ask_75 : decode cX10_ask 75 = .ok (.bipush (-3), 2) := by decide +kernel
theorem dX10_ask_77 : decode cX10_ask 77 = .ok (.invokevirtual 163, 3) := by decide +kernel
theorem dX10_ask_80 : decode cX10_ask 80 = .ok (.ireturn, 1) := by decide +kernel
theorem dX10_ask_81 : decode cX10_ask 81 = .ok (.aload_n 0, 1) := by decide +kernel
theorem dX10_ask_82 : decode cX10_ask 82 = .ok (.getfield 211, 3) := by decide +kernel
theorem dX10_ask_85 : decode cX10_ask 85 = .ok (.bipush 30, 2) := by decide +kernel
theorem dX10_ask_87 : decode cX10_ask 87 = .ok (.if_icmp .eq 12, 3) := by decide +kernel
theorem dX10_ask_90 : decode cX10_ask 90 = .ok (.aload_n 0, 1) := by decide +kernel
theorem dX10_ask_91 : decode cX10_ask 91 = .ok (.getfield 171, 3) := by decide +kernel
theorem dX10_ask_94 : decode cX10_ask 94 = .ok (.bipush 40, 2) := by decide +kernel
theorem dX10_ask_96 : decode cX10_ask 96 = .ok (.if_icmp .ne 10, 3) := by decide +kernel
theorem dX10_ask_99 : decode cX10_ask 99 = .ok (.aload_n 0, 1) := by decide +kernel
theorem dX10_ask_100 : decode cX10_ask 100 = .ok (.bipush (-6), 2) := by decide +kernel
theorem dX10_ask_102 : decode cX10_ask 102 = .ok (.invokevirtual 163, 3) := by decide +kernel
theorem dX10_ask_105 : decode cX10_ask 105 = .ok (.ireturn, 1) := by decide +kernel
theorem dX10_ask_106 : decode cX10_ask 106 = .ok (.aload_n 0, 1) := by decide +kernel
theorem dX10_ask_107 : decode cX10_ask 107 = .ok (.getfield 211, 3) := by decide +kernel
theorem dX10_ask_110 : decode cX10_ask 110 = .ok (.istore 4, 2) := by decide +kernel
theorem dX10_ask_112 : decode cX10_ask 112 = .ok (.aload_n 0, 1) := by decide +kernel
theorem dX10_ask_113 : decode cX10_ask 113 = .ok (.dup, 1) := by decide +kernel
theorem dX10_ask_114 : decode cX10_ask 114 = .ok (.getfield 211, 3) := by decide +kernel
theorem dX10_ask_117 : decode cX10_ask 117 = .ok (.iconst 1, 1) := by decide +kernel
theorem dX10_ask_118 : decode cX10_ask 118 = .ok (.iadd, 1) := by decide +kernel
theorem dX10_ask_119 : decode cX10_ask 119 = .ok (.putfield 211, 3) := by decide +kernel
theorem dX10_ask_122 : decode cX10_ask 122 = .ok (.aload_n 0, 1) := by decide +kernel
theorem dX10_ask_123 : decode cX10_ask 123 = .ok (.getfield 102, 3) := by decide +kernel
theorem dX10_ask_126 : decode cX10_ask 126 = .ok (.iload 4, 2) := by decide +kernel
theorem dX10_ask_128 : decode cX10_ask 128 = .ok (.iload_n 1, 1) := by decide +kernel
theorem dX10_ask_129 : decode cX10_ask 129 = .ok (.iastore, 1) := by decide +kernel
theorem dX10_ask_130 : decode cX10_ask 130 = .ok (.aload_n 0, 1) := by decide +kernel
theorem dX10_ask_131 : decode cX10_ask 131 = .ok (.getfield 105, 3) := by decide +kernel
theorem dX10_ask_134 : decode cX10_ask 134 = .ok (.iload 4, 2) := by decide +kernel
theorem dX10_ask_136 : decode cX10_ask 136 = .ok (.aload_n 0, 1) := by decide +kernel
theorem dX10_ask_137 : decode cX10_ask 137 = .ok (.iload_n 2, 1) := by decide +kernel
theorem dX10_ask_138 : decode cX10_ask 138 = .ok (.aload_n 0, 1) := by decide +kernel
theorem dX10_ask_139 : decode cX10_ask 139 = .ok (.getfield 44, 3) := by decide +kernel
theorem dX10_ask_142 : decode cX10_ask 142 = .ok (.iload_n 1, 1) := by decide +kernel
theorem dX10_ask_143 : decode cX10_ask 143 = .ok (.iaload, 1) := by decide +kernel
theorem dX10_ask_144 : decode cX10_ask 144 = .ok (.aload_n 0, 1) := by decide +kernel
theorem dX10_ask_145 : decode cX10_ask 145 = .ok (.getfield 47, 3) := by decide +kernel
theorem dX10_ask_148 : decode cX10_ask 148 = .ok (.iload_n 1, 1) := by decide +kernel
theorem dX10_ask_149 : decode cX10_ask 149 = .ok (.iaload, 1) := by decide +kernel
theorem dX10_ask_150 : decode cX10_ask 150 = .ok (.invokevirtual 200, 3) := by decide +kernel
theorem dX10_ask_153 : decode cX10_ask 153 = .ok (.iastore, 1) := by decide +kernel
theorem dX10_ask_154 : decode cX10_ask 154 = .ok (.aload_n 0, 1) := by decide +kernel
theorem dX10_ask_155 : decode cX10_ask 155 = .ok (.getfield 133, 3) := by decide +kernel
theorem dX10_ask_158 : decode cX10_ask 158 = .ok (.iload 4, 2) := by decide +kernel
theorem dX10_ask_160 : decode cX10_ask 160 = .ok (.iload_n 3, 1) := by decide +kernel
theorem dX10_ask_161 : decode cX10_ask 161 = .ok (.bastore, 1) := by decide +kernel
theorem dX10_ask_162 : decode cX10_ask 162 = .ok (.aload_n 0, 1) := by decide +kernel
theorem dX10_ask_163 : decode cX10_ask 163 = .ok (.getfield 126, 3) := by decide +kernel
theorem dX10_ask_166 : decode cX10_ask 166 = .ok (.iload 4, 2) := by decide +kernel
theorem dX10_ask_168 : decode cX10_ask 168 = .ok (.iconst 1, 1) := by decide +kernel
theorem dX10_ask_169 : decode cX10_ask 169 = .ok (.bastore, 1) := by decide +kernel
theorem dX10_ask_170 : decode cX10_ask 170 = .ok (.aload_n 0, 1) := by decide +kernel
theorem dX10_ask_171 : decode cX10_ask 171 = .ok (.getfield 117, 3) := by decide +kernel
theorem dX10_ask_174 : decode cX10_ask 174 = .ok (.iload 4, 2) := by decide +kernel
theorem dX10_ask_176 : decode cX10_ask 176 = .ok (.bipush (-9), 2) := by decide +kernel
theorem dX10_ask_178 : decode cX10_ask 178 = .ok (.iastore, 1) := by decide +kernel
theorem dX10_ask_179 : decode cX10_ask 179 = .ok (.aload_n 0, 1) := by decide +kernel
theorem dX10_ask_180 : decode cX10_ask 180 = .ok (.getfield 120, 3) := by decide +kernel
theorem dX10_ask_183 : decode cX10_ask 183 = .ok (.iload 4, 2) := by decide +kernel
theorem dX10_ask_185 : decode cX10_ask 185 = .ok (.aload_n 0, 1) := by decide +kernel
theorem dX10_ask_186 : decode cX10_ask 186 = .ok (.getfield 177, 3) := by decide +kernel
theorem dX10_ask_189 : decode cX10_ask 189 = .ok (.iastore, 1) := by decide +kernel
theorem dX10_ask_190 : decode cX10_ask 190 = .ok (.aload_n 0, 1) := by decide +kernel
theorem dX10_ask_191 : decode cX10_ask 191 = .ok (.getfield 123, 3) := by decide +kernel
theorem dX10_ask_194 : decode cX10_ask 194 = .ok (.iload 4, 2) := by decide +kernel
theorem dX10_ask_196 : decode cX10_ask 196 = .ok (.bipush (-9), 2) := by decide +kernel
theorem dX10_ask_198 : decode cX10_ask 198 = .ok (.iastore, 1) := by decide +kernel
theorem dX10_ask_199 : decode cX10_ask 199 = .ok (.iload 4, 2) := by decide +kernel
theorem dX10_ask_201 : decode cX10_ask 201 = .ok (.ireturn, 1) := by decide +kernel
theorem dX10_isMove_0 : decode cX10_isMove 0 = .ok (.iload_n 1, 1) := by decide +kernel
theorem dX10_isMove_1 : decode cX10_isMove 1 = .ok (.aload_n 0, 1) := by decide +kernel
theorem dX10_isMove_2 : decode cX10_isMove 2 = .ok (.getfield 211, 3) := by decide +kernel
theorem dX10_isMove_5 : decode cX10_isMove 5 = .ok (.invokestatic 167, 3) := by decide +kernel
theorem dX10_isMove_8 : decode cX10_isMove 8 = .ok (.ireturn, 1) := by decide +kernel
theorem dX10_agree_0 : decode cX10_agree 0 = .ok (.aload_n 0, 1) := by decide +kernel
theorem dX10_agree_1 : decode cX10_agree 1 = .ok (.iload_n 1, 1) := by decide +kernel
theorem dX10_agree_2 : decode cX10_agree 2 = .ok (.invokevirtual 297, 3) := by decide +kernel
theorem dX10_agree_5 : decode cX10_agree 5 = .ok (.ifCond .ne 9, 3) := by decide +kernel
theorem dX10_agree_8 : decode cX10_agree 8 = .ok (.aload_n 0, 1) := by decide +kernel
theorem dX10_agree_9 : decode cX10_agree 9 = .ok (.iconst (-1), 1) := by decide +kernel
theorem dX10_agree_10 : decode cX10_agree 10 = .ok (.invokevirtual 163, 3) := by decide +kernel
theorem dX10_agree_13 : decode cX10_agree 13 = .ok (.ireturn, 1) := by decide +kernel
theorem dX10_agree_14 : decode cX10_agree 14 = .ok (.aload_n 0, 1) := by decide +kernel
theorem dX10_agree_15 : decode cX10_agree 15 = .ok (.getfield 47, 3) := by decide +kernel
theorem dX10_agree_18 : decode cX10_agree 18 = .ok (.aload_n 0, 1) := by decide +kernel
theorem dX10_agree_19 : decode cX10_agree 19 = .ok (.getfield 102, 3) := by decide +kernel
theorem dX10_agree_22 : decode cX10_agree 22 = .ok (.iload_n 1, 1) := by decide +kernel
theorem dX10_agree_23 : decode cX10_agree 23 = .ok (.iaload, 1) := by decide +kernel
theorem dX10_agree_24 : decode cX10_agree 24 = .ok (.iaload, 1) := by decide +kernel
theorem dX10_agree_25 : decode cX10_agree 25 = .ok (.ifCond .lt 21, 3) := by decide +kernel
theorem dX10_agree_28 : decode cX10_agree 28 = .ok (.aload_n 0, 1) := by decide +kernel
theorem dX10_agree_29 : decode cX10_agree 29 = .ok (.getfield 130, 3) := by decide +kernel
theorem dX10_agree_32 : decode cX10_agree 32 = .ok (.iload_n 1, 1) := by decide +kernel
theorem dX10_agree_33 : decode cX10_agree 33 = .ok (.baload, 1) := by decide +kernel
theorem dX10_agree_34 : decode cX10_agree 34 = .ok (.ifCond .ne 12, 3) := by decide +kernel
theorem dX10_agree_37 : decode cX10_agree 37 = .ok (.aload_n 0, 1) := by decide +kernel
theorem dX10_agree_38 : decode cX10_agree 38 = .ok (.getfield 126, 3) := by decide +kernel
theorem dX10_agree_41 : decode cX10_agree 41 = .ok (.iload_n 1, 1) := by decide +kernel
theorem dX10_agree_42 : decode cX10_agree 42 = .ok (.baload, 1) := by decide +kernel
theorem dX10_agree_43 : decode cX10_agree 43 = .ok (.ifCond .ne 10, 3) := by decide +kernel
theorem dX10_agree_46 : decode cX10_agree 46 = .ok (.aload_n 0, 1) := by decide +kernel
theorem dX10_agree_47 : decode cX10_agree 47 = .ok (.bipush (-3), 2) := by decide +kernel
theorem dX10_agree_49 : decode cX10_agree 49 = .ok (.invokevirtual 163, 3) := by decide +kernel
theorem dX10_agree_52 : decode cX10_agree 52 = .ok (.ireturn, 1) := by decide +kernel
theorem dX10_agree_53 : decode cX10_agree 53 = .ok (.aload_n 0, 1) := by decide +kernel
theorem dX10_agree_54 : decode cX10_agree 54 = .ok (.getfield 130, 3) := by decide +kernel
theorem dX10_agree_57 : decode cX10_agree 57 = .ok (.iload_n 1, 1) := by decide +kernel
theorem dX10_agree_58 : decode cX10_agree 58 = .ok (.iconst 1, 1) := by decide +kernel
theorem dX10_agree_59 : decode cX10_agree 59 = .ok (.bastore, 1) := by decide +kernel
theorem dX10_agree_60 : decode cX10_agree 60 = .ok (.iconst 1, 1) := by decide +kernel
theorem dX10_agree_61 : decode cX10_agree 61 = .ok (.ireturn, 1) := by decide +kernel
theorem dX10_refuses_0 : decode cX10_refuses 0 = .ok (.aload_n 0, 1) := by decide +kernel
theorem dX10_refuses_1 : decode cX10_refuses 1 = .ok (.getfield 126, 3) := by decide +kernel
theorem dX10_refuses_4 : decode cX10_refuses 4 = .ok (.iload_n 1, 1) := by decide +kernel
theorem dX10_refuses_5 : decode cX10_refuses 5 = .ok (.iconst 0, 1) := by decide +kernel
theorem dX10_refuses_6 : decode cX10_refuses 6 = .ok (.bastore, 1) := by decide +kernel
theorem dX10_refuses_7 : decode cX10_refuses 7 = .ok (.aload_n 0, 1) := by decide +kernel
theorem dX10_refuses_8 : decode cX10_refuses 8 = .ok (.getfield 111, 3) := by decide +kernel
theorem dX10_refuses_11 : decode cX10_refuses 11 = .ok (.iload_n 1, 1) := by decide +kernel
theorem dX10_refuses_12 : decode cX10_refuses 12 = .ok (.iload_n 2, 1) := by decide +kernel
theorem dX10_refuses_13 : decode cX10_refuses 13 = .ok (.iastore, 1) := by decide +kernel
theorem dX10_refuses_14 : decode cX10_refuses 14 = .ok (.aload_n 0, 1) := by decide +kernel
theorem dX10_refuses_15 : decode cX10_refuses 15 = .ok (.getfield 65, 3) := by decide +kernel
theorem dX10_refuses_18 : decode cX10_refuses 18 = .ok (.aload_n 0, 1) := by decide +kernel
theorem dX10_refuses_19 : decode cX10_refuses 19 = .ok (.getfield 102, 3) := by decide +kernel
theorem dX10_refuses_22 : decode cX10_refuses 22 = .ok (.iload_n 1, 1) := by decide +kernel
theorem dX10_refuses_23 : decode cX10_refuses 23 = .ok (.iaload, 1) := by decide +kernel
theorem dX10_refuses_24 : decode cX10_refuses 24 = .ok (.dup2, 1) := by decide +kernel
theorem dX10_refuses_25 : decode cX10_refuses 25 = .ok (.laload, 1) := by decide +kernel
theorem dX10_refuses_26 : decode cX10_refuses 26 = .ok (.aload_n 0, 1) := by decide +kernel
theorem dX10_refuses_27 : decode cX10_refuses 27 = .ok (.getfield 65, 3) := by decide +kernel
theorem dX10_refuses_30 : decode cX10_refuses 30 = .ok (.aload_n 0, 1) := by decide +kernel
theorem dX10_refuses_31 : decode cX10_refuses 31 = .ok (.getfield 105, 3) := by decide +kernel
theorem dX10_refuses_34 : decode cX10_refuses 34 = .ok (.iload_n 1, 1) := by decide +kernel
theorem dX10_refuses_35 : decode cX10_refuses 35 = .ok (.iaload, 1) := by decide +kernel
theorem dX10_refuses_36 : decode cX10_refuses 36 = .ok (.laload, 1) := by decide +kernel
theorem dX10_refuses_37 : decode cX10_refuses 37 = .ok (.ladd, 1) := by decide +kernel
theorem dX10_refuses_38 : decode cX10_refuses 38 = .ok (.lastore, 1) := by decide +kernel
theorem dX10_refuses_39 : decode cX10_refuses 39 = .ok (.aload_n 0, 1) := by decide +kernel
theorem dX10_refuses_40 : decode cX10_refuses 40 = .ok (.getfield 65, 3) := by decide +kernel
theorem dX10_refuses_43 : decode cX10_refuses 43 = .ok (.aload_n 0, 1) := by decide +kernel
theorem dX10_refuses_44 : decode cX10_refuses 44 = .ok (.getfield 105, 3) := by decide +kernel
theorem dX10_refuses_47 : decode cX10_refuses 47 = .ok (.iload_n 1, 1) := by decide +kernel
theorem dX10_refuses_48 : decode cX10_refuses 48 = .ok (.iaload, 1) := by decide +kernel
theorem dX10_refuses_49 : decode cX10_refuses 49 = .ok (.lconst 0, 1) := by decide +kernel
theorem dX10_refuses_50 : decode cX10_refuses 50 = .ok (.lastore, 1) := by decide +kernel
theorem dX10_refuses_51 : decode cX10_refuses 51 = .ok (.aload_n 0, 1) := by decide +kernel
theorem dX10_refuses_52 : decode cX10_refuses 52 = .ok (.getfield 53, 3) := by decide +kernel
theorem dX10_refuses_55 : decode cX10_refuses 55 = .ok (.aload_n 0, 1) := by decide +kernel
theorem dX10_refuses_56 : decode cX10_refuses 56 = .ok (.getfield 105, 3) := by decide +kernel
theorem dX10_refuses_59 : decode cX10_refuses 59 = .ok (.iload_n 1, 1) := by decide +kernel
theorem dX10_refuses_60 : decode cX10_refuses 60 = .ok (.iaload, 1) := by decide +kernel
theorem dX10_refuses_61 : decode cX10_refuses 61 = .ok (.iconst 1, 1) := by decide +kernel
theorem dX10_refuses_62 : decode cX10_refuses 62 = .ok (.iastore, 1) := by decide +kernel
theorem dX10_refuses_63 : decode cX10_refuses 63 = .ok (.return_, 1) := by decide +kernel
theorem dX10_takeBack_0 : decode cX10_takeBack 0 = .ok (.aload_n 0, 1) := by decide +kernel
theorem dX10_takeBack_1 : decode cX10_takeBack 1 = .ok (.iload_n 1, 1) := by decide +kernel
theorem dX10_takeBack_2 : decode cX10_takeBack 2 = .ok (.invokevirtual 297, 3) := by decide +kernel
theorem dX10_takeBack_5 : decode cX10_takeBack 5 = .ok (.ifCond .ne 9, 3) := by decide +kernel
theorem dX10_takeBack_8 : decode cX10_takeBack 8 = .ok (.aload_n 0, 1) := by decide +kernel
theorem dX10_takeBack_9 : decode cX10_takeBack 9 = .ok (.iconst (-1), 1) := by decide +kernel
theorem dX10_takeBack_10 : decode cX10_takeBack 10 = .ok (.invokevirtual 163, 3) := by decide +kernel
theorem dX10_takeBack_13 : decode cX10_takeBack 13 = .ok (.ireturn, 1) := by decide +kernel
theorem dX10_takeBack_14 : decode cX10_takeBack 14 = .ok (.aload_n 0, 1) := by decide +kernel
theorem dX10_takeBack_15 : decode cX10_takeBack 15 = .ok (.getfield 126, 3) := by decide +kernel
theorem dX10_takeBack_18 : decode cX10_takeBack 18 = .ok (.iload_n 1, 1) := by decide +kernel
theorem dX10_takeBack_19 : decode cX10_takeBack 19 = .ok (.baload, 1) := by decide +kernel
theorem dX10_takeBack_20 : decode cX10_takeBack 20 = .ok (.ifCond .eq 14, 3) := by decide +kernel
theorem dX10_takeBack_23 : decode cX10_takeBack 23 = .ok (.aload_n 0, 1) := by decide +kernel
theorem dX10_takeBack_24 : decode cX10_takeBack 24 = .ok (.getfield 108, 3) := by decide +kernel
theorem dX10_takeBack_27 : decode cX10_takeBack 27 = .ok (.iload_n 1, 1) := by decide +kernel
theorem dX10_takeBack_28 : decode cX10_takeBack 28 = .ok (.iaload, 1) := by decide +kernel
theorem dX10_takeBack_29 : decode cX10_takeBack 29 = .ok (.bipush 6, 2) := by decide +kernel
theorem dX10_takeBack_31 : decode cX10_takeBack 31 = .ok (.if_icmp .lt 10, 3) := by decide +kernel
theorem dX10_takeBack_34 : decode cX10_takeBack 34 = .ok (.aload_n 0, 1) := by decide +kernel
theorem dX10_takeBack_35 : decode cX10_takeBack 35 = .ok (.bipush (-3), 2) := by decide +kernel
theorem dX10_takeBack_37 : decode cX10_takeBack 37 = .ok (.invokevirtual 163, 3) := by decide +kernel
theorem dX10_takeBack_40 : decode cX10_takeBack 40 = .ok (.ireturn, 1) := by decide +kernel
theorem dX10_takeBack_41 : decode cX10_takeBack 41 = .ok (.aload_n 0, 1) := by decide +kernel
theorem dX10_takeBack_42 : decode cX10_takeBack 42 = .ok (.iload_n 1, 1) := by decide +kernel
theorem dX10_takeBack_43 : decode cX10_takeBack 43 = .ok (.iconst 3, 1) := by decide +kernel
theorem dX10_takeBack_44 : decode cX10_takeBack 44 = .ok (.invokevirtual 300, 3) := by decide +kernel
theorem dX10_takeBack_47 : decode cX10_takeBack 47 = .ok (.iconst 1, 1) := by decide +kernel
theorem dX10_takeBack_48 : decode cX10_takeBack 48 = .ok (.ireturn, 1) := by decide +kernel
theorem dX10_goesOn_0 : decode cX10_goesOn 0 = .ok (.aload_n 0, 1) := by decide +kernel
theorem dX10_goesOn_1 : decode cX10_goesOn 1 = .ok (.getfield 102, 3) := by decide +kernel
theorem dX10_goesOn_4 : decode cX10_goesOn 4 = .ok (.iload_n 1, 1) := by decide +kernel
theorem dX10_goesOn_5 : decode cX10_goesOn 5 = .ok (.iaload, 1) := by decide +kernel
theorem dX10_goesOn_6 : decode cX10_goesOn 6 = .ok (.istore_n 2, 1) := by decide +kernel
theorem dX10_goesOn_7 : decode cX10_goesOn 7 = .ok (.aload_n 0, 1) := by decide +kernel
theorem dX10_goesOn_8 : decode cX10_goesOn 8 = .ok (.getfield 105, 3) := by decide +kernel
theorem dX10_goesOn_11 : decode cX10_goesOn 11 = .ok (.iload_n 1, 1) := by decide +kernel
theorem dX10_goesOn_12 : decode cX10_goesOn 12 = .ok (.iaload, 1) := by decide +kernel
theorem dX10_goesOn_13 : decode cX10_goesOn 13 = .ok (.istore_n 3, 1) := by decide +kernel
theorem dX10_goesOn_14 : decode cX10_goesOn 14 = .ok (.aload_n 0, 1) := by decide +kernel
theorem dX10_goesOn_15 : decode cX10_goesOn 15 = .ok (.aload_n 0, 1) := by decide +kernel
theorem dX10_goesOn_16 : decode cX10_goesOn 16 = .ok (.getfield 41, 3) := by decide +kernel
theorem dX10_goesOn_19 : decode cX10_goesOn 19 = .ok (.iload_n 2, 1) := by decide +kernel
theorem dX10_goesOn_20 : decode cX10_goesOn 20 = .ok (.iaload, 1) := by decide +kernel
theorem dX10_goesOn_21 : decode cX10_goesOn 21 = .ok (.aload_n 0, 1) := by decide +kernel
theorem dX10_goesOn_22 : decode cX10_goesOn 22 = .ok (.getfield 177, 3) := by decide +kernel
theorem dX10_goesOn_25 : decode cX10_goesOn 25 = .ok (.invokevirtual 197, 3) := by decide +kernel
theorem dX10_goesOn_28 : decode cX10_goesOn 28 = .ok (.istore 4, 2) := by decide +kernel
theorem dX10_goesOn_30 : decode cX10_goesOn 30 = .ok (.iload 4, 2) := by decide +kernel
theorem dX10_goesOn_32 : decode cX10_goesOn 32 = .ok (.ifCond .ne 20, 3) := by decide +kernel
theorem dX10_goesOn_35 : decode cX10_goesOn 35 = .ok (.aload_n 0, 1) := by decide +kernel
theorem dX10_goesOn_36 : decode cX10_goesOn 36 = .ok (.aload_n 0, 1) := by decide +kernel
theorem dX10_goesOn_37 : decode cX10_goesOn 37 = .ok (.getfield 41, 3) := by decide +kernel
theorem dX10_goesOn_40 : decode cX10_goesOn 40 = .ok (.iload_n 3, 1) := by decide +kernel
theorem dX10_goesOn_41 : decode cX10_goesOn 41 = .ok (.iaload, 1) := by decide +kernel
theorem dX10_goesOn_42 : decode cX10_goesOn 42 = .ok (.aload_n 0, 1) := by decide +kernel
theorem dX10_goesOn_43 : decode cX10_goesOn 43 = .ok (.getfield 177, 3) := by decide +kernel
theorem dX10_goesOn_46 : decode cX10_goesOn 46 = .ok (.invokevirtual 197, 3) := by decide +kernel
theorem dX10_goesOn_49 : decode cX10_goesOn 49 = .ok (.ifCond .eq 59, 3) := by decide +kernel
theorem dX10_goesOn_52 : decode cX10_goesOn 52 = .ok (.aload_n 0, 1) := by decide +kernel
theorem dX10_goesOn_53 : decode cX10_goesOn 53 = .ok (.getfield 114, 3) := by decide +kernel
theorem dX10_goesOn_56 : decode cX10_goesOn 56 = .ok (.iload_n 1, 1) := by decide +kernel
theorem dX10_goesOn_57 : decode cX10_goesOn 57 = .ok (.dup2, 1) := by decide +kernel
theorem dX10_goesOn_58 : decode cX10_goesOn 58 = .ok (.iaload, 1) := by decide +kernel
theorem dX10_goesOn_59 : decode cX10_goesOn 59 = .ok (.iconst 1, 1) := by decide +kernel
theorem dX10_goesOn_60 : decode cX10_goesOn 60 = .ok (.iadd, 1) := by decide +kernel
theorem dX10_goesOn_61 : decode cX10_goesOn 61 = .ok (.iastore, 1) := by decide +kernel
theorem dX10_goesOn_62 : decode cX10_goesOn 62 = .ok (.aload_n 0, 1) := by decide +kernel
theorem dX10_goesOn_63 : decode cX10_goesOn 63 = .ok (.getfield 117, 3) := by decide +kernel
theorem dX10_goesOn_66 : decode cX10_goesOn 66 = .ok (.iload_n 1, 1) := by decide +kernel
theorem dX10_goesOn_67 : decode cX10_goesOn 67 = .ok (.aload_n 0, 1) := by decide +kernel
theorem dX10_goesOn_68 : decode cX10_goesOn 68 = .ok (.getfield 114, 3) := by decide +kernel
theorem dX10_goesOn_71 : decode cX10_goesOn 71 = .ok (.iload_n 1, 1) := by decide +kernel
theorem dX10_goesOn_72 : decode cX10_goesOn 72 = .ok (.iaload, 1) := by decide +kernel
theorem dX10_goesOn_73 : decode cX10_goesOn 73 = .ok (.iconst 1, 1) := by decide +kernel
theorem dX10_goesOn_74 : decode cX10_goesOn 74 = .ok (.if_icmp .le 12, 3) := by decide +kernel
theorem dX10_goesOn_77 : decode cX10_goesOn 77 = .ok (.aload_n 0, 1) := by decide +kernel
theorem dX10_goesOn_78 : decode cX10_goesOn 78 = .ok (.getfield 117, 3) := by decide +kernel
theorem dX10_goesOn_81 : decode cX10_goesOn 81 = .ok (.iload_n 1, 1) := by decide +kernel
theorem dX10_goesOn_82 : decode cX10_goesOn 82 = .ok (.iaload, 1) := by decide +kernel
theorem dX10_goesOn_83 : decode cX10_goesOn 83 = .ok (.goto 23, 3) := by decide +kernel
theorem dX10_goesOn_86 : decode cX10_goesOn 86 = .ok (.iload 4, 2) := by decide +kernel
theorem dX10_goesOn_88 : decode cX10_goesOn 88 = .ok (.ifCond .eq 12, 3) := by decide +kernel
theorem dX10_goesOn_91 : decode cX10_goesOn 91 = .ok (.aload_n 0, 1) := by decide +kernel
theorem dX10_goesOn_92 : decode cX10_goesOn 92 = .ok (.getfield 41, 3) := by decide +kernel
theorem dX10_goesOn_95 : decode cX10_goesOn 95 = .ok (.iload_n 2, 1) := by decide +kernel
theorem dX10_goesOn_96 : decode cX10_goesOn 96 = .ok (.iaload, 1) := by decide +kernel
theorem dX10_goesOn_97 : decode cX10_goesOn 97 = .ok (.goto 9, 3) := by decide +kernel
theorem dX10_goesOn_100 : decode cX10_goesOn 100 = .ok (.aload_n 0, 1) := by decide +kernel
theorem dX10_goesOn_101 : decode cX10_goesOn 101 = .ok (.getfield 41, 3) := by decide +kernel
theorem dX10_goesOn_104 : decode cX10_goesOn 104 = .ok (.iload_n 3, 1) := by decide +kernel
theorem dX10_goesOn_105 : decode cX10_goesOn 105 = .ok (.iaload, 1) := by decide +kernel
theorem dX10_goesOn_106 : decode cX10_goesOn 106 = .ok (.iastore, 1) := by decide +kernel
theorem dX10_goesOn_107 : decode cX10_goesOn 107 = .ok (.return_, 1) := by decide +kernel
theorem dX10_goesOn_108 : decode cX10_goesOn 108 = .ok (.aload_n 0, 1) := by decide +kernel
theorem dX10_goesOn_109 : decode cX10_goesOn 109 = .ok (.getfield 31, 3) := by decide +kernel
