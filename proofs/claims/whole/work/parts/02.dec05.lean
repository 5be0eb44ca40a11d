theorem dX7_takeClause_159 : decode cX7_takeClause 159 = .ok (.bipush 97, 2) := by decide +kernel
theorem dX7_takeClause_161 : decode cX7_takeClause 161 = .ok (.bipush 100, 2) := by decide +kernel
theorem dX7_takeClause_163 : decode cX7_takeClause 163 = .ok (.iconst 0, 1) := by decide +kernel
theorem dX7_takeClause_164 : decode cX7_takeClause 164 = .ok (.invokevirtual 120, 3) := by decide +kernel
theorem dX7_takeClause_167 : decode cX7_takeClause 167 = .ok (.iconst 1, 1) := by decide +kernel
theorem dX7_takeClause_168 : decode cX7_takeClause 168 = .ok (.iload_n 1, 1) := by decide +kernel
theorem dX7_takeClause_169 : decode cX7_takeClause 169 = .ok (.invokevirtual 112, 3) := by decide +kernel
theorem dX7_takeClause_172 : decode cX7_takeClause 172 = .ok (.ifCond .eq 88, 3) := by decide +kernel
theorem dX7_takeClause_175 : decode cX7_takeClause 175 = .ok (.aload_n 0, 1) := by decide +kernel
theorem dX7_takeClause_176 : decode cX7_takeClause 176 = .ok (.aload_n 0, 1) := by decide +kernel
theorem dX7_takeClause_177 : decode cX7_takeClause 177 = .ok (.getfield 36, 3) := by decide +kernel
theorem dX7_takeClause_180 : decode cX7_takeClause 180 = .ok (.iconst 3, 1) := by decide +kernel
theorem dX7_takeClause_181 : decode cX7_takeClause 181 = .ok (.iaload, 1) := by decide +kernel
theorem dX7_takeClause_182 : decode cX7_takeClause 182 = .ok (.bipush 7, 2) := by decide +kernel
theorem dX7_takeClause_184 : decode cX7_takeClause 184 = .ok (.if_icmp .ge 7, 3) := by decide +kernel
theorem dX7_takeClause_187 : decode cX7_takeClause 187 = .ok (.iconst 1, 1) := by decide +kernel
theorem dX7_takeClause_188 : decode cX7_takeClause 188 = .ok (.goto 4, 3) := by decide +kernel
theorem dX7_takeClause_191 : decode cX7_takeClause 191 = .ok (.iconst 0, 1) := by decide +kernel
theorem dX7_takeClause_192 : decode cX7_takeClause 192 = .ok (.iconst 3, 1) := by decide +kernel
theorem dX7_takeClause_193 : decode cX7_takeClause 193 = .ok (.iload_n 1, 1) := by decide +kernel
theorem dX7_takeClause_194 : decode cX7_takeClause 194 = .ok (.invokevirtual 112, 3) := by decide +kernel
theorem dX7_takeClause_197 : decode cX7_takeClause 197 = .ok (.ifCond .eq 63, 3) := by decide +kernel
theorem dX7_takeClause_200 : decode cX7_takeClause 200 = .ok (.bipush 8, 2) := by decide +kernel
theorem dX7_takeClause_202 : decode cX7_takeClause 202 = .ok (.aload_n 0, 1) := by decide +kernel
theorem dX7_takeClause_203 : decode cX7_takeClause 203 = .ok (.getfield 36, 3) := by decide +kernel
theorem dX7_takeClause_206 : decode cX7_takeClause 206 = .ok (.iconst 3, 1) := by decide +kernel
theorem dX7_takeClause_207 : decode cX7_takeClause 207 = .ok (.iaload, 1) := by decide +kernel
theorem dX7_takeClause_208 : decode cX7_takeClause 208 = .ok (.iadd, 1) := by decide +kernel
theorem dX7_takeClause_209 : decode cX7_takeClause 209 = .ok (.istore_n 2, 1) := by decide +kernel
theorem dX7_takeClause_210 : decode cX7_takeClause 210 = .ok (.aload_n 0, 1) := by decide +kernel
theorem dX7_takeClause_211 : decode cX7_takeClause 211 = .ok (.getfield 27, 3) := by decide +kernel
theorem dX7_takeClause_214 : decode cX7_takeClause 214 = .ok (.iload_n 2, 1) := by decide +kernel
theorem dX7_takeClause_215 : decode cX7_takeClause 215 = .ok (.aload_n 0, 1) := by decide +kernel
theorem dX7_takeClause_216 : decode cX7_takeClause 216 = .ok (.iconst 0, 1) := by decide +kernel
theorem dX7_takeClause_217 : decode cX7_takeClause 217 = .ok (.bipush 99, 2) := by decide +kernel
theorem dX7_takeClause_219 : decode cX7_takeClause 219 = .ok (.invokevirtual 128, 3) := by decide +kernel
theorem dX7_takeClause_222 : decode cX7_takeClause 222 = .ok (.iastore, 1) := by decide +kernel
theorem dX7_takeClause_223 : decode cX7_takeClause 223 = .ok (.aload_n 0, 1) := by decide +kernel
theorem dX7_takeClause_224 : decode cX7_takeClause 224 = .ok (.getfield 30, 3) := by decide +kernel
theorem dX7_takeClause_227 : decode cX7_takeClause 227 = .ok (.iload_n 2, 1) := by decide +kernel
theorem dX7_takeClause_228 : decode cX7_takeClause 228 = .ok (.aload_n 0, 1) := by decide +kernel
theorem dX7_takeClause_229 : decode cX7_takeClause 229 = .ok (.iconst 0, 1) := by decide +kernel
theorem dX7_takeClause_230 : decode cX7_takeClause 230 = .ok (.sipush 999, 3) := by decide +kernel
theorem dX7_takeClause_233 : decode cX7_takeClause 233 = .ok (.invokevirtual 128, 3) := by decide +kernel
theorem dX7_takeClause_236 : decode cX7_takeClause 236 = .ok (.iastore, 1) := by decide +kernel
theorem dX7_takeClause_237 : decode cX7_takeClause 237 = .ok (.aload_n 0, 1) := by decide +kernel
theorem dX7_takeClause_238 : decode cX7_takeClause 238 = .ok (.getfield 33, 3) := by decide +kernel
theorem dX7_takeClause_241 : decode cX7_takeClause 241 = .ok (.iload_n 2, 1) := by decide +kernel
theorem dX7_takeClause_242 : decode cX7_takeClause 242 = .ok (.aload_n 0, 1) := by decide +kernel
theorem dX7_takeClause_243 : decode cX7_takeClause 243 = .ok (.iconst 0, 1) := by decide +kernel
theorem dX7_takeClause_244 : decode cX7_takeClause 244 = .ok (.bipush 9, 2) := by decide +kernel
theorem dX7_takeClause_246 : decode cX7_takeClause 246 = .ok (.invokevirtual 128, 3) := by decide +kernel
theorem dX7_takeClause_249 : decode cX7_takeClause 249 = .ok (.iastore, 1) := by decide +kernel
theorem dX7_takeClause_250 : decode cX7_takeClause 250 = .ok (.aload_n 0, 1) := by decide +kernel
theorem dX7_takeClause_251 : decode cX7_takeClause 251 = .ok (.getfield 36, 3) := by decide +kernel
theorem dX7_takeClause_254 : decode cX7_takeClause 254 = .ok (.iconst 3, 1) := by decide +kernel
theorem dX7_takeClause_255 : decode cX7_takeClause 255 = .ok (.dup2, 1) := by decide +kernel
theorem dX7_takeClause_256 : decode cX7_takeClause 256 = .ok (.iaload, 1) := by decide +kernel
theorem dX7_takeClause_257 : decode cX7_takeClause 257 = .ok (.iconst 1, 1) := by decide +kernel
theorem dX7_takeClause_258 : decode cX7_takeClause 258 = .ok (.iadd, 1) := by decide +kernel
theorem dX7_takeClause_259 : decode cX7_takeClause 259 = .ok (.iastore, 1) := by decide +kernel
theorem dX7_takeClause_260 : decode cX7_takeClause 260 = .ok (.aload_n 0, 1) := by decide +kernel
theorem dX7_takeClause_261 : decode cX7_takeClause 261 = .ok (.invokevirtual 138, 3) := by decide +kernel
theorem dX7_takeClause_264 : decode cX7_takeClause 264 = .ok (.return_, 1) := by decide +kernel
theorem dX7_start_0 : decode cX7_start 0 = .ok (.aload_n 0, 1) := by decide +kernel
theorem dX7_start_1 : decode cX7_start 1 = .ok (.iconst 0, 1) := by decide +kernel
theorem dX7_start_2 : decode cX7_start 2 = .ok (.putfield 88, 3) := by decide +kernel
theorem dX7_start_5 : decode cX7_start 5 = .ok (.aload_n 0, 1) := by decide +kernel
theorem dX7_start_6 : decode cX7_start 6 = .ok (.iconst 0, 1) := by decide +kernel
theorem dX7_start_7 : decode cX7_start 7 = .ok (.putfield 91, 3) := by decide +kernel
theorem dX7_start_10 : decode cX7_start 10 = .ok (.aload_n 0, 1) := by decide +kernel
theorem dX7_start_11 : decode cX7_start 11 = .ok (.iconst (-1), 1) := by decide +kernel
theorem dX7_start_12 : decode cX7_start 12 = .ok (.putfield 45, 3) := by decide +kernel
theorem dX7_start_15 : decode cX7_start 15 = .ok (.return_, 1) := by decide +kernel
theorem dX7_parish_0 : decode cX7_parish 0 = .ok (.aload_n 0, 1) := by decide +kernel
theorem dX7_parish_1 : decode cX7_parish 1 = .ok (.invokevirtual 141, 3) := by decide +kernel
theorem dX7_parish_4 : decode cX7_parish 4 = .ok (.aload_n 0, 1) := by decide +kernel
theorem dX7_parish_5 : decode cX7_parish 5 = .ok (.getfield 36, 3) := by decide +kernel
theorem dX7_parish_8 : decode cX7_parish 8 = .ok (.iconst 2, 1) := by decide +kernel
theorem dX7_parish_9 : decode cX7_parish 9 = .ok (.iconst 0, 1) := by decide +kernel
theorem dX7_parish_10 : decode cX7_parish 10 = .ok (.iastore, 1) := by decide +kernel
theorem dX7_parish_11 : decode cX7_parish 11 = .ok (.aload_n 0, 1) := by decide +kernel
theorem dX7_parish_12 : decode cX7_parish 12 = .ok (.getfield 36, 3) := by decide +kernel
theorem dX7_parish_15 : decode cX7_parish 15 = .ok (.iconst 3, 1) := by decide +kernel
theorem dX7_parish_16 : decode cX7_parish 16 = .ok (.iconst 0, 1) := by decide +kernel
theorem dX7_parish_17 : decode cX7_parish 17 = .ok (.iastore, 1) := by decide +kernel
theorem dX7_parish_18 : decode cX7_parish 18 = .ok (.aload_n 0, 1) := by decide +kernel
theorem dX7_parish_19 : decode cX7_parish 19 = .ok (.iconst 0, 1) := by decide +kernel
theorem dX7_parish_20 : decode cX7_parish 20 = .ok (.putfield 124, 3) := by decide +kernel
theorem dX7_parish_23 : decode cX7_parish 23 = .ok (.aload_n 0, 1) := by decide +kernel
theorem dX7_parish_24 : decode cX7_parish 24 = .ok (.bipush 6, 2) := by decide +kernel
theorem dX7_parish_26 : decode cX7_parish 26 = .ok (.putfield 132, 3) := by decide +kernel
theorem dX7_parish_29 : decode cX7_parish 29 = .ok (.aload_n 0, 1) := by decide +kernel
theorem dX7_parish_30 : decode cX7_parish 30 = .ok (.iconst 2, 1) := by decide +kernel
theorem dX7_parish_31 : decode cX7_parish 31 = .ok (.putfield 135, 3) := by decide +kernel
theorem dX7_parish_34 : decode cX7_parish 34 = .ok (.aload_n 0, 1) := by decide +kernel
theorem dX7_parish_35 : decode cX7_parish 35 = .ok (.getfield 91, 3) := by decide +kernel
theorem dX7_parish_38 : decode cX7_parish 38 = .ok (.ifCond .ne 17, 3) := by decide +kernel
theorem dX7_parish_41 : decode cX7_parish 41 = .ok (.aload_n 0, 1) := by decide +kernel
theorem dX7_parish_42 : decode cX7_parish 42 = .ok (.invokevirtual 94, 3) := by decide +kernel
theorem dX7_parish_45 : decode cX7_parish 45 = .ok (.ifCond .lt 10, 3) := by decide +kernel
theorem dX7_parish_48 : decode cX7_parish 48 = .ok (.aload_n 0, 1) := by decide +kernel
theorem dX7_parish_49 : decode cX7_parish 49 = .ok (.invokevirtual 144, 3) := by decide +kernel
theorem dX7_parish_52 : decode cX7_parish 52 = .ok (.goto (-18), 3) := by decide +kernel
theorem dX7_parish_55 : decode cX7_parish 55 = .ok (.aload_n 0, 1) := by decide +kernel
theorem dX7_parish_56 : decode cX7_parish 56 = .ok (.iconst 0, 1) := by decide +kernel
theorem dX7_parish_57 : decode cX7_parish 57 = .ok (.putfield 82, 3) := by decide +kernel
theorem dX7_parish_60 : decode cX7_parish 60 = .ok (.aload_n 0, 1) := by decide +kernel
theorem dX7_parish_61 : decode cX7_parish 61 = .ok (.getfield 91, 3) := by decide +kernel
theorem dX7_parish_64 : decode cX7_parish 64 = .ok (.ifCond .le 11, 3) := by decide +kernel
theorem dX7_parish_67 : decode cX7_parish 67 = .ok (.bipush (-10), 2) := by decide +kernel
theorem dX7_parish_69 : decode cX7_parish 69 = .ok (.aload_n 0, 1) := by decide +kernel
theorem dX7_parish_70 : decode cX7_parish 70 = .ok (.getfield 91, 3) := by decide +kernel
theorem dX7_parish_73 : decode cX7_parish 73 = .ok (.isub, 1) := by decide +kernel
theorem dX7_parish_74 : decode cX7_parish 74 = .ok (.ireturn, 1) := by decide +kernel
theorem dX7_parish_75 : decode cX7_parish 75 = .ok (.aload_n 0, 1) := by decide +kernel
theorem dX7_parish_76 : decode cX7_parish 76 = .ok (.getfield 36, 3) := by decide +kernel
theorem dX7_parish_79 : decode cX7_parish 79 = .ok (.iconst 0, 1) := by decide +kernel
theorem dX7_parish_80 : decode cX7_parish 80 = .ok (.aload_n 0, 1) := by decide +kernel
theorem dX7_parish_81 : decode cX7_parish 81 = .ok (.getfield 36, 3) := by decide +kernel
theorem dX7_parish_84 : decode cX7_parish 84 = .ok (.iconst 2, 1) := by decide +kernel
theorem dX7_parish_85 : decode cX7_parish 85 = .ok (.iaload, 1) := by decide +kernel
theorem dX7_parish_86 : decode cX7_parish 86 = .ok (.iastore, 1) := by decide +kernel
theorem dX7_parish_87 : decode cX7_parish 87 = .ok (.aload_n 0, 1) := by decide +kernel
theorem dX7_parish_88 : decode cX7_parish 88 = .ok (.getfield 36, 3) := by decide +kernel
theorem dX7_parish_91 : decode cX7_parish 91 = .ok (.iconst 1, 1) := by decide +kernel
theorem dX7_parish_92 : decode cX7_parish 92 = .ok (.aload_n 0, 1) := by decide +kernel
theorem dX7_parish_93 : decode cX7_parish 93 = .ok (.getfield 36, 3) := by decide +kernel
theorem dX7_parish_96 : decode cX7_parish 96 = .ok (.iconst 3, 1) := by decide +kernel
theorem dX7_parish_97 : decode cX7_parish 97 = .ok (.iaload, 1) := by decide +kernel
theorem dX7_parish_98 : decode cX7_parish 98 = .ok (.iastore, 1) := by decide +kernel
theorem dX7_parish_99 : decode cX7_parish 99 = .ok (.aload_n 0, 1) := by decide +kernel
theorem dX7_parish_100 : decode cX7_parish 100 = .ok (.aload_n 0, 1) := by decide +kernel
theorem dX7_parish_101 : decode cX7_parish 101 = .ok (.getfield 132, 3) := by decide +kernel
theorem dX7_parish_104 : decode cX7_parish 104 = .ok (.putfield 17, 3) := by decide +kernel
theorem dX7_parish_107 : decode cX7_parish 107 = .ok (.aload_n 0, 1) := by decide +kernel
theorem dX7_parish_108 : decode cX7_parish 108 = .ok (.aload_n 0, 1) := by decide +kernel
theorem dX7_parish_109 : decode cX7_parish 109 = .ok (.getfield 135, 3) := by decide +kernel
theorem dX7_parish_112 : decode cX7_parish 112 = .ok (.putfield 21, 3) := by decide +kernel
theorem dX7_parish_115 : decode cX7_parish 115 = .ok (.iconst 0, 1) := by decide +kernel
theorem dX7_parish_116 : decode cX7_parish 116 = .ok (.istore_n 1, 1) := by decide +kernel
theorem dX7_parish_117 : decode cX7_parish 117 = .ok (.iload_n 1, 1) := by decide +kernel
theorem dX7_parish_118 : decode cX7_parish 118 = .ok (.bipush 8, 2) := by decide +kernel
theorem dX7_parish_120 : decode cX7_parish 120 = .ok (.if_icmp .ge 181, 3) := by decide +kernel
theorem dX7_parish_123 : decode cX7_parish 123 = .ok (.aload_n 0, 1) := by decide +kernel
theorem dX7_parish_124 : decode cX7_parish 124 = .ok (.getfield 24, 3) := by decide +kernel
theorem dX7_parish_127 : decode cX7_parish 127 = .ok (.iload_n 1, 1) := by decide +kernel
theorem dX7_parish_128 : decode cX7_parish 128 = .ok (.aload_n 0, 1) := by decide +kernel
theorem dX7_parish_129 : decode cX7_parish 129 = .ok (.getfield 24, 3) := by decide +kernel
theorem dX7_parish_132 : decode cX7_parish 132 = .ok (.bipush 8, 2) := by decide +kernel
theorem dX7_parish_134 : decode cX7_parish 134 = .ok (.iload_n 1, 1) := by decide +kernel
theorem dX7_parish_135 : decode cX7_parish 135 = .ok (.iadd, 1) := by decide +kernel
theorem dX7_parish_136 : decode cX7_parish 136 = .ok (.iaload, 1) := by decide +kernel
theorem dX7_parish_137 : decode cX7_parish 137 = .ok (.iastore, 1) := by decide +kernel
theorem dX7_parish_138 : decode cX7_parish 138 = .ok (.aload_n 0, 1) := by decide +kernel
theorem dX7_parish_139 : decode cX7_parish 139 = .ok (.getfield 27, 3) := by decide +kernel
theorem dX7_parish_142 : decode cX7_parish 142 = .ok (.iload_n 1, 1) := by decide +kernel
theorem dX7_parish_143 : decode cX7_parish 143 = .ok (.aload_n 0, 1) := by decide +kernel
theorem dX7_parish_144 : decode cX7_parish 144 = .ok (.getfield 27, 3) := by decide +kernel
theorem dX7_parish_147 : decode cX7_parish 147 = .ok (.bipush 8, 2) := by decide +kernel
theorem dX7_parish_149 : decode cX7_parish 149 = .ok (.iload_n 1, 1) := by decide +kernel
theorem dX7_parish_150 : decode cX7_parish 150 = .ok (.iadd, 1) := by decide +kernel
theorem dX7_parish_151 : decode cX7_parish 151 = .ok (.iaload, 1) := by decide +kernel
theorem dX7_parish_152 : decode cX7_parish 152 = .ok (.iastore, 1) := by decide +kernel
theorem dX7_parish_153 : decode cX7_parish 153 = .ok (.aload_n 0, 1) := by decide +kernel
theorem dX7_parish_154 : decode cX7_parish 154 = .ok (.getfield 30, 3) := by decide +kernel
theorem dX7_parish_157 : decode cX7_parish 157 = .ok (.iload_n 1, 1) := by decide +kernel
theorem dX7_parish_158 : decode cX7_parish 158 = .ok (.aload_n 0, 1) := by decide +kernel
theorem dX7_parish_159 : decode cX7_parish 159 = .ok (.getfield 30, 3) := by decide +kernel
theorem dX7_parish_162 : decode cX7_parish 162 = .ok (.bipush 8, 2) := by decide +kernel
theorem dX7_parish_164 : decode cX7_parish 164 = .ok (.iload_n 1, 1) := by decide +kernel
theorem dX7_parish_165 : decode cX7_parish 165 = .ok (.iadd, 1) := by decide +kernel
theorem dX7_parish_166 : decode cX7_parish 166 = .ok (.iaload, 1) := by decide +kernel
theorem dX7_parish_167 : decode cX7_parish 167 = .ok (.iastore, 1) := by decide +kernel
theorem dX7_parish_168 : decode cX7_parish 168 = .ok (.aload_n 0, 1) := by decide +kernel
theorem dX7_parish_169 : decode cX7_parish 169 = .ok (.getfield 33, 3) := by decide +kernel
theorem dX7_parish_172 : decode cX7_parish 172 = .ok (.iload_n 1, 1) := by decide +kernel
theorem dX7_parish_173 : decode cX7_parish 173 = .ok (.aload_n 0, 1) := by decide +kernel
theorem dX7_parish_174 : decode cX7_parish 174 = .ok (.getfield 33, 3) := by decide +kernel
theorem dX7_parish_177 : decode cX7_parish 177 = .ok (.bipush 8, 2) := by decide +kernel
theorem dX7_parish_179 : decode cX7_parish 179 = .ok (.iload_n 1, 1) := by decide +kernel
theorem dX7_parish_180 : decode cX7_parish 180 = .ok (.iadd, 1) := by decide +kernel
theorem dX7_parish_181 : decode cX7_parish 181 = .ok (.iaload, 1) := by decide +kernel
theorem dX7_parish_182 : decode cX7_parish 182 = .ok (.iastore, 1) := by decide +kernel
theorem dX7_parish_183 : decode cX7_parish 183 = .ok (.aload_n 0, 1) := by decide +kernel
theorem dX7_parish_184 : decode cX7_parish 184 = .ok (.getfield 7, 3) := by decide +kernel
theorem dX7_parish_187 : decode cX7_parish 187 = .ok (.iload_n 1, 1) := by decide +kernel
theorem dX7_parish_188 : decode cX7_parish 188 = .ok (.aload_n 0, 1) := by decide +kernel
theorem dX7_parish_189 : decode cX7_parish 189 = .ok (.getfield 24, 3) := by decide +kernel
theorem dX7_parish_192 : decode cX7_parish 192 = .ok (.iload_n 1, 1) := by decide +kernel
theorem dX7_parish_193 : decode cX7_parish 193 = .ok (.iaload, 1) := by decide +kernel
theorem dX7_parish_194 : decode cX7_parish 194 = .ok (.iastore, 1) := by decide +kernel
theorem dX7_parish_195 : decode cX7_parish 195 = .ok (.aload_n 0, 1) := by decide +kernel
theorem dX7_parish_196 : decode cX7_parish 196 = .ok (.getfield 7, 3) := by decide +kernel
theorem dX7_parish_199 : decode cX7_parish 199 = .ok (.bipush 8, 2) := by decide +kernel
theorem dX7_parish_201 : decode cX7_parish 201 = .ok (.iload_n 1, 1) := by decide +kernel
theorem dX7_parish_202 : decode cX7_parish 202 = .ok (.iadd, 1) := by decide +kernel
theorem dX7_parish_203 : decode cX7_parish 203 = .ok (.aload_n 0, 1) := by decide +kernel
theorem dX7_parish_204 : decode cX7_parish 204 = .ok (.getfield 27, 3) := by decide +kernel
theorem dX7_parish_207 : decode cX7_parish 207 = .ok (.iload_n 1, 1) := by decide +kernel
theorem dX7_parish_208 : decode cX7_parish 208 = .ok (.iaload, 1) := by decide +kernel
theorem dX7_parish_209 : decode cX7_parish 209 = .ok (.iastore, 1) := by decide +kernel
theorem dX7_parish_210 : decode cX7_parish 210 = .ok (.aload_n 0, 1) := by decide +kernel
theorem dX7_parish_211 : decode cX7_parish 211 = .ok (.getfield 7, 3) := by decide +kernel
theorem dX7_parish_214 : decode cX7_parish 214 = .ok (.bipush 16, 2) := by decide +kernel
theorem dX7_parish_216 : decode cX7_parish 216 = .ok (.iload_n 1, 1) := by decide +kernel
theorem dX7_parish_217 : decode cX7_parish 217 = .ok (.iadd, 1) := by decide +kernel
theorem dX7_parish_218 : decode cX7_parish 218 = .ok (.aload_n 0, 1) := by decide +kernel
theorem dX7_parish_219 : decode cX7_parish 219 = .ok (.getfield 30, 3) := by decide +kernel
theorem dX7_parish_222 : decode cX7_parish 222 = .ok (.iload_n 1, 1) := by decide +kernel
theorem dX7_parish_223 : decode cX7_parish 223 = .ok (.iaload, 1) := by decide +kernel
theorem dX7_parish_224 : decode cX7_parish 224 = .ok (.iastore, 1) := by decide +kernel
theorem dX7_parish_225 : decode cX7_parish 225 = .ok (.aload_n 0, 1) := by decide +kernel
theorem dX7_parish_226 : decode cX7_parish 226 = .ok (.getfield 7, 3) := by decide +kernel
theorem dX7_parish_229 : decode cX7_parish 229 = .ok (.bipush 24, 2) := by decide +kernel
theorem dX7_parish_231 : decode cX7_parish 231 = .ok (.iload_n 1, 1) := by decide +kernel
theorem dX7_parish_232 : decode cX7_parish 232 = .ok (.iadd, 1) := by decide +kernel
theorem dX7_parish_233 : decode cX7_parish 233 = .ok (.iconst 0, 1) := by decide +kernel
theorem dX7_parish_234 : decode cX7_parish 234 = .ok (.iastore, 1) := by decide +kernel
theorem dX7_parish_235 : decode cX7_parish 235 = .ok (.aload_n 0, 1) := by decide +kernel
theorem dX7_parish_236 : decode cX7_parish 236 = .ok (.getfield 7, 3) := by decide +kernel
theorem dX7_parish_239 : decode cX7_parish 239 = .ok (.bipush 32, 2) := by decide +kernel
theorem dX7_parish_241 : decode cX7_parish 241 = .ok (.iload_n 1, 1) := by decide +kernel
theorem dX7_parish_242 : decode cX7_parish 242 = .ok (.iadd, 1) := by decide +kernel
theorem dX7_parish_243 : decode cX7_parish 243 = .ok (.bipush 9, 2) := by decide +kernel
theorem dX7_parish_245 : decode cX7_parish 245 = .ok (.iastore, 1) := by decide +kernel
theorem dX7_parish_246 : decode cX7_parish 246 = .ok (.aload_n 0, 1) := by decide +kernel
theorem dX7_parish_247 : decode cX7_parish 247 = .ok (.getfield 7, 3) := by decide +kernel
theorem dX7_parish_250 : decode cX7_parish 250 = .ok (.bipush 40, 2) := by decide +kernel
theorem dX7_parish_252 : decode cX7_parish 252 = .ok (.iload_n 1, 1) := by decide +kernel
theorem dX7_parish_253 : decode cX7_parish 253 = .ok (.iadd, 1) := by decide +kernel
theorem dX7_parish_254 : decode cX7_parish 254 = .ok (.iconst (-1), 1) := by decide +kernel
theorem dX7_parish_255 : decode cX7_parish 255 = .ok (.iastore, 1) := by decide +kernel
theorem dX7_parish_256 : decode cX7_parish 256 = .ok (.aload_n 0, 1) := by decide +kernel
theorem dX7_parish_257 : decode cX7_parish 257 = .ok (.getfield 7, 3) := by decide +kernel
theorem dX7_parish_260 : decode cX7_parish 260 = .ok (.bipush 48, 2) := by decide +kernel
theorem dX7_parish_262 : decode cX7_parish 262 = .ok (.iload_n 1, 1) := by decide +kernel
theorem dX7_parish_263 : decode cX7_parish 263 = .ok (.iadd, 1) := by decide +kernel
theorem dX7_parish_264 : decode cX7_parish 264 = .ok (.iconst 0, 1) := by decide +kernel
theorem dX7_parish_265 : decode cX7_parish 265 = .ok (.iastore, 1) := by decide +kernel
theorem dX7_parish_266 : decode cX7_parish 266 = .ok (.aload_n 0, 1) := by decide +kernel
theorem dX7_parish_267 : decode cX7_parish 267 = .ok (.getfield 7, 3) := by decide +kernel
theorem dX7_parish_270 : decode cX7_parish 270 = .ok (.bipush 56, 2) := by decide +kernel
theorem dX7_parish_272 : decode cX7_parish 272 = .ok (.iload_n 1, 1) := by decide +kernel
theorem dX7_parish_273 : decode cX7_parish 273 = .ok (.iadd, 1) := by decide +kernel
theorem dX7_parish_274 : decode cX7_parish 274 = .ok (.iload_n 1, 1) := by decide +kernel
theorem dX7_parish_275 : decode cX7_parish 275 = .ok (.iastore, 1) := by decide +kernel
theorem dX7_parish_276 : decode cX7_parish 276 = .ok (.aload_n 0, 1) := by decide +kernel
theorem dX7_parish_277 : decode cX7_parish 277 = .ok (.getfield 7, 3) := by decide +kernel
theorem dX7_parish_280 : decode cX7_parish 280 = .ok (.bipush 64, 2) := by decide +kernel
theorem dX7_parish_282 : decode cX7_parish 282 = .ok (.iload_n 1, 1) := by decide +kernel
theorem dX7_parish_283 : decode cX7_parish 283 = .ok (.iadd, 1) := by decide +kernel
theorem dX7_parish_284 : decode cX7_parish 284 = .ok (.iconst 1, 1) := by decide +kernel
theorem dX7_parish_285 : decode cX7_parish 285 = .ok (.aload_n 0, 1) := by decide +kernel
theorem dX7_parish_286 : decode cX7_parish 286 = .ok (.getfield 36, 3) := by decide +kernel
theorem dX7_parish_289 : decode cX7_parish 289 = .ok (.iconst 1, 1) := by decide +kernel
theorem dX7_parish_290 : decode cX7_parish 290 = .ok (.iaload, 1) := by decide +kernel
theorem dX7_parish_291 : decode cX7_parish 291 = .ok (.ishl, 1) := by decide +kernel
theorem dX7_parish_292 : decode cX7_parish 292 = .ok (.iconst 1, 1) := by decide +kernel
theorem dX7_parish_293 : decode cX7_parish 293 = .ok (.isub, 1) := by decide +kernel
theorem dX7_parish_294 : decode cX7_parish 294 = .ok (.iastore, 1) := by decide +kernel
theorem dX7_parish_295 : decode cX7_parish 295 = .ok (.iinc 1 1, 3) := by decide +kernel
theorem dX7_parish_298 : decode cX7_parish 298 = .ok (.goto (-181), 3) := by decide +kernel
theorem dX7_parish_301 : decode cX7_parish 301 = .ok (.aload_n 0, 1) := by decide +kernel
theorem dX7_parish_302 : decode cX7_parish 302 = .ok (.getfield 7, 3) := by decide +kernel
theorem dX7_parish_305 : decode cX7_parish 305 = .ok (.bipush 72, 2) := by decide +kernel
theorem dX7_parish_307 : decode cX7_parish 307 = .ok (.iconst 0, 1) := by decide +kernel
theorem dX7_parish_308 : decode cX7_parish 308 = .ok (.iastore, 1) := by decide +kernel
theorem dX7_parish_309 : decode cX7_parish 309 = .ok (.aload_n 0, 1) := by decide +kernel
theorem dX7_parish_310 : decode cX7_parish 310 = .ok (.iconst 0, 1) := by decide +kernel
theorem dX7_parish_311 : decode cX7_parish 311 = .ok (.putfield 147, 3) := by decide +kernel
theorem dX7_parish_314 : decode cX7_parish 314 = .ok (.aload_n 0, 1) := by decide +kernel
theorem dX7_parish_315 : decode cX7_parish 315 = .ok (.getfield 13, 3) := by decide +kernel
theorem dX7_parish_318 : decode cX7_parish 318 = .ok (.iconst 0, 1) := by decide +kernel
theorem dX7_parish_319 : decode cX7_parish 319 = .ok (.iconst 0, 1) := by decide +kernel
theorem dX7_parish_320 : decode cX7_parish 320 = .ok (.bastore, 1) := by decide +kernel
theorem dX7_parish_321 : decode cX7_parish 321 = .ok (.aload_n 0, 1) := by decide +kernel
theorem dX7_parish_322 : decode cX7_parish 322 = .ok (.getfield 13, 3) := by decide +kernel
theorem dX7_parish_325 : decode cX7_parish 325 = .ok (.iconst 1, 1) := by decide +kernel
theorem dX7_parish_326 : decode cX7_parish 326 = .ok (.iconst 0, 1) := by decide +kernel
theorem dX7_parish_327 : decode cX7_parish 327 = .ok (.bastore, 1) := by decide +kernel
theorem dX7_parish_328 : decode cX7_parish 328 = .ok (.aload_n 0, 1) := by decide +kernel
theorem dX7_parish_329 : decode cX7_parish 329 = .ok (.getfield 36, 3) := by decide +kernel
theorem dX7_parish_332 : decode cX7_parish 332 = .ok (.iconst 1, 1) := by decide +kernel
theorem dX7_parish_333 : decode cX7_parish 333 = .ok (.iaload, 1) := by decide +kernel
theorem dX7_parish_334 : decode cX7_parish 334 = .ok (.ireturn, 1) := by decide +kernel
theorem dX7_custom_0 : decode cX7_custom 0 = .ok (.aload_n 0, 1) := by decide +kernel
theorem dX7_custom_1 : decode cX7_custom 1 = .ok (.invokevirtual 141, 3) := by decide +kernel
theorem dX7_custom_4 : decode cX7_custom 4 = .ok (.iconst 0, 1) := by decide +kernel
theorem dX7_custom_5 : decode cX7_custom 5 = .ok (.istore_n 1, 1) := by decide +kernel
theorem dX7_custom_6 : decode cX7_custom 6 = .ok (.iconst 0, 1) := by decide +kernel
theorem dX7_custom_7 : decode cX7_custom 7 = .ok (.istore_n 2, 1) := by decide +kernel
theorem dX7_custom_8 : decode cX7_custom 8 = .ok (.aload_n 0, 1) := by decide +kernel
theorem dX7_custom_9 : decode cX7_custom 9 = .ok (.getfield 91, 3) := by decide +kernel
theorem dX7_custom_12 : decode cX7_custom 12 = .ok (.ifCond .ne 170, 3) := by decide +kernel
theorem dX7_custom_15 : decode cX7_custom 15 = .ok (.aload_n 0, 1) := by decide +kernel
theorem dX7_custom_16 : decode cX7_custom 16 = .ok (.invokevirtual 94, 3) := by decide +kernel
theorem dX7_custom_19 : decode cX7_custom 19 = .ok (.ifCond .lt 163, 3) := by decide +kernel
theorem dX7_custom_22 : decode cX7_custom 22 = .ok (.aload_n 0, 1) := by decide +kernel
theorem dX7_custom_23 : decode cX7_custom 23 = .ok (.invokevirtual 117, 3) := by decide +kernel
theorem dX7_custom_26 : decode cX7_custom 26 = .ok (.aload_n 0, 1) := by decide +kernel
theorem dX7_custom_27 : decode cX7_custom 27 = .ok (.iconst 4, 1) := by decide +kernel
theorem dX7_custom_28 : decode cX7_custom 28 = .ok (.bipush 114, 2) := by decide +kernel
theorem dX7_custom_30 : decode cX7_custom 30 = .ok (.bipush 97, 2) := by decide +kernel
theorem dX7_custom_32 : decode cX7_custom 32 = .ok (.bipush 110, 2) := by decide +kernel
theorem dX7_custom_34 : decode cX7_custom 34 = .ok (.bipush 107, 2) := by decide +kernel
theorem dX7_custom_36 : decode cX7_custom 36 = .ok (.iconst 0, 1) := by decide +kernel
theorem dX7_custom_37 : decode cX7_custom 37 = .ok (.invokevirtual 120, 3) := by decide +kernel
theorem dX7_custom_40 : decode cX7_custom 40 = .ok (.ifCond .eq 7, 3) := by decide +kernel
theorem dX7_custom_43 : decode cX7_custom 43 = .ok (.iconst 0, 1) := by decide +kernel
theorem dX7_custom_44 : decode cX7_custom 44 = .ok (.goto 68, 3) := by decide +kernel
theorem dX7_custom_47 : decode cX7_custom 47 = .ok (.aload_n 0, 1) := by decide +kernel
theorem dX7_custom_48 : decode cX7_custom 48 = .ok (.iconst 5, 1) := by decide +kernel
theorem dX7_custom_49 : decode cX7_custom 49 = .ok (.bipush 119, 2) := by decide +kernel
theorem dX7_custom_51 : decode cX7_custom 51 = .ok (.bipush 97, 2) := by decide +kernel
theorem dX7_custom_53 : decode cX7_custom 53 = .ok (.bipush 105, 2) := by decide +kernel
theorem dX7_custom_55 : decode cX7_custom 55 = .ok (.bipush 116, 2) := by decide +kernel
theorem dX7_custom_57 : decode cX7_custom 57 = .ok (.bipush 115, 2) := by decide +kernel
theorem dX7_custom_59 : decode cX7_custom 59 = .ok (.invokevirtual 120, 3) := by decide +kernel
theorem dX7_custom_62 : decode cX7_custom 62 = .ok (.ifCond .eq 7, 3) := by decide +kernel
theorem dX7_custom_65 : decode cX7_custom 65 = .ok (.iconst 1, 1) := by decide +kernel
theorem dX7_custom_66 : decode cX7_custom 66 = .ok (.goto 46, 3) := by decide +kernel
theorem dX7_custom_69 : decode cX7_custom 69 = .ok (.aload_n 0, 1) := by decide +kernel
theorem dX7_custom_70 : decode cX7_custom 70 = .ok (.iconst 5, 1) := by decide +kernel
theorem dX7_custom_71 : decode cX7_custom 71 = .ok (.bipush 103, 2) := by decide +kernel
theorem dX7_custom_73 : decode cX7_custom 73 = .ok (.bipush 105, 2) := by decide +kernel
theorem dX7_custom_75 : decode cX7_custom 75 = .ok (.bipush 102, 2) := by decide +kernel
theorem dX7_custom_77 : decode cX7_custom 77 = .ok (.bipush 116, 2) := by decide +kernel
theorem dX7_custom_79 : decode cX7_custom 79 = .ok (.bipush 115, 2) := by decide +kernel
theorem dX7_custom_81 : decode cX7_custom 81 = .ok (.invokevirtual 120, 3) := by decide +kernel
theorem dX7_custom_84 : decode cX7_custom 84 = .ok (.ifCond .eq 7, 3) := by decide +kernel
theorem dX7_custom_87 : decode cX7_custom 87 = .ok (.iconst 2, 1) := by decide +kernel
theorem dX7_custom_88 : decode cX7_custom 88 = .ok (.goto 24, 3) := by decide +kernel
theorem dX7_custom_91 : decode cX7_custom 91 = .ok (.aload_n 0, 1) := by decide +kernel
theorem dX7_custom_92 : decode cX7_custom 92 = .ok (.iconst 3, 1) := by decide +kernel
theorem dX7_custom_93 : decode cX7_custom 93 = .ok (.bipush 107, 2) := by decide +kernel
theorem dX7_custom_95 : decode cX7_custom 95 = .ok (.bipush 105, 2) := by decide +kernel
theorem dX7_custom_97 : decode cX7_custom 97 = .ok (.bipush 110, 2) := by decide +kernel
theorem dX7_custom_99 : decode cX7_custom 99 = .ok (.iconst 0, 1) := by decide +kernel
theorem dX7_custom_100 : decode cX7_custom 100 = .ok (.iconst 0, 1) := by decide +kernel
theorem dX7_custom_101 : decode cX7_custom 101 = .ok (.invokevirtual 120, 3) := by decide +kernel
theorem dX7_custom_104 : decode cX7_custom 104 = .ok (.ifCond .eq 7, 3) := by decide +kernel
theorem dX7_custom_107 : decode cX7_custom 107 = .ok (.iconst 3, 1) := by decide +kernel
theorem dX7_custom_108 : decode cX7_custom 108 = .ok (.goto 4, 3) := by decide +kernel
theorem dX7_custom_111 : decode cX7_custom 111 = .ok (.iconst (-1), 1) := by decide +kernel
theorem dX7_custom_112 : decode cX7_custom 112 = .ok (.istore_n 3, 1) := by decide +kernel
theorem dX7_custom_113 : decode cX7_custom 113 = .ok (.aload_n 0, 1) := by decide +kernel
theorem dX7_custom_114 : decode cX7_custom 114 = .ok (.iload_n 3, 1) := by decide +kernel
theorem dX7_custom_115 : decode cX7_custom 115 = .ok (.ifCond .lt 7, 3) := by decide +kernel
theorem dX7_custom_118 : decode cX7_custom 118 = .ok (.iconst 1, 1) := by decide +kernel
theorem dX7_custom_119 : decode cX7_custom 119 = .ok (.goto 4, 3) := by decide +kernel
theorem dX7_custom_122 : decode cX7_custom 122 = .ok (.iconst 0, 1) := by decide +kernel
theorem dX7_custom_123 : decode cX7_custom 123 = .ok (.iconst 1, 1) := by decide +kernel
theorem dX7_custom_124 : decode cX7_custom 124 = .ok (.aload_n 0, 1) := by decide +kernel
theorem dX7_custom_125 : decode cX7_custom 125 = .ok (.getfield 98, 3) := by decide +kernel
theorem dX7_custom_128 : decode cX7_custom 128 = .ok (.invokevirtual 112, 3) := by decide +kernel
theorem dX7_custom_131 : decode cX7_custom 131 = .ok (.ifCond .eq 44, 3) := by decide +kernel
theorem dX7_custom_134 : decode cX7_custom 134 = .ok (.aload_n 0, 1) := by decide +kernel
theorem dX7_custom_135 : decode cX7_custom 135 = .ok (.iload_n 2, 1) := by decide +kernel
theorem dX7_custom_136 : decode cX7_custom 136 = .ok (.iload_n 3, 1) := by decide +kernel
theorem dX7_custom_137 : decode cX7_custom 137 = .ok (.invokestatic 150, 3) := by decide +kernel
theorem dX7_custom_140 : decode cX7_custom 140 = .ok (.ifCond .ne 7, 3) := by decide +kernel
theorem dX7_custom_143 : decode cX7_custom 143 = .ok (.iconst 1, 1) := by decide +kernel
theorem dX7_custom_144 : decode cX7_custom 144 = .ok (.goto 4, 3) := by decide +kernel
theorem dX7_custom_147 : decode cX7_custom 147 = .ok (.iconst 0, 1) := by decide +kernel
theorem dX7_custom_148 : decode cX7_custom 148 = .ok (.iconst 3, 1) := by decide +kernel
theorem dX7_custom_149 : decode cX7_custom 149 = .ok (.aload_n 0, 1) := by decide +kernel
theorem dX7_custom_150 : decode cX7_custom 150 = .ok (.getfield 98, 3) := by decide +kernel
theorem dX7_custom_153 : decode cX7_custom 153 = .ok (.invokevirtual 112, 3) := by decide +kernel
theorem dX7_custom_156 : decode cX7_custom 156 = .ok (.ifCond .eq 19, 3) := by decide +kernel
theorem dX7_custom_159 : decode cX7_custom 159 = .ok (.iload_n 2, 1) := by decide +kernel
theorem dX7_custom_160 : decode cX7_custom 160 = .ok (.iconst 1, 1) := by decide +kernel
theorem dX7_custom_161 : decode cX7_custom 161 = .ok (.iload_n 3, 1) := by decide +kernel
theorem dX7_custom_162 : decode cX7_custom 162 = .ok (.ishl, 1) := by decide +kernel
theorem dX7_custom_163 : decode cX7_custom 163 = .ok (.ior, 1) := by decide +kernel
theorem dX7_custom_164 : decode cX7_custom 164 = .ok (.istore_n 2, 1) := by decide +kernel
theorem dX7_custom_165 : decode cX7_custom 165 = .ok (.aload_n 0, 1) := by decide +kernel
theorem dX7_custom_166 : decode cX7_custom 166 = .ok (.getfield 48, 3) := by decide +kernel
theorem dX7_custom_169 : decode cX7_custom 169 = .ok (.iload_n 1, 1) := by decide +kernel
theorem dX7_custom_170 : decode cX7_custom 170 = .ok (.iload_n 3, 1) := by decide +kernel
theorem dX7_custom_171 : decode cX7_custom 171 = .ok (.iastore, 1) := by decide +kernel
theorem dX7_custom_172 : decode cX7_custom 172 = .ok (.iinc 1 1, 3) := by decide +kernel
theorem dX7_custom_175 : decode cX7_custom 175 = .ok (.aload_n 0, 1) := by decide +kernel
theorem dX7_custom_176 : decode cX7_custom 176 = .ok (.invokevirtual 138, 3) := by decide +kernel
theorem dX7_custom_179 : decode cX7_custom 179 = .ok (.goto (-171), 3) := by decide +kernel
theorem dX7_custom_182 : decode cX7_custom 182 = .ok (.aload_n 0, 1) := by decide +kernel
theorem dX7_custom_183 : decode cX7_custom 183 = .ok (.iconst 0, 1) := by decide +kernel
theorem dX7_custom_184 : decode cX7_custom 184 = .ok (.putfield 82, 3) := by decide +kernel
theorem dX7_custom_187 : decode cX7_custom 187 = .ok (.aload_n 0, 1) := by decide +kernel
theorem dX7_custom_188 : decode cX7_custom 188 = .ok (.getfield 91, 3) := by decide +kernel
theorem dX7_custom_191 : decode cX7_custom 191 = .ok (.ifCond .le 11, 3) := by decide +kernel
theorem dX7_custom_194 : decode cX7_custom 194 = .ok (.bipush (-10), 2) := by decide +kernel
theorem dX7_custom_196 : decode cX7_custom 196 = .ok (.aload_n 0, 1) := by decide +kernel
theorem dX7_custom_197 : decode cX7_custom 197 = .ok (.getfield 91, 3) := by decide +kernel
theorem dX7_custom_200 : decode cX7_custom 200 = .ok (.isub, 1) := by decide +kernel
theorem dX7_custom_201 : decode cX7_custom 201 = .ok (.ireturn, 1) := by decide +kernel
theorem dX7_custom_202 : decode cX7_custom 202 = .ok (.iconst 0, 1) := by decide +kernel
theorem dX7_custom_203 : decode cX7_custom 203 = .ok (.istore_n 3, 1) := by decide +kernel
theorem dX7_custom_204 : decode cX7_custom 204 = .ok (.iload_n 3, 1) := by decide +kernel
theorem dX7_custom_205 : decode cX7_custom 205 = .ok (.iload_n 1, 1) := by decide +kernel
theorem dX7_custom_206 : decode cX7_custom 206 = .ok (.if_icmp .ge 21, 3) := by decide +kernel
theorem dX7_custom_209 : decode cX7_custom 209 = .ok (.aload_n 0, 1) := by decide +kernel
theorem dX7_custom_210 : decode cX7_custom 210 = .ok (.getfield 39, 3) := by decide +kernel
theorem dX7_custom_213 : decode cX7_custom 213 = .ok (.iload_n 3, 1) := by decide +kernel
theorem dX7_custom_214 : decode cX7_custom 214 = .ok (.aload_n 0, 1) := by decide +kernel
theorem dX7_custom_215 : decode cX7_custom 215 = .ok (.getfield 48, 3) := by decide +kernel
theorem dX7_custom_218 : decode cX7_custom 218 = .ok (.iload_n 3, 1) := by decide +kernel
theorem dX7_custom_219 : decode cX7_custom 219 = .ok (.iaload, 1) := by decide +kernel
theorem dX7_custom_220 : decode cX7_custom 220 = .ok (.iastore, 1) := by decide +kernel
theorem dX7_custom_221 : decode cX7_custom 221 = .ok (.iinc 3 1, 3) := by decide +kernel
theorem dX7_custom_224 : decode cX7_custom 224 = .ok (.goto (-20), 3) := by decide +kernel
theorem dX7_custom_227 : decode cX7_custom 227 = .ok (.aload_n 0, 1) := by decide +kernel
theorem dX7_custom_228 : decode cX7_custom 228 = .ok (.iload_n 1, 1) := by decide +kernel
theorem dX7_custom_229 : decode cX7_custom 229 = .ok (.putfield 72, 3) := by decide +kernel
theorem dX7_custom_232 : decode cX7_custom 232 = .ok (.iload_n 1, 1) := by decide +kernel
theorem dX7_custom_233 : decode cX7_custom 233 = .ok (.ireturn, 1) := by decide +kernel
theorem dX7_fault_0 : decode cX7_fault 0 = .ok (.aload_n 0, 1) := by decide +kernel
theorem dX7_fault_1 : decode cX7_fault 1 = .ok (.getfield 45, 3) := by decide +kernel
theorem dX7_fault_4 : decode cX7_fault 4 = .ok (.ireturn, 1) := by decide +kernel
theorem dX7_isYard_0 : decode cX7_isYard 0 = .ok (.iload_n 1, 1) := by decide +kernel
theorem dX7_isYard_1 : decode cX7_isYard 1 = .ok (.i2l, 1) := by decide +kernel
theorem dX7_isYard_2 : decode cX7_isYard 2 = .ok (.lconst 0, 1) := by decide +kernel
theorem dX7_isYard_3 : decode cX7_isYard 3 = .ok (.aload_n 0, 1) := by decide +kernel
theorem dX7_isYard_4 : decode cX7_isYard 4 = .ok (.getfield 36, 3) := by decide +kernel
theorem dX7_isYard_7 : decode cX7_isYard 7 = .ok (.iconst 0, 1) := by decide +kernel
theorem dX7_isYard_8 : decode cX7_isYard 8 = .ok (.iaload, 1) := by decide +kernel
theorem dX7_isYard_9 : decode cX7_isYard 9 = .ok (.iconst 1, 1) := by decide +kernel
theorem dX7_isYard_10 : decode cX7_isYard 10 = .ok (.isub, 1) := by decide +kernel
theorem dX7_isYard_11 : decode cX7_isYard 11 = .ok (.i2l, 1) := by decide +kernel
theorem dX7_isYard_12 : decode cX7_isYard 12 = .ok (.invokestatic 77, 3) := by decide +kernel
theorem dX7_isYard_15 : decode cX7_isYard 15 = .ok (.ireturn, 1) := by decide +kernel
theorem dX7_isDead_0 : decode cX7_isDead 0 = .ok (.iload_n 1, 1) := by decide +kernel
theorem dX7_isDead_1 : decode cX7_isDead 1 = .ok (.i2l, 1) := by decide +kernel
theorem dX7_isDead_2 : decode cX7_isDead 2 = .ok (.lconst 0, 1) := by decide +kernel
theorem dX7_isDead_3 : decode cX7_isDead 3 = .ok (.aload_n 0, 1) := by decide +kernel
theorem dX7_isDead_4 : decode cX7_isDead 4 = .ok (.getfield 36, 3) := by decide +kernel
theorem dX7_isDead_7 : decode cX7_isDead 7 = .ok (.iconst 1, 1) := by decide +kernel
theorem dX7_isDead_8 : decode cX7_isDead 8 = .ok (.iaload, 1) := by decide +kernel
theorem dX7_isDead_9 : decode cX7_isDead 9 = .ok (.iconst 1, 1) := by decide +kernel
theorem dX7_isDead_10 : decode cX7_isDead 10 = .ok (.isub, 1) := by decide +kernel
theorem dX7_isDead_11 : decode cX7_isDead 11 = .ok (.i2l, 1) := by decide +kernel
theorem dX7_isDead_12 : decode cX7_isDead 12 = .ok (.invokestatic 77, 3) := by decide +kernel
theorem dX7_isDead_15 : decode cX7_isDead 15 = .ok (.ireturn, 1) := by decide +kernel
theorem dX7_isInLoft_0 : decode cX7_isInLoft 0 = .ok (.aload_n 0, 1) := by decide +kernel
theorem dX7_isInLoft_1 : decode cX7_isInLoft 1 = .ok (.getfield 7, 3) := by decide +kernel
theorem dX7_isInLoft_4 : decode cX7_isInLoft 4 = .ok (.iload_n 1, 1) := by decide +kernel
theorem dX7_isInLoft_5 : decode cX7_isInLoft 5 = .ok (.bipush 40, 2) := by decide +kernel
theorem dX7_isInLoft_7 : decode cX7_isInLoft 7 = .ok (.iadd, 1) := by decide +kernel
theorem dX7_isInLoft_8 : decode cX7_isInLoft 8 = .ok (.iload_n 2, 1) := by decide +kernel
theorem dX7_isInLoft_9 : decode cX7_isInLoft 9 = .ok (.iadd, 1) := by decide +kernel
theorem dX7_isInLoft_10 : decode cX7_isInLoft 10 = .ok (.iaload, 1) := by decide +kernel
theorem dX7_isInLoft_11 : decode cX7_isInLoft 11 = .ok (.ifCond .ge 21, 3) := by decide +kernel
theorem dX7_isInLoft_14 : decode cX7_isInLoft 14 = .ok (.aload_n 0, 1) := by decide +kernel
theorem dX7_isInLoft_15 : decode cX7_isInLoft 15 = .ok (.getfield 7, 3) := by decide +kernel
theorem dX7_isInLoft_18 : decode cX7_isInLoft 18 = .ok (.iload_n 1, 1) := by decide +kernel
theorem dX7_isInLoft_19 : decode cX7_isInLoft 19 = .ok (.bipush 48, 2) := by decide +kernel
theorem dX7_isInLoft_21 : decode cX7_isInLoft 21 = .ok (.iadd, 1) := by decide +kernel
theorem dX7_isInLoft_22 : decode cX7_isInLoft 22 = .ok (.iload_n 2, 1) := by decide +kernel
theorem dX7_isInLoft_23 : decode cX7_isInLoft 23 = .ok (.iadd, 1) := by decide +kernel
theorem dX7_isInLoft_24 : decode cX7_isInLoft 24 = .ok (.iaload, 1) := by decide +kernel
theorem dX7_isInLoft_25 : decode cX7_isInLoft 25 = .ok (.ifCond .ne 7, 3) := by decide +kernel
theorem dX7_isInLoft_28 : decode cX7_isInLoft 28 = .ok (.iconst 1, 1) := by decide +kernel
theorem dX7_isInLoft_29 : decode cX7_isInLoft 29 = .ok (.goto 4, 3) := by decide +kernel
theorem dX7_isInLoft_32 : decode cX7_isInLoft 32 = .ok (.iconst 0, 1) := by decide +kernel
theorem dX7_isInLoft_33 : decode cX7_isInLoft 33 = .ok (.ireturn, 1) := by decide +kernel
theorem dX7_loft_0 : decode cX7_loft 0 = .ok (.iconst 0, 1) := by decide +kernel
theorem dX7_loft_1 : decode cX7_loft 1 = .ok (.istore_n 2, 1) := by decide +kernel
theorem dX7_loft_2 : decode cX7_loft 2 = .ok (.iconst 0, 1) := by decide +kernel
theorem dX7_loft_3 : decode cX7_loft 3 = .ok (.istore_n 3, 1) := by decide +kernel
theorem dX7_loft_4 : decode cX7_loft 4 = .ok (.iload_n 3, 1) := by decide +kernel
theorem dX7_loft_5 : decode cX7_loft 5 = .ok (.aload_n 0, 1) := by decide +kernel
theorem dX7_loft_6 : decode cX7_loft 6 = .ok (.getfield 36, 3) := by decide +kernel
theorem dX7_loft_9 : decode cX7_loft 9 = .ok (.iconst 1, 1) := by decide +kernel
theorem dX7_loft_10 : decode cX7_loft 10 = .ok (.iaload, 1) := by decide +kernel
theorem dX7_loft_11 : decode cX7_loft 11 = .ok (.if_icmp .ge 23, 3) := by decide +kernel
theorem dX7_loft_14 : decode cX7_loft 14 = .ok (.iload_n 2, 1) := by decide +kernel
theorem dX7_loft_15 : decode cX7_loft 15 = .ok (.aload_n 0, 1) := by decide +kernel
theorem dX7_loft_16 : decode cX7_loft 16 = .ok (.iload_n 1, 1) := by decide +kernel
theorem dX7_loft_17 : decode cX7_loft 17 = .ok (.iload_n 3, 1) := by decide +kernel
theorem dX7_loft_18 : decode cX7_loft 18 = .ok (.invokevirtual 154, 3) := by decide +kernel
theorem dX7_loft_21 : decode cX7_loft 21 = .ok (.invokestatic 157, 3) := by decide +kernel
theorem dX7_loft_24 : decode cX7_loft 24 = .ok (.iload_n 3, 1) := by decide +kernel
theorem dX7_loft_25 : decode cX7_loft 25 = .ok (.ishl, 1) := by decide +kernel
theorem dX7_loft_26 : decode cX7_loft 26 = .ok (.ior, 1) := by decide +kernel
theorem dX7_loft_27 : decode cX7_loft 27 = .ok (.istore_n 2, 1) := by decide +kernel
theorem dX7_loft_28 : decode cX7_loft 28 = .ok (.iinc 3 1, 3) := by decide +kernel
theorem dX7_loft_31 : decode cX7_loft 31 = .ok (.goto (-27), 3) := by decide +kernel
theorem dX7_loft_34 : decode cX7_loft 34 = .ok (.iload_n 2, 1) := by decide +kernel
theorem dX7_loft_35 : decode cX7_loft 35 = .ok (.ireturn, 1) := by decide +kernel
theorem dX7_laid_0 : decode cX7_laid 0 = .ok (.iconst 0, 1) := by decide +kernel
theorem dX7_laid_1 : decode cX7_laid 1 = .ok (.istore_n 2, 1) := by decide +kernel
theorem dX7_laid_2 : decode cX7_laid 2 = .ok (.iconst 0, 1) := by decide +kernel
theorem dX7_laid_3 : decode cX7_laid 3 = .ok (.istore_n 3, 1) := by decide +kernel
theorem dX7_laid_4 : decode cX7_laid 4 = .ok (.iload_n 3, 1) := by decide +kernel
theorem dX7_laid_5 : decode cX7_laid 5 = .ok (.aload_n 0, 1) := by decide +kernel
theorem dX7_laid_6 : decode cX7_laid 6 = .ok (.getfield 36, 3) := by decide +kernel
theorem dX7_laid_9 : decode cX7_laid 9 = .ok (.iconst 1, 1) := by decide +kernel
theorem dX7_laid_10 : decode cX7_laid 10 = .ok (.iaload, 1) := by decide +kernel
theorem dX7_laid_11 : decode cX7_laid 11 = .ok (.if_icmp .ge 36, 3) := by decide +kernel
theorem dX7_laid_14 : decode cX7_laid 14 = .ok (.iload_n 2, 1) := by decide +kernel
theorem dX7_laid_15 : decode cX7_laid 15 = .ok (.aload_n 0, 1) := by decide +kernel
theorem dX7_laid_16 : decode cX7_laid 16 = .ok (.getfield 7, 3) := by decide +kernel
theorem dX7_laid_19 : decode cX7_laid 19 = .ok (.iload_n 1, 1) := by decide +kernel
theorem dX7_laid_20 : decode cX7_laid 20 = .ok (.bipush 40, 2) := by decide +kernel
theorem dX7_laid_22 : decode cX7_laid 22 = .ok (.iadd, 1) := by decide +kernel
theorem dX7_laid_23 : decode cX7_laid 23 = .ok (.iload_n 3, 1) := by decide +kernel
theorem dX7_laid_24 : decode cX7_laid 24 = .ok (.iadd, 1) := by decide +kernel
theorem dX7_laid_25 : decode cX7_laid 25 = .ok (.iaload, 1) := by decide +kernel
theorem dX7_laid_26 : decode cX7_laid 26 = .ok (.ifCond .lt 7, 3) := by decide +kernel
theorem dX7_laid_29 : decode cX7_laid 29 = .ok (.iconst 1, 1) := by decide +kernel
theorem dX7_laid_30 : decode cX7_laid 30 = .ok (.goto 4, 3) := by decide +kernel
theorem dX7_laid_33 : decode cX7_laid 33 = .ok (.iconst 0, 1) := by decide +kernel
theorem dX7_laid_34 : decode cX7_laid 34 = .ok (.invokestatic 157, 3) := by decide +kernel
theorem dX7_laid_37 : decode cX7_laid 37 = .ok (.iload_n 3, 1) := by decide +kernel
theorem dX7_laid_38 : decode cX7_laid 38 = .ok (.ishl, 1) := by decide +kernel
theorem dX7_laid_39 : decode cX7_laid 39 = .ok (.ior, 1) := by decide +kernel
theorem dX7_laid_40 : decode cX7_laid 40 = .ok (.istore_n 2, 1) := by decide +kernel
theorem dX7_laid_41 : decode cX7_laid 41 = .ok (.iinc 3 1, 3) := by decide +kernel
theorem dX7_laid_44 : decode cX7_laid 44 = .ok (.goto (-40), 3) := by decide +kernel
theorem dX7_laid_47 : decode cX7_laid 47 = .ok (.iload_n 2, 1) := by decide +kernel
theorem dX7_laid_48 : decode cX7_laid 48 = .ok (.ireturn, 1) := by decide +kernel
theorem dX7_who_0 : decode cX7_who 0 = .ok (.iconst 0, 1) := by decide +kernel
theorem dX7_who_1 : decode cX7_who 1 = .ok (.istore_n 3, 1) := by decide +kernel
theorem dX7_who_2 : decode cX7_who 2 = .ok (.iload_n 3, 1) := by decide +kernel
theorem dX7_who_3 : decode cX7_who 3 = .ok (.aload_n 0, 1) := by decide +kernel
theorem dX7_who_4 : decode cX7_who 4 = .ok (.getfield 36, 3) := by decide +kernel
theorem dX7_who_7 : decode cX7_who 7 = .ok (.iconst 1, 1) := by decide +kernel
theorem dX7_who_8 : decode cX7_who 8 = .ok (.iaload, 1) := by decide +kernel
theorem dX7_who_9 : decode cX7_who 9 = .ok (.if_icmp .ge 26, 3) := by decide +kernel
theorem dX7_who_12 : decode cX7_who 12 = .ok (.aload_n 0, 1) := by decide +kernel
theorem dX7_who_13 : decode cX7_who 13 = .ok (.getfield 7, 3) := by decide +kernel
theorem dX7_who_16 : decode cX7_who 16 = .ok (.iload_n 1, 1) := by decide +kernel
theorem dX7_who_17 : decode cX7_who 17 = .ok (.bipush 40, 2) := by decide +kernel
theorem dX7_who_19 : decode cX7_who 19 = .ok (.iadd, 1) := by decide +kernel
theorem dX7_who_20 : decode cX7_who 20 = .ok (.iload_n 3, 1) := by decide +kernel
theorem dX7_who_21 : decode cX7_who 21 = .ok (.iadd, 1) := by decide +kernel
theorem dX7_who_22 : decode cX7_who 22 = .ok (.iaload, 1) := by decide +kernel
theorem dX7_who_23 : decode cX7_who 23 = .ok (.iload_n 2, 1) := by decide +kernel
theorem dX7_who_24 : decode cX7_who 24 = .ok (.if_icmp .ne 5, 3) := by decide +kernel
theorem dX7_who_27 : decode cX7_who 27 = .ok (.iload_n 3, 1) := by decide +kernel
theorem dX7_who_28 : decode cX7_who 28 = .ok (.ireturn, 1) := by decide +kernel
theorem dX7_who_29 : decode cX7_who 29 = .ok (.iinc 3 1, 3) := by decide +kernel
theorem dX7_who_32 : decode cX7_who 32 = .ok (.goto (-30), 3) := by decide +kernel
theorem dX7_who_35 : decode cX7_who 35 = .ok (.iconst (-1), 1) := by decide +kernel
theorem dX7_who_36 : decode cX7_who 36 = .ok (.ireturn, 1) := by decide +kernel
theorem dX7_valueBy_0 : decode cX7_valueBy 0 = .ok (.iload_n 2, 1) := by decide +kernel
theorem dX7_valueBy_1 : decode cX7_valueBy 1 = .ok (.ifCond .ne 17, 3) := by decide +kernel
theorem dX7_valueBy_4 : decode cX7_valueBy 4 = .ok (.aload_n 0, 1) := by decide +kernel
theorem dX7_valueBy_5 : decode cX7_valueBy 5 = .ok (.getfield 7, 3) := by decide +kernel
theorem dX7_valueBy_8 : decode cX7_valueBy 8 = .ok (.iload_n 1, 1) := by decide +kernel
theorem dX7_valueBy_9 : decode cX7_valueBy 9 = .ok (.bipush 8, 2) := by decide +kernel
theorem dX7_valueBy_11 : decode cX7_valueBy 11 = .ok (.iadd, 1) := by decide +kernel
theorem dX7_valueBy_12 : decode cX7_valueBy 12 = .ok (.iload_n 3, 1) := by decide +kernel
theorem dX7_valueBy_13 : decode cX7_valueBy 13 = .ok (.iadd, 1) := by decide +kernel
theorem dX7_valueBy_14 : decode cX7_valueBy 14 = .ok (.iaload, 1) := by decide +kernel
theorem dX7_valueBy_15 : decode cX7_valueBy 15 = .ok (.goto 48, 3) := by decide +kernel
theorem dX7_valueBy_18 : decode cX7_valueBy 18 = .ok (.iload_n 2, 1) := by decide +kernel
theorem dX7_valueBy_19 : decode cX7_valueBy 19 = .ok (.iconst 1, 1) := by decide +kernel
theorem dX7_valueBy_20 : decode cX7_valueBy 20 = .ok (.if_icmp .ne 17, 3) := by decide +kernel
theorem dX7_valueBy_23 : decode cX7_valueBy 23 = .ok (.aload_n 0, 1) := by decide +kernel
theorem dX7_valueBy_24 : decode cX7_valueBy 24 = .ok (.getfield 7, 3) := by decide +kernel
theorem dX7_valueBy_27 : decode cX7_valueBy 27 = .ok (.iload_n 1, 1) := by decide +kernel
theorem dX7_valueBy_28 : decode cX7_valueBy 28 = .ok (.bipush 16, 2) := by decide +kernel
theorem dX7_valueBy_30 : decode cX7_valueBy 30 = .ok (.iadd, 1) := by decide +kernel
theorem dX7_valueBy_31 : decode cX7_valueBy 31 = .ok (.iload_n 3, 1) := by decide +kernel
theorem dX7_valueBy_32 : decode cX7_valueBy 32 = .ok (.iadd, 1) := by decide +kernel
theorem dX7_valueBy_33 : decode cX7_valueBy 33 = .ok (.iaload, 1) := by decide +kernel
theorem dX7_valueBy_34 : decode cX7_valueBy 34 = .ok (.goto 29, 3) := by decide +kernel
theorem dX7_valueBy_37 : decode cX7_valueBy 37 = .ok (.iload_n 2, 1) := by decide +kernel
theorem dX7_valueBy_38 : decode cX7_valueBy 38 = .ok (.iconst 2, 1) := by decide +kernel
theorem dX7_valueBy_39 : decode cX7_valueBy 39 = .ok (.if_icmp .ne 17, 3) := by decide +kernel
theorem dX7_valueBy_42 : decode cX7_valueBy 42 = .ok (.aload_n 0, 1) := by decide +kernel
theorem dX7_valueBy_43 : decode cX7_valueBy 43 = .ok (.getfield 7, 3) := by decide +kernel
theorem dX7_valueBy_46 : decode cX7_valueBy 46 = .ok (.iload_n 1, 1) := by decide +kernel
theorem dX7_valueBy_47 : decode cX7_valueBy 47 = .ok (.bipush 24, 2) := by decide +kernel
theorem dX7_valueBy_49 : decode cX7_valueBy 49 = .ok (.iadd, 1) := by decide +kernel
theorem dX7_valueBy_50 : decode cX7_valueBy 50 = .ok (.iload_n 3, 1) := by decide +kernel
theorem dX7_valueBy_51 : decode cX7_valueBy 51 = .ok (.iadd, 1) := by decide +kernel
theorem dX7_valueBy_52 : decode cX7_valueBy 52 = .ok (.iaload, 1) := by decide +kernel
theorem dX7_valueBy_53 : decode cX7_valueBy 53 = .ok (.goto 10, 3) := by decide +kernel
theorem dX7_valueBy_56 : decode cX7_valueBy 56 = .ok (.aload_n 0, 1) := by decide +kernel
theorem dX7_valueBy_57 : decode cX7_valueBy 57 = .ok (.getfield 33, 3) := by decide +kernel
theorem dX7_valueBy_60 : decode cX7_valueBy 60 = .ok (.iload_n 3, 1) := by decide +kernel
theorem dX7_valueBy_61 : decode cX7_valueBy 61 = .ok (.iaload, 1) := by decide +kernel
theorem dX7_valueBy_62 : decode cX7_valueBy 62 = .ok (.ineg, 1) := by decide +kernel
theorem dX7_valueBy_63 : decode cX7_valueBy 63 = .ok (.ireturn, 1) := by decide +kernel
theorem dX7_isAheadByCustom_0 : decode cX7_isAheadByCustom 0 = .ok (.iconst 0, 1) := by decide +kernel
theorem dX7_isAheadByCustom_1 : decode cX7_isAheadByCustom 1 = .ok (.istore 4, 2) := by decide +kernel
theorem dX7_isAheadByCustom_3 : decode cX7_isAheadByCustom 3 = .ok (.iload 4, 2) := by decide +kernel
theorem dX7_isAheadByCustom_5 : decode cX7_isAheadByCustom 5 = .ok (.aload_n 0, 1) := by decide +kernel
theorem dX7_isAheadByCustom_6 : decode cX7_isAheadByCustom 6 = .ok (.getfield 72, 3) := by decide +kernel
theorem dX7_isAheadByCustom_9 : decode cX7_isAheadByCustom 9 = .ok (.if_icmp .ge 54, 3) := by decide +kernel
theorem dX7_isAheadByCustom_12 : decode cX7_isAheadByCustom 12 = .ok (.aload_n 0, 1) := by decide +kernel
theorem dX7_isAheadByCustom_13 : decode cX7_isAheadByCustom 13 = .ok (.iload_n 1, 1) := by decide +kernel
theorem dX7_isAheadByCustom_14 : decode cX7_isAheadByCustom 14 = .ok (.aload_n 0, 1) := by decide +kernel
theorem dX7_isAheadByCustom_15 : decode cX7_isAheadByCustom 15 = .ok (.getfield 39, 3) := by decide +kernel
theorem dX7_isAheadByCustom_18 : decode cX7_isAheadByCustom 18 = .ok (.iload 4, 2) := by decide +kernel
theorem dX7_isAheadByCustom_20 : decode cX7_isAheadByCustom 20 = .ok (.iaload, 1) := by decide +kernel
theorem dX7_isAheadByCustom_21 : decode cX7_isAheadByCustom 21 = .ok (.iload_n 2, 1) := by decide +kernel
theorem dX7_isAheadByCustom_22 : decode cX7_isAheadByCustom 22 = .ok (.invokevirtual 161, 3) := by decide +kernel
theorem dX7_isAheadByCustom_25 : decode cX7_isAheadByCustom 25 = .ok (.aload_n 0, 1) := by decide +kernel
theorem dX7_isAheadByCustom_26 : decode cX7_isAheadByCustom 26 = .ok (.iload_n 1, 1) := by decide +kernel
theorem dX7_isAheadByCustom_27 : decode cX7_isAheadByCustom 27 = .ok (.aload_n 0, 1) := by decide +kernel
theorem dX7_isAheadByCustom_28 : decode cX7_isAheadByCustom 28 = .ok (.getfield 39, 3) := by decide +kernel
theorem dX7_isAheadByCustom_31 : decode cX7_isAheadByCustom 31 = .ok (.iload 4, 2) := by decide +kernel
theorem dX7_isAheadByCustom_33 : decode cX7_isAheadByCustom 33 = .ok (.iaload, 1) := by decide +kernel
theorem dX7_isAheadByCustom_34 : decode cX7_isAheadByCustom 34 = .ok (.iload_n 3, 1) := by decide +kernel
theorem dX7_isAheadByCustom_35 : decode cX7_isAheadByCustom 35 = .ok (.invokevirtual 161, 3) := by decide +kernel
theorem dX7_isAheadByCustom_38 : decode cX7_isAheadByCustom 38 = .ok (.isub, 1) := by decide +kernel
theorem dX7_isAheadByCustom_39 : decode cX7_isAheadByCustom 39 = .ok (.istore 5, 2) := by decide +kernel
theorem dX7_isAheadByCustom_41 : decode cX7_isAheadByCustom 41 = .ok (.iload 5, 2) := by decide +kernel
theorem dX7_isAheadByCustom_43 : decode cX7_isAheadByCustom 43 = .ok (.ifCond .eq 14, 3) := by decide +kernel
theorem dX7_isAheadByCustom_46 : decode cX7_isAheadByCustom 46 = .ok (.iload 5, 2) := by decide +kernel
theorem dX7_isAheadByCustom_48 : decode cX7_isAheadByCustom 48 = .ok (.ifCond .le 7, 3) := by decide +kernel
theorem dX7_isAheadByCustom_51 : decode cX7_isAheadByCustom 51 = .ok (.iconst 1, 1) := by decide +kernel
theorem dX7_isAheadByCustom_52 : decode cX7_isAheadByCustom 52 = .ok (.goto 4, 3) := by decide +kernel
theorem dX7_isAheadByCustom_55 : decode cX7_isAheadByCustom 55 = .ok (.iconst 0, 1) := by decide +kernel
theorem dX7_isAheadByCustom_56 : decode cX7_isAheadByCustom 56 = .ok (.ireturn, 1) := by decide +kernel
theorem dX7_isAheadByCustom_57 : decode cX7_isAheadByCustom 57 = .ok (.iinc 4 1, 3) := by decide +kernel
theorem dX7_isAheadByCustom_60 : decode cX7_isAheadByCustom 60 = .ok (.goto (-57), 3) := by decide +kernel
theorem dX7_isAheadByCustom_63 : decode cX7_isAheadByCustom 63 = .ok (.iload_n 2, 1) := by decide +kernel
theorem dX7_isAheadByCustom_64 : decode cX7_isAheadByCustom 64 = .ok (.iload_n 3, 1) := by decide +kernel
theorem dX7_isAheadByCustom_65 : decode cX7_isAheadByCustom 65 = .ok (.if_icmp .ge 7, 3) := by decide +kernel
theorem dX7_isAheadByCustom_68 : decode cX7_isAheadByCustom 68 = .ok (.iconst 1, 1) := by decide +kernel
theorem dX7_isAheadByCustom_69 : decode cX7_isAheadByCustom 69 = .ok (.goto 4, 3) := by decide +kernel
theorem dX7_isAheadByCustom_72 : decode cX7_isAheadByCustom 72 = .ok (.iconst 0, 1) := by decide +kernel
theorem dX7_isAheadByCustom_73 : decode cX7_isAheadByCustom 73 = .ok (.ireturn, 1) := by decide +kernel
theorem dX7_isAhead_0 : decode cX7_isAhead 0 = .ok (.aload_n 0, 1) := by decide +kernel
theorem dX7_isAhead_1 : decode cX7_isAhead 1 = .ok (.getfield 7, 3) := by decide +kernel
theorem dX7_isAhead_4 : decode cX7_isAhead 4 = .ok (.iload_n 1, 1) := by decide +kernel
theorem dX7_isAhead_5 : decode cX7_isAhead 5 = .ok (.bipush 32, 2) := by decide +kernel
theorem dX7_isAhead_7 : decode cX7_isAhead 7 = .ok (.iadd, 1) := by decide +kernel
theorem dX7_isAhead_8 : decode cX7_isAhead 8 = .ok (.iload_n 2, 1) := by decide +kernel
theorem dX7_isAhead_9 : decode cX7_isAhead 9 = .ok (.iadd, 1) := by decide +kernel
theorem dX7_isAhead_10 : decode cX7_isAhead 10 = .ok (.iaload, 1) := by decide +kernel
theorem dX7_isAhead_11 : decode cX7_isAhead 11 = .ok (.ifCond .ne 7, 3) := by decide +kernel
theorem dX7_isAhead_14 : decode cX7_isAhead 14 = .ok (.iconst 1, 1) := by decide +kernel
theorem dX7_isAhead_15 : decode cX7_isAhead 15 = .ok (.goto 4, 3) := by decide +kernel
theorem dX7_isAhead_18 : decode cX7_isAhead 18 = .ok (.iconst 0, 1) := by decide +kernel
theorem dX7_isAhead_19 : decode cX7_isAhead 19 = .ok (.istore 4, 2) := by decide +kernel
theorem dX7_isAhead_21 : decode cX7_isAhead 21 = .ok (.aload_n 0, 1) := by decide +kernel
theorem dX7_isAhead_22 : decode cX7_isAhead 22 = .ok (.getfield 7, 3) := by decide +kernel
theorem dX7_isAhead_25 : decode cX7_isAhead 25 = .ok (.iload_n 1, 1) := by decide +kernel
theorem dX7_isAhead_26 : decode cX7_isAhead 26 = .ok (.bipush 32, 2) := by decide +kernel
theorem dX7_isAhead_28 : decode cX7_isAhead 28 = .ok (.iadd, 1) := by decide +kernel
theorem dX7_isAhead_29 : decode cX7_isAhead 29 = .ok (.iload_n 3, 1) := by decide +kernel
theorem dX7_isAhead_30 : decode cX7_isAhead 30 = .ok (.iadd, 1) := by decide +kernel
theorem dX7_isAhead_31 : decode cX7_isAhead 31 = .ok (.iaload, 1) := by decide +kernel
theorem dX7_isAhead_32 : decode cX7_isAhead 32 = .ok (.ifCond .ne 7, 3) := by decide +kernel
theorem dX7_isAhead_35 : decode cX7_isAhead 35 = .ok (.iconst 1, 1) := by decide +kernel
theorem dX7_isAhead_36 : decode cX7_isAhead 36 = .ok (.goto 4, 3) := by decide +kernel
theorem dX7_isAhead_39 : decode cX7_isAhead 39 = .ok (.iconst 0, 1) := by decide +kernel
theorem dX7_isAhead_40 : decode cX7_isAhead 40 = .ok (.istore 5, 2) := by decide +kernel
theorem dX7_isAhead_42 : decode cX7_isAhead 42 = .ok (.iload 4, 2) := by decide +kernel
theorem dX7_isAhead_44 : decode cX7_isAhead 44 = .ok (.iload 5, 2) := by decide +kernel
theorem dX7_isAhead_46 : decode cX7_isAhead 46 = .ok (.if_icmp .eq 8, 3) := by decide +kernel
theorem dX7_isAhead_49 : decode cX7_isAhead 49 = .ok (.iload 4, 2) := by decide +kernel
theorem dX7_isAhead_51 : decode cX7_isAhead 51 = .ok (.goto 10, 3) := by decide +kernel
theorem dX7_isAhead_54 : decode cX7_isAhead 54 = .ok (.aload_n 0, 1) := by decide +kernel
theorem dX7_isAhead_55 : decode cX7_isAhead 55 = .ok (.iload_n 1, 1) := by decide +kernel
theorem dX7_isAhead_56 : decode cX7_isAhead 56 = .ok (.iload_n 2, 1) := by decide +kernel
theorem dX7_isAhead_57 : decode cX7_isAhead 57 = .ok (.iload_n 3, 1) := by decide +kernel
theorem dX7_isAhead_58 : decode cX7_isAhead 58 = .ok (.invokevirtual 165, 3) := by decide +kernel
theorem dX7_isAhead_61 : decode cX7_isAhead 61 = .ok (.ireturn, 1) := by decide +kernel
theorem dX7_placeOf_0 : decode cX7_placeOf 0 = .ok (.iconst 0, 1) := by decide +kernel
theorem dX7_placeOf_1 : decode cX7_placeOf 1 = .ok (.istore_n 3, 1) := by decide +kernel
theorem dX7_placeOf_2 : decode cX7_placeOf 2 = .ok (.iconst 0, 1) := by decide +kernel
theorem dX7_placeOf_3 : decode cX7_placeOf 3 = .ok (.istore 4, 2) := by decide +kernel
theorem dX7_placeOf_5 : decode cX7_placeOf 5 = .ok (.iload 4, 2) := by decide +kernel
theorem dX7_placeOf_7 : decode cX7_placeOf 7 = .ok (.aload_n 0, 1) := by decide +kernel
theorem dX7_placeOf_8 : decode cX7_placeOf 8 = .ok (.getfield 36, 3) := by decide +kernel
theorem dX7_placeOf_11 : decode cX7_placeOf 11 = .ok (.iconst 1, 1) := by decide +kernel
theorem dX7_placeOf_12 : decode cX7_placeOf 12 = .ok (.iaload, 1) := by decide +kernel
theorem dX7_placeOf_13 : decode cX7_placeOf 13 = .ok (.if_icmp .ge 47, 3) := by decide +kernel
theorem dX7_placeOf_16 : decode cX7_placeOf 16 = .ok (.iload_n 3, 1) := by decide +kernel
theorem dX7_placeOf_17 : decode cX7_placeOf 17 = .ok (.iload 4, 2) := by decide +kernel
theorem dX7_placeOf_19 : decode cX7_placeOf 19 = .ok (.iload_n 2, 1) := by decide +kernel
theorem dX7_placeOf_20 : decode cX7_placeOf 20 = .ok (.if_icmp .eq 28, 3) := by decide +kernel
theorem dX7_placeOf_23 : decode cX7_placeOf 23 = .ok (.aload_n 0, 1) := by decide +kernel
theorem dX7_placeOf_24 : decode cX7_placeOf 24 = .ok (.iload_n 1, 1) := by decide +kernel
theorem dX7_placeOf_25 : decode cX7_placeOf 25 = .ok (.iload 4, 2) := by decide +kernel
theorem dX7_placeOf_27 : decode cX7_placeOf 27 = .ok (.invokevirtual 154, 3) := by decide +kernel
theorem dX7_placeOf_30 : decode cX7_placeOf 30 = .ok (.ifCond .eq 18, 3) := by decide +kernel
theorem dX7_placeOf_33 : decode cX7_placeOf 33 = .ok (.aload_n 0, 1) := by decide +kernel
theorem dX7_placeOf_34 : decode cX7_placeOf 34 = .ok (.iload_n 1, 1) := by decide +kernel
theorem dX7_placeOf_35 : decode cX7_placeOf 35 = .ok (.iload 4, 2) := by decide +kernel
theorem dX7_placeOf_37 : decode cX7_placeOf 37 = .ok (.iload_n 2, 1) := by decide +kernel
theorem dX7_placeOf_38 : decode cX7_placeOf 38 = .ok (.invokevirtual 169, 3) := by decide +kernel
theorem dX7_placeOf_41 : decode cX7_placeOf 41 = .ok (.ifCond .eq 7, 3) := by decide +kernel
theorem dX7_placeOf_44 : decode cX7_placeOf 44 = .ok (.iconst 1, 1) := by decide +kernel
theorem dX7_placeOf_45 : decode cX7_placeOf 45 = .ok (.goto 4, 3) := by decide +kernel
theorem dX7_placeOf_48 : decode cX7_placeOf 48 = .ok (.iconst 0, 1) := by decide +kernel
theorem dX7_placeOf_49 : decode cX7_placeOf 49 = .ok (.invokestatic 157, 3) := by decide +kernel
theorem dX7_placeOf_52 : decode cX7_placeOf 52 = .ok (.iadd, 1) := by decide +kernel
theorem dX7_placeOf_53 : decode cX7_placeOf 53 = .ok (.istore_n 3, 1) := by decide +kernel
theorem dX7_placeOf_54 : decode cX7_placeOf 54 = .ok (.iinc 4 1, 3) := by decide +kernel
theorem dX7_placeOf_57 : decode cX7_placeOf 57 = .ok (.goto (-52), 3) := by decide +kernel
theorem dX7_placeOf_60 : decode cX7_placeOf 60 = .ok (.iload_n 3, 1) := by decide +kernel
theorem dX7_placeOf_61 : decode cX7_placeOf 61 = .ok (.ireturn, 1) := by decide +kernel
theorem dX7_inOrder_0 : decode cX7_inOrder 0 = .ok (.iconst 0, 1) := by decide +kernel
theorem dX7_inOrder_1 : decode cX7_inOrder 1 = .ok (.istore_n 3, 1) := by decide +kernel
theorem dX7_inOrder_2 : decode cX7_inOrder 2 = .ok (.iload_n 3, 1) := by decide +kernel
theorem dX7_inOrder_3 : decode cX7_inOrder 3 = .ok (.aload_n 0, 1) := by decide +kernel
theorem dX7_inOrder_4 : decode cX7_inOrder 4 = .ok (.getfield 36, 3) := by decide +kernel
theorem dX7_inOrder_7 : decode cX7_inOrder 7 = .ok (.iconst 1, 1) := by decide +kernel
theorem dX7_inOrder_8 : decode cX7_inOrder 8 = .ok (.iaload, 1) := by decide +kernel
theorem dX7_inOrder_9 : decode cX7_inOrder 9 = .ok (.if_icmp .ge 30, 3) := by decide +kernel
theorem dX7_inOrder_12 : decode cX7_inOrder 12 = .ok (.aload_n 0, 1) := by decide +kernel
theorem dX7_inOrder_13 : decode cX7_inOrder 13 = .ok (.iload_n 1, 1) := by decide +kernel
theorem dX7_inOrder_14 : decode cX7_inOrder 14 = .ok (.iload_n 3, 1) := by decide +kernel
theorem dX7_inOrder_15 : decode cX7_inOrder 15 = .ok (.invokevirtual 154, 3) := by decide +kernel
theorem dX7_inOrder_18 : decode cX7_inOrder 18 = .ok (.ifCond .eq 15, 3) := by decide +kernel
theorem dX7_inOrder_21 : decode cX7_inOrder 21 = .ok (.aload_n 0, 1) := by decide +kernel
theorem dX7_inOrder_22 : decode cX7_inOrder 22 = .ok (.iload_n 1, 1) := by decide +kernel
theorem dX7_inOrder_23 : decode cX7_inOrder 23 = .ok (.iload_n 3, 1) := by decide +kernel
theorem dX7_inOrder_24 : decode cX7_inOrder 24 = .ok (.invokevirtual 172, 3) := by decide +kernel
theorem dX7_inOrder_27 : decode cX7_inOrder 27 = .ok (.iload_n 2, 1) := by decide +kernel
theorem dX7_inOrder_28 : decode cX7_inOrder 28 = .ok (.if_icmp .ne 5, 3) := by decide +kernel
theorem dX7_inOrder_31 : decode cX7_inOrder 31 = .ok (.iload_n 3, 1) := by decide +kernel
theorem dX7_inOrder_32 : decode cX7_inOrder 32 = .ok (.ireturn, 1) := by decide +kernel
theorem dX7_inOrder_33 : decode cX7_inOrder 33 = .ok (.iinc 3 1, 3) := by decide +kernel
theorem dX7_inOrder_36 : decode cX7_inOrder 36 = .ok (.goto (-34), 3) := by decide +kernel
theorem dX7_inOrder_39 : decode cX7_inOrder 39 = .ok (.iconst (-1), 1) := by decide +kernel
theorem dX7_inOrder_40 : decode cX7_inOrder 40 = .ok (.ireturn, 1) := by decide +kernel
theorem dX7_told_0 : decode cX7_told 0 = .ok (.iload_n 1, 1) := by decide +kernel
theorem dX7_told_1 : decode cX7_told 1 = .ok (.tableswitch 114 0 9 #[55, 62, 69, 74, 79, 84, 90, 96, 104, 109], 55) := by decide +kernel
theorem dX7_told_56 : decode cX7_told 56 = .ok (.aload_n 0, 1) := by decide +kernel
theorem dX7_told_57 : decode cX7_told 57 = .ok (.getfield 36, 3) := by decide +kernel
theorem dX7_told_60 : decode cX7_told 60 = .ok (.iconst 0, 1) := by decide +kernel
theorem dX7_told_61 : decode cX7_told 61 = .ok (.iaload, 1) := by decide +kernel
theorem dX7_told_62 : decode cX7_told 62 = .ok (.ireturn, 1) := by decide +kernel
theorem dX7_told_63 : decode cX7_told 63 = .ok (.aload_n 0, 1) := by decide +kernel
theorem dX7_told_64 : decode cX7_told 64 = .ok (.getfield 36, 3) := by decide +kernel
theorem dX7_told_67 : decode cX7_told 67 = .ok (.iconst 1, 1) := by decide +kernel
theorem dX7_told_68 : decode cX7_told 68 = .ok (.iaload, 1) := by decide +kernel
theorem dX7_told_69 : decode cX7_told 69 = .ok (.ireturn, 1) := by decide +kernel
theorem dX7_told_70 : decode cX7_told 70 = .ok (.aload_n 0, 1) := by decide +kernel
theorem dX7_told_71 : decode cX7_told 71 = .ok (.getfield 82, 3) := by decide +kernel
theorem dX7_told_74 : decode cX7_told 74 = .ok (.ireturn, 1) := by decide +kernel
theorem dX7_told_75 : decode cX7_told 75 = .ok (.aload_n 0, 1) := by decide +kernel
theorem dX7_told_76 : decode cX7_told 76 = .ok (.getfield 17, 3) := by decide +kernel
theorem dX7_told_79 : decode cX7_told 79 = .ok (.ireturn, 1) := by decide +kernel
theorem dX7_told_80 : decode cX7_told 80 = .ok (.aload_n 0, 1) := by decide +kernel
theorem dX7_told_81 : decode cX7_told 81 = .ok (.getfield 21, 3) := by decide +kernel
theorem dX7_told_84 : decode cX7_told 84 = .ok (.ireturn, 1) := by decide +kernel
theorem dX7_told_85 : decode cX7_told 85 = .ok (.aload_n 0, 1) := by decide +kernel
theorem dX7_told_86 : decode cX7_told 86 = .ok (.iconst 0, 1) := by decide +kernel
theorem dX7_told_87 : decode cX7_told 87 = .ok (.invokevirtual 175, 3) := by decide +kernel
theorem dX7_told_90 : decode cX7_told 90 = .ok (.ireturn, 1) := by decide +kernel
theorem dX7_told_91 : decode cX7_told 91 = .ok (.aload_n 0, 1) := by decide +kernel
theorem dX7_told_92 : decode cX7_told 92 = .ok (.iconst 0, 1) := by decide +kernel
theorem dX7_told_93 : decode cX7_told 93 = .ok (.invokevirtual 179, 3) := by decide +kernel
theorem dX7_told_96 : decode cX7_told 96 = .ok (.ireturn, 1) := by decide +kernel
theorem dX7_told_97 : decode cX7_told 97 = .ok (.aload_n 0, 1) := by decide +kernel
theorem dX7_told_98 : decode cX7_told 98 = .ok (.getfield 7, 3) := by decide +kernel
theorem dX7_told_101 : decode cX7_told 101 = .ok (.bipush 72, 2) := by decide +kernel
theorem dX7_told_103 : decode cX7_told 103 = .ok (.iaload, 1) := by decide +kernel
theorem dX7_told_104 : decode cX7_told 104 = .ok (.ireturn, 1) := by decide +kernel
theorem dX7_told_105 : decode cX7_told 105 = .ok (.aload_n 0, 1) := by decide +kernel
theorem dX7_told_106 : decode cX7_told 106 = .ok (.getfield 147, 3) := by decide +kernel
theorem dX7_told_109 : decode cX7_told 109 = .ok (.ireturn, 1) := by decide +kernel
theorem dX7_told_110 : decode cX7_told 110 = .ok (.aload_n 0, 1) := by decide +kernel
theorem dX7_told_111 : decode cX7_told 111 = .ok (.getfield 72, 3) := by decide +kernel
theorem dX7_told_114 : decode cX7_told 114 = .ok (.ireturn, 1) := by decide +kernel
theorem dX7_told_115 : decode cX7_told 115 = .ok (.ldc 81, 2) := by decide +kernel
theorem dX7_told_117 : decode cX7_told 117 = .ok (.ireturn, 1) := by decide +kernel
theorem dX7_yard_0 : decode cX7_yard 0 = .ok (.aload_n 0, 1) := by decide +kernel
theorem dX7_yard_1 : decode cX7_yard 1 = .ok (.iload_n 1, 1) := by decide +kernel
theorem dX7_yard_2 : decode cX7_yard 2 = .ok (.invokevirtual 182, 3) := by decide +kernel
theorem dX7_yard_5 : decode cX7_yard 5 = .ok (.ifCond .ne 6, 3) := by decide +kernel
theorem dX7_yard_8 : decode cX7_yard 8 = .ok (.ldc 186, 2) := by decide +kernel
theorem dX7_yard_10 : decode cX7_yard 10 = .ok (.ireturn, 1) := by decide +kernel
theorem dX7_yard_11 : decode cX7_yard 11 = .ok (.iload_n 2, 1) := by decide +kernel
theorem dX7_yard_12 : decode cX7_yard 12 = .ok (.ifCond .ne 12, 3) := by decide +kernel
theorem dX7_yard_15 : decode cX7_yard 15 = .ok (.aload_n 0, 1) := by decide +kernel
theorem dX7_yard_16 : decode cX7_yard 16 = .ok (.getfield 7, 3) := by decide +kernel
theorem dX7_yard_19 : decode cX7_yard 19 = .ok (.iload_n 1, 1) := by decide +kernel
theorem dX7_yard_20 : decode cX7_yard 20 = .ok (.iaload, 1) := by decide +kernel
theorem dX7_yard_21 : decode cX7_yard 21 = .ok (.goto 19, 3) := by decide +kernel
theorem dX7_yard_24 : decode cX7_yard 24 = .ok (.iload_n 2, 1) := by decide +kernel
theorem dX7_yard_25 : decode cX7_yard 25 = .ok (.iconst 1, 1) := by decide +kernel
theorem dX7_yard_26 : decode cX7_yard 26 = .ok (.if_icmp .ne 12, 3) := by decide +kernel
theorem dX7_yard_29 : decode cX7_yard 29 = .ok (.aload_n 0, 1) := by decide +kernel
theorem dX7_yard_30 : decode cX7_yard 30 = .ok (.iconst 0, 1) := by decide +kernel
theorem dX7_yard_31 : decode cX7_yard 31 = .ok (.iload_n 1, 1) := by decide +kernel
theorem dX7_yard_32 : decode cX7_yard 32 = .ok (.invokevirtual 187, 3) := by decide +kernel
theorem dX7_yard_35 : decode cX7_yard 35 = .ok (.goto 5, 3) := by decide +kernel
theorem dX7_yard_38 : decode cX7_yard 38 = .ok (.ldc 81, 2) := by decide +kernel
theorem dX7_yard_40 : decode cX7_yard 40 = .ok (.ireturn, 1) := by decide +kernel
theorem dX7_dead_0 : decode cX7_dead 0 = .ok (.aload_n 0, 1) := by decide +kernel
theorem dX7_dead_1 : decode cX7_dead 1 = .ok (.iload_n 1, 1) := by decide +kernel
theorem dX7_dead_2 : decode cX7_dead 2 = .ok (.invokevirtual 190, 3) := by decide +kernel
theorem dX7_dead_5 : decode cX7_dead 5 = .ok (.ifCond .ne 6, 3) := by decide +kernel
theorem dX7_dead_8 : decode cX7_dead 8 = .ok (.ldc 186, 2) := by decide +kernel
theorem dX7_dead_10 : decode cX7_dead 10 = .ok (.ireturn, 1) := by decide +kernel
theorem dX7_dead_11 : decode cX7_dead 11 = .ok (.iload_n 2, 1) := by decide +kernel
theorem dX7_dead_12 : decode cX7_dead 12 = .ok (.tableswitch 139 0 8 #[52, 62, 72, 79, 89, 99, 109, 119, 129], 52) := by decide +kernel
theorem dX7_dead_64 : decode cX7_dead 64 = .ok (.aload_n 0, 1) := by decide +kernel
theorem dX7_dead_65 : decode cX7_dead 65 = .ok (.getfield 7, 3) := by decide +kernel
theorem dX7_dead_68 : decode cX7_dead 68 = .ok (.bipush 8, 2) := by decide +kernel
theorem dX7_dead_70 : decode cX7_dead 70 = .ok (.iload_n 1, 1) := by decide +kernel
theorem dX7_dead_71 : decode cX7_dead 71 = .ok (.iadd, 1) := by decide +kernel
theorem dX7_dead_72 : decode cX7_dead 72 = .ok (.iaload, 1) := by decide +kernel
theorem dX7_dead_73 : decode cX7_dead 73 = .ok (.ireturn, 1) := by decide +kernel
theorem dX7_dead_74 : decode cX7_dead 74 = .ok (.aload_n 0, 1) := by decide +kernel
theorem dX7_dead_75 : decode cX7_dead 75 = .ok (.getfield 7, 3) := by decide +kernel
theorem dX7_dead_78 : decode cX7_dead 78 = .ok (.bipush 16, 2) := by decide +kernel
theorem dX7_dead_80 : decode cX7_dead 80 = .ok (.iload_n 1, 1) := by decide +kernel
theorem dX7_dead_81 : decode cX7_dead 81 = .ok (.iadd, 1) := by decide +kernel
theorem dX7_dead_82 : decode cX7_dead 82 = .ok (.iaload, 1) := by decide +kernel
theorem dX7_dead_83 : decode cX7_dead 83 = .ok (.ireturn, 1) := by decide +kernel
theorem dX7_dead_84 : decode cX7_dead 84 = .ok (.aload_n 0, 1) := by decide +kernel
theorem dX7_dead_85 : decode cX7_dead 85 = .ok (.getfield 33, 3) := by decide +kernel
theorem dX7_dead_88 : decode cX7_dead 88 = .ok (.iload_n 1, 1) := by decide +kernel
theorem dX7_dead_89 : decode cX7_dead 89 = .ok (.iaload, 1) := by decide +kernel
theorem dX7_dead_90 : decode cX7_dead 90 = .ok (.ireturn, 1) := by decide +kernel
theorem dX7_dead_91 : decode cX7_dead 91 = .ok (.aload_n 0, 1) := by decide +kernel
theorem dX7_dead_92 : decode cX7_dead 92 = .ok (.getfield 7, 3) := by decide +kernel
theorem dX7_dead_95 : decode cX7_dead 95 = .ok (.bipush 24, 2) := by decide +kernel
theorem dX7_dead_97 : decode cX7_dead 97 = .ok (.iload_n 1, 1) := by decide +kernel
theorem dX7_dead_98 : decode cX7_dead 98 = .ok (.iadd, 1) := by decide +kernel
theorem dX7_dead_99 : decode cX7_dead 99 = .ok (.iaload, 1) := by decide +kernel
theorem dX7_dead_100 : decode cX7_dead 100 = .ok (.ireturn, 1) := by decide +kernel
theorem dX7_dead_101 : decode cX7_dead 101 = .ok (.aload_n 0, 1) := by decide +kernel
theorem dX7_dead_102 : decode cX7_dead 102 = .ok (.getfield 7, 3) := by decide +kernel
theorem dX7_dead_105 : decode cX7_dead 105 = .ok (.bipush 32, 2) := by decide +kernel
theorem dX7_dead_107 : decode cX7_dead 107 = .ok (.iload_n 1, 1) := by decide +kernel
theorem dX7_dead_108 : decode cX7_dead 108 = .ok (.iadd, 1) := by decide +kernel
theorem dX7_dead_109 : decode cX7_dead 109 = .ok (.iaload, 1) := by decide +kernel
theorem dX7_dead_110 : decode cX7_dead 110 = .ok (.ireturn, 1) := by decide +kernel
theorem dX7_dead_111 : decode cX7_dead 111 = .ok (.aload_n 0, 1) := by decide +kernel
theorem dX7_dead_112 : decode cX7_dead 112 = .ok (.getfield 7, 3) := by decide +kernel
theorem dX7_dead_115 : decode cX7_dead 115 = .ok (.bipush 40, 2) := by decide +kernel
theorem dX7_dead_117 : decode cX7_dead 117 = .ok (.iload_n 1, 1) := by decide +kernel
theorem dX7_dead_118 : decode cX7_dead 118 = .ok (.iadd, 1) := by decide +kernel
theorem dX7_dead_119 : decode cX7_dead 119 = .ok (.iaload, 1) := by decide +kernel
theorem dX7_dead_120 : decode cX7_dead 120 = .ok (.ireturn, 1) := by decide +kernel
theorem dX7_dead_121 : decode cX7_dead 121 = .ok (.aload_n 0, 1) := by decide +kernel
theorem dX7_dead_122 : decode cX7_dead 122 = .ok (.getfield 7, 3) := by decide +kernel
theorem dX7_dead_125 : decode cX7_dead 125 = .ok (.bipush 48, 2) := by decide +kernel
theorem dX7_dead_127 : decode cX7_dead 127 = .ok (.iload_n 1, 1) := by decide +kernel
theorem dX7_dead_128 : decode cX7_dead 128 = .ok (.iadd, 1) := by decide +kernel
theorem dX7_dead_129 : decode cX7_dead 129 = .ok (.iaload, 1) := by decide +kernel
theorem dX7_dead_130 : decode cX7_dead 130 = .ok (.ireturn, 1) := by decide +kernel
theorem dX7_dead_131 : decode cX7_dead 131 = .ok (.aload_n 0, 1) := by decide +kernel
theorem dX7_dead_132 : decode cX7_dead 132 = .ok (.getfield 7, 3) := by decide +kernel
theorem dX7_dead_135 : decode cX7_dead 135 = .ok (.bipush 56, 2) := by decide +kernel
theorem dX7_dead_137 : decode cX7_dead 137 = .ok (.iload_n 1, 1) := by decide +kernel
theorem dX7_dead_138 : decode cX7_dead 138 = .ok (.iadd, 1) := by decide +kernel
theorem dX7_dead_139 : decode cX7_dead 139 = .ok (.iaload, 1) := by decide +kernel
theorem dX7_dead_140 : decode cX7_dead 140 = .ok (.ireturn, 1) := by decide +kernel
theorem dX7_dead_141 : decode cX7_dead 141 = .ok (.aload_n 0, 1) := by decide +kernel
theorem dX7_dead_142 : decode cX7_dead 142 = .ok (.getfield 7, 3) := by decide +kernel
theorem dX7_dead_145 : decode cX7_dead 145 = .ok (.bipush 64, 2) := by decide +kernel
theorem dX7_dead_147 : decode cX7_dead 147 = .ok (.iload_n 1, 1) := by decide +kernel
theorem dX7_dead_148 : decode cX7_dead 148 = .ok (.iadd, 1) := by decide +kernel
theorem dX7_dead_149 : decode cX7_dead 149 = .ok (.iaload, 1) := by decide +kernel
theorem dX7_dead_150 : decode cX7_dead 150 = .ok (.ireturn, 1) := by decide +kernel
theorem dX7_dead_151 : decode cX7_dead 151 = .ok (.ldc 81, 2) := by decide +kernel
theorem dX7_dead_153 : decode cX7_dead 153 = .ok (.ireturn, 1) := by decide +kernel
theorem dX7_order_0 : decode cX7_order 0 = .ok (.aload_n 0, 1) := by decide +kernel
theorem dX7_order_1 : decode cX7_order 1 = .ok (.iconst 0, 1) := by decide +kernel
theorem dX7_order_2 : decode cX7_order 2 = .ok (.iload_n 1, 1) := by decide +kernel
theorem dX7_order_3 : decode cX7_order 3 = .ok (.invokevirtual 193, 3) := by decide +kernel
theorem dX7_order_6 : decode cX7_order 6 = .ok (.ireturn, 1) := by decide +kernel
theorem dX7_letter_0 : decode cX7_letter 0 = .ok (.aload_n 0, 1) := by decide +kernel
theorem dX7_letter_1 : decode cX7_letter 1 = .ok (.iload_n 1, 1) := by decide +kernel
theorem dX7_letter_2 : decode cX7_letter 2 = .ok (.invokevirtual 190, 3) := by decide +kernel
theorem dX7_letter_5 : decode cX7_letter 5 = .ok (.ifCond .ne 6, 3) := by decide +kernel
theorem dX7_letter_8 : decode cX7_letter 8 = .ok (.ldc 186, 2) := by decide +kernel
theorem dX7_letter_10 : decode cX7_letter 10 = .ok (.ireturn, 1) := by decide +kernel
theorem dX7_letter_11 : decode cX7_letter 11 = .ok (.iload_n 2, 1) := by decide +kernel
theorem dX7_letter_12 : decode cX7_letter 12 = .ok (.i2l, 1) := by decide +kernel
theorem dX7_letter_13 : decode cX7_letter 13 = .ok (.lconst 0, 1) := by decide +kernel
theorem dX7_letter_14 : decode cX7_letter 14 = .ok (.ldc2_w 196, 3) := by decide +kernel
theorem dX7_letter_17 : decode cX7_letter 17 = .ok (.invokestatic 77, 3) := by decide +kernel
theorem dX7_letter_20 : decode cX7_letter 20 = .ok (.ifCond .ne 6, 3) := by decide +kernel
theorem dX7_letter_23 : decode cX7_letter 23 = .ok (.ldc 81, 2) := by decide +kernel
theorem dX7_letter_25 : decode cX7_letter 25 = .ok (.ireturn, 1) := by decide +kernel
theorem dX7_letter_26 : decode cX7_letter 26 = .ok (.aload_n 0, 1) := by decide +kernel
theorem dX7_letter_27 : decode cX7_letter 27 = .ok (.getfield 7, 3) := by decide +kernel
theorem dX7_letter_30 : decode cX7_letter 30 = .ok (.bipush 8, 2) := by decide +kernel
theorem dX7_letter_32 : decode cX7_letter 32 = .ok (.iload_n 1, 1) := by decide +kernel
theorem dX7_letter_33 : decode cX7_letter 33 = .ok (.iadd, 1) := by decide +kernel
theorem dX7_letter_34 : decode cX7_letter 34 = .ok (.iaload, 1) := by decide +kernel
theorem dX7_letter_35 : decode cX7_letter 35 = .ok (.istore_n 3, 1) := by decide +kernel
theorem dX7_letter_36 : decode cX7_letter 36 = .ok (.aload_n 0, 1) := by decide +kernel
theorem dX7_letter_37 : decode cX7_letter 37 = .ok (.getfield 7, 3) := by decide +kernel
theorem dX7_letter_40 : decode cX7_letter 40 = .ok (.bipush 8, 2) := by decide +kernel
theorem dX7_letter_42 : decode cX7_letter 42 = .ok (.iload_n 1, 1) := by decide +kernel
theorem dX7_letter_43 : decode cX7_letter 43 = .ok (.iadd, 1) := by decide +kernel
theorem dX7_letter_44 : decode cX7_letter 44 = .ok (.iload_n 2, 1) := by decide +kernel
theorem dX7_letter_45 : decode cX7_letter 45 = .ok (.iastore, 1) := by decide +kernel
theorem dX7_letter_46 : decode cX7_letter 46 = .ok (.iload_n 3, 1) := by decide +kernel
theorem dX7_letter_47 : decode cX7_letter 47 = .ok (.ireturn, 1) := by decide +kernel
theorem dX7_gift_0 : decode cX7_gift 0 = .ok (.aload_n 0, 1) := by decide +kernel
theorem dX7_gift_1 : decode cX7_gift 1 = .ok (.iload_n 1, 1) := by decide +kernel
theorem dX7_gift_2 : decode cX7_gift 2 = .ok (.invokevirtual 190, 3) := by decide +kernel
theorem dX7_gift_5 : decode cX7_gift 5 = .ok (.ifCond .ne 6, 3) := by decide +kernel
theorem dX7_gift_8 : decode cX7_gift 8 = .ok (.ldc 186, 2) := by decide +kernel
