theorem d_Md_resolveAgainst_0 : decode c_Md_resolveAgainst 0 = .ok (.aload_n 0, 1) := by decide +kernel
theorem d_Md_resolveAgainst_1 : decode c_Md_resolveAgainst 1 = .ok (.aload_n 0, 1) := by decide +kernel
theorem d_Md_resolveAgainst_2 : decode c_Md_resolveAgainst 2 = .ok (.getfield 31, 3) := by decide +kernel
theorem d_Md_resolveAgainst_5 : decode c_Md_resolveAgainst 5 = .ok (.invokevirtual 149, 3) := by decide +kernel
theorem d_Md_resolveAgainst_8 : decode c_Md_resolveAgainst 8 = .ok (.iconst 0, 1) := by decide +kernel
theorem d_Md_resolveAgainst_9 : decode c_Md_resolveAgainst 9 = .ok (.istore_n 1, 1) := by decide +kernel
theorem d_Md_resolveAgainst_10 : decode c_Md_resolveAgainst 10 = .ok (.iload_n 1, 1) := by decide +kernel
theorem d_Md_resolveAgainst_11 : decode c_Md_resolveAgainst 11 = .ok (.iconst 5, 1) := by decide +kernel
theorem d_Md_resolveAgainst_12 : decode c_Md_resolveAgainst 12 = .ok (.if_icmp .ge 33, 3) := by decide +kernel
theorem d_Md_resolveAgainst_15 : decode c_Md_resolveAgainst 15 = .ok (.aload_n 0, 1) := by decide +kernel
theorem d_Md_resolveAgainst_16 : decode c_Md_resolveAgainst 16 = .ok (.getfield 62, 3) := by decide +kernel
theorem d_Md_resolveAgainst_19 : decode c_Md_resolveAgainst 19 = .ok (.iload_n 1, 1) := by decide +kernel
theorem d_Md_resolveAgainst_20 : decode c_Md_resolveAgainst 20 = .ok (.aload_n 0, 1) := by decide +kernel
theorem d_Md_resolveAgainst_21 : decode c_Md_resolveAgainst 21 = .ok (.getfield 56, 3) := by decide +kernel
theorem d_Md_resolveAgainst_24 : decode c_Md_resolveAgainst 24 = .ok (.iload_n 1, 1) := by decide +kernel
theorem d_Md_resolveAgainst_25 : decode c_Md_resolveAgainst 25 = .ok (.iaload, 1) := by decide +kernel
theorem d_Md_resolveAgainst_26 : decode c_Md_resolveAgainst 26 = .ok (.iastore, 1) := by decide +kernel
theorem d_Md_resolveAgainst_27 : decode c_Md_resolveAgainst 27 = .ok (.aload_n 0, 1) := by decide +kernel
theorem d_Md_resolveAgainst_28 : decode c_Md_resolveAgainst 28 = .ok (.getfield 65, 3) := by decide +kernel
theorem d_Md_resolveAgainst_31 : decode c_Md_resolveAgainst 31 = .ok (.iload_n 1, 1) := by decide +kernel
theorem d_Md_resolveAgainst_32 : decode c_Md_resolveAgainst 32 = .ok (.aload_n 0, 1) := by decide +kernel
theorem d_Md_resolveAgainst_33 : decode c_Md_resolveAgainst 33 = .ok (.getfield 59, 3) := by decide +kernel
theorem d_Md_resolveAgainst_36 : decode c_Md_resolveAgainst 36 = .ok (.iload_n 1, 1) := by decide +kernel
theorem d_Md_resolveAgainst_37 : decode c_Md_resolveAgainst 37 = .ok (.iaload, 1) := by decide +kernel
theorem d_Md_resolveAgainst_38 : decode c_Md_resolveAgainst 38 = .ok (.iastore, 1) := by decide +kernel
theorem d_Md_resolveAgainst_39 : decode c_Md_resolveAgainst 39 = .ok (.iinc 1 1, 3) := by decide +kernel
theorem d_Md_resolveAgainst_42 : decode c_Md_resolveAgainst 42 = .ok (.goto (-32), 3) := by decide +kernel
theorem d_Md_resolveAgainst_45 : decode c_Md_resolveAgainst 45 = .ok (.aload_n 0, 1) := by decide +kernel
theorem d_Md_resolveAgainst_46 : decode c_Md_resolveAgainst 46 = .ok (.aload_n 0, 1) := by decide +kernel
theorem d_Md_resolveAgainst_47 : decode c_Md_resolveAgainst 47 = .ok (.getfield 90, 3) := by decide +kernel
theorem d_Md_resolveAgainst_50 : decode c_Md_resolveAgainst 50 = .ok (.putfield 109, 3) := by decide +kernel
theorem d_Md_resolveAgainst_53 : decode c_Md_resolveAgainst 53 = .ok (.iconst 0, 1) := by decide +kernel
theorem d_Md_resolveAgainst_54 : decode c_Md_resolveAgainst 54 = .ok (.istore_n 1, 1) := by decide +kernel
theorem d_Md_resolveAgainst_55 : decode c_Md_resolveAgainst 55 = .ok (.iload_n 1, 1) := by decide +kernel
theorem d_Md_resolveAgainst_56 : decode c_Md_resolveAgainst 56 = .ok (.aload_n 0, 1) := by decide +kernel
theorem d_Md_resolveAgainst_57 : decode c_Md_resolveAgainst 57 = .ok (.getfield 90, 3) := by decide +kernel
theorem d_Md_resolveAgainst_60 : decode c_Md_resolveAgainst 60 = .ok (.if_icmp .ge 21, 3) := by decide +kernel
theorem d_Md_resolveAgainst_63 : decode c_Md_resolveAgainst 63 = .ok (.aload_n 0, 1) := by decide +kernel
theorem d_Md_resolveAgainst_64 : decode c_Md_resolveAgainst 64 = .ok (.getfield 53, 3) := by decide +kernel
theorem d_Md_resolveAgainst_67 : decode c_Md_resolveAgainst 67 = .ok (.iload_n 1, 1) := by decide +kernel
theorem d_Md_resolveAgainst_68 : decode c_Md_resolveAgainst 68 = .ok (.aload_n 0, 1) := by decide +kernel
theorem d_Md_resolveAgainst_69 : decode c_Md_resolveAgainst 69 = .ok (.getfield 7, 3) := by decide +kernel
theorem d_Md_resolveAgainst_72 : decode c_Md_resolveAgainst 72 = .ok (.iload_n 1, 1) := by decide +kernel
theorem d_Md_resolveAgainst_73 : decode c_Md_resolveAgainst 73 = .ok (.iaload, 1) := by decide +kernel
theorem d_Md_resolveAgainst_74 : decode c_Md_resolveAgainst 74 = .ok (.iastore, 1) := by decide +kernel
theorem d_Md_resolveAgainst_75 : decode c_Md_resolveAgainst 75 = .ok (.iinc 1 1, 3) := by decide +kernel
theorem d_Md_resolveAgainst_78 : decode c_Md_resolveAgainst 78 = .ok (.goto (-23), 3) := by decide +kernel
theorem d_Md_resolveAgainst_81 : decode c_Md_resolveAgainst 81 = .ok (.aload_n 0, 1) := by decide +kernel
theorem d_Md_resolveAgainst_82 : decode c_Md_resolveAgainst 82 = .ok (.invokevirtual 123, 3) := by decide +kernel
theorem d_Md_resolveAgainst_85 : decode c_Md_resolveAgainst 85 = .ok (.aload_n 0, 1) := by decide +kernel
theorem d_Md_resolveAgainst_86 : decode c_Md_resolveAgainst 86 = .ok (.getfield 56, 3) := by decide +kernel
theorem d_Md_resolveAgainst_89 : decode c_Md_resolveAgainst 89 = .ok (.iconst 0, 1) := by decide +kernel
theorem d_Md_resolveAgainst_90 : decode c_Md_resolveAgainst 90 = .ok (.iaload, 1) := by decide +kernel
theorem d_Md_resolveAgainst_91 : decode c_Md_resolveAgainst 91 = .ok (.ifCond .lt 7, 3) := by decide +kernel
theorem d_Md_resolveAgainst_94 : decode c_Md_resolveAgainst 94 = .ok (.iconst 1, 1) := by decide +kernel
theorem d_Md_resolveAgainst_95 : decode c_Md_resolveAgainst 95 = .ok (.goto 4, 3) := by decide +kernel
theorem d_Md_resolveAgainst_98 : decode c_Md_resolveAgainst 98 = .ok (.iconst 0, 1) := by decide +kernel
theorem d_Md_resolveAgainst_99 : decode c_Md_resolveAgainst 99 = .ok (.istore_n 1, 1) := by decide +kernel
theorem d_Md_resolveAgainst_100 : decode c_Md_resolveAgainst 100 = .ok (.iload_n 1, 1) := by decide +kernel
theorem d_Md_resolveAgainst_101 : decode c_Md_resolveAgainst 101 = .ok (.ifCond .ne 12, 3) := by decide +kernel
theorem d_Md_resolveAgainst_104 : decode c_Md_resolveAgainst 104 = .ok (.aload_n 0, 1) := by decide +kernel
theorem d_Md_resolveAgainst_105 : decode c_Md_resolveAgainst 105 = .ok (.getfield 56, 3) := by decide +kernel
theorem d_Md_resolveAgainst_108 : decode c_Md_resolveAgainst 108 = .ok (.iconst 1, 1) := by decide +kernel
theorem d_Md_resolveAgainst_109 : decode c_Md_resolveAgainst 109 = .ok (.iaload, 1) := by decide +kernel
theorem d_Md_resolveAgainst_110 : decode c_Md_resolveAgainst 110 = .ok (.ifCond .lt 7, 3) := by decide +kernel
theorem d_Md_resolveAgainst_113 : decode c_Md_resolveAgainst 113 = .ok (.iconst 1, 1) := by decide +kernel
theorem d_Md_resolveAgainst_114 : decode c_Md_resolveAgainst 114 = .ok (.goto 4, 3) := by decide +kernel
theorem d_Md_resolveAgainst_117 : decode c_Md_resolveAgainst 117 = .ok (.iconst 0, 1) := by decide +kernel
theorem d_Md_resolveAgainst_118 : decode c_Md_resolveAgainst 118 = .ok (.istore_n 2, 1) := by decide +kernel
theorem d_Md_resolveAgainst_119 : decode c_Md_resolveAgainst 119 = .ok (.iload_n 1, 1) := by decide +kernel
theorem d_Md_resolveAgainst_120 : decode c_Md_resolveAgainst 120 = .ok (.ifCond .eq 22, 3) := by decide +kernel
theorem d_Md_resolveAgainst_123 : decode c_Md_resolveAgainst 123 = .ok (.aload_n 0, 1) := by decide +kernel
theorem d_Md_resolveAgainst_124 : decode c_Md_resolveAgainst 124 = .ok (.aload_n 0, 1) := by decide +kernel
theorem d_Md_resolveAgainst_125 : decode c_Md_resolveAgainst 125 = .ok (.getfield 56, 3) := by decide +kernel
theorem d_Md_resolveAgainst_128 : decode c_Md_resolveAgainst 128 = .ok (.iconst 0, 1) := by decide +kernel
theorem d_Md_resolveAgainst_129 : decode c_Md_resolveAgainst 129 = .ok (.iaload, 1) := by decide +kernel
theorem d_Md_resolveAgainst_130 : decode c_Md_resolveAgainst 130 = .ok (.aload_n 0, 1) := by decide +kernel
theorem d_Md_resolveAgainst_131 : decode c_Md_resolveAgainst 131 = .ok (.getfield 59, 3) := by decide +kernel
theorem d_Md_resolveAgainst_134 : decode c_Md_resolveAgainst 134 = .ok (.iconst 0, 1) := by decide +kernel
theorem d_Md_resolveAgainst_135 : decode c_Md_resolveAgainst 135 = .ok (.iaload, 1) := by decide +kernel
theorem d_Md_resolveAgainst_136 : decode c_Md_resolveAgainst 136 = .ok (.invokevirtual 152, 3) := by decide +kernel
theorem d_Md_resolveAgainst_139 : decode c_Md_resolveAgainst 139 = .ok (.goto 19, 3) := by decide +kernel
theorem d_Md_resolveAgainst_142 : decode c_Md_resolveAgainst 142 = .ok (.aload_n 0, 1) := by decide +kernel
theorem d_Md_resolveAgainst_143 : decode c_Md_resolveAgainst 143 = .ok (.aload_n 0, 1) := by decide +kernel
theorem d_Md_resolveAgainst_144 : decode c_Md_resolveAgainst 144 = .ok (.getfield 62, 3) := by decide +kernel
theorem d_Md_resolveAgainst_147 : decode c_Md_resolveAgainst 147 = .ok (.iconst 0, 1) := by decide +kernel
theorem d_Md_resolveAgainst_148 : decode c_Md_resolveAgainst 148 = .ok (.iaload, 1) := by decide +kernel
theorem d_Md_resolveAgainst_149 : decode c_Md_resolveAgainst 149 = .ok (.aload_n 0, 1) := by decide +kernel
theorem d_Md_resolveAgainst_150 : decode c_Md_resolveAgainst 150 = .ok (.getfield 65, 3) := by decide +kernel
theorem d_Md_resolveAgainst_153 : decode c_Md_resolveAgainst 153 = .ok (.iconst 0, 1) := by decide +kernel
theorem d_Md_resolveAgainst_154 : decode c_Md_resolveAgainst 154 = .ok (.iaload, 1) := by decide +kernel
theorem d_Md_resolveAgainst_155 : decode c_Md_resolveAgainst 155 = .ok (.invokevirtual 156, 3) := by decide +kernel
theorem d_Md_resolveAgainst_158 : decode c_Md_resolveAgainst 158 = .ok (.aload_n 0, 1) := by decide +kernel
theorem d_Md_resolveAgainst_159 : decode c_Md_resolveAgainst 159 = .ok (.bipush 58, 2) := by decide +kernel
theorem d_Md_resolveAgainst_161 : decode c_Md_resolveAgainst 161 = .ok (.invokevirtual 146, 3) := by decide +kernel
theorem d_Md_resolveAgainst_164 : decode c_Md_resolveAgainst 164 = .ok (.iload_n 2, 1) := by decide +kernel
theorem d_Md_resolveAgainst_165 : decode c_Md_resolveAgainst 165 = .ok (.istore_n 3, 1) := by decide +kernel
theorem d_Md_resolveAgainst_166 : decode c_Md_resolveAgainst 166 = .ok (.iload_n 3, 1) := by decide +kernel
theorem d_Md_resolveAgainst_167 : decode c_Md_resolveAgainst 167 = .ok (.ifCond .eq 39, 3) := by decide +kernel
theorem d_Md_resolveAgainst_170 : decode c_Md_resolveAgainst 170 = .ok (.aload_n 0, 1) := by decide +kernel
theorem d_Md_resolveAgainst_171 : decode c_Md_resolveAgainst 171 = .ok (.getfield 56, 3) := by decide +kernel
theorem d_Md_resolveAgainst_174 : decode c_Md_resolveAgainst 174 = .ok (.iconst 1, 1) := by decide +kernel
theorem d_Md_resolveAgainst_175 : decode c_Md_resolveAgainst 175 = .ok (.iaload, 1) := by decide +kernel
theorem d_Md_resolveAgainst_176 : decode c_Md_resolveAgainst 176 = .ok (.ifCond .lt 30, 3) := by decide +kernel
theorem d_Md_resolveAgainst_179 : decode c_Md_resolveAgainst 179 = .ok (.aload_n 0, 1) := by decide +kernel
theorem d_Md_resolveAgainst_180 : decode c_Md_resolveAgainst 180 = .ok (.bipush 47, 2) := by decide +kernel
theorem d_Md_resolveAgainst_182 : decode c_Md_resolveAgainst 182 = .ok (.bipush 47, 2) := by decide +kernel
theorem d_Md_resolveAgainst_184 : decode c_Md_resolveAgainst 184 = .ok (.invokevirtual 159, 3) := by decide +kernel
theorem d_Md_resolveAgainst_187 : decode c_Md_resolveAgainst 187 = .ok (.aload_n 0, 1) := by decide +kernel
theorem d_Md_resolveAgainst_188 : decode c_Md_resolveAgainst 188 = .ok (.aload_n 0, 1) := by decide +kernel
theorem d_Md_resolveAgainst_189 : decode c_Md_resolveAgainst 189 = .ok (.getfield 56, 3) := by decide +kernel
theorem d_Md_resolveAgainst_192 : decode c_Md_resolveAgainst 192 = .ok (.iconst 1, 1) := by decide +kernel
theorem d_Md_resolveAgainst_193 : decode c_Md_resolveAgainst 193 = .ok (.iaload, 1) := by decide +kernel
theorem d_Md_resolveAgainst_194 : decode c_Md_resolveAgainst 194 = .ok (.aload_n 0, 1) := by decide +kernel
theorem d_Md_resolveAgainst_195 : decode c_Md_resolveAgainst 195 = .ok (.getfield 59, 3) := by decide +kernel
theorem d_Md_resolveAgainst_198 : decode c_Md_resolveAgainst 198 = .ok (.iconst 1, 1) := by decide +kernel
theorem d_Md_resolveAgainst_199 : decode c_Md_resolveAgainst 199 = .ok (.iaload, 1) := by decide +kernel
theorem d_Md_resolveAgainst_200 : decode c_Md_resolveAgainst 200 = .ok (.invokevirtual 152, 3) := by decide +kernel
theorem d_Md_resolveAgainst_203 : decode c_Md_resolveAgainst 203 = .ok (.goto 40, 3) := by decide +kernel
theorem d_Md_resolveAgainst_206 : decode c_Md_resolveAgainst 206 = .ok (.iload_n 3, 1) := by decide +kernel
theorem d_Md_resolveAgainst_207 : decode c_Md_resolveAgainst 207 = .ok (.ifCond .ne 36, 3) := by decide +kernel
theorem d_Md_resolveAgainst_210 : decode c_Md_resolveAgainst 210 = .ok (.aload_n 0, 1) := by decide +kernel
theorem d_Md_resolveAgainst_211 : decode c_Md_resolveAgainst 211 = .ok (.getfield 62, 3) := by decide +kernel
theorem d_Md_resolveAgainst_214 : decode c_Md_resolveAgainst 214 = .ok (.iconst 1, 1) := by decide +kernel
theorem d_Md_resolveAgainst_215 : decode c_Md_resolveAgainst 215 = .ok (.iaload, 1) := by decide +kernel
theorem d_Md_resolveAgainst_216 : decode c_Md_resolveAgainst 216 = .ok (.ifCond .lt 27, 3) := by decide +kernel
theorem d_Md_resolveAgainst_219 : decode c_Md_resolveAgainst 219 = .ok (.aload_n 0, 1) := by decide +kernel
theorem d_Md_resolveAgainst_220 : decode c_Md_resolveAgainst 220 = .ok (.bipush 47, 2) := by decide +kernel
theorem d_Md_resolveAgainst_222 : decode c_Md_resolveAgainst 222 = .ok (.bipush 47, 2) := by decide +kernel
theorem d_Md_resolveAgainst_224 : decode c_Md_resolveAgainst 224 = .ok (.invokevirtual 159, 3) := by decide +kernel
theorem d_Md_resolveAgainst_227 : decode c_Md_resolveAgainst 227 = .ok (.aload_n 0, 1) := by decide +kernel
theorem d_Md_resolveAgainst_228 : decode c_Md_resolveAgainst 228 = .ok (.aload_n 0, 1) := by decide +kernel
theorem d_Md_resolveAgainst_229 : decode c_Md_resolveAgainst 229 = .ok (.getfield 62, 3) := by decide +kernel
theorem d_Md_resolveAgainst_232 : decode c_Md_resolveAgainst 232 = .ok (.iconst 1, 1) := by decide +kernel
theorem d_Md_resolveAgainst_233 : decode c_Md_resolveAgainst 233 = .ok (.iaload, 1) := by decide +kernel
theorem d_Md_resolveAgainst_234 : decode c_Md_resolveAgainst 234 = .ok (.aload_n 0, 1) := by decide +kernel
theorem d_Md_resolveAgainst_235 : decode c_Md_resolveAgainst 235 = .ok (.getfield 65, 3) := by decide +kernel
theorem d_Md_resolveAgainst_238 : decode c_Md_resolveAgainst 238 = .ok (.iconst 1, 1) := by decide +kernel
theorem d_Md_resolveAgainst_239 : decode c_Md_resolveAgainst 239 = .ok (.iaload, 1) := by decide +kernel
theorem d_Md_resolveAgainst_240 : decode c_Md_resolveAgainst 240 = .ok (.invokevirtual 156, 3) := by decide +kernel
theorem d_Md_resolveAgainst_243 : decode c_Md_resolveAgainst 243 = .ok (.aload_n 0, 1) := by decide +kernel
theorem d_Md_resolveAgainst_244 : decode c_Md_resolveAgainst 244 = .ok (.getfield 56, 3) := by decide +kernel
theorem d_Md_resolveAgainst_247 : decode c_Md_resolveAgainst 247 = .ok (.iconst 2, 1) := by decide +kernel
theorem d_Md_resolveAgainst_248 : decode c_Md_resolveAgainst 248 = .ok (.iaload, 1) := by decide +kernel
theorem d_Md_resolveAgainst_249 : decode c_Md_resolveAgainst 249 = .ok (.aload_n 0, 1) := by decide +kernel
theorem d_Md_resolveAgainst_250 : decode c_Md_resolveAgainst 250 = .ok (.getfield 59, 3) := by decide +kernel
theorem d_Md_resolveAgainst_253 : decode c_Md_resolveAgainst 253 = .ok (.iconst 2, 1) := by decide +kernel
theorem d_Md_resolveAgainst_254 : decode c_Md_resolveAgainst 254 = .ok (.iaload, 1) := by decide +kernel
theorem d_Md_resolveAgainst_255 : decode c_Md_resolveAgainst 255 = .ok (.if_icmp .ne 7, 3) := by decide +kernel
theorem d_Md_resolveAgainst_258 : decode c_Md_resolveAgainst 258 = .ok (.iconst 1, 1) := by decide +kernel
theorem d_Md_resolveAgainst_259 : decode c_Md_resolveAgainst 259 = .ok (.goto 4, 3) := by decide +kernel
theorem d_Md_resolveAgainst_262 : decode c_Md_resolveAgainst 262 = .ok (.iconst 0, 1) := by decide +kernel
theorem d_Md_resolveAgainst_263 : decode c_Md_resolveAgainst 263 = .ok (.istore 4, 2) := by decide +kernel
theorem d_Md_resolveAgainst_265 : decode c_Md_resolveAgainst 265 = .ok (.iload_n 3, 1) := by decide +kernel
theorem d_Md_resolveAgainst_266 : decode c_Md_resolveAgainst 266 = .ok (.ifCond .ne 27, 3) := by decide +kernel
theorem d_Md_resolveAgainst_269 : decode c_Md_resolveAgainst 269 = .ok (.iload 4, 2) := by decide +kernel
theorem d_Md_resolveAgainst_271 : decode c_Md_resolveAgainst 271 = .ok (.ifCond .eq 22, 3) := by decide +kernel
theorem d_Md_resolveAgainst_274 : decode c_Md_resolveAgainst 274 = .ok (.aload_n 0, 1) := by decide +kernel
theorem d_Md_resolveAgainst_275 : decode c_Md_resolveAgainst 275 = .ok (.aload_n 0, 1) := by decide +kernel
theorem d_Md_resolveAgainst_276 : decode c_Md_resolveAgainst 276 = .ok (.getfield 62, 3) := by decide +kernel
theorem d_Md_resolveAgainst_279 : decode c_Md_resolveAgainst 279 = .ok (.iconst 2, 1) := by decide +kernel
theorem d_Md_resolveAgainst_280 : decode c_Md_resolveAgainst 280 = .ok (.iaload, 1) := by decide +kernel
theorem d_Md_resolveAgainst_281 : decode c_Md_resolveAgainst 281 = .ok (.aload_n 0, 1) := by decide +kernel
theorem d_Md_resolveAgainst_282 : decode c_Md_resolveAgainst 282 = .ok (.getfield 65, 3) := by decide +kernel
theorem d_Md_resolveAgainst_285 : decode c_Md_resolveAgainst 285 = .ok (.iconst 2, 1) := by decide +kernel
theorem d_Md_resolveAgainst_286 : decode c_Md_resolveAgainst 286 = .ok (.iaload, 1) := by decide +kernel
theorem d_Md_resolveAgainst_287 : decode c_Md_resolveAgainst 287 = .ok (.invokevirtual 156, 3) := by decide +kernel
theorem d_Md_resolveAgainst_290 : decode c_Md_resolveAgainst 290 = .ok (.goto 52, 3) := by decide +kernel
theorem d_Md_resolveAgainst_293 : decode c_Md_resolveAgainst 293 = .ok (.aload_n 0, 1) := by decide +kernel
theorem d_Md_resolveAgainst_294 : decode c_Md_resolveAgainst 294 = .ok (.iconst 0, 1) := by decide +kernel
theorem d_Md_resolveAgainst_295 : decode c_Md_resolveAgainst 295 = .ok (.putfield 129, 3) := by decide +kernel
theorem d_Md_resolveAgainst_298 : decode c_Md_resolveAgainst 298 = .ok (.iload_n 3, 1) := by decide +kernel
theorem d_Md_resolveAgainst_299 : decode c_Md_resolveAgainst 299 = .ok (.ifCond .ne 23, 3) := by decide +kernel
theorem d_Md_resolveAgainst_302 : decode c_Md_resolveAgainst 302 = .ok (.aload_n 0, 1) := by decide +kernel
theorem d_Md_resolveAgainst_303 : decode c_Md_resolveAgainst 303 = .ok (.getfield 53, 3) := by decide +kernel
theorem d_Md_resolveAgainst_306 : decode c_Md_resolveAgainst 306 = .ok (.aload_n 0, 1) := by decide +kernel
theorem d_Md_resolveAgainst_307 : decode c_Md_resolveAgainst 307 = .ok (.getfield 56, 3) := by decide +kernel
theorem d_Md_resolveAgainst_310 : decode c_Md_resolveAgainst 310 = .ok (.iconst 2, 1) := by decide +kernel
theorem d_Md_resolveAgainst_311 : decode c_Md_resolveAgainst 311 = .ok (.iaload, 1) := by decide +kernel
theorem d_Md_resolveAgainst_312 : decode c_Md_resolveAgainst 312 = .ok (.iaload, 1) := by decide +kernel
theorem d_Md_resolveAgainst_313 : decode c_Md_resolveAgainst 313 = .ok (.bipush 47, 2) := by decide +kernel
theorem d_Md_resolveAgainst_315 : decode c_Md_resolveAgainst 315 = .ok (.if_icmp .eq 7, 3) := by decide +kernel
theorem d_Md_resolveAgainst_318 : decode c_Md_resolveAgainst 318 = .ok (.aload_n 0, 1) := by decide +kernel
theorem d_Md_resolveAgainst_319 : decode c_Md_resolveAgainst 319 = .ok (.invokevirtual 162, 3) := by decide +kernel
theorem d_Md_resolveAgainst_322 : decode c_Md_resolveAgainst 322 = .ok (.aload_n 0, 1) := by decide +kernel
theorem d_Md_resolveAgainst_323 : decode c_Md_resolveAgainst 323 = .ok (.aload_n 0, 1) := by decide +kernel
theorem d_Md_resolveAgainst_324 : decode c_Md_resolveAgainst 324 = .ok (.getfield 56, 3) := by decide +kernel
theorem d_Md_resolveAgainst_327 : decode c_Md_resolveAgainst 327 = .ok (.iconst 2, 1) := by decide +kernel
theorem d_Md_resolveAgainst_328 : decode c_Md_resolveAgainst 328 = .ok (.iaload, 1) := by decide +kernel
theorem d_Md_resolveAgainst_329 : decode c_Md_resolveAgainst 329 = .ok (.aload_n 0, 1) := by decide +kernel
theorem d_Md_resolveAgainst_330 : decode c_Md_resolveAgainst 330 = .ok (.getfield 59, 3) := by decide +kernel
theorem d_Md_resolveAgainst_333 : decode c_Md_resolveAgainst 333 = .ok (.iconst 2, 1) := by decide +kernel
theorem d_Md_resolveAgainst_334 : decode c_Md_resolveAgainst 334 = .ok (.iaload, 1) := by decide +kernel
theorem d_Md_resolveAgainst_335 : decode c_Md_resolveAgainst 335 = .ok (.invokevirtual 165, 3) := by decide +kernel
theorem d_Md_resolveAgainst_338 : decode c_Md_resolveAgainst 338 = .ok (.aload_n 0, 1) := by decide +kernel
theorem d_Md_resolveAgainst_339 : decode c_Md_resolveAgainst 339 = .ok (.invokevirtual 168, 3) := by decide +kernel
theorem d_Md_resolveAgainst_342 : decode c_Md_resolveAgainst 342 = .ok (.aload_n 0, 1) := by decide +kernel
theorem d_Md_resolveAgainst_343 : decode c_Md_resolveAgainst 343 = .ok (.getfield 56, 3) := by decide +kernel
theorem d_Md_resolveAgainst_346 : decode c_Md_resolveAgainst 346 = .ok (.iconst 3, 1) := by decide +kernel
theorem d_Md_resolveAgainst_347 : decode c_Md_resolveAgainst 347 = .ok (.iaload, 1) := by decide +kernel
theorem d_Md_resolveAgainst_348 : decode c_Md_resolveAgainst 348 = .ok (.ifCond .lt 29, 3) := by decide +kernel
theorem d_Md_resolveAgainst_351 : decode c_Md_resolveAgainst 351 = .ok (.aload_n 0, 1) := by decide +kernel
theorem d_Md_resolveAgainst_352 : decode c_Md_resolveAgainst 352 = .ok (.bipush 63, 2) := by decide +kernel
theorem d_Md_resolveAgainst_354 : decode c_Md_resolveAgainst 354 = .ok (.iconst (-1), 1) := by decide +kernel
theorem d_Md_resolveAgainst_355 : decode c_Md_resolveAgainst 355 = .ok (.invokevirtual 159, 3) := by decide +kernel
theorem d_Md_resolveAgainst_358 : decode c_Md_resolveAgainst 358 = .ok (.aload_n 0, 1) := by decide +kernel
theorem d_Md_resolveAgainst_359 : decode c_Md_resolveAgainst 359 = .ok (.aload_n 0, 1) := by decide +kernel
theorem d_Md_resolveAgainst_360 : decode c_Md_resolveAgainst 360 = .ok (.getfield 56, 3) := by decide +kernel
theorem d_Md_resolveAgainst_363 : decode c_Md_resolveAgainst 363 = .ok (.iconst 3, 1) := by decide +kernel
theorem d_Md_resolveAgainst_364 : decode c_Md_resolveAgainst 364 = .ok (.iaload, 1) := by decide +kernel
theorem d_Md_resolveAgainst_365 : decode c_Md_resolveAgainst 365 = .ok (.aload_n 0, 1) := by decide +kernel
theorem d_Md_resolveAgainst_366 : decode c_Md_resolveAgainst 366 = .ok (.getfield 59, 3) := by decide +kernel
theorem d_Md_resolveAgainst_369 : decode c_Md_resolveAgainst 369 = .ok (.iconst 3, 1) := by decide +kernel
theorem d_Md_resolveAgainst_370 : decode c_Md_resolveAgainst 370 = .ok (.iaload, 1) := by decide +kernel
theorem d_Md_resolveAgainst_371 : decode c_Md_resolveAgainst 371 = .ok (.invokevirtual 152, 3) := by decide +kernel
theorem d_Md_resolveAgainst_374 : decode c_Md_resolveAgainst 374 = .ok (.goto 44, 3) := by decide +kernel
theorem d_Md_resolveAgainst_377 : decode c_Md_resolveAgainst 377 = .ok (.iload_n 3, 1) := by decide +kernel
theorem d_Md_resolveAgainst_378 : decode c_Md_resolveAgainst 378 = .ok (.ifCond .ne 40, 3) := by decide +kernel
theorem d_Md_resolveAgainst_381 : decode c_Md_resolveAgainst 381 = .ok (.iload 4, 2) := by decide +kernel
theorem d_Md_resolveAgainst_383 : decode c_Md_resolveAgainst 383 = .ok (.ifCond .eq 35, 3) := by decide +kernel
theorem d_Md_resolveAgainst_386 : decode c_Md_resolveAgainst 386 = .ok (.aload_n 0, 1) := by decide +kernel
theorem d_Md_resolveAgainst_387 : decode c_Md_resolveAgainst 387 = .ok (.getfield 62, 3) := by decide +kernel
theorem d_Md_resolveAgainst_390 : decode c_Md_resolveAgainst 390 = .ok (.iconst 3, 1) := by decide +kernel
theorem d_Md_resolveAgainst_391 : decode c_Md_resolveAgainst 391 = .ok (.iaload, 1) := by decide +kernel
theorem d_Md_resolveAgainst_392 : decode c_Md_resolveAgainst 392 = .ok (.ifCond .lt 26, 3) := by decide +kernel
theorem d_Md_resolveAgainst_395 : decode c_Md_resolveAgainst 395 = .ok (.aload_n 0, 1) := by decide +kernel
theorem d_Md_resolveAgainst_396 : decode c_Md_resolveAgainst 396 = .ok (.bipush 63, 2) := by decide +kernel
theorem d_Md_resolveAgainst_398 : decode c_Md_resolveAgainst 398 = .ok (.iconst (-1), 1) := by decide +kernel
theorem d_Md_resolveAgainst_399 : decode c_Md_resolveAgainst 399 = .ok (.invokevirtual 159, 3) := by decide +kernel
theorem d_Md_resolveAgainst_402 : decode c_Md_resolveAgainst 402 = .ok (.aload_n 0, 1) := by decide +kernel
theorem d_Md_resolveAgainst_403 : decode c_Md_resolveAgainst 403 = .ok (.aload_n 0, 1) := by decide +kernel
theorem d_Md_resolveAgainst_404 : decode c_Md_resolveAgainst 404 = .ok (.getfield 62, 3) := by decide +kernel
theorem d_Md_resolveAgainst_407 : decode c_Md_resolveAgainst 407 = .ok (.iconst 3, 1) := by decide +kernel
theorem d_Md_resolveAgainst_408 : decode c_Md_resolveAgainst 408 = .ok (.iaload, 1) := by decide +kernel
theorem d_Md_resolveAgainst_409 : decode c_Md_resolveAgainst 409 = .ok (.aload_n 0, 1) := by decide +kernel
theorem d_Md_resolveAgainst_410 : decode c_Md_resolveAgainst 410 = .ok (.getfield 65, 3) := by decide +kernel
theorem d_Md_resolveAgainst_413 : decode c_Md_resolveAgainst 413 = .ok (.iconst 3, 1) := by decide +kernel
theorem d_Md_resolveAgainst_414 : decode c_Md_resolveAgainst 414 = .ok (.iaload, 1) := by decide +kernel
theorem d_Md_resolveAgainst_415 : decode c_Md_resolveAgainst 415 = .ok (.invokevirtual 156, 3) := by decide +kernel
theorem d_Md_resolveAgainst_418 : decode c_Md_resolveAgainst 418 = .ok (.aload_n 0, 1) := by decide +kernel
theorem d_Md_resolveAgainst_419 : decode c_Md_resolveAgainst 419 = .ok (.getfield 56, 3) := by decide +kernel
theorem d_Md_resolveAgainst_422 : decode c_Md_resolveAgainst 422 = .ok (.iconst 4, 1) := by decide +kernel
theorem d_Md_resolveAgainst_423 : decode c_Md_resolveAgainst 423 = .ok (.iaload, 1) := by decide +kernel
theorem d_Md_resolveAgainst_424 : decode c_Md_resolveAgainst 424 = .ok (.ifCond .lt 26, 3) := by decide +kernel
theorem d_Md_resolveAgainst_427 : decode c_Md_resolveAgainst 427 = .ok (.aload_n 0, 1) := by decide +kernel
theorem d_Md_resolveAgainst_428 : decode c_Md_resolveAgainst 428 = .ok (.bipush 35, 2) := by decide +kernel
theorem d_Md_resolveAgainst_430 : decode c_Md_resolveAgainst 430 = .ok (.iconst (-1), 1) := by decide +kernel
theorem d_Md_resolveAgainst_431 : decode c_Md_resolveAgainst 431 = .ok (.invokevirtual 159, 3) := by decide +kernel
theorem d_Md_resolveAgainst_434 : decode c_Md_resolveAgainst 434 = .ok (.aload_n 0, 1) := by decide +kernel
theorem d_Md_resolveAgainst_435 : decode c_Md_resolveAgainst 435 = .ok (.aload_n 0, 1) := by decide +kernel
theorem d_Md_resolveAgainst_436 : decode c_Md_resolveAgainst 436 = .ok (.getfield 56, 3) := by decide +kernel
theorem d_Md_resolveAgainst_439 : decode c_Md_resolveAgainst 439 = .ok (.iconst 4, 1) := by decide +kernel
theorem d_Md_resolveAgainst_440 : decode c_Md_resolveAgainst 440 = .ok (.iaload, 1) := by decide +kernel
theorem d_Md_resolveAgainst_441 : decode c_Md_resolveAgainst 441 = .ok (.aload_n 0, 1) := by decide +kernel
theorem d_Md_resolveAgainst_442 : decode c_Md_resolveAgainst 442 = .ok (.getfield 59, 3) := by decide +kernel
theorem d_Md_resolveAgainst_445 : decode c_Md_resolveAgainst 445 = .ok (.iconst 4, 1) := by decide +kernel
theorem d_Md_resolveAgainst_446 : decode c_Md_resolveAgainst 446 = .ok (.iaload, 1) := by decide +kernel
theorem d_Md_resolveAgainst_447 : decode c_Md_resolveAgainst 447 = .ok (.invokevirtual 152, 3) := by decide +kernel
theorem d_Md_resolveAgainst_450 : decode c_Md_resolveAgainst 450 = .ok (.return_, 1) := by decide +kernel
theorem d_Md_take_0 : decode c_Md_take 0 = .ok (.aload_n 0, 1) := by decide +kernel
theorem d_Md_take_1 : decode c_Md_take 1 = .ok (.aload_n 0, 1) := by decide +kernel
theorem d_Md_take_2 : decode c_Md_take 2 = .ok (.getfield 19, 3) := by decide +kernel
theorem d_Md_take_5 : decode c_Md_take 5 = .ok (.iload_n 1, 1) := by decide +kernel
theorem d_Md_take_6 : decode c_Md_take 6 = .ok (.iaload, 1) := by decide +kernel
theorem d_Md_take_7 : decode c_Md_take 7 = .ok (.putfield 109, 3) := by decide +kernel
theorem d_Md_take_10 : decode c_Md_take 10 = .ok (.iconst 0, 1) := by decide +kernel
theorem d_Md_take_11 : decode c_Md_take 11 = .ok (.istore_n 2, 1) := by decide +kernel
theorem d_Md_take_12 : decode c_Md_take 12 = .ok (.iload_n 2, 1) := by decide +kernel
theorem d_Md_take_13 : decode c_Md_take 13 = .ok (.aload_n 0, 1) := by decide +kernel
theorem d_Md_take_14 : decode c_Md_take 14 = .ok (.getfield 109, 3) := by decide +kernel
theorem d_Md_take_17 : decode c_Md_take 17 = .ok (.if_icmp .ge 26, 3) := by decide +kernel
theorem d_Md_take_20 : decode c_Md_take 20 = .ok (.aload_n 0, 1) := by decide +kernel
theorem d_Md_take_21 : decode c_Md_take 21 = .ok (.getfield 53, 3) := by decide +kernel
theorem d_Md_take_24 : decode c_Md_take 24 = .ok (.iload_n 2, 1) := by decide +kernel
theorem d_Md_take_25 : decode c_Md_take 25 = .ok (.aload_n 0, 1) := by decide +kernel
theorem d_Md_take_26 : decode c_Md_take 26 = .ok (.getfield 22, 3) := by decide +kernel
theorem d_Md_take_29 : decode c_Md_take 29 = .ok (.bipush 100, 2) := by decide +kernel
theorem d_Md_take_31 : decode c_Md_take 31 = .ok (.iload_n 1, 1) := by decide +kernel
theorem d_Md_take_32 : decode c_Md_take 32 = .ok (.imul, 1) := by decide +kernel
theorem d_Md_take_33 : decode c_Md_take 33 = .ok (.iload_n 2, 1) := by decide +kernel
theorem d_Md_take_34 : decode c_Md_take 34 = .ok (.iadd, 1) := by decide +kernel
theorem d_Md_take_35 : decode c_Md_take 35 = .ok (.iaload, 1) := by decide +kernel
theorem d_Md_take_36 : decode c_Md_take 36 = .ok (.iastore, 1) := by decide +kernel
theorem d_Md_take_37 : decode c_Md_take 37 = .ok (.iinc 2 1, 3) := by decide +kernel
theorem d_Md_take_40 : decode c_Md_take 40 = .ok (.goto (-28), 3) := by decide +kernel
theorem d_Md_take_43 : decode c_Md_take 43 = .ok (.aload_n 0, 1) := by decide +kernel
theorem d_Md_take_44 : decode c_Md_take 44 = .ok (.invokevirtual 123, 3) := by decide +kernel
theorem d_Md_take_47 : decode c_Md_take 47 = .ok (.return_, 1) := by decide +kernel
theorem d_Md_split_0 : decode c_Md_split 0 = .ok (.iconst 0, 1) := by decide +kernel
theorem d_Md_split_1 : decode c_Md_split 1 = .ok (.istore_n 1, 1) := by decide +kernel
theorem d_Md_split_2 : decode c_Md_split 2 = .ok (.iload_n 1, 1) := by decide +kernel
theorem d_Md_split_3 : decode c_Md_split 3 = .ok (.iconst 5, 1) := by decide +kernel
theorem d_Md_split_4 : decode c_Md_split 4 = .ok (.if_icmp .ge 23, 3) := by decide +kernel
theorem d_Md_split_7 : decode c_Md_split 7 = .ok (.aload_n 0, 1) := by decide +kernel
theorem d_Md_split_8 : decode c_Md_split 8 = .ok (.getfield 56, 3) := by decide +kernel
theorem d_Md_split_11 : decode c_Md_split 11 = .ok (.iload_n 1, 1) := by decide +kernel
theorem d_Md_split_12 : decode c_Md_split 12 = .ok (.iconst (-1), 1) := by decide +kernel
theorem d_Md_split_13 : decode c_Md_split 13 = .ok (.iastore, 1) := by decide +kernel
theorem d_Md_split_14 : decode c_Md_split 14 = .ok (.aload_n 0, 1) := by decide +kernel
theorem d_Md_split_15 : decode c_Md_split 15 = .ok (.getfield 59, 3) := by decide +kernel
theorem d_Md_split_18 : decode c_Md_split 18 = .ok (.iload_n 1, 1) := by decide +kernel
theorem d_Md_split_19 : decode c_Md_split 19 = .ok (.iconst (-1), 1) := by decide +kernel
theorem d_Md_split_20 : decode c_Md_split 20 = .ok (.iastore, 1) := by decide +kernel
theorem d_Md_split_21 : decode c_Md_split 21 = .ok (.iinc 1 1, 3) := by decide +kernel
theorem d_Md_split_24 : decode c_Md_split 24 = .ok (.goto (-22), 3) := by decide +kernel
theorem d_Md_split_27 : decode c_Md_split 27 = .ok (.iconst 0, 1) := by decide +kernel
theorem d_Md_split_28 : decode c_Md_split 28 = .ok (.istore_n 1, 1) := by decide +kernel
theorem d_Md_split_29 : decode c_Md_split 29 = .ok (.iconst 0, 1) := by decide +kernel
theorem d_Md_split_30 : decode c_Md_split 30 = .ok (.istore_n 2, 1) := by decide +kernel
theorem d_Md_split_31 : decode c_Md_split 31 = .ok (.aload_n 0, 1) := by decide +kernel
theorem d_Md_split_32 : decode c_Md_split 32 = .ok (.iload_n 2, 1) := by decide +kernel
theorem d_Md_split_33 : decode c_Md_split 33 = .ok (.invokevirtual 112, 3) := by decide +kernel
theorem d_Md_split_36 : decode c_Md_split 36 = .ok (.invokestatic 116, 3) := by decide +kernel
theorem d_Md_split_39 : decode c_Md_split 39 = .ok (.ifCond .ne 48, 3) := by decide +kernel
theorem d_Md_split_42 : decode c_Md_split 42 = .ok (.iload_n 2, 1) := by decide +kernel
theorem d_Md_split_43 : decode c_Md_split 43 = .ok (.ifCond .le 50, 3) := by decide +kernel
theorem d_Md_split_46 : decode c_Md_split 46 = .ok (.aload_n 0, 1) := by decide +kernel
theorem d_Md_split_47 : decode c_Md_split 47 = .ok (.iload_n 2, 1) := by decide +kernel
theorem d_Md_split_48 : decode c_Md_split 48 = .ok (.invokevirtual 112, 3) := by decide +kernel
theorem d_Md_split_51 : decode c_Md_split 51 = .ok (.invokestatic 85, 3) := by decide +kernel
theorem d_Md_split_54 : decode c_Md_split 54 = .ok (.ifCond .ne 33, 3) := by decide +kernel
theorem d_Md_split_57 : decode c_Md_split 57 = .ok (.aload_n 0, 1) := by decide +kernel
theorem d_Md_split_58 : decode c_Md_split 58 = .ok (.iload_n 2, 1) := by decide +kernel
theorem d_Md_split_59 : decode c_Md_split 59 = .ok (.invokevirtual 112, 3) := by decide +kernel
theorem d_Md_split_62 : decode c_Md_split 62 = .ok (.bipush 43, 2) := by decide +kernel
theorem d_Md_split_64 : decode c_Md_split 64 = .ok (.if_icmp .eq 23, 3) := by decide +kernel
theorem d_Md_split_67 : decode c_Md_split 67 = .ok (.aload_n 0, 1) := by decide +kernel
theorem d_Md_split_68 : decode c_Md_split 68 = .ok (.iload_n 2, 1) := by decide +kernel
theorem d_Md_split_69 : decode c_Md_split 69 = .ok (.invokevirtual 112, 3) := by decide +kernel
theorem d_Md_split_72 : decode c_Md_split 72 = .ok (.bipush 45, 2) := by decide +kernel
theorem d_Md_split_74 : decode c_Md_split 74 = .ok (.if_icmp .eq 13, 3) := by decide +kernel
theorem d_Md_split_77 : decode c_Md_split 77 = .ok (.aload_n 0, 1) := by decide +kernel
theorem d_Md_split_78 : decode c_Md_split 78 = .ok (.iload_n 2, 1) := by decide +kernel
theorem d_Md_split_79 : decode c_Md_split 79 = .ok (.invokevirtual 112, 3) := by decide +kernel
theorem d_Md_split_82 : decode c_Md_split 82 = .ok (.bipush 46, 2) := by decide +kernel
theorem d_Md_split_84 : decode c_Md_split 84 = .ok (.if_icmp .ne 9, 3) := by decide +kernel
theorem d_Md_split_87 : decode c_Md_split 87 = .ok (.iinc 2 1, 3) := by decide +kernel
theorem d_Md_split_90 : decode c_Md_split 90 = .ok (.goto (-59), 3) := by decide +kernel
theorem d_Md_split_93 : decode c_Md_split 93 = .ok (.iload_n 2, 1) := by decide +kernel
theorem d_Md_split_94 : decode c_Md_split 94 = .ok (.ifCond .le 31, 3) := by decide +kernel
theorem d_Md_split_97 : decode c_Md_split 97 = .ok (.aload_n 0, 1) := by decide +kernel
theorem d_Md_split_98 : decode c_Md_split 98 = .ok (.iload_n 2, 1) := by decide +kernel
theorem d_Md_split_99 : decode c_Md_split 99 = .ok (.invokevirtual 112, 3) := by decide +kernel
theorem d_Md_split_102 : decode c_Md_split 102 = .ok (.bipush 58, 2) := by decide +kernel
theorem d_Md_split_104 : decode c_Md_split 104 = .ok (.if_icmp .ne 21, 3) := by decide +kernel
theorem d_Md_split_107 : decode c_Md_split 107 = .ok (.aload_n 0, 1) := by decide +kernel
theorem d_Md_split_108 : decode c_Md_split 108 = .ok (.getfield 56, 3) := by decide +kernel
theorem d_Md_split_111 : decode c_Md_split 111 = .ok (.iconst 0, 1) := by decide +kernel
theorem d_Md_split_112 : decode c_Md_split 112 = .ok (.iconst 0, 1) := by decide +kernel
theorem d_Md_split_113 : decode c_Md_split 113 = .ok (.iastore, 1) := by decide +kernel
theorem d_Md_split_114 : decode c_Md_split 114 = .ok (.aload_n 0, 1) := by decide +kernel
theorem d_Md_split_115 : decode c_Md_split 115 = .ok (.getfield 59, 3) := by decide +kernel
theorem d_Md_split_118 : decode c_Md_split 118 = .ok (.iconst 0, 1) := by decide +kernel
theorem d_Md_split_119 : decode c_Md_split 119 = .ok (.iload_n 2, 1) := by decide +kernel
theorem d_Md_split_120 : decode c_Md_split 120 = .ok (.iastore, 1) := by decide +kernel
theorem d_Md_split_121 : decode c_Md_split 121 = .ok (.iload_n 2, 1) := by decide +kernel
theorem d_Md_split_122 : decode c_Md_split 122 = .ok (.iconst 1, 1) := by decide +kernel
theorem d_Md_split_123 : decode c_Md_split 123 = .ok (.iadd, 1) := by decide +kernel
theorem d_Md_split_124 : decode c_Md_split 124 = .ok (.istore_n 1, 1) := by decide +kernel
theorem d_Md_split_125 : decode c_Md_split 125 = .ok (.aload_n 0, 1) := by decide +kernel
theorem d_Md_split_126 : decode c_Md_split 126 = .ok (.iload_n 1, 1) := by decide +kernel
theorem d_Md_split_127 : decode c_Md_split 127 = .ok (.invokevirtual 112, 3) := by decide +kernel
theorem d_Md_split_130 : decode c_Md_split 130 = .ok (.bipush 47, 2) := by decide +kernel
theorem d_Md_split_132 : decode c_Md_split 132 = .ok (.if_icmp .ne 46, 3) := by decide +kernel
theorem d_Md_split_135 : decode c_Md_split 135 = .ok (.aload_n 0, 1) := by decide +kernel
theorem d_Md_split_136 : decode c_Md_split 136 = .ok (.iload_n 1, 1) := by decide +kernel
theorem d_Md_split_137 : decode c_Md_split 137 = .ok (.iconst 1, 1) := by decide +kernel
theorem d_Md_split_138 : decode c_Md_split 138 = .ok (.iadd, 1) := by decide +kernel
theorem d_Md_split_139 : decode c_Md_split 139 = .ok (.invokevirtual 112, 3) := by decide +kernel
theorem d_Md_split_142 : decode c_Md_split 142 = .ok (.bipush 47, 2) := by decide +kernel
theorem d_Md_split_144 : decode c_Md_split 144 = .ok (.if_icmp .ne 34, 3) := by decide +kernel
theorem d_Md_split_147 : decode c_Md_split 147 = .ok (.aload_n 0, 1) := by decide +kernel
theorem d_Md_split_148 : decode c_Md_split 148 = .ok (.getfield 56, 3) := by decide +kernel
theorem d_Md_split_151 : decode c_Md_split 151 = .ok (.iconst 1, 1) := by decide +kernel
theorem d_Md_split_152 : decode c_Md_split 152 = .ok (.iload_n 1, 1) := by decide +kernel
theorem d_Md_split_153 : decode c_Md_split 153 = .ok (.iconst 2, 1) := by decide +kernel
theorem d_Md_split_154 : decode c_Md_split 154 = .ok (.iadd, 1) := by decide +kernel
theorem d_Md_split_155 : decode c_Md_split 155 = .ok (.iastore, 1) := by decide +kernel
theorem d_Md_split_156 : decode c_Md_split 156 = .ok (.aload_n 0, 1) := by decide +kernel
theorem d_Md_split_157 : decode c_Md_split 157 = .ok (.getfield 59, 3) := by decide +kernel
theorem d_Md_split_160 : decode c_Md_split 160 = .ok (.iconst 1, 1) := by decide +kernel
theorem d_Md_split_161 : decode c_Md_split 161 = .ok (.aload_n 0, 1) := by decide +kernel
theorem d_Md_split_162 : decode c_Md_split 162 = .ok (.iload_n 1, 1) := by decide +kernel
theorem d_Md_split_163 : decode c_Md_split 163 = .ok (.iconst 2, 1) := by decide +kernel
theorem d_Md_split_164 : decode c_Md_split 164 = .ok (.iadd, 1) := by decide +kernel
theorem d_Md_split_165 : decode c_Md_split 165 = .ok (.iconst 1, 1) := by decide +kernel
theorem d_Md_split_166 : decode c_Md_split 166 = .ok (.iconst 1, 1) := by decide +kernel
theorem d_Md_split_167 : decode c_Md_split 167 = .ok (.invokevirtual 119, 3) := by decide +kernel
theorem d_Md_split_170 : decode c_Md_split 170 = .ok (.iastore, 1) := by decide +kernel
theorem d_Md_split_171 : decode c_Md_split 171 = .ok (.aload_n 0, 1) := by decide +kernel
theorem d_Md_split_172 : decode c_Md_split 172 = .ok (.getfield 59, 3) := by decide +kernel
theorem d_Md_split_175 : decode c_Md_split 175 = .ok (.iconst 1, 1) := by decide +kernel
theorem d_Md_split_176 : decode c_Md_split 176 = .ok (.iaload, 1) := by decide +kernel
theorem d_Md_split_177 : decode c_Md_split 177 = .ok (.istore_n 1, 1) := by decide +kernel
theorem d_Md_split_178 : decode c_Md_split 178 = .ok (.aload_n 0, 1) := by decide +kernel
theorem d_Md_split_179 : decode c_Md_split 179 = .ok (.getfield 56, 3) := by decide +kernel
theorem d_Md_split_182 : decode c_Md_split 182 = .ok (.iconst 2, 1) := by decide +kernel
theorem d_Md_split_183 : decode c_Md_split 183 = .ok (.iload_n 1, 1) := by decide +kernel
theorem d_Md_split_184 : decode c_Md_split 184 = .ok (.iastore, 1) := by decide +kernel
theorem d_Md_split_185 : decode c_Md_split 185 = .ok (.aload_n 0, 1) := by decide +kernel
theorem d_Md_split_186 : decode c_Md_split 186 = .ok (.getfield 59, 3) := by decide +kernel
theorem d_Md_split_189 : decode c_Md_split 189 = .ok (.iconst 2, 1) := by decide +kernel
theorem d_Md_split_190 : decode c_Md_split 190 = .ok (.aload_n 0, 1) := by decide +kernel
theorem d_Md_split_191 : decode c_Md_split 191 = .ok (.iload_n 1, 1) := by decide +kernel
theorem d_Md_split_192 : decode c_Md_split 192 = .ok (.iconst 0, 1) := by decide +kernel
theorem d_Md_split_193 : decode c_Md_split 193 = .ok (.iconst 1, 1) := by decide +kernel
theorem d_Md_split_194 : decode c_Md_split 194 = .ok (.invokevirtual 119, 3) := by decide +kernel
theorem d_Md_split_197 : decode c_Md_split 197 = .ok (.iastore, 1) := by decide +kernel
theorem d_Md_split_198 : decode c_Md_split 198 = .ok (.aload_n 0, 1) := by decide +kernel
theorem d_Md_split_199 : decode c_Md_split 199 = .ok (.getfield 59, 3) := by decide +kernel
theorem d_Md_split_202 : decode c_Md_split 202 = .ok (.iconst 2, 1) := by decide +kernel
theorem d_Md_split_203 : decode c_Md_split 203 = .ok (.iaload, 1) := by decide +kernel
theorem d_Md_split_204 : decode c_Md_split 204 = .ok (.istore_n 1, 1) := by decide +kernel
theorem d_Md_split_205 : decode c_Md_split 205 = .ok (.aload_n 0, 1) := by decide +kernel
theorem d_Md_split_206 : decode c_Md_split 206 = .ok (.iload_n 1, 1) := by decide +kernel
theorem d_Md_split_207 : decode c_Md_split 207 = .ok (.invokevirtual 112, 3) := by decide +kernel
theorem d_Md_split_210 : decode c_Md_split 210 = .ok (.bipush 63, 2) := by decide +kernel
theorem d_Md_split_212 : decode c_Md_split 212 = .ok (.if_icmp .ne 34, 3) := by decide +kernel
theorem d_Md_split_215 : decode c_Md_split 215 = .ok (.aload_n 0, 1) := by decide +kernel
theorem d_Md_split_216 : decode c_Md_split 216 = .ok (.getfield 56, 3) := by decide +kernel
theorem d_Md_split_219 : decode c_Md_split 219 = .ok (.iconst 3, 1) := by decide +kernel
theorem d_Md_split_220 : decode c_Md_split 220 = .ok (.iload_n 1, 1) := by decide +kernel
theorem d_Md_split_221 : decode c_Md_split 221 = .ok (.iconst 1, 1) := by decide +kernel
theorem d_Md_split_222 : decode c_Md_split 222 = .ok (.iadd, 1) := by decide +kernel
theorem d_Md_split_223 : decode c_Md_split 223 = .ok (.iastore, 1) := by decide +kernel
theorem d_Md_split_224 : decode c_Md_split 224 = .ok (.aload_n 0, 1) := by decide +kernel
theorem d_Md_split_225 : decode c_Md_split 225 = .ok (.getfield 59, 3) := by decide +kernel
theorem d_Md_split_228 : decode c_Md_split 228 = .ok (.iconst 3, 1) := by decide +kernel
theorem d_Md_split_229 : decode c_Md_split 229 = .ok (.aload_n 0, 1) := by decide +kernel
theorem d_Md_split_230 : decode c_Md_split 230 = .ok (.iload_n 1, 1) := by decide +kernel
theorem d_Md_split_231 : decode c_Md_split 231 = .ok (.iconst 1, 1) := by decide +kernel
theorem d_Md_split_232 : decode c_Md_split 232 = .ok (.iadd, 1) := by decide +kernel
theorem d_Md_split_233 : decode c_Md_split 233 = .ok (.iconst 0, 1) := by decide +kernel
theorem d_Md_split_234 : decode c_Md_split 234 = .ok (.iconst 0, 1) := by decide +kernel
theorem d_Md_split_235 : decode c_Md_split 235 = .ok (.invokevirtual 119, 3) := by decide +kernel
theorem d_Md_split_238 : decode c_Md_split 238 = .ok (.iastore, 1) := by decide +kernel
theorem d_Md_split_239 : decode c_Md_split 239 = .ok (.aload_n 0, 1) := by decide +kernel
theorem d_Md_split_240 : decode c_Md_split 240 = .ok (.getfield 59, 3) := by decide +kernel
theorem d_Md_split_243 : decode c_Md_split 243 = .ok (.iconst 3, 1) := by decide +kernel
theorem d_Md_split_244 : decode c_Md_split 244 = .ok (.iaload, 1) := by decide +kernel
theorem d_Md_split_245 : decode c_Md_split 245 = .ok (.istore_n 1, 1) := by decide +kernel
theorem d_Md_split_246 : decode c_Md_split 246 = .ok (.aload_n 0, 1) := by decide +kernel
theorem d_Md_split_247 : decode c_Md_split 247 = .ok (.iload_n 1, 1) := by decide +kernel
theorem d_Md_split_248 : decode c_Md_split 248 = .ok (.invokevirtual 112, 3) := by decide +kernel
theorem d_Md_split_251 : decode c_Md_split 251 = .ok (.bipush 35, 2) := by decide +kernel
theorem d_Md_split_253 : decode c_Md_split 253 = .ok (.if_icmp .ne 22, 3) := by decide +kernel
theorem d_Md_split_256 : decode c_Md_split 256 = .ok (.aload_n 0, 1) := by decide +kernel
theorem d_Md_split_257 : decode c_Md_split 257 = .ok (.getfield 56, 3) := by decide +kernel
theorem d_Md_split_260 : decode c_Md_split 260 = .ok (.iconst 4, 1) := by decide +kernel
theorem d_Md_split_261 : decode c_Md_split 261 = .ok (.iload_n 1, 1) := by decide +kernel
theorem d_Md_split_262 : decode c_Md_split 262 = .ok (.iconst 1, 1) := by decide +kernel
theorem d_Md_split_263 : decode c_Md_split 263 = .ok (.iadd, 1) := by decide +kernel
theorem d_Md_split_264 : decode c_Md_split 264 = .ok (.iastore, 1) := by decide +kernel
theorem d_Md_split_265 : decode c_Md_split 265 = .ok (.aload_n 0, 1) := by decide +kernel
theorem d_Md_split_266 : decode c_Md_split 266 = .ok (.getfield 59, 3) := by decide +kernel
theorem d_Md_split_269 : decode c_Md_split 269 = .ok (.iconst 4, 1) := by decide +kernel
theorem d_Md_split_270 : decode c_Md_split 270 = .ok (.aload_n 0, 1) := by decide +kernel
theorem d_Md_split_271 : decode c_Md_split 271 = .ok (.getfield 109, 3) := by decide +kernel
theorem d_Md_split_274 : decode c_Md_split 274 = .ok (.iastore, 1) := by decide +kernel
theorem d_Md_split_275 : decode c_Md_split 275 = .ok (.return_, 1) := by decide +kernel
theorem d_Md_refAt_0 : decode c_Md_refAt 0 = .ok (.iload_n 1, 1) := by decide +kernel
theorem d_Md_refAt_1 : decode c_Md_refAt 1 = .ok (.aload_n 0, 1) := by decide +kernel
theorem d_Md_refAt_2 : decode c_Md_refAt 2 = .ok (.getfield 109, 3) := by decide +kernel
theorem d_Md_refAt_5 : decode c_Md_refAt 5 = .ok (.if_icmp .ge 12, 3) := by decide +kernel
theorem d_Md_refAt_8 : decode c_Md_refAt 8 = .ok (.aload_n 0, 1) := by decide +kernel
theorem d_Md_refAt_9 : decode c_Md_refAt 9 = .ok (.getfield 53, 3) := by decide +kernel
theorem d_Md_refAt_12 : decode c_Md_refAt 12 = .ok (.iload_n 1, 1) := by decide +kernel
theorem d_Md_refAt_13 : decode c_Md_refAt 13 = .ok (.iaload, 1) := by decide +kernel
theorem d_Md_refAt_14 : decode c_Md_refAt 14 = .ok (.goto 4, 3) := by decide +kernel
theorem d_Md_refAt_17 : decode c_Md_refAt 17 = .ok (.iconst (-1), 1) := by decide +kernel
theorem d_Md_refAt_18 : decode c_Md_refAt 18 = .ok (.ireturn, 1) := by decide +kernel
theorem d_Md_isLetter_0 : decode c_Md_isLetter 0 = .ok (.iload_n 0, 1) := by decide +kernel
theorem d_Md_isLetter_1 : decode c_Md_isLetter 1 = .ok (.invokestatic 81, 3) := by decide +kernel
theorem d_Md_isLetter_4 : decode c_Md_isLetter 4 = .ok (.ifCond .ne 14, 3) := by decide +kernel
theorem d_Md_isLetter_7 : decode c_Md_isLetter 7 = .ok (.iload_n 0, 1) := by decide +kernel
theorem d_Md_isLetter_8 : decode c_Md_isLetter 8 = .ok (.bipush 65, 2) := by decide +kernel
theorem d_Md_isLetter_10 : decode c_Md_isLetter 10 = .ok (.bipush 90, 2) := by decide +kernel
theorem d_Md_isLetter_12 : decode c_Md_isLetter 12 = .ok (.invokestatic 77, 3) := by decide +kernel
theorem d_Md_isLetter_15 : decode c_Md_isLetter 15 = .ok (.ifCond .eq 7, 3) := by decide +kernel
theorem d_Md_isLetter_18 : decode c_Md_isLetter 18 = .ok (.iconst 1, 1) := by decide +kernel
theorem d_Md_isLetter_19 : decode c_Md_isLetter 19 = .ok (.goto 4, 3) := by decide +kernel
theorem d_Md_isLetter_22 : decode c_Md_isLetter 22 = .ok (.iconst 0, 1) := by decide +kernel
theorem d_Md_isLetter_23 : decode c_Md_isLetter 23 = .ok (.ireturn, 1) := by decide +kernel
theorem d_Md_isSmall_0 : decode c_Md_isSmall 0 = .ok (.iload_n 0, 1) := by decide +kernel
theorem d_Md_isSmall_1 : decode c_Md_isSmall 1 = .ok (.bipush 97, 2) := by decide +kernel
theorem d_Md_isSmall_3 : decode c_Md_isSmall 3 = .ok (.bipush 122, 2) := by decide +kernel
theorem d_Md_isSmall_5 : decode c_Md_isSmall 5 = .ok (.invokestatic 77, 3) := by decide +kernel
theorem d_Md_isSmall_8 : decode c_Md_isSmall 8 = .ok (.ireturn, 1) := by decide +kernel
theorem d_Md_stop_0 : decode c_Md_stop 0 = .ok (.iload_n 1, 1) := by decide +kernel
theorem d_Md_stop_1 : decode c_Md_stop 1 = .ok (.istore 4, 2) := by decide +kernel
theorem d_Md_stop_3 : decode c_Md_stop 3 = .ok (.iload 4, 2) := by decide +kernel
theorem d_Md_stop_5 : decode c_Md_stop 5 = .ok (.aload_n 0, 1) := by decide +kernel
theorem d_Md_stop_6 : decode c_Md_stop 6 = .ok (.getfield 109, 3) := by decide +kernel
theorem d_Md_stop_9 : decode c_Md_stop 9 = .ok (.if_icmp .ge 53, 3) := by decide +kernel
theorem d_Md_stop_12 : decode c_Md_stop 12 = .ok (.iload_n 2, 1) := by decide +kernel
theorem d_Md_stop_13 : decode c_Md_stop 13 = .ok (.ifCond .eq 15, 3) := by decide +kernel
theorem d_Md_stop_16 : decode c_Md_stop 16 = .ok (.aload_n 0, 1) := by decide +kernel
theorem d_Md_stop_17 : decode c_Md_stop 17 = .ok (.getfield 53, 3) := by decide +kernel
theorem d_Md_stop_20 : decode c_Md_stop 20 = .ok (.iload 4, 2) := by decide +kernel
theorem d_Md_stop_22 : decode c_Md_stop 22 = .ok (.iaload, 1) := by decide +kernel
theorem d_Md_stop_23 : decode c_Md_stop 23 = .ok (.bipush 47, 2) := by decide +kernel
theorem d_Md_stop_25 : decode c_Md_stop 25 = .ok (.if_icmp .eq 37, 3) := by decide +kernel
theorem d_Md_stop_28 : decode c_Md_stop 28 = .ok (.iload_n 3, 1) := by decide +kernel
theorem d_Md_stop_29 : decode c_Md_stop 29 = .ok (.ifCond .eq 15, 3) := by decide +kernel
theorem d_Md_stop_32 : decode c_Md_stop 32 = .ok (.aload_n 0, 1) := by decide +kernel
theorem d_Md_stop_33 : decode c_Md_stop 33 = .ok (.getfield 53, 3) := by decide +kernel
theorem d_Md_stop_36 : decode c_Md_stop 36 = .ok (.iload 4, 2) := by decide +kernel
theorem d_Md_stop_38 : decode c_Md_stop 38 = .ok (.iaload, 1) := by decide +kernel
theorem d_Md_stop_39 : decode c_Md_stop 39 = .ok (.bipush 63, 2) := by decide +kernel
theorem d_Md_stop_41 : decode c_Md_stop 41 = .ok (.if_icmp .eq 21, 3) := by decide +kernel
theorem d_Md_stop_44 : decode c_Md_stop 44 = .ok (.aload_n 0, 1) := by decide +kernel
theorem d_Md_stop_45 : decode c_Md_stop 45 = .ok (.getfield 53, 3) := by decide +kernel
theorem d_Md_stop_48 : decode c_Md_stop 48 = .ok (.iload 4, 2) := by decide +kernel
theorem d_Md_stop_50 : decode c_Md_stop 50 = .ok (.iaload, 1) := by decide +kernel
theorem d_Md_stop_51 : decode c_Md_stop 51 = .ok (.bipush 35, 2) := by decide +kernel
theorem d_Md_stop_53 : decode c_Md_stop 53 = .ok (.if_icmp .eq 9, 3) := by decide +kernel
theorem d_Md_stop_56 : decode c_Md_stop 56 = .ok (.iinc 4 1, 3) := by decide +kernel
theorem d_Md_stop_59 : decode c_Md_stop 59 = .ok (.goto (-56), 3) := by decide +kernel
theorem d_Md_stop_62 : decode c_Md_stop 62 = .ok (.iload 4, 2) := by decide +kernel
theorem d_Md_stop_64 : decode c_Md_stop 64 = .ok (.ireturn, 1) := by decide +kernel
theorem d_Md_addRef_0 : decode c_Md_addRef 0 = .ok (.iload_n 1, 1) := by decide +kernel
theorem d_Md_addRef_1 : decode c_Md_addRef 1 = .ok (.istore_n 3, 1) := by decide +kernel
theorem d_Md_addRef_2 : decode c_Md_addRef 2 = .ok (.iload_n 3, 1) := by decide +kernel
theorem d_Md_addRef_3 : decode c_Md_addRef 3 = .ok (.iload_n 2, 1) := by decide +kernel
theorem d_Md_addRef_4 : decode c_Md_addRef 4 = .ok (.if_icmp .ge 19, 3) := by decide +kernel
theorem d_Md_addRef_7 : decode c_Md_addRef 7 = .ok (.aload_n 0, 1) := by decide +kernel
theorem d_Md_addRef_8 : decode c_Md_addRef 8 = .ok (.aload_n 0, 1) := by decide +kernel
theorem d_Md_addRef_9 : decode c_Md_addRef 9 = .ok (.getfield 53, 3) := by decide +kernel
theorem d_Md_addRef_12 : decode c_Md_addRef 12 = .ok (.iload_n 3, 1) := by decide +kernel
theorem d_Md_addRef_13 : decode c_Md_addRef 13 = .ok (.iaload, 1) := by decide +kernel
theorem d_Md_addRef_14 : decode c_Md_addRef 14 = .ok (.invokevirtual 146, 3) := by decide +kernel
theorem d_Md_addRef_17 : decode c_Md_addRef 17 = .ok (.iinc 3 1, 3) := by decide +kernel
theorem d_Md_addRef_20 : decode c_Md_addRef 20 = .ok (.goto (-18), 3) := by decide +kernel
theorem d_Md_addRef_23 : decode c_Md_addRef 23 = .ok (.return_, 1) := by decide +kernel
theorem d_Md_add_0 : decode c_Md_add 0 = .ok (.aload_n 0, 1) := by decide +kernel
theorem d_Md_add_1 : decode c_Md_add 1 = .ok (.getfield 44, 3) := by decide +kernel
theorem d_Md_add_4 : decode c_Md_add 4 = .ok (.aload_n 0, 1) := by decide +kernel
theorem d_Md_add_5 : decode c_Md_add 5 = .ok (.getfield 93, 3) := by decide +kernel
theorem d_Md_add_8 : decode c_Md_add 8 = .ok (.iload_n 1, 1) := by decide +kernel
theorem d_Md_add_9 : decode c_Md_add 9 = .ok (.iastore, 1) := by decide +kernel
theorem d_Md_add_10 : decode c_Md_add 10 = .ok (.aload_n 0, 1) := by decide +kernel
theorem d_Md_add_11 : decode c_Md_add 11 = .ok (.dup, 1) := by decide +kernel
theorem d_Md_add_12 : decode c_Md_add 12 = .ok (.getfield 93, 3) := by decide +kernel
theorem d_Md_add_15 : decode c_Md_add 15 = .ok (.iconst 1, 1) := by decide +kernel
theorem d_Md_add_16 : decode c_Md_add 16 = .ok (.iadd, 1) := by decide +kernel
theorem d_Md_add_17 : decode c_Md_add 17 = .ok (.putfield 93, 3) := by decide +kernel
theorem d_Md_add_20 : decode c_Md_add 20 = .ok (.return_, 1) := by decide +kernel
theorem d_Md_addBase_0 : decode c_Md_addBase 0 = .ok (.iload_n 1, 1) := by decide +kernel
theorem d_Md_addBase_1 : decode c_Md_addBase 1 = .ok (.istore_n 3, 1) := by decide +kernel
theorem d_Md_addBase_2 : decode c_Md_addBase 2 = .ok (.iload_n 3, 1) := by decide +kernel
theorem d_Md_addBase_3 : decode c_Md_addBase 3 = .ok (.iload_n 2, 1) := by decide +kernel
theorem d_Md_addBase_4 : decode c_Md_addBase 4 = .ok (.if_icmp .ge 27, 3) := by decide +kernel
theorem d_Md_addBase_7 : decode c_Md_addBase 7 = .ok (.aload_n 0, 1) := by decide +kernel
theorem d_Md_addBase_8 : decode c_Md_addBase 8 = .ok (.aload_n 0, 1) := by decide +kernel
theorem d_Md_addBase_9 : decode c_Md_addBase 9 = .ok (.getfield 22, 3) := by decide +kernel
theorem d_Md_addBase_12 : decode c_Md_addBase 12 = .ok (.bipush 100, 2) := by decide +kernel
theorem d_Md_addBase_14 : decode c_Md_addBase 14 = .ok (.aload_n 0, 1) := by decide +kernel
theorem d_Md_addBase_15 : decode c_Md_addBase 15 = .ok (.getfield 31, 3) := by decide +kernel
theorem d_Md_addBase_18 : decode c_Md_addBase 18 = .ok (.imul, 1) := by decide +kernel
theorem d_Md_addBase_19 : decode c_Md_addBase 19 = .ok (.iload_n 3, 1) := by decide +kernel
theorem d_Md_addBase_20 : decode c_Md_addBase 20 = .ok (.iadd, 1) := by decide +kernel
theorem d_Md_addBase_21 : decode c_Md_addBase 21 = .ok (.iaload, 1) := by decide +kernel
theorem d_Md_addBase_22 : decode c_Md_addBase 22 = .ok (.invokevirtual 146, 3) := by decide +kernel
theorem d_Md_addBase_25 : decode c_Md_addBase 25 = .ok (.iinc 3 1, 3) := by decide +kernel
theorem d_Md_addBase_28 : decode c_Md_addBase 28 = .ok (.goto (-26), 3) := by decide +kernel
theorem d_Md_addBase_31 : decode c_Md_addBase 31 = .ok (.return_, 1) := by decide +kernel
theorem d_Md_lead_0 : decode c_Md_lead 0 = .ok (.aload_n 0, 1) := by decide +kernel
theorem d_Md_lead_1 : decode c_Md_lead 1 = .ok (.iload_n 1, 1) := by decide +kernel
theorem d_Md_lead_2 : decode c_Md_lead 2 = .ok (.invokevirtual 146, 3) := by decide +kernel
theorem d_Md_lead_5 : decode c_Md_lead 5 = .ok (.iload_n 2, 1) := by decide +kernel
theorem d_Md_lead_6 : decode c_Md_lead 6 = .ok (.ifCond .lt 8, 3) := by decide +kernel
theorem d_Md_lead_9 : decode c_Md_lead 9 = .ok (.aload_n 0, 1) := by decide +kernel
theorem d_Md_lead_10 : decode c_Md_lead 10 = .ok (.iload_n 2, 1) := by decide +kernel
theorem d_Md_lead_11 : decode c_Md_lead 11 = .ok (.invokevirtual 146, 3) := by decide +kernel
theorem d_Md_lead_14 : decode c_Md_lead 14 = .ok (.return_, 1) := by decide +kernel
theorem d_Md_merge_0 : decode c_Md_merge 0 = .ok (.aload_n 0, 1) := by decide +kernel
theorem d_Md_merge_1 : decode c_Md_merge 1 = .ok (.getfield 62, 3) := by decide +kernel
theorem d_Md_merge_4 : decode c_Md_merge 4 = .ok (.iconst 1, 1) := by decide +kernel
theorem d_Md_merge_5 : decode c_Md_merge 5 = .ok (.iaload, 1) := by decide +kernel
theorem d_Md_merge_6 : decode c_Md_merge 6 = .ok (.ifCond .lt 32, 3) := by decide +kernel
theorem d_Md_merge_9 : decode c_Md_merge 9 = .ok (.aload_n 0, 1) := by decide +kernel
theorem d_Md_merge_10 : decode c_Md_merge 10 = .ok (.getfield 62, 3) := by decide +kernel
theorem d_Md_merge_13 : decode c_Md_merge 13 = .ok (.iconst 2, 1) := by decide +kernel
theorem d_Md_merge_14 : decode c_Md_merge 14 = .ok (.iaload, 1) := by decide +kernel
theorem d_Md_merge_15 : decode c_Md_merge 15 = .ok (.aload_n 0, 1) := by decide +kernel
theorem d_Md_merge_16 : decode c_Md_merge 16 = .ok (.getfield 65, 3) := by decide +kernel
theorem d_Md_merge_19 : decode c_Md_merge 19 = .ok (.iconst 2, 1) := by decide +kernel
theorem d_Md_merge_20 : decode c_Md_merge 20 = .ok (.iaload, 1) := by decide +kernel
theorem d_Md_merge_21 : decode c_Md_merge 21 = .ok (.if_icmp .ne 17, 3) := by decide +kernel
theorem d_Md_merge_24 : decode c_Md_merge 24 = .ok (.aload_n 0, 1) := by decide +kernel
theorem d_Md_merge_25 : decode c_Md_merge 25 = .ok (.getfield 68, 3) := by decide +kernel
theorem d_Md_merge_28 : decode c_Md_merge 28 = .ok (.iconst 0, 1) := by decide +kernel
theorem d_Md_merge_29 : decode c_Md_merge 29 = .ok (.bipush 47, 2) := by decide +kernel
theorem d_Md_merge_31 : decode c_Md_merge 31 = .ok (.iastore, 1) := by decide +kernel
theorem d_Md_merge_32 : decode c_Md_merge 32 = .ok (.aload_n 0, 1) := by decide +kernel
theorem d_Md_merge_33 : decode c_Md_merge 33 = .ok (.iconst 1, 1) := by decide +kernel
theorem d_Md_merge_34 : decode c_Md_merge 34 = .ok (.putfield 129, 3) := by decide +kernel
theorem d_Md_merge_37 : decode c_Md_merge 37 = .ok (.return_, 1) := by decide +kernel
theorem d_Md_merge_38 : decode c_Md_merge 38 = .ok (.aload_n 0, 1) := by decide +kernel
theorem d_Md_merge_39 : decode c_Md_merge 39 = .ok (.getfield 65, 3) := by decide +kernel
theorem d_Md_merge_42 : decode c_Md_merge 42 = .ok (.iconst 2, 1) := by decide +kernel
theorem d_Md_merge_43 : decode c_Md_merge 43 = .ok (.iaload, 1) := by decide +kernel
theorem d_Md_merge_44 : decode c_Md_merge 44 = .ok (.istore_n 1, 1) := by decide +kernel
theorem d_Md_merge_45 : decode c_Md_merge 45 = .ok (.iload_n 1, 1) := by decide +kernel
theorem d_Md_merge_46 : decode c_Md_merge 46 = .ok (.aload_n 0, 1) := by decide +kernel
theorem d_Md_merge_47 : decode c_Md_merge 47 = .ok (.getfield 62, 3) := by decide +kernel
theorem d_Md_merge_50 : decode c_Md_merge 50 = .ok (.iconst 2, 1) := by decide +kernel
theorem d_Md_merge_51 : decode c_Md_merge 51 = .ok (.iaload, 1) := by decide +kernel
theorem d_Md_merge_52 : decode c_Md_merge 52 = .ok (.if_icmp .le 30, 3) := by decide +kernel
theorem d_Md_merge_55 : decode c_Md_merge 55 = .ok (.aload_n 0, 1) := by decide +kernel
theorem d_Md_merge_56 : decode c_Md_merge 56 = .ok (.getfield 22, 3) := by decide +kernel
theorem d_Md_merge_59 : decode c_Md_merge 59 = .ok (.bipush 100, 2) := by decide +kernel
theorem d_Md_merge_61 : decode c_Md_merge 61 = .ok (.aload_n 0, 1) := by decide +kernel
theorem d_Md_merge_62 : decode c_Md_merge 62 = .ok (.getfield 31, 3) := by decide +kernel
theorem d_Md_merge_65 : decode c_Md_merge 65 = .ok (.imul, 1) := by decide +kernel
theorem d_Md_merge_66 : decode c_Md_merge 66 = .ok (.iload_n 1, 1) := by decide +kernel
theorem d_Md_merge_67 : decode c_Md_merge 67 = .ok (.iadd, 1) := by decide +kernel
theorem d_Md_merge_68 : decode c_Md_merge 68 = .ok (.iconst 1, 1) := by decide +kernel
theorem d_Md_merge_69 : decode c_Md_merge 69 = .ok (.isub, 1) := by decide +kernel
theorem d_Md_merge_70 : decode c_Md_merge 70 = .ok (.iaload, 1) := by decide +kernel
theorem d_Md_merge_71 : decode c_Md_merge 71 = .ok (.bipush 47, 2) := by decide +kernel
theorem d_Md_merge_73 : decode c_Md_merge 73 = .ok (.if_icmp .eq 9, 3) := by decide +kernel
theorem d_Md_merge_76 : decode c_Md_merge 76 = .ok (.iinc 1 (-1), 3) := by decide +kernel
theorem d_Md_merge_79 : decode c_Md_merge 79 = .ok (.goto (-34), 3) := by decide +kernel
theorem d_Md_merge_82 : decode c_Md_merge 82 = .ok (.aload_n 0, 1) := by decide +kernel
theorem d_Md_merge_83 : decode c_Md_merge 83 = .ok (.getfield 62, 3) := by decide +kernel
theorem d_Md_merge_86 : decode c_Md_merge 86 = .ok (.iconst 2, 1) := by decide +kernel
theorem d_Md_merge_87 : decode c_Md_merge 87 = .ok (.iaload, 1) := by decide +kernel
theorem d_Md_merge_88 : decode c_Md_merge 88 = .ok (.istore_n 2, 1) := by decide +kernel
theorem d_Md_merge_89 : decode c_Md_merge 89 = .ok (.iload_n 2, 1) := by decide +kernel
theorem d_Md_merge_90 : decode c_Md_merge 90 = .ok (.iload_n 1, 1) := by decide +kernel
theorem d_Md_merge_91 : decode c_Md_merge 91 = .ok (.if_icmp .ge 42, 3) := by decide +kernel
theorem d_Md_merge_94 : decode c_Md_merge 94 = .ok (.aload_n 0, 1) := by decide +kernel
theorem d_Md_merge_95 : decode c_Md_merge 95 = .ok (.getfield 68, 3) := by decide +kernel
theorem d_Md_merge_98 : decode c_Md_merge 98 = .ok (.aload_n 0, 1) := by decide +kernel
theorem d_Md_merge_99 : decode c_Md_merge 99 = .ok (.getfield 129, 3) := by decide +kernel
theorem d_Md_merge_102 : decode c_Md_merge 102 = .ok (.aload_n 0, 1) := by decide +kernel
theorem d_Md_merge_103 : decode c_Md_merge 103 = .ok (.getfield 22, 3) := by decide +kernel
theorem d_Md_merge_106 : decode c_Md_merge 106 = .ok (.bipush 100, 2) := by decide +kernel
theorem d_Md_merge_108 : decode c_Md_merge 108 = .ok (.aload_n 0, 1) := by decide +kernel
theorem d_Md_merge_109 : decode c_Md_merge 109 = .ok (.getfield 31, 3) := by decide +kernel
theorem d_Md_merge_112 : decode c_Md_merge 112 = .ok (.imul, 1) := by decide +kernel
theorem d_Md_merge_113 : decode c_Md_merge 113 = .ok (.iload_n 2, 1) := by decide +kernel
theorem d_Md_merge_114 : decode c_Md_merge 114 = .ok (.iadd, 1) := by decide +kernel
theorem d_Md_merge_115 : decode c_Md_merge 115 = .ok (.iaload, 1) := by decide +kernel
theorem d_Md_merge_116 : decode c_Md_merge 116 = .ok (.iastore, 1) := by decide +kernel
theorem d_Md_merge_117 : decode c_Md_merge 117 = .ok (.aload_n 0, 1) := by decide +kernel
theorem d_Md_merge_118 : decode c_Md_merge 118 = .ok (.dup, 1) := by decide +kernel
theorem d_Md_merge_119 : decode c_Md_merge 119 = .ok (.getfield 129, 3) := by decide +kernel
theorem d_Md_merge_122 : decode c_Md_merge 122 = .ok (.iconst 1, 1) := by decide +kernel
theorem d_Md_merge_123 : decode c_Md_merge 123 = .ok (.iadd, 1) := by decide +kernel
theorem d_Md_merge_124 : decode c_Md_merge 124 = .ok (.putfield 129, 3) := by decide +kernel
theorem d_Md_merge_127 : decode c_Md_merge 127 = .ok (.iinc 2 1, 3) := by decide +kernel
theorem d_Md_merge_130 : decode c_Md_merge 130 = .ok (.goto (-41), 3) := by decide +kernel
theorem d_Md_merge_133 : decode c_Md_merge 133 = .ok (.return_, 1) := by decide +kernel
theorem d_Md_feed_0 : decode c_Md_feed 0 = .ok (.iload_n 1, 1) := by decide +kernel
theorem d_Md_feed_1 : decode c_Md_feed 1 = .ok (.istore_n 3, 1) := by decide +kernel
theorem d_Md_feed_2 : decode c_Md_feed 2 = .ok (.iload_n 3, 1) := by decide +kernel
theorem d_Md_feed_3 : decode c_Md_feed 3 = .ok (.iload_n 2, 1) := by decide +kernel
theorem d_Md_feed_4 : decode c_Md_feed 4 = .ok (.if_icmp .ge 34, 3) := by decide +kernel
theorem d_Md_feed_7 : decode c_Md_feed 7 = .ok (.aload_n 0, 1) := by decide +kernel
theorem d_Md_feed_8 : decode c_Md_feed 8 = .ok (.getfield 68, 3) := by decide +kernel
theorem d_Md_feed_11 : decode c_Md_feed 11 = .ok (.aload_n 0, 1) := by decide +kernel
theorem d_Md_feed_12 : decode c_Md_feed 12 = .ok (.getfield 129, 3) := by decide +kernel
theorem d_Md_feed_15 : decode c_Md_feed 15 = .ok (.aload_n 0, 1) := by decide +kernel
theorem d_Md_feed_16 : decode c_Md_feed 16 = .ok (.getfield 53, 3) := by decide +kernel
theorem d_Md_feed_19 : decode c_Md_feed 19 = .ok (.iload_n 3, 1) := by decide +kernel
theorem d_Md_feed_20 : decode c_Md_feed 20 = .ok (.iaload, 1) := by decide +kernel
theorem d_Md_feed_21 : decode c_Md_feed 21 = .ok (.iastore, 1) := by decide +kernel
theorem d_Md_feed_22 : decode c_Md_feed 22 = .ok (.aload_n 0, 1) := by decide +kernel
theorem d_Md_feed_23 : decode c_Md_feed 23 = .ok (.dup, 1) := by decide +kernel
theorem d_Md_feed_24 : decode c_Md_feed 24 = .ok (.getfield 129, 3) := by decide +kernel
theorem d_Md_feed_27 : decode c_Md_feed 27 = .ok (.iconst 1, 1) := by decide +kernel
theorem d_Md_feed_28 : decode c_Md_feed 28 = .ok (.iadd, 1) := by decide +kernel
theorem d_Md_feed_29 : decode c_Md_feed 29 = .ok (.putfield 129, 3) := by decide +kernel
theorem d_Md_feed_32 : decode c_Md_feed 32 = .ok (.iinc 3 1, 3) := by decide +kernel
theorem d_Md_feed_35 : decode c_Md_feed 35 = .ok (.goto (-33), 3) := by decide +kernel
theorem d_Md_feed_38 : decode c_Md_feed 38 = .ok (.return_, 1) := by decide +kernel
