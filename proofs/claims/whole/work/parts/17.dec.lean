theorem d_Md_plain_0 : decode c_Md_plain 0 = .ok (.aload_n 0, 1) := by decide +kernel
theorem d_Md_plain_1 : decode c_Md_plain 1 = .ok (.iconst 0, 1) := by decide +kernel
theorem d_Md_plain_2 : decode c_Md_plain 2 = .ok (.putfield 132, 3) := by decide +kernel
theorem d_Md_plain_5 : decode c_Md_plain 5 = .ok (.aload_n 0, 1) := by decide +kernel
theorem d_Md_plain_6 : decode c_Md_plain 6 = .ok (.getfield 129, 3) := by decide +kernel
theorem d_Md_plain_9 : decode c_Md_plain 9 = .ok (.ifCond .le 280, 3) := by decide +kernel
theorem d_Md_plain_12 : decode c_Md_plain 12 = .ok (.aload_n 0, 1) := by decide +kernel
theorem d_Md_plain_13 : decode c_Md_plain 13 = .ok (.bipush 46, 2) := by decide +kernel
theorem d_Md_plain_15 : decode c_Md_plain 15 = .ok (.bipush 46, 2) := by decide +kernel
theorem d_Md_plain_17 : decode c_Md_plain 17 = .ok (.bipush 47, 2) := by decide +kernel
theorem d_Md_plain_19 : decode c_Md_plain 19 = .ok (.iconst (-1), 1) := by decide +kernel
theorem d_Md_plain_20 : decode c_Md_plain 20 = .ok (.invokevirtual 135, 3) := by decide +kernel
theorem d_Md_plain_23 : decode c_Md_plain 23 = .ok (.ifCond .eq 11, 3) := by decide +kernel
theorem d_Md_plain_26 : decode c_Md_plain 26 = .ok (.aload_n 0, 1) := by decide +kernel
theorem d_Md_plain_27 : decode c_Md_plain 27 = .ok (.iconst 3, 1) := by decide +kernel
theorem d_Md_plain_28 : decode c_Md_plain 28 = .ok (.invokevirtual 139, 3) := by decide +kernel
theorem d_Md_plain_31 : decode c_Md_plain 31 = .ok (.goto (-26), 3) := by decide +kernel
theorem d_Md_plain_34 : decode c_Md_plain 34 = .ok (.aload_n 0, 1) := by decide +kernel
theorem d_Md_plain_35 : decode c_Md_plain 35 = .ok (.bipush 46, 2) := by decide +kernel
theorem d_Md_plain_37 : decode c_Md_plain 37 = .ok (.bipush 47, 2) := by decide +kernel
theorem d_Md_plain_39 : decode c_Md_plain 39 = .ok (.iconst (-1), 1) := by decide +kernel
theorem d_Md_plain_40 : decode c_Md_plain 40 = .ok (.iconst (-1), 1) := by decide +kernel
theorem d_Md_plain_41 : decode c_Md_plain 41 = .ok (.invokevirtual 135, 3) := by decide +kernel
theorem d_Md_plain_44 : decode c_Md_plain 44 = .ok (.ifCond .eq 11, 3) := by decide +kernel
theorem d_Md_plain_47 : decode c_Md_plain 47 = .ok (.aload_n 0, 1) := by decide +kernel
theorem d_Md_plain_48 : decode c_Md_plain 48 = .ok (.iconst 2, 1) := by decide +kernel
theorem d_Md_plain_49 : decode c_Md_plain 49 = .ok (.invokevirtual 139, 3) := by decide +kernel
theorem d_Md_plain_52 : decode c_Md_plain 52 = .ok (.goto (-47), 3) := by decide +kernel
theorem d_Md_plain_55 : decode c_Md_plain 55 = .ok (.aload_n 0, 1) := by decide +kernel
theorem d_Md_plain_56 : decode c_Md_plain 56 = .ok (.bipush 47, 2) := by decide +kernel
theorem d_Md_plain_58 : decode c_Md_plain 58 = .ok (.bipush 46, 2) := by decide +kernel
theorem d_Md_plain_60 : decode c_Md_plain 60 = .ok (.bipush 47, 2) := by decide +kernel
theorem d_Md_plain_62 : decode c_Md_plain 62 = .ok (.iconst (-1), 1) := by decide +kernel
theorem d_Md_plain_63 : decode c_Md_plain 63 = .ok (.invokevirtual 135, 3) := by decide +kernel
theorem d_Md_plain_66 : decode c_Md_plain 66 = .ok (.ifCond .eq 11, 3) := by decide +kernel
theorem d_Md_plain_69 : decode c_Md_plain 69 = .ok (.aload_n 0, 1) := by decide +kernel
theorem d_Md_plain_70 : decode c_Md_plain 70 = .ok (.iconst 2, 1) := by decide +kernel
theorem d_Md_plain_71 : decode c_Md_plain 71 = .ok (.invokevirtual 139, 3) := by decide +kernel
theorem d_Md_plain_74 : decode c_Md_plain 74 = .ok (.goto (-69), 3) := by decide +kernel
theorem d_Md_plain_77 : decode c_Md_plain 77 = .ok (.aload_n 0, 1) := by decide +kernel
theorem d_Md_plain_78 : decode c_Md_plain 78 = .ok (.getfield 129, 3) := by decide +kernel
theorem d_Md_plain_81 : decode c_Md_plain 81 = .ok (.iconst 2, 1) := by decide +kernel
theorem d_Md_plain_82 : decode c_Md_plain 82 = .ok (.if_icmp .ne 24, 3) := by decide +kernel
theorem d_Md_plain_85 : decode c_Md_plain 85 = .ok (.aload_n 0, 1) := by decide +kernel
theorem d_Md_plain_86 : decode c_Md_plain 86 = .ok (.bipush 47, 2) := by decide +kernel
theorem d_Md_plain_88 : decode c_Md_plain 88 = .ok (.bipush 46, 2) := by decide +kernel
theorem d_Md_plain_90 : decode c_Md_plain 90 = .ok (.iconst (-1), 1) := by decide +kernel
theorem d_Md_plain_91 : decode c_Md_plain 91 = .ok (.iconst (-1), 1) := by decide +kernel
theorem d_Md_plain_92 : decode c_Md_plain 92 = .ok (.invokevirtual 135, 3) := by decide +kernel
theorem d_Md_plain_95 : decode c_Md_plain 95 = .ok (.ifCond .eq 11, 3) := by decide +kernel
theorem d_Md_plain_98 : decode c_Md_plain 98 = .ok (.aload_n 0, 1) := by decide +kernel
theorem d_Md_plain_99 : decode c_Md_plain 99 = .ok (.iconst 1, 1) := by decide +kernel
theorem d_Md_plain_100 : decode c_Md_plain 100 = .ok (.putfield 129, 3) := by decide +kernel
theorem d_Md_plain_103 : decode c_Md_plain 103 = .ok (.goto (-98), 3) := by decide +kernel
theorem d_Md_plain_106 : decode c_Md_plain 106 = .ok (.aload_n 0, 1) := by decide +kernel
theorem d_Md_plain_107 : decode c_Md_plain 107 = .ok (.bipush 47, 2) := by decide +kernel
theorem d_Md_plain_109 : decode c_Md_plain 109 = .ok (.bipush 46, 2) := by decide +kernel
theorem d_Md_plain_111 : decode c_Md_plain 111 = .ok (.bipush 46, 2) := by decide +kernel
theorem d_Md_plain_113 : decode c_Md_plain 113 = .ok (.bipush 47, 2) := by decide +kernel
theorem d_Md_plain_115 : decode c_Md_plain 115 = .ok (.invokevirtual 135, 3) := by decide +kernel
theorem d_Md_plain_118 : decode c_Md_plain 118 = .ok (.ifCond .eq 15, 3) := by decide +kernel
theorem d_Md_plain_121 : decode c_Md_plain 121 = .ok (.aload_n 0, 1) := by decide +kernel
theorem d_Md_plain_122 : decode c_Md_plain 122 = .ok (.iconst 3, 1) := by decide +kernel
theorem d_Md_plain_123 : decode c_Md_plain 123 = .ok (.invokevirtual 139, 3) := by decide +kernel
theorem d_Md_plain_126 : decode c_Md_plain 126 = .ok (.aload_n 0, 1) := by decide +kernel
theorem d_Md_plain_127 : decode c_Md_plain 127 = .ok (.invokevirtual 143, 3) := by decide +kernel
theorem d_Md_plain_130 : decode c_Md_plain 130 = .ok (.goto (-125), 3) := by decide +kernel
theorem d_Md_plain_133 : decode c_Md_plain 133 = .ok (.aload_n 0, 1) := by decide +kernel
theorem d_Md_plain_134 : decode c_Md_plain 134 = .ok (.getfield 129, 3) := by decide +kernel
theorem d_Md_plain_137 : decode c_Md_plain 137 = .ok (.iconst 3, 1) := by decide +kernel
theorem d_Md_plain_138 : decode c_Md_plain 138 = .ok (.if_icmp .ne 29, 3) := by decide +kernel
theorem d_Md_plain_141 : decode c_Md_plain 141 = .ok (.aload_n 0, 1) := by decide +kernel
theorem d_Md_plain_142 : decode c_Md_plain 142 = .ok (.bipush 47, 2) := by decide +kernel
theorem d_Md_plain_144 : decode c_Md_plain 144 = .ok (.bipush 46, 2) := by decide +kernel
theorem d_Md_plain_146 : decode c_Md_plain 146 = .ok (.bipush 46, 2) := by decide +kernel
theorem d_Md_plain_148 : decode c_Md_plain 148 = .ok (.iconst (-1), 1) := by decide +kernel
theorem d_Md_plain_149 : decode c_Md_plain 149 = .ok (.invokevirtual 135, 3) := by decide +kernel
theorem d_Md_plain_152 : decode c_Md_plain 152 = .ok (.ifCond .eq 15, 3) := by decide +kernel
theorem d_Md_plain_155 : decode c_Md_plain 155 = .ok (.aload_n 0, 1) := by decide +kernel
theorem d_Md_plain_156 : decode c_Md_plain 156 = .ok (.iconst 1, 1) := by decide +kernel
theorem d_Md_plain_157 : decode c_Md_plain 157 = .ok (.putfield 129, 3) := by decide +kernel
theorem d_Md_plain_160 : decode c_Md_plain 160 = .ok (.aload_n 0, 1) := by decide +kernel
theorem d_Md_plain_161 : decode c_Md_plain 161 = .ok (.invokevirtual 143, 3) := by decide +kernel
theorem d_Md_plain_164 : decode c_Md_plain 164 = .ok (.goto (-159), 3) := by decide +kernel
theorem d_Md_plain_167 : decode c_Md_plain 167 = .ok (.aload_n 0, 1) := by decide +kernel
theorem d_Md_plain_168 : decode c_Md_plain 168 = .ok (.getfield 129, 3) := by decide +kernel
theorem d_Md_plain_171 : decode c_Md_plain 171 = .ok (.iconst 1, 1) := by decide +kernel
theorem d_Md_plain_172 : decode c_Md_plain 172 = .ok (.if_icmp .ne 15, 3) := by decide +kernel
theorem d_Md_plain_175 : decode c_Md_plain 175 = .ok (.aload_n 0, 1) := by decide +kernel
theorem d_Md_plain_176 : decode c_Md_plain 176 = .ok (.bipush 46, 2) := by decide +kernel
theorem d_Md_plain_178 : decode c_Md_plain 178 = .ok (.iconst (-1), 1) := by decide +kernel
theorem d_Md_plain_179 : decode c_Md_plain 179 = .ok (.iconst (-1), 1) := by decide +kernel
theorem d_Md_plain_180 : decode c_Md_plain 180 = .ok (.iconst (-1), 1) := by decide +kernel
theorem d_Md_plain_181 : decode c_Md_plain 181 = .ok (.invokevirtual 135, 3) := by decide +kernel
theorem d_Md_plain_184 : decode c_Md_plain 184 = .ok (.ifCond .ne 24, 3) := by decide +kernel
theorem d_Md_plain_187 : decode c_Md_plain 187 = .ok (.aload_n 0, 1) := by decide +kernel
theorem d_Md_plain_188 : decode c_Md_plain 188 = .ok (.getfield 129, 3) := by decide +kernel
theorem d_Md_plain_191 : decode c_Md_plain 191 = .ok (.iconst 2, 1) := by decide +kernel
theorem d_Md_plain_192 : decode c_Md_plain 192 = .ok (.if_icmp .ne 24, 3) := by decide +kernel
theorem d_Md_plain_195 : decode c_Md_plain 195 = .ok (.aload_n 0, 1) := by decide +kernel
theorem d_Md_plain_196 : decode c_Md_plain 196 = .ok (.bipush 46, 2) := by decide +kernel
theorem d_Md_plain_198 : decode c_Md_plain 198 = .ok (.bipush 46, 2) := by decide +kernel
theorem d_Md_plain_200 : decode c_Md_plain 200 = .ok (.iconst (-1), 1) := by decide +kernel
theorem d_Md_plain_201 : decode c_Md_plain 201 = .ok (.iconst (-1), 1) := by decide +kernel
theorem d_Md_plain_202 : decode c_Md_plain 202 = .ok (.invokevirtual 135, 3) := by decide +kernel
theorem d_Md_plain_205 : decode c_Md_plain 205 = .ok (.ifCond .eq 11, 3) := by decide +kernel
theorem d_Md_plain_208 : decode c_Md_plain 208 = .ok (.aload_n 0, 1) := by decide +kernel
theorem d_Md_plain_209 : decode c_Md_plain 209 = .ok (.iconst 0, 1) := by decide +kernel
theorem d_Md_plain_210 : decode c_Md_plain 210 = .ok (.putfield 129, 3) := by decide +kernel
theorem d_Md_plain_213 : decode c_Md_plain 213 = .ok (.goto (-208), 3) := by decide +kernel
theorem d_Md_plain_216 : decode c_Md_plain 216 = .ok (.iconst 1, 1) := by decide +kernel
theorem d_Md_plain_217 : decode c_Md_plain 217 = .ok (.istore_n 1, 1) := by decide +kernel
theorem d_Md_plain_218 : decode c_Md_plain 218 = .ok (.iload_n 1, 1) := by decide +kernel
theorem d_Md_plain_219 : decode c_Md_plain 219 = .ok (.aload_n 0, 1) := by decide +kernel
theorem d_Md_plain_220 : decode c_Md_plain 220 = .ok (.getfield 129, 3) := by decide +kernel
theorem d_Md_plain_223 : decode c_Md_plain 223 = .ok (.if_icmp .ge 20, 3) := by decide +kernel
theorem d_Md_plain_226 : decode c_Md_plain 226 = .ok (.aload_n 0, 1) := by decide +kernel
theorem d_Md_plain_227 : decode c_Md_plain 227 = .ok (.getfield 68, 3) := by decide +kernel
theorem d_Md_plain_230 : decode c_Md_plain 230 = .ok (.iload_n 1, 1) := by decide +kernel
theorem d_Md_plain_231 : decode c_Md_plain 231 = .ok (.iaload, 1) := by decide +kernel
theorem d_Md_plain_232 : decode c_Md_plain 232 = .ok (.bipush 47, 2) := by decide +kernel
theorem d_Md_plain_234 : decode c_Md_plain 234 = .ok (.if_icmp .eq 9, 3) := by decide +kernel
theorem d_Md_plain_237 : decode c_Md_plain 237 = .ok (.iinc 1 1, 3) := by decide +kernel
theorem d_Md_plain_240 : decode c_Md_plain 240 = .ok (.goto (-22), 3) := by decide +kernel
theorem d_Md_plain_243 : decode c_Md_plain 243 = .ok (.iconst 0, 1) := by decide +kernel
theorem d_Md_plain_244 : decode c_Md_plain 244 = .ok (.istore_n 2, 1) := by decide +kernel
theorem d_Md_plain_245 : decode c_Md_plain 245 = .ok (.iload_n 2, 1) := by decide +kernel
theorem d_Md_plain_246 : decode c_Md_plain 246 = .ok (.iload_n 1, 1) := by decide +kernel
theorem d_Md_plain_247 : decode c_Md_plain 247 = .ok (.if_icmp .ge 34, 3) := by decide +kernel
theorem d_Md_plain_250 : decode c_Md_plain 250 = .ok (.aload_n 0, 1) := by decide +kernel
theorem d_Md_plain_251 : decode c_Md_plain 251 = .ok (.getfield 71, 3) := by decide +kernel
theorem d_Md_plain_254 : decode c_Md_plain 254 = .ok (.aload_n 0, 1) := by decide +kernel
theorem d_Md_plain_255 : decode c_Md_plain 255 = .ok (.getfield 132, 3) := by decide +kernel
theorem d_Md_plain_258 : decode c_Md_plain 258 = .ok (.aload_n 0, 1) := by decide +kernel
theorem d_Md_plain_259 : decode c_Md_plain 259 = .ok (.getfield 68, 3) := by decide +kernel
theorem d_Md_plain_262 : decode c_Md_plain 262 = .ok (.iload_n 2, 1) := by decide +kernel
theorem d_Md_plain_263 : decode c_Md_plain 263 = .ok (.iaload, 1) := by decide +kernel
theorem d_Md_plain_264 : decode c_Md_plain 264 = .ok (.iastore, 1) := by decide +kernel
theorem d_Md_plain_265 : decode c_Md_plain 265 = .ok (.aload_n 0, 1) := by decide +kernel
theorem d_Md_plain_266 : decode c_Md_plain 266 = .ok (.dup, 1) := by decide +kernel
theorem d_Md_plain_267 : decode c_Md_plain 267 = .ok (.getfield 132, 3) := by decide +kernel
theorem d_Md_plain_270 : decode c_Md_plain 270 = .ok (.iconst 1, 1) := by decide +kernel
theorem d_Md_plain_271 : decode c_Md_plain 271 = .ok (.iadd, 1) := by decide +kernel
theorem d_Md_plain_272 : decode c_Md_plain 272 = .ok (.putfield 132, 3) := by decide +kernel
theorem d_Md_plain_275 : decode c_Md_plain 275 = .ok (.iinc 2 1, 3) := by decide +kernel
theorem d_Md_plain_278 : decode c_Md_plain 278 = .ok (.goto (-33), 3) := by decide +kernel
theorem d_Md_plain_281 : decode c_Md_plain 281 = .ok (.aload_n 0, 1) := by decide +kernel
theorem d_Md_plain_282 : decode c_Md_plain 282 = .ok (.iload_n 1, 1) := by decide +kernel
theorem d_Md_plain_283 : decode c_Md_plain 283 = .ok (.invokevirtual 139, 3) := by decide +kernel
theorem d_Md_plain_286 : decode c_Md_plain 286 = .ok (.goto (-281), 3) := by decide +kernel
theorem d_Md_plain_289 : decode c_Md_plain 289 = .ok (.iconst 0, 1) := by decide +kernel
theorem d_Md_plain_290 : decode c_Md_plain 290 = .ok (.istore_n 1, 1) := by decide +kernel
theorem d_Md_plain_291 : decode c_Md_plain 291 = .ok (.iload_n 1, 1) := by decide +kernel
theorem d_Md_plain_292 : decode c_Md_plain 292 = .ok (.aload_n 0, 1) := by decide +kernel
theorem d_Md_plain_293 : decode c_Md_plain 293 = .ok (.getfield 132, 3) := by decide +kernel
theorem d_Md_plain_296 : decode c_Md_plain 296 = .ok (.if_icmp .ge 19, 3) := by decide +kernel
theorem d_Md_plain_299 : decode c_Md_plain 299 = .ok (.aload_n 0, 1) := by decide +kernel
theorem d_Md_plain_300 : decode c_Md_plain 300 = .ok (.aload_n 0, 1) := by decide +kernel
theorem d_Md_plain_301 : decode c_Md_plain 301 = .ok (.getfield 71, 3) := by decide +kernel
theorem d_Md_plain_304 : decode c_Md_plain 304 = .ok (.iload_n 1, 1) := by decide +kernel
theorem d_Md_plain_305 : decode c_Md_plain 305 = .ok (.iaload, 1) := by decide +kernel
theorem d_Md_plain_306 : decode c_Md_plain 306 = .ok (.invokevirtual 146, 3) := by decide +kernel
theorem d_Md_plain_309 : decode c_Md_plain 309 = .ok (.iinc 1 1, 3) := by decide +kernel
theorem d_Md_plain_312 : decode c_Md_plain 312 = .ok (.goto (-21), 3) := by decide +kernel
theorem d_Md_plain_315 : decode c_Md_plain 315 = .ok (.return_, 1) := by decide +kernel
theorem d_Md_begins_0 : decode c_Md_begins 0 = .ok (.iload_n 1, 1) := by decide +kernel
theorem d_Md_begins_1 : decode c_Md_begins 1 = .ok (.ifCond .lt 20, 3) := by decide +kernel
theorem d_Md_begins_4 : decode c_Md_begins 4 = .ok (.aload_n 0, 1) := by decide +kernel
theorem d_Md_begins_5 : decode c_Md_begins 5 = .ok (.getfield 129, 3) := by decide +kernel
theorem d_Md_begins_8 : decode c_Md_begins 8 = .ok (.ifCond .le 85, 3) := by decide +kernel
theorem d_Md_begins_11 : decode c_Md_begins 11 = .ok (.aload_n 0, 1) := by decide +kernel
theorem d_Md_begins_12 : decode c_Md_begins 12 = .ok (.getfield 68, 3) := by decide +kernel
theorem d_Md_begins_15 : decode c_Md_begins 15 = .ok (.iconst 0, 1) := by decide +kernel
theorem d_Md_begins_16 : decode c_Md_begins 16 = .ok (.iaload, 1) := by decide +kernel
theorem d_Md_begins_17 : decode c_Md_begins 17 = .ok (.iload_n 1, 1) := by decide +kernel
theorem d_Md_begins_18 : decode c_Md_begins 18 = .ok (.if_icmp .ne 75, 3) := by decide +kernel
theorem d_Md_begins_21 : decode c_Md_begins 21 = .ok (.iload_n 2, 1) := by decide +kernel
theorem d_Md_begins_22 : decode c_Md_begins 22 = .ok (.ifCond .lt 21, 3) := by decide +kernel
theorem d_Md_begins_25 : decode c_Md_begins 25 = .ok (.aload_n 0, 1) := by decide +kernel
theorem d_Md_begins_26 : decode c_Md_begins 26 = .ok (.getfield 129, 3) := by decide +kernel
theorem d_Md_begins_29 : decode c_Md_begins 29 = .ok (.iconst 1, 1) := by decide +kernel
theorem d_Md_begins_30 : decode c_Md_begins 30 = .ok (.if_icmp .le 63, 3) := by decide +kernel
theorem d_Md_begins_33 : decode c_Md_begins 33 = .ok (.aload_n 0, 1) := by decide +kernel
theorem d_Md_begins_34 : decode c_Md_begins 34 = .ok (.getfield 68, 3) := by decide +kernel
theorem d_Md_begins_37 : decode c_Md_begins 37 = .ok (.iconst 1, 1) := by decide +kernel
theorem d_Md_begins_38 : decode c_Md_begins 38 = .ok (.iaload, 1) := by decide +kernel
theorem d_Md_begins_39 : decode c_Md_begins 39 = .ok (.iload_n 2, 1) := by decide +kernel
theorem d_Md_begins_40 : decode c_Md_begins 40 = .ok (.if_icmp .ne 53, 3) := by decide +kernel
theorem d_Md_begins_43 : decode c_Md_begins 43 = .ok (.iload_n 3, 1) := by decide +kernel
theorem d_Md_begins_44 : decode c_Md_begins 44 = .ok (.ifCond .lt 21, 3) := by decide +kernel
theorem d_Md_begins_47 : decode c_Md_begins 47 = .ok (.aload_n 0, 1) := by decide +kernel
theorem d_Md_begins_48 : decode c_Md_begins 48 = .ok (.getfield 129, 3) := by decide +kernel
theorem d_Md_begins_51 : decode c_Md_begins 51 = .ok (.iconst 2, 1) := by decide +kernel
theorem d_Md_begins_52 : decode c_Md_begins 52 = .ok (.if_icmp .le 41, 3) := by decide +kernel
theorem d_Md_begins_55 : decode c_Md_begins 55 = .ok (.aload_n 0, 1) := by decide +kernel
theorem d_Md_begins_56 : decode c_Md_begins 56 = .ok (.getfield 68, 3) := by decide +kernel
theorem d_Md_begins_59 : decode c_Md_begins 59 = .ok (.iconst 2, 1) := by decide +kernel
theorem d_Md_begins_60 : decode c_Md_begins 60 = .ok (.iaload, 1) := by decide +kernel
theorem d_Md_begins_61 : decode c_Md_begins 61 = .ok (.iload_n 3, 1) := by decide +kernel
theorem d_Md_begins_62 : decode c_Md_begins 62 = .ok (.if_icmp .ne 31, 3) := by decide +kernel
theorem d_Md_begins_65 : decode c_Md_begins 65 = .ok (.iload 4, 2) := by decide +kernel
theorem d_Md_begins_67 : decode c_Md_begins 67 = .ok (.ifCond .lt 22, 3) := by decide +kernel
theorem d_Md_begins_70 : decode c_Md_begins 70 = .ok (.aload_n 0, 1) := by decide +kernel
theorem d_Md_begins_71 : decode c_Md_begins 71 = .ok (.getfield 129, 3) := by decide +kernel
theorem d_Md_begins_74 : decode c_Md_begins 74 = .ok (.iconst 3, 1) := by decide +kernel
theorem d_Md_begins_75 : decode c_Md_begins 75 = .ok (.if_icmp .le 18, 3) := by decide +kernel
theorem d_Md_begins_78 : decode c_Md_begins 78 = .ok (.aload_n 0, 1) := by decide +kernel
theorem d_Md_begins_79 : decode c_Md_begins 79 = .ok (.getfield 68, 3) := by decide +kernel
theorem d_Md_begins_82 : decode c_Md_begins 82 = .ok (.iconst 3, 1) := by decide +kernel
theorem d_Md_begins_83 : decode c_Md_begins 83 = .ok (.iaload, 1) := by decide +kernel
theorem d_Md_begins_84 : decode c_Md_begins 84 = .ok (.iload 4, 2) := by decide +kernel
theorem d_Md_begins_86 : decode c_Md_begins 86 = .ok (.if_icmp .ne 7, 3) := by decide +kernel
theorem d_Md_begins_89 : decode c_Md_begins 89 = .ok (.iconst 1, 1) := by decide +kernel
theorem d_Md_begins_90 : decode c_Md_begins 90 = .ok (.goto 4, 3) := by decide +kernel
theorem d_Md_begins_93 : decode c_Md_begins 93 = .ok (.iconst 0, 1) := by decide +kernel
theorem d_Md_begins_94 : decode c_Md_begins 94 = .ok (.ireturn, 1) := by decide +kernel
theorem d_Md_skip_0 : decode c_Md_skip 0 = .ok (.aload_n 0, 1) := by decide +kernel
theorem d_Md_skip_1 : decode c_Md_skip 1 = .ok (.dup, 1) := by decide +kernel
theorem d_Md_skip_2 : decode c_Md_skip 2 = .ok (.getfield 129, 3) := by decide +kernel
theorem d_Md_skip_5 : decode c_Md_skip 5 = .ok (.iload_n 1, 1) := by decide +kernel
theorem d_Md_skip_6 : decode c_Md_skip 6 = .ok (.isub, 1) := by decide +kernel
theorem d_Md_skip_7 : decode c_Md_skip 7 = .ok (.putfield 129, 3) := by decide +kernel
theorem d_Md_skip_10 : decode c_Md_skip 10 = .ok (.iconst 0, 1) := by decide +kernel
theorem d_Md_skip_11 : decode c_Md_skip 11 = .ok (.istore_n 2, 1) := by decide +kernel
theorem d_Md_skip_12 : decode c_Md_skip 12 = .ok (.iload_n 2, 1) := by decide +kernel
theorem d_Md_skip_13 : decode c_Md_skip 13 = .ok (.aload_n 0, 1) := by decide +kernel
theorem d_Md_skip_14 : decode c_Md_skip 14 = .ok (.getfield 129, 3) := by decide +kernel
theorem d_Md_skip_17 : decode c_Md_skip 17 = .ok (.if_icmp .ge 23, 3) := by decide +kernel
theorem d_Md_skip_20 : decode c_Md_skip 20 = .ok (.aload_n 0, 1) := by decide +kernel
theorem d_Md_skip_21 : decode c_Md_skip 21 = .ok (.getfield 68, 3) := by decide +kernel
theorem d_Md_skip_24 : decode c_Md_skip 24 = .ok (.iload_n 2, 1) := by decide +kernel
theorem d_Md_skip_25 : decode c_Md_skip 25 = .ok (.aload_n 0, 1) := by decide +kernel
theorem d_Md_skip_26 : decode c_Md_skip 26 = .ok (.getfield 68, 3) := by decide +kernel
theorem d_Md_skip_29 : decode c_Md_skip 29 = .ok (.iload_n 2, 1) := by decide +kernel
theorem d_Md_skip_30 : decode c_Md_skip 30 = .ok (.iload_n 1, 1) := by decide +kernel
theorem d_Md_skip_31 : decode c_Md_skip 31 = .ok (.iadd, 1) := by decide +kernel
theorem d_Md_skip_32 : decode c_Md_skip 32 = .ok (.iaload, 1) := by decide +kernel
theorem d_Md_skip_33 : decode c_Md_skip 33 = .ok (.iastore, 1) := by decide +kernel
theorem d_Md_skip_34 : decode c_Md_skip 34 = .ok (.iinc 2 1, 3) := by decide +kernel
theorem d_Md_skip_37 : decode c_Md_skip 37 = .ok (.goto (-25), 3) := by decide +kernel
theorem d_Md_skip_40 : decode c_Md_skip 40 = .ok (.return_, 1) := by decide +kernel
theorem d_Md_back_0 : decode c_Md_back 0 = .ok (.aload_n 0, 1) := by decide +kernel
theorem d_Md_back_1 : decode c_Md_back 1 = .ok (.getfield 132, 3) := by decide +kernel
theorem d_Md_back_4 : decode c_Md_back 4 = .ok (.iconst 1, 1) := by decide +kernel
theorem d_Md_back_5 : decode c_Md_back 5 = .ok (.isub, 1) := by decide +kernel
theorem d_Md_back_6 : decode c_Md_back 6 = .ok (.istore_n 1, 1) := by decide +kernel
theorem d_Md_back_7 : decode c_Md_back 7 = .ok (.iload_n 1, 1) := by decide +kernel
theorem d_Md_back_8 : decode c_Md_back 8 = .ok (.ifCond .le 20, 3) := by decide +kernel
theorem d_Md_back_11 : decode c_Md_back 11 = .ok (.aload_n 0, 1) := by decide +kernel
theorem d_Md_back_12 : decode c_Md_back 12 = .ok (.getfield 71, 3) := by decide +kernel
theorem d_Md_back_15 : decode c_Md_back 15 = .ok (.iload_n 1, 1) := by decide +kernel
theorem d_Md_back_16 : decode c_Md_back 16 = .ok (.iaload, 1) := by decide +kernel
theorem d_Md_back_17 : decode c_Md_back 17 = .ok (.bipush 47, 2) := by decide +kernel
theorem d_Md_back_19 : decode c_Md_back 19 = .ok (.if_icmp .eq 9, 3) := by decide +kernel
theorem d_Md_back_22 : decode c_Md_back 22 = .ok (.iinc 1 (-1), 3) := by decide +kernel
theorem d_Md_back_25 : decode c_Md_back 25 = .ok (.goto (-18), 3) := by decide +kernel
theorem d_Md_back_28 : decode c_Md_back 28 = .ok (.aload_n 0, 1) := by decide +kernel
theorem d_Md_back_29 : decode c_Md_back 29 = .ok (.iload_n 1, 1) := by decide +kernel
theorem d_Md_back_30 : decode c_Md_back 30 = .ok (.ifCond .ge 7, 3) := by decide +kernel
theorem d_Md_back_33 : decode c_Md_back 33 = .ok (.iconst 0, 1) := by decide +kernel
theorem d_Md_back_34 : decode c_Md_back 34 = .ok (.goto 4, 3) := by decide +kernel
theorem d_Md_back_37 : decode c_Md_back 37 = .ok (.iload_n 1, 1) := by decide +kernel
theorem d_Md_back_38 : decode c_Md_back 38 = .ok (.putfield 132, 3) := by decide +kernel
theorem d_Md_back_41 : decode c_Md_back 41 = .ok (.return_, 1) := by decide +kernel
theorem d_Md_base_0 : decode c_Md_base 0 = .ok (.iload_n 1, 1) := by decide +kernel
theorem d_Md_base_1 : decode c_Md_base 1 = .ok (.iconst (-1), 1) := by decide +kernel
theorem d_Md_base_2 : decode c_Md_base 2 = .ok (.if_icmp .eq 13, 3) := by decide +kernel
theorem d_Md_base_5 : decode c_Md_base 5 = .ok (.aload_n 0, 1) := by decide +kernel
theorem d_Md_base_6 : decode c_Md_base 6 = .ok (.iload_n 1, 1) := by decide +kernel
theorem d_Md_base_7 : decode c_Md_base 7 = .ok (.invokevirtual 178, 3) := by decide +kernel
theorem d_Md_base_10 : decode c_Md_base 10 = .ok (.ifCond .ne 5, 3) := by decide +kernel
theorem d_Md_base_13 : decode c_Md_base 13 = .ok (.iconst (-1), 1) := by decide +kernel
theorem d_Md_base_14 : decode c_Md_base 14 = .ok (.ireturn, 1) := by decide +kernel
theorem d_Md_base_15 : decode c_Md_base 15 = .ok (.aload_n 0, 1) := by decide +kernel
theorem d_Md_base_16 : decode c_Md_base 16 = .ok (.iload_n 1, 1) := by decide +kernel
theorem d_Md_base_17 : decode c_Md_base 17 = .ok (.putfield 31, 3) := by decide +kernel
theorem d_Md_base_20 : decode c_Md_base 20 = .ok (.iconst 1, 1) := by decide +kernel
theorem d_Md_base_21 : decode c_Md_base 21 = .ok (.ireturn, 1) := by decide +kernel
theorem d_Md_isAddress_0 : decode c_Md_isAddress 0 = .ok (.aload_n 0, 1) := by decide +kernel
theorem d_Md_isAddress_1 : decode c_Md_isAddress 1 = .ok (.iload_n 1, 1) := by decide +kernel
theorem d_Md_isAddress_2 : decode c_Md_isAddress 2 = .ok (.invokevirtual 103, 3) := by decide +kernel
theorem d_Md_isAddress_5 : decode c_Md_isAddress 5 = .ok (.ifCond .eq 16, 3) := by decide +kernel
theorem d_Md_isAddress_8 : decode c_Md_isAddress 8 = .ok (.aload_n 0, 1) := by decide +kernel
theorem d_Md_isAddress_9 : decode c_Md_isAddress 9 = .ok (.getfield 13, 3) := by decide +kernel
theorem d_Md_isAddress_12 : decode c_Md_isAddress 12 = .ok (.iload_n 1, 1) := by decide +kernel
theorem d_Md_isAddress_13 : decode c_Md_isAddress 13 = .ok (.iaload, 1) := by decide +kernel
theorem d_Md_isAddress_14 : decode c_Md_isAddress 14 = .ok (.ifCond .ne 7, 3) := by decide +kernel
theorem d_Md_isAddress_17 : decode c_Md_isAddress 17 = .ok (.iconst 1, 1) := by decide +kernel
theorem d_Md_isAddress_18 : decode c_Md_isAddress 18 = .ok (.goto 4, 3) := by decide +kernel
theorem d_Md_isAddress_21 : decode c_Md_isAddress 21 = .ok (.iconst 0, 1) := by decide +kernel
theorem d_Md_isAddress_22 : decode c_Md_isAddress 22 = .ok (.ireturn, 1) := by decide +kernel
theorem d_Md_isTerm_0 : decode c_Md_isTerm 0 = .ok (.iload_n 1, 1) := by decide +kernel
theorem d_Md_isTerm_1 : decode c_Md_isTerm 1 = .ok (.iconst 0, 1) := by decide +kernel
theorem d_Md_isTerm_2 : decode c_Md_isTerm 2 = .ok (.aload_n 0, 1) := by decide +kernel
theorem d_Md_isTerm_3 : decode c_Md_isTerm 3 = .ok (.getfield 74, 3) := by decide +kernel
theorem d_Md_isTerm_6 : decode c_Md_isTerm 6 = .ok (.iconst 1, 1) := by decide +kernel
theorem d_Md_isTerm_7 : decode c_Md_isTerm 7 = .ok (.isub, 1) := by decide +kernel
theorem d_Md_isTerm_8 : decode c_Md_isTerm 8 = .ok (.invokestatic 77, 3) := by decide +kernel
theorem d_Md_isTerm_11 : decode c_Md_isTerm 11 = .ok (.ireturn, 1) := by decide +kernel
theorem d_Md_literal_0 : decode c_Md_literal 0 = .ok (.aload_n 0, 1) := by decide +kernel
theorem d_Md_literal_1 : decode c_Md_literal 1 = .ok (.getfield 90, 3) := by decide +kernel
theorem d_Md_literal_4 : decode c_Md_literal 4 = .ok (.istore_n 2, 1) := by decide +kernel
theorem d_Md_literal_5 : decode c_Md_literal 5 = .ok (.iload_n 1, 1) := by decide +kernel
theorem d_Md_literal_6 : decode c_Md_literal 6 = .ok (.iconst 0, 1) := by decide +kernel
theorem d_Md_literal_7 : decode c_Md_literal 7 = .ok (.iconst 4, 1) := by decide +kernel
theorem d_Md_literal_8 : decode c_Md_literal 8 = .ok (.invokestatic 77, 3) := by decide +kernel
theorem d_Md_literal_11 : decode c_Md_literal 11 = .ok (.ifCond .eq 8, 3) := by decide +kernel
theorem d_Md_literal_14 : decode c_Md_literal 14 = .ok (.iload_n 1, 1) := by decide +kernel
theorem d_Md_literal_15 : decode c_Md_literal 15 = .ok (.iconst 1, 1) := by decide +kernel
theorem d_Md_literal_16 : decode c_Md_literal 16 = .ok (.if_icmp .ne 10, 3) := by decide +kernel
theorem d_Md_literal_19 : decode c_Md_literal 19 = .ok (.aload_n 0, 1) := by decide +kernel
theorem d_Md_literal_20 : decode c_Md_literal 20 = .ok (.iconst 0, 1) := by decide +kernel
theorem d_Md_literal_21 : decode c_Md_literal 21 = .ok (.putfield 90, 3) := by decide +kernel
theorem d_Md_literal_24 : decode c_Md_literal 24 = .ok (.iconst (-1), 1) := by decide +kernel
theorem d_Md_literal_25 : decode c_Md_literal 25 = .ok (.ireturn, 1) := by decide +kernel
theorem d_Md_literal_26 : decode c_Md_literal 26 = .ok (.aload_n 0, 1) := by decide +kernel
theorem d_Md_literal_27 : decode c_Md_literal 27 = .ok (.iconst 0, 1) := by decide +kernel
theorem d_Md_literal_28 : decode c_Md_literal 28 = .ok (.putfield 93, 3) := by decide +kernel
theorem d_Md_literal_31 : decode c_Md_literal 31 = .ok (.aload_n 0, 1) := by decide +kernel
theorem d_Md_literal_32 : decode c_Md_literal 32 = .ok (.iconst 0, 1) := by decide +kernel
theorem d_Md_literal_33 : decode c_Md_literal 33 = .ok (.putfield 96, 3) := by decide +kernel
theorem d_Md_literal_36 : decode c_Md_literal 36 = .ok (.iconst 0, 1) := by decide +kernel
theorem d_Md_literal_37 : decode c_Md_literal 37 = .ok (.istore_n 3, 1) := by decide +kernel
theorem d_Md_literal_38 : decode c_Md_literal 38 = .ok (.iload_n 3, 1) := by decide +kernel
theorem d_Md_literal_39 : decode c_Md_literal 39 = .ok (.iload_n 2, 1) := by decide +kernel
theorem d_Md_literal_40 : decode c_Md_literal 40 = .ok (.if_icmp .ge 98, 3) := by decide +kernel
theorem d_Md_literal_43 : decode c_Md_literal 43 = .ok (.aload_n 0, 1) := by decide +kernel
theorem d_Md_literal_44 : decode c_Md_literal 44 = .ok (.getfield 7, 3) := by decide +kernel
theorem d_Md_literal_47 : decode c_Md_literal 47 = .ok (.iload_n 3, 1) := by decide +kernel
theorem d_Md_literal_48 : decode c_Md_literal 48 = .ok (.iaload, 1) := by decide +kernel
theorem d_Md_literal_49 : decode c_Md_literal 49 = .ok (.istore 4, 2) := by decide +kernel
theorem d_Md_literal_51 : decode c_Md_literal 51 = .ok (.iload 4, 2) := by decide +kernel
theorem d_Md_literal_53 : decode c_Md_literal 53 = .ok (.bipush 92, 2) := by decide +kernel
theorem d_Md_literal_55 : decode c_Md_literal 55 = .ok (.if_icmp .ne 11, 3) := by decide +kernel
theorem d_Md_literal_58 : decode c_Md_literal 58 = .ok (.aload_n 0, 1) := by decide +kernel
theorem d_Md_literal_59 : decode c_Md_literal 59 = .ok (.iload_n 3, 1) := by decide +kernel
theorem d_Md_literal_60 : decode c_Md_literal 60 = .ok (.invokevirtual 184, 3) := by decide +kernel
theorem d_Md_literal_63 : decode c_Md_literal 63 = .ok (.goto 16, 3) := by decide +kernel
theorem d_Md_literal_66 : decode c_Md_literal 66 = .ok (.iload 4, 2) := by decide +kernel
theorem d_Md_literal_68 : decode c_Md_literal 68 = .ok (.bipush 34, 2) := by decide +kernel
theorem d_Md_literal_70 : decode c_Md_literal 70 = .ok (.if_icmp .ne 7, 3) := by decide +kernel
theorem d_Md_literal_73 : decode c_Md_literal 73 = .ok (.iconst (-1), 1) := by decide +kernel
theorem d_Md_literal_74 : decode c_Md_literal 74 = .ok (.goto 5, 3) := by decide +kernel
theorem d_Md_literal_77 : decode c_Md_literal 77 = .ok (.iload 4, 2) := by decide +kernel
theorem d_Md_literal_79 : decode c_Md_literal 79 = .ok (.istore 5, 2) := by decide +kernel
theorem d_Md_literal_81 : decode c_Md_literal 81 = .ok (.iload 5, 2) := by decide +kernel
theorem d_Md_literal_83 : decode c_Md_literal 83 = .ok (.ifCond .ge 13, 3) := by decide +kernel
theorem d_Md_literal_86 : decode c_Md_literal 86 = .ok (.aload_n 0, 1) := by decide +kernel
theorem d_Md_literal_87 : decode c_Md_literal 87 = .ok (.iconst 0, 1) := by decide +kernel
theorem d_Md_literal_88 : decode c_Md_literal 88 = .ok (.putfield 90, 3) := by decide +kernel
theorem d_Md_literal_91 : decode c_Md_literal 91 = .ok (.bipush (-10), 2) := by decide +kernel
theorem d_Md_literal_93 : decode c_Md_literal 93 = .ok (.iload_n 3, 1) := by decide +kernel
theorem d_Md_literal_94 : decode c_Md_literal 94 = .ok (.isub, 1) := by decide +kernel
theorem d_Md_literal_95 : decode c_Md_literal 95 = .ok (.ireturn, 1) := by decide +kernel
theorem d_Md_literal_96 : decode c_Md_literal 96 = .ok (.aload_n 0, 1) := by decide +kernel
theorem d_Md_literal_97 : decode c_Md_literal 97 = .ok (.iload 5, 2) := by decide +kernel
theorem d_Md_literal_99 : decode c_Md_literal 99 = .ok (.invokevirtual 146, 3) := by decide +kernel
theorem d_Md_literal_102 : decode c_Md_literal 102 = .ok (.iload_n 3, 1) := by decide +kernel
theorem d_Md_literal_103 : decode c_Md_literal 103 = .ok (.iload 4, 2) := by decide +kernel
theorem d_Md_literal_105 : decode c_Md_literal 105 = .ok (.bipush 92, 2) := by decide +kernel
theorem d_Md_literal_107 : decode c_Md_literal 107 = .ok (.if_icmp .eq 7, 3) := by decide +kernel
theorem d_Md_literal_110 : decode c_Md_literal 110 = .ok (.iconst 1, 1) := by decide +kernel
theorem d_Md_literal_111 : decode c_Md_literal 111 = .ok (.goto 22, 3) := by decide +kernel
theorem d_Md_literal_114 : decode c_Md_literal 114 = .ok (.aload_n 0, 1) := by decide +kernel
theorem d_Md_literal_115 : decode c_Md_literal 115 = .ok (.getfield 7, 3) := by decide +kernel
theorem d_Md_literal_118 : decode c_Md_literal 118 = .ok (.iload_n 3, 1) := by decide +kernel
theorem d_Md_literal_119 : decode c_Md_literal 119 = .ok (.iconst 1, 1) := by decide +kernel
theorem d_Md_literal_120 : decode c_Md_literal 120 = .ok (.iadd, 1) := by decide +kernel
theorem d_Md_literal_121 : decode c_Md_literal 121 = .ok (.iaload, 1) := by decide +kernel
theorem d_Md_literal_122 : decode c_Md_literal 122 = .ok (.bipush 117, 2) := by decide +kernel
theorem d_Md_literal_124 : decode c_Md_literal 124 = .ok (.if_icmp .ne 8, 3) := by decide +kernel
theorem d_Md_literal_127 : decode c_Md_literal 127 = .ok (.bipush 6, 2) := by decide +kernel
theorem d_Md_literal_129 : decode c_Md_literal 129 = .ok (.goto 4, 3) := by decide +kernel
theorem d_Md_literal_132 : decode c_Md_literal 132 = .ok (.iconst 2, 1) := by decide +kernel
theorem d_Md_literal_133 : decode c_Md_literal 133 = .ok (.iadd, 1) := by decide +kernel
theorem d_Md_literal_134 : decode c_Md_literal 134 = .ok (.istore_n 3, 1) := by decide +kernel
theorem d_Md_literal_135 : decode c_Md_literal 135 = .ok (.goto (-97), 3) := by decide +kernel
theorem d_Md_literal_138 : decode c_Md_literal 138 = .ok (.aload_n 0, 1) := by decide +kernel
theorem d_Md_literal_139 : decode c_Md_literal 139 = .ok (.iconst 0, 1) := by decide +kernel
theorem d_Md_literal_140 : decode c_Md_literal 140 = .ok (.putfield 90, 3) := by decide +kernel
theorem d_Md_literal_143 : decode c_Md_literal 143 = .ok (.aload_n 0, 1) := by decide +kernel
theorem d_Md_literal_144 : decode c_Md_literal 144 = .ok (.getfield 93, 3) := by decide +kernel
theorem d_Md_literal_147 : decode c_Md_literal 147 = .ok (.bipush 40, 2) := by decide +kernel
theorem d_Md_literal_149 : decode c_Md_literal 149 = .ok (.if_icmp .le 8, 3) := by decide +kernel
theorem d_Md_literal_152 : decode c_Md_literal 152 = .ok (.bipush (-3), 2) := by decide +kernel
theorem d_Md_literal_154 : decode c_Md_literal 154 = .ok (.goto 9, 3) := by decide +kernel
theorem d_Md_literal_157 : decode c_Md_literal 157 = .ok (.aload_n 0, 1) := by decide +kernel
theorem d_Md_literal_158 : decode c_Md_literal 158 = .ok (.iconst 2, 1) := by decide +kernel
theorem d_Md_literal_159 : decode c_Md_literal 159 = .ok (.iload_n 1, 1) := by decide +kernel
theorem d_Md_literal_160 : decode c_Md_literal 160 = .ok (.invokevirtual 106, 3) := by decide +kernel
theorem d_Md_literal_163 : decode c_Md_literal 163 = .ok (.ireturn, 1) := by decide +kernel
theorem d_Md_escaped_0 : decode c_Md_escaped 0 = .ok (.iload_n 1, 1) := by decide +kernel
theorem d_Md_escaped_1 : decode c_Md_escaped 1 = .ok (.iconst 1, 1) := by decide +kernel
theorem d_Md_escaped_2 : decode c_Md_escaped 2 = .ok (.iadd, 1) := by decide +kernel
theorem d_Md_escaped_3 : decode c_Md_escaped 3 = .ok (.aload_n 0, 1) := by decide +kernel
theorem d_Md_escaped_4 : decode c_Md_escaped 4 = .ok (.getfield 90, 3) := by decide +kernel
theorem d_Md_escaped_7 : decode c_Md_escaped 7 = .ok (.if_icmp .ge 14, 3) := by decide +kernel
theorem d_Md_escaped_10 : decode c_Md_escaped 10 = .ok (.aload_n 0, 1) := by decide +kernel
theorem d_Md_escaped_11 : decode c_Md_escaped 11 = .ok (.getfield 7, 3) := by decide +kernel
theorem d_Md_escaped_14 : decode c_Md_escaped 14 = .ok (.iload_n 1, 1) := by decide +kernel
theorem d_Md_escaped_15 : decode c_Md_escaped 15 = .ok (.iconst 1, 1) := by decide +kernel
theorem d_Md_escaped_16 : decode c_Md_escaped 16 = .ok (.iadd, 1) := by decide +kernel
theorem d_Md_escaped_17 : decode c_Md_escaped 17 = .ok (.iaload, 1) := by decide +kernel
theorem d_Md_escaped_18 : decode c_Md_escaped 18 = .ok (.goto 4, 3) := by decide +kernel
theorem d_Md_escaped_21 : decode c_Md_escaped 21 = .ok (.iconst (-1), 1) := by decide +kernel
theorem d_Md_escaped_22 : decode c_Md_escaped 22 = .ok (.istore_n 2, 1) := by decide +kernel
theorem d_Md_escaped_23 : decode c_Md_escaped 23 = .ok (.iload_n 2, 1) := by decide +kernel
theorem d_Md_escaped_24 : decode c_Md_escaped 24 = .ok (.bipush 117, 2) := by decide +kernel
theorem d_Md_escaped_26 : decode c_Md_escaped 26 = .ok (.if_icmp .ne 84, 3) := by decide +kernel
theorem d_Md_escaped_29 : decode c_Md_escaped 29 = .ok (.iconst 0, 1) := by decide +kernel
theorem d_Md_escaped_30 : decode c_Md_escaped 30 = .ok (.istore_n 3, 1) := by decide +kernel
theorem d_Md_escaped_31 : decode c_Md_escaped 31 = .ok (.iconst 2, 1) := by decide +kernel
theorem d_Md_escaped_32 : decode c_Md_escaped 32 = .ok (.istore 4, 2) := by decide +kernel
theorem d_Md_escaped_34 : decode c_Md_escaped 34 = .ok (.iload 4, 2) := by decide +kernel
theorem d_Md_escaped_36 : decode c_Md_escaped 36 = .ok (.bipush 6, 2) := by decide +kernel
theorem d_Md_escaped_38 : decode c_Md_escaped 38 = .ok (.if_icmp .ge 59, 3) := by decide +kernel
theorem d_Md_escaped_41 : decode c_Md_escaped 41 = .ok (.iload_n 1, 1) := by decide +kernel
theorem d_Md_escaped_42 : decode c_Md_escaped 42 = .ok (.iload 4, 2) := by decide +kernel
theorem d_Md_escaped_44 : decode c_Md_escaped 44 = .ok (.iadd, 1) := by decide +kernel
theorem d_Md_escaped_45 : decode c_Md_escaped 45 = .ok (.aload_n 0, 1) := by decide +kernel
theorem d_Md_escaped_46 : decode c_Md_escaped 46 = .ok (.getfield 90, 3) := by decide +kernel
theorem d_Md_escaped_49 : decode c_Md_escaped 49 = .ok (.if_icmp .ge 18, 3) := by decide +kernel
theorem d_Md_escaped_52 : decode c_Md_escaped 52 = .ok (.aload_n 0, 1) := by decide +kernel
theorem d_Md_escaped_53 : decode c_Md_escaped 53 = .ok (.getfield 7, 3) := by decide +kernel
theorem d_Md_escaped_56 : decode c_Md_escaped 56 = .ok (.iload_n 1, 1) := by decide +kernel
theorem d_Md_escaped_57 : decode c_Md_escaped 57 = .ok (.iload 4, 2) := by decide +kernel
theorem d_Md_escaped_59 : decode c_Md_escaped 59 = .ok (.iadd, 1) := by decide +kernel
theorem d_Md_escaped_60 : decode c_Md_escaped 60 = .ok (.iaload, 1) := by decide +kernel
theorem d_Md_escaped_61 : decode c_Md_escaped 61 = .ok (.invokestatic 126, 3) := by decide +kernel
theorem d_Md_escaped_64 : decode c_Md_escaped 64 = .ok (.goto 4, 3) := by decide +kernel
theorem d_Md_escaped_67 : decode c_Md_escaped 67 = .ok (.iconst (-1), 1) := by decide +kernel
theorem d_Md_escaped_68 : decode c_Md_escaped 68 = .ok (.istore 5, 2) := by decide +kernel
theorem d_Md_escaped_70 : decode c_Md_escaped 70 = .ok (.iload 5, 2) := by decide +kernel
theorem d_Md_escaped_72 : decode c_Md_escaped 72 = .ok (.ifCond .lt 7, 3) := by decide +kernel
theorem d_Md_escaped_75 : decode c_Md_escaped 75 = .ok (.iload_n 3, 1) := by decide +kernel
theorem d_Md_escaped_76 : decode c_Md_escaped 76 = .ok (.ifCond .ge 7, 3) := by decide +kernel
theorem d_Md_escaped_79 : decode c_Md_escaped 79 = .ok (.iconst (-1), 1) := by decide +kernel
theorem d_Md_escaped_80 : decode c_Md_escaped 80 = .ok (.goto 10, 3) := by decide +kernel
theorem d_Md_escaped_83 : decode c_Md_escaped 83 = .ok (.bipush 16, 2) := by decide +kernel
theorem d_Md_escaped_85 : decode c_Md_escaped 85 = .ok (.iload_n 3, 1) := by decide +kernel
theorem d_Md_escaped_86 : decode c_Md_escaped 86 = .ok (.imul, 1) := by decide +kernel
theorem d_Md_escaped_87 : decode c_Md_escaped 87 = .ok (.iload 5, 2) := by decide +kernel
theorem d_Md_escaped_89 : decode c_Md_escaped 89 = .ok (.iadd, 1) := by decide +kernel
theorem d_Md_escaped_90 : decode c_Md_escaped 90 = .ok (.istore_n 3, 1) := by decide +kernel
theorem d_Md_escaped_91 : decode c_Md_escaped 91 = .ok (.iinc 4 1, 3) := by decide +kernel
theorem d_Md_escaped_94 : decode c_Md_escaped 94 = .ok (.goto (-60), 3) := by decide +kernel
theorem d_Md_escaped_97 : decode c_Md_escaped 97 = .ok (.iload_n 3, 1) := by decide +kernel
theorem d_Md_escaped_98 : decode c_Md_escaped 98 = .ok (.invokestatic 181, 3) := by decide +kernel
theorem d_Md_escaped_101 : decode c_Md_escaped 101 = .ok (.ifCond .eq 7, 3) := by decide +kernel
theorem d_Md_escaped_104 : decode c_Md_escaped 104 = .ok (.iload_n 3, 1) := by decide +kernel
theorem d_Md_escaped_105 : decode c_Md_escaped 105 = .ok (.goto 4, 3) := by decide +kernel
theorem d_Md_escaped_108 : decode c_Md_escaped 108 = .ok (.iconst (-1), 1) := by decide +kernel
theorem d_Md_escaped_109 : decode c_Md_escaped 109 = .ok (.ireturn, 1) := by decide +kernel
theorem d_Md_escaped_110 : decode c_Md_escaped 110 = .ok (.iload_n 2, 1) := by decide +kernel
theorem d_Md_escaped_111 : decode c_Md_escaped 111 = .ok (.bipush 116, 2) := by decide +kernel
theorem d_Md_escaped_113 : decode c_Md_escaped 113 = .ok (.if_icmp .ne 8, 3) := by decide +kernel
theorem d_Md_escaped_116 : decode c_Md_escaped 116 = .ok (.bipush 9, 2) := by decide +kernel
theorem d_Md_escaped_118 : decode c_Md_escaped 118 = .ok (.goto 42, 3) := by decide +kernel
theorem d_Md_escaped_121 : decode c_Md_escaped 121 = .ok (.iload_n 2, 1) := by decide +kernel
theorem d_Md_escaped_122 : decode c_Md_escaped 122 = .ok (.bipush 110, 2) := by decide +kernel
theorem d_Md_escaped_124 : decode c_Md_escaped 124 = .ok (.if_icmp .ne 8, 3) := by decide +kernel
theorem d_Md_escaped_127 : decode c_Md_escaped 127 = .ok (.bipush 10, 2) := by decide +kernel
theorem d_Md_escaped_129 : decode c_Md_escaped 129 = .ok (.goto 31, 3) := by decide +kernel
theorem d_Md_escaped_132 : decode c_Md_escaped 132 = .ok (.iload_n 2, 1) := by decide +kernel
theorem d_Md_escaped_133 : decode c_Md_escaped 133 = .ok (.bipush 114, 2) := by decide +kernel
theorem d_Md_escaped_135 : decode c_Md_escaped 135 = .ok (.if_icmp .ne 8, 3) := by decide +kernel
theorem d_Md_escaped_138 : decode c_Md_escaped 138 = .ok (.bipush 13, 2) := by decide +kernel
theorem d_Md_escaped_140 : decode c_Md_escaped 140 = .ok (.goto 20, 3) := by decide +kernel
theorem d_Md_escaped_143 : decode c_Md_escaped 143 = .ok (.iload_n 2, 1) := by decide +kernel
theorem d_Md_escaped_144 : decode c_Md_escaped 144 = .ok (.bipush 34, 2) := by decide +kernel
theorem d_Md_escaped_146 : decode c_Md_escaped 146 = .ok (.if_icmp .eq 9, 3) := by decide +kernel
theorem d_Md_escaped_149 : decode c_Md_escaped 149 = .ok (.iload_n 2, 1) := by decide +kernel
theorem d_Md_escaped_150 : decode c_Md_escaped 150 = .ok (.bipush 92, 2) := by decide +kernel
theorem d_Md_escaped_152 : decode c_Md_escaped 152 = .ok (.if_icmp .ne 7, 3) := by decide +kernel
theorem d_Md_escaped_155 : decode c_Md_escaped 155 = .ok (.iload_n 2, 1) := by decide +kernel
theorem d_Md_escaped_156 : decode c_Md_escaped 156 = .ok (.goto 4, 3) := by decide +kernel
theorem d_Md_escaped_159 : decode c_Md_escaped 159 = .ok (.iconst (-1), 1) := by decide +kernel
theorem d_Md_escaped_160 : decode c_Md_escaped 160 = .ok (.ireturn, 1) := by decide +kernel
theorem d_Md_isText_0 : decode c_Md_isText 0 = .ok (.iload_n 0, 1) := by decide +kernel
theorem d_Md_isText_1 : decode c_Md_isText 1 = .ok (.bipush 9, 2) := by decide +kernel
theorem d_Md_isText_3 : decode c_Md_isText 3 = .ok (.if_icmp .eq 26, 3) := by decide +kernel
theorem d_Md_isText_6 : decode c_Md_isText 6 = .ok (.iload_n 0, 1) := by decide +kernel
theorem d_Md_isText_7 : decode c_Md_isText 7 = .ok (.bipush 10, 2) := by decide +kernel
theorem d_Md_isText_9 : decode c_Md_isText 9 = .ok (.if_icmp .eq 20, 3) := by decide +kernel
theorem d_Md_isText_12 : decode c_Md_isText 12 = .ok (.iload_n 0, 1) := by decide +kernel
theorem d_Md_isText_13 : decode c_Md_isText 13 = .ok (.bipush 13, 2) := by decide +kernel
theorem d_Md_isText_15 : decode c_Md_isText 15 = .ok (.if_icmp .eq 14, 3) := by decide +kernel
theorem d_Md_isText_18 : decode c_Md_isText 18 = .ok (.iload_n 0, 1) := by decide +kernel
theorem d_Md_isText_19 : decode c_Md_isText 19 = .ok (.bipush 32, 2) := by decide +kernel
theorem d_Md_isText_21 : decode c_Md_isText 21 = .ok (.bipush 126, 2) := by decide +kernel
theorem d_Md_isText_23 : decode c_Md_isText 23 = .ok (.invokestatic 77, 3) := by decide +kernel
theorem d_Md_isText_26 : decode c_Md_isText 26 = .ok (.ifCond .eq 7, 3) := by decide +kernel
theorem d_Md_isText_29 : decode c_Md_isText 29 = .ok (.iconst 1, 1) := by decide +kernel
theorem d_Md_isText_30 : decode c_Md_isText 30 = .ok (.goto 4, 3) := by decide +kernel
theorem d_Md_isText_33 : decode c_Md_isText 33 = .ok (.iconst 0, 1) := by decide +kernel
theorem d_Md_isText_34 : decode c_Md_isText 34 = .ok (.ireturn, 1) := by decide +kernel
theorem d_Md_tagged_0 : decode c_Md_tagged 0 = .ok (.aload_n 0, 1) := by decide +kernel
theorem d_Md_tagged_1 : decode c_Md_tagged 1 = .ok (.getfield 90, 3) := by decide +kernel
theorem d_Md_tagged_4 : decode c_Md_tagged 4 = .ok (.istore_n 2, 1) := by decide +kernel
theorem d_Md_tagged_5 : decode c_Md_tagged 5 = .ok (.aload_n 0, 1) := by decide +kernel
theorem d_Md_tagged_6 : decode c_Md_tagged 6 = .ok (.iconst 0, 1) := by decide +kernel
theorem d_Md_tagged_7 : decode c_Md_tagged 7 = .ok (.putfield 90, 3) := by decide +kernel
theorem d_Md_tagged_10 : decode c_Md_tagged 10 = .ok (.aload_n 0, 1) := by decide +kernel
theorem d_Md_tagged_11 : decode c_Md_tagged 11 = .ok (.iload_n 1, 1) := by decide +kernel
theorem d_Md_tagged_12 : decode c_Md_tagged 12 = .ok (.invokevirtual 103, 3) := by decide +kernel
theorem d_Md_tagged_15 : decode c_Md_tagged 15 = .ok (.ifCond .eq 22, 3) := by decide +kernel
theorem d_Md_tagged_18 : decode c_Md_tagged 18 = .ok (.aload_n 0, 1) := by decide +kernel
theorem d_Md_tagged_19 : decode c_Md_tagged 19 = .ok (.getfield 13, 3) := by decide +kernel
theorem d_Md_tagged_22 : decode c_Md_tagged 22 = .ok (.iload_n 1, 1) := by decide +kernel
theorem d_Md_tagged_23 : decode c_Md_tagged 23 = .ok (.iaload, 1) := by decide +kernel
theorem d_Md_tagged_24 : decode c_Md_tagged 24 = .ok (.iconst 2, 1) := by decide +kernel
theorem d_Md_tagged_25 : decode c_Md_tagged 25 = .ok (.if_icmp .ne 12, 3) := by decide +kernel
theorem d_Md_tagged_28 : decode c_Md_tagged 28 = .ok (.aload_n 0, 1) := by decide +kernel
theorem d_Md_tagged_29 : decode c_Md_tagged 29 = .ok (.getfield 16, 3) := by decide +kernel
theorem d_Md_tagged_32 : decode c_Md_tagged 32 = .ok (.iload_n 1, 1) := by decide +kernel
theorem d_Md_tagged_33 : decode c_Md_tagged 33 = .ok (.iaload, 1) := by decide +kernel
theorem d_Md_tagged_34 : decode c_Md_tagged 34 = .ok (.ifCond .eq 5, 3) := by decide +kernel
theorem d_Md_tagged_37 : decode c_Md_tagged 37 = .ok (.iconst (-1), 1) := by decide +kernel
theorem d_Md_tagged_38 : decode c_Md_tagged 38 = .ok (.ireturn, 1) := by decide +kernel
theorem d_Md_tagged_39 : decode c_Md_tagged 39 = .ok (.iconst 0, 1) := by decide +kernel
theorem d_Md_tagged_40 : decode c_Md_tagged 40 = .ok (.istore_n 3, 1) := by decide +kernel
theorem d_Md_tagged_41 : decode c_Md_tagged 41 = .ok (.iconst 0, 1) := by decide +kernel
theorem d_Md_tagged_42 : decode c_Md_tagged 42 = .ok (.istore 4, 2) := by decide +kernel
theorem d_Md_tagged_44 : decode c_Md_tagged 44 = .ok (.iconst 0, 1) := by decide +kernel
theorem d_Md_tagged_45 : decode c_Md_tagged 45 = .ok (.istore 5, 2) := by decide +kernel
theorem d_Md_tagged_47 : decode c_Md_tagged 47 = .ok (.iload 5, 2) := by decide +kernel
theorem d_Md_tagged_49 : decode c_Md_tagged 49 = .ok (.iload_n 2, 1) := by decide +kernel
theorem d_Md_tagged_50 : decode c_Md_tagged 50 = .ok (.if_icmp .ge 131, 3) := by decide +kernel
theorem d_Md_tagged_53 : decode c_Md_tagged 53 = .ok (.aload_n 0, 1) := by decide +kernel
theorem d_Md_tagged_54 : decode c_Md_tagged 54 = .ok (.getfield 7, 3) := by decide +kernel
theorem d_Md_tagged_57 : decode c_Md_tagged 57 = .ok (.iload 5, 2) := by decide +kernel
theorem d_Md_tagged_59 : decode c_Md_tagged 59 = .ok (.iaload, 1) := by decide +kernel
theorem d_Md_tagged_60 : decode c_Md_tagged 60 = .ok (.istore 6, 2) := by decide +kernel
theorem d_Md_tagged_62 : decode c_Md_tagged 62 = .ok (.iload 6, 2) := by decide +kernel
theorem d_Md_tagged_64 : decode c_Md_tagged 64 = .ok (.bipush 45, 2) := by decide +kernel
theorem d_Md_tagged_66 : decode c_Md_tagged 66 = .ok (.if_icmp .ne 21, 3) := by decide +kernel
theorem d_Md_tagged_69 : decode c_Md_tagged 69 = .ok (.iload 4, 2) := by decide +kernel
theorem d_Md_tagged_71 : decode c_Md_tagged 71 = .ok (.iload_n 3, 1) := by decide +kernel
theorem d_Md_tagged_72 : decode c_Md_tagged 72 = .ok (.ifCond .ne 7, 3) := by decide +kernel
theorem d_Md_tagged_75 : decode c_Md_tagged 75 = .ok (.iconst 2, 1) := by decide +kernel
theorem d_Md_tagged_76 : decode c_Md_tagged 76 = .ok (.goto 4, 3) := by decide +kernel
theorem d_Md_tagged_79 : decode c_Md_tagged 79 = .ok (.iconst 1, 1) := by decide +kernel
theorem d_Md_tagged_80 : decode c_Md_tagged 80 = .ok (.if_icmp .lt 7, 3) := by decide +kernel
theorem d_Md_tagged_83 : decode c_Md_tagged 83 = .ok (.iconst 1, 1) := by decide +kernel
theorem d_Md_tagged_84 : decode c_Md_tagged 84 = .ok (.goto 4, 3) := by decide +kernel
theorem d_Md_tagged_87 : decode c_Md_tagged 87 = .ok (.iconst 0, 1) := by decide +kernel
theorem d_Md_tagged_88 : decode c_Md_tagged 88 = .ok (.istore 7, 2) := by decide +kernel
theorem d_Md_tagged_90 : decode c_Md_tagged 90 = .ok (.iload 4, 2) := by decide +kernel
theorem d_Md_tagged_92 : decode c_Md_tagged 92 = .ok (.bipush 8, 2) := by decide +kernel
theorem d_Md_tagged_94 : decode c_Md_tagged 94 = .ok (.if_icmp .ge 27, 3) := by decide +kernel
theorem d_Md_tagged_97 : decode c_Md_tagged 97 = .ok (.iload 6, 2) := by decide +kernel
theorem d_Md_tagged_99 : decode c_Md_tagged 99 = .ok (.invokestatic 116, 3) := by decide +kernel
theorem d_Md_tagged_102 : decode c_Md_tagged 102 = .ok (.ifCond .ne 15, 3) := by decide +kernel
theorem d_Md_tagged_105 : decode c_Md_tagged 105 = .ok (.iload_n 3, 1) := by decide +kernel
theorem d_Md_tagged_106 : decode c_Md_tagged 106 = .ok (.ifCond .le 15, 3) := by decide +kernel
theorem d_Md_tagged_109 : decode c_Md_tagged 109 = .ok (.iload 6, 2) := by decide +kernel
theorem d_Md_tagged_111 : decode c_Md_tagged 111 = .ok (.invokestatic 85, 3) := by decide +kernel
theorem d_Md_tagged_114 : decode c_Md_tagged 114 = .ok (.ifCond .eq 7, 3) := by decide +kernel
theorem d_Md_tagged_117 : decode c_Md_tagged 117 = .ok (.iconst 1, 1) := by decide +kernel
theorem d_Md_tagged_118 : decode c_Md_tagged 118 = .ok (.goto 4, 3) := by decide +kernel
theorem d_Md_tagged_121 : decode c_Md_tagged 121 = .ok (.iconst 0, 1) := by decide +kernel
theorem d_Md_tagged_122 : decode c_Md_tagged 122 = .ok (.istore 8, 2) := by decide +kernel
theorem d_Md_tagged_124 : decode c_Md_tagged 124 = .ok (.iload 5, 2) := by decide +kernel
theorem d_Md_tagged_126 : decode c_Md_tagged 126 = .ok (.bipush 16, 2) := by decide +kernel
theorem d_Md_tagged_128 : decode c_Md_tagged 128 = .ok (.if_icmp .eq 13, 3) := by decide +kernel
theorem d_Md_tagged_131 : decode c_Md_tagged 131 = .ok (.iload 7, 2) := by decide +kernel
theorem d_Md_tagged_133 : decode c_Md_tagged 133 = .ok (.ifCond .ne 14, 3) := by decide +kernel
theorem d_Md_tagged_136 : decode c_Md_tagged 136 = .ok (.iload 8, 2) := by decide +kernel
theorem d_Md_tagged_138 : decode c_Md_tagged 138 = .ok (.ifCond .ne 9, 3) := by decide +kernel
theorem d_Md_tagged_141 : decode c_Md_tagged 141 = .ok (.bipush (-10), 2) := by decide +kernel
theorem d_Md_tagged_143 : decode c_Md_tagged 143 = .ok (.iload 5, 2) := by decide +kernel
theorem d_Md_tagged_145 : decode c_Md_tagged 145 = .ok (.isub, 1) := by decide +kernel
theorem d_Md_tagged_146 : decode c_Md_tagged 146 = .ok (.ireturn, 1) := by decide +kernel
theorem d_Md_tagged_147 : decode c_Md_tagged 147 = .ok (.iload_n 3, 1) := by decide +kernel
theorem d_Md_tagged_148 : decode c_Md_tagged 148 = .ok (.iload 7, 2) := by decide +kernel
theorem d_Md_tagged_150 : decode c_Md_tagged 150 = .ok (.ifCond .eq 7, 3) := by decide +kernel
theorem d_Md_tagged_153 : decode c_Md_tagged 153 = .ok (.iconst 1, 1) := by decide +kernel
theorem d_Md_tagged_154 : decode c_Md_tagged 154 = .ok (.goto 4, 3) := by decide +kernel
theorem d_Md_tagged_157 : decode c_Md_tagged 157 = .ok (.iconst 0, 1) := by decide +kernel
theorem d_Md_tagged_158 : decode c_Md_tagged 158 = .ok (.iadd, 1) := by decide +kernel
theorem d_Md_tagged_159 : decode c_Md_tagged 159 = .ok (.istore_n 3, 1) := by decide +kernel
theorem d_Md_tagged_160 : decode c_Md_tagged 160 = .ok (.iload 7, 2) := by decide +kernel
theorem d_Md_tagged_162 : decode c_Md_tagged 162 = .ok (.ifCond .eq 7, 3) := by decide +kernel
theorem d_Md_tagged_165 : decode c_Md_tagged 165 = .ok (.iconst 0, 1) := by decide +kernel
theorem d_Md_tagged_166 : decode c_Md_tagged 166 = .ok (.goto 7, 3) := by decide +kernel
theorem d_Md_tagged_169 : decode c_Md_tagged 169 = .ok (.iload 4, 2) := by decide +kernel
theorem d_Md_tagged_171 : decode c_Md_tagged 171 = .ok (.iconst 1, 1) := by decide +kernel
theorem d_Md_tagged_172 : decode c_Md_tagged 172 = .ok (.iadd, 1) := by decide +kernel
theorem d_Md_tagged_173 : decode c_Md_tagged 173 = .ok (.istore 4, 2) := by decide +kernel
theorem d_Md_tagged_175 : decode c_Md_tagged 175 = .ok (.iinc 5 1, 3) := by decide +kernel
theorem d_Md_tagged_178 : decode c_Md_tagged 178 = .ok (.goto (-131), 3) := by decide +kernel
theorem d_Md_tagged_181 : decode c_Md_tagged 181 = .ok (.iload 4, 2) := by decide +kernel
theorem d_Md_tagged_183 : decode c_Md_tagged 183 = .ok (.iload_n 3, 1) := by decide +kernel
theorem d_Md_tagged_184 : decode c_Md_tagged 184 = .ok (.ifCond .ne 7, 3) := by decide +kernel
theorem d_Md_tagged_187 : decode c_Md_tagged 187 = .ok (.iconst 2, 1) := by decide +kernel
theorem d_Md_tagged_188 : decode c_Md_tagged 188 = .ok (.goto 4, 3) := by decide +kernel
theorem d_Md_tagged_191 : decode c_Md_tagged 191 = .ok (.iconst 1, 1) := by decide +kernel
theorem d_Md_tagged_192 : decode c_Md_tagged 192 = .ok (.if_icmp .ge 8, 3) := by decide +kernel
theorem d_Md_tagged_195 : decode c_Md_tagged 195 = .ok (.bipush (-10), 2) := by decide +kernel
theorem d_Md_tagged_197 : decode c_Md_tagged 197 = .ok (.iload_n 2, 1) := by decide +kernel
theorem d_Md_tagged_198 : decode c_Md_tagged 198 = .ok (.isub, 1) := by decide +kernel
theorem d_Md_tagged_199 : decode c_Md_tagged 199 = .ok (.ireturn, 1) := by decide +kernel
theorem d_Md_tagged_200 : decode c_Md_tagged 200 = .ok (.aload_n 0, 1) := by decide +kernel
theorem d_Md_tagged_201 : decode c_Md_tagged 201 = .ok (.iload_n 2, 1) := by decide +kernel
theorem d_Md_tagged_202 : decode c_Md_tagged 202 = .ok (.putfield 96, 3) := by decide +kernel
theorem d_Md_tagged_205 : decode c_Md_tagged 205 = .ok (.iconst 0, 1) := by decide +kernel
theorem d_Md_tagged_206 : decode c_Md_tagged 206 = .ok (.istore 5, 2) := by decide +kernel
theorem d_Md_tagged_208 : decode c_Md_tagged 208 = .ok (.iload 5, 2) := by decide +kernel
theorem d_Md_tagged_210 : decode c_Md_tagged 210 = .ok (.iload_n 2, 1) := by decide +kernel
theorem d_Md_tagged_211 : decode c_Md_tagged 211 = .ok (.if_icmp .ge 53, 3) := by decide +kernel
theorem d_Md_tagged_214 : decode c_Md_tagged 214 = .ok (.aload_n 0, 1) := by decide +kernel
theorem d_Md_tagged_215 : decode c_Md_tagged 215 = .ok (.getfield 47, 3) := by decide +kernel
theorem d_Md_tagged_218 : decode c_Md_tagged 218 = .ok (.iload 5, 2) := by decide +kernel
theorem d_Md_tagged_220 : decode c_Md_tagged 220 = .ok (.aload_n 0, 1) := by decide +kernel
theorem d_Md_tagged_221 : decode c_Md_tagged 221 = .ok (.getfield 7, 3) := by decide +kernel
theorem d_Md_tagged_224 : decode c_Md_tagged 224 = .ok (.iload 5, 2) := by decide +kernel
theorem d_Md_tagged_226 : decode c_Md_tagged 226 = .ok (.iaload, 1) := by decide +kernel
theorem d_Md_tagged_227 : decode c_Md_tagged 227 = .ok (.bipush 65, 2) := by decide +kernel
theorem d_Md_tagged_229 : decode c_Md_tagged 229 = .ok (.bipush 90, 2) := by decide +kernel
theorem d_Md_tagged_231 : decode c_Md_tagged 231 = .ok (.invokestatic 77, 3) := by decide +kernel
theorem d_Md_tagged_234 : decode c_Md_tagged 234 = .ok (.ifCond .eq 16, 3) := by decide +kernel
theorem d_Md_tagged_237 : decode c_Md_tagged 237 = .ok (.aload_n 0, 1) := by decide +kernel
theorem d_Md_tagged_238 : decode c_Md_tagged 238 = .ok (.getfield 7, 3) := by decide +kernel
theorem d_Md_tagged_241 : decode c_Md_tagged 241 = .ok (.iload 5, 2) := by decide +kernel
theorem d_Md_tagged_243 : decode c_Md_tagged 243 = .ok (.iaload, 1) := by decide +kernel
theorem d_Md_tagged_244 : decode c_Md_tagged 244 = .ok (.bipush 32, 2) := by decide +kernel
theorem d_Md_tagged_246 : decode c_Md_tagged 246 = .ok (.iadd, 1) := by decide +kernel
theorem d_Md_tagged_247 : decode c_Md_tagged 247 = .ok (.goto 10, 3) := by decide +kernel
theorem d_Md_tagged_250 : decode c_Md_tagged 250 = .ok (.aload_n 0, 1) := by decide +kernel
theorem d_Md_tagged_251 : decode c_Md_tagged 251 = .ok (.getfield 7, 3) := by decide +kernel
theorem d_Md_tagged_254 : decode c_Md_tagged 254 = .ok (.iload 5, 2) := by decide +kernel
theorem d_Md_tagged_256 : decode c_Md_tagged 256 = .ok (.iaload, 1) := by decide +kernel
theorem d_Md_tagged_257 : decode c_Md_tagged 257 = .ok (.iastore, 1) := by decide +kernel
theorem d_Md_tagged_258 : decode c_Md_tagged 258 = .ok (.iinc 5 1, 3) := by decide +kernel
theorem d_Md_tagged_261 : decode c_Md_tagged 261 = .ok (.goto (-53), 3) := by decide +kernel
theorem d_Md_tagged_264 : decode c_Md_tagged 264 = .ok (.aload_n 0, 1) := by decide +kernel
theorem d_Md_tagged_265 : decode c_Md_tagged 265 = .ok (.aload_n 0, 1) := by decide +kernel
theorem d_Md_tagged_266 : decode c_Md_tagged 266 = .ok (.getfield 19, 3) := by decide +kernel
theorem d_Md_tagged_269 : decode c_Md_tagged 269 = .ok (.iload_n 1, 1) := by decide +kernel
theorem d_Md_tagged_270 : decode c_Md_tagged 270 = .ok (.iaload, 1) := by decide +kernel
theorem d_Md_tagged_271 : decode c_Md_tagged 271 = .ok (.putfield 93, 3) := by decide +kernel
theorem d_Md_tagged_274 : decode c_Md_tagged 274 = .ok (.iconst 0, 1) := by decide +kernel
theorem d_Md_tagged_275 : decode c_Md_tagged 275 = .ok (.istore 5, 2) := by decide +kernel
theorem d_Md_tagged_277 : decode c_Md_tagged 277 = .ok (.iload 5, 2) := by decide +kernel
theorem d_Md_tagged_279 : decode c_Md_tagged 279 = .ok (.aload_n 0, 1) := by decide +kernel
theorem d_Md_tagged_280 : decode c_Md_tagged 280 = .ok (.getfield 93, 3) := by decide +kernel
theorem d_Md_tagged_283 : decode c_Md_tagged 283 = .ok (.if_icmp .ge 28, 3) := by decide +kernel
theorem d_Md_tagged_286 : decode c_Md_tagged 286 = .ok (.aload_n 0, 1) := by decide +kernel
theorem d_Md_tagged_287 : decode c_Md_tagged 287 = .ok (.getfield 44, 3) := by decide +kernel
theorem d_Md_tagged_290 : decode c_Md_tagged 290 = .ok (.iload 5, 2) := by decide +kernel
theorem d_Md_tagged_292 : decode c_Md_tagged 292 = .ok (.aload_n 0, 1) := by decide +kernel
theorem d_Md_tagged_293 : decode c_Md_tagged 293 = .ok (.getfield 22, 3) := by decide +kernel
theorem d_Md_tagged_296 : decode c_Md_tagged 296 = .ok (.bipush 100, 2) := by decide +kernel
theorem d_Md_tagged_298 : decode c_Md_tagged 298 = .ok (.iload_n 1, 1) := by decide +kernel
theorem d_Md_tagged_299 : decode c_Md_tagged 299 = .ok (.imul, 1) := by decide +kernel
theorem d_Md_tagged_300 : decode c_Md_tagged 300 = .ok (.iload 5, 2) := by decide +kernel
theorem d_Md_tagged_302 : decode c_Md_tagged 302 = .ok (.iadd, 1) := by decide +kernel
theorem d_Md_tagged_303 : decode c_Md_tagged 303 = .ok (.iaload, 1) := by decide +kernel
theorem d_Md_tagged_304 : decode c_Md_tagged 304 = .ok (.iastore, 1) := by decide +kernel
theorem d_Md_tagged_305 : decode c_Md_tagged 305 = .ok (.iinc 5 1, 3) := by decide +kernel
theorem d_Md_tagged_308 : decode c_Md_tagged 308 = .ok (.goto (-31), 3) := by decide +kernel
theorem d_Md_tagged_311 : decode c_Md_tagged 311 = .ok (.aload_n 0, 1) := by decide +kernel
theorem d_Md_tagged_312 : decode c_Md_tagged 312 = .ok (.iconst 2, 1) := by decide +kernel
theorem d_Md_tagged_313 : decode c_Md_tagged 313 = .ok (.iconst 1, 1) := by decide +kernel
theorem d_Md_tagged_314 : decode c_Md_tagged 314 = .ok (.invokevirtual 106, 3) := by decide +kernel
theorem d_Md_tagged_317 : decode c_Md_tagged 317 = .ok (.ireturn, 1) := by decide +kernel
