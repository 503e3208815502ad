theorem d_Md_prefix_0 : decode c_Md_prefix 0 = .ok (.aload_n 0, 1) := by decide +kernel
theorem d_Md_prefix_1 : decode c_Md_prefix 1 = .ok (.getfield 90, 3) := by decide +kernel
theorem d_Md_prefix_4 : decode c_Md_prefix 4 = .ok (.istore_n 2, 1) := by decide +kernel
theorem d_Md_prefix_5 : decode c_Md_prefix 5 = .ok (.aload_n 0, 1) := by decide +kernel
theorem d_Md_prefix_6 : decode c_Md_prefix 6 = .ok (.iconst 0, 1) := by decide +kernel
theorem d_Md_prefix_7 : decode c_Md_prefix 7 = .ok (.putfield 90, 3) := by decide +kernel
theorem d_Md_prefix_10 : decode c_Md_prefix 10 = .ok (.iload_n 2, 1) := by decide +kernel
theorem d_Md_prefix_11 : decode c_Md_prefix 11 = .ok (.bipush 7, 2) := by decide +kernel
theorem d_Md_prefix_13 : decode c_Md_prefix 13 = .ok (.if_icmp .ge 15, 3) := by decide +kernel
theorem d_Md_prefix_16 : decode c_Md_prefix 16 = .ok (.aload_n 0, 1) := by decide +kernel
theorem d_Md_prefix_17 : decode c_Md_prefix 17 = .ok (.iload_n 1, 1) := by decide +kernel
theorem d_Md_prefix_18 : decode c_Md_prefix 18 = .ok (.invokevirtual 178, 3) := by decide +kernel
theorem d_Md_prefix_21 : decode c_Md_prefix 21 = .ok (.ifCond .eq 7, 3) := by decide +kernel
theorem d_Md_prefix_24 : decode c_Md_prefix 24 = .ok (.iconst 1, 1) := by decide +kernel
theorem d_Md_prefix_25 : decode c_Md_prefix 25 = .ok (.goto 4, 3) := by decide +kernel
theorem d_Md_prefix_28 : decode c_Md_prefix 28 = .ok (.iconst 0, 1) := by decide +kernel
theorem d_Md_prefix_29 : decode c_Md_prefix 29 = .ok (.istore_n 3, 1) := by decide +kernel
theorem d_Md_prefix_30 : decode c_Md_prefix 30 = .ok (.iconst 0, 1) := by decide +kernel
theorem d_Md_prefix_31 : decode c_Md_prefix 31 = .ok (.istore 4, 2) := by decide +kernel
theorem d_Md_prefix_33 : decode c_Md_prefix 33 = .ok (.iload 4, 2) := by decide +kernel
theorem d_Md_prefix_35 : decode c_Md_prefix 35 = .ok (.iload_n 2, 1) := by decide +kernel
theorem d_Md_prefix_36 : decode c_Md_prefix 36 = .ok (.if_icmp .ge 32, 3) := by decide +kernel
theorem d_Md_prefix_39 : decode c_Md_prefix 39 = .ok (.iload_n 3, 1) := by decide +kernel
theorem d_Md_prefix_40 : decode c_Md_prefix 40 = .ok (.ifCond .eq 20, 3) := by decide +kernel
theorem d_Md_prefix_43 : decode c_Md_prefix 43 = .ok (.aload_n 0, 1) := by decide +kernel
theorem d_Md_prefix_44 : decode c_Md_prefix 44 = .ok (.getfield 7, 3) := by decide +kernel
theorem d_Md_prefix_47 : decode c_Md_prefix 47 = .ok (.iload 4, 2) := by decide +kernel
theorem d_Md_prefix_49 : decode c_Md_prefix 49 = .ok (.iaload, 1) := by decide +kernel
theorem d_Md_prefix_50 : decode c_Md_prefix 50 = .ok (.invokestatic 81, 3) := by decide +kernel
theorem d_Md_prefix_53 : decode c_Md_prefix 53 = .ok (.ifCond .eq 7, 3) := by decide +kernel
theorem d_Md_prefix_56 : decode c_Md_prefix 56 = .ok (.iconst 1, 1) := by decide +kernel
theorem d_Md_prefix_57 : decode c_Md_prefix 57 = .ok (.goto 4, 3) := by decide +kernel
theorem d_Md_prefix_60 : decode c_Md_prefix 60 = .ok (.iconst 0, 1) := by decide +kernel
theorem d_Md_prefix_61 : decode c_Md_prefix 61 = .ok (.istore_n 3, 1) := by decide +kernel
theorem d_Md_prefix_62 : decode c_Md_prefix 62 = .ok (.iinc 4 1, 3) := by decide +kernel
theorem d_Md_prefix_65 : decode c_Md_prefix 65 = .ok (.goto (-32), 3) := by decide +kernel
theorem d_Md_prefix_68 : decode c_Md_prefix 68 = .ok (.iload_n 3, 1) := by decide +kernel
theorem d_Md_prefix_69 : decode c_Md_prefix 69 = .ok (.ifCond .ne 5, 3) := by decide +kernel
theorem d_Md_prefix_72 : decode c_Md_prefix 72 = .ok (.iconst (-1), 1) := by decide +kernel
theorem d_Md_prefix_73 : decode c_Md_prefix 73 = .ok (.ireturn, 1) := by decide +kernel
theorem d_Md_prefix_74 : decode c_Md_prefix 74 = .ok (.iconst 0, 1) := by decide +kernel
theorem d_Md_prefix_75 : decode c_Md_prefix 75 = .ok (.istore 4, 2) := by decide +kernel
theorem d_Md_prefix_77 : decode c_Md_prefix 77 = .ok (.iload 4, 2) := by decide +kernel
theorem d_Md_prefix_79 : decode c_Md_prefix 79 = .ok (.aload_n 0, 1) := by decide +kernel
theorem d_Md_prefix_80 : decode c_Md_prefix 80 = .ok (.getfield 187, 3) := by decide +kernel
theorem d_Md_prefix_83 : decode c_Md_prefix 83 = .ok (.if_icmp .ge 92, 3) := by decide +kernel
theorem d_Md_prefix_86 : decode c_Md_prefix 86 = .ok (.aload_n 0, 1) := by decide +kernel
theorem d_Md_prefix_87 : decode c_Md_prefix 87 = .ok (.getfield 35, 3) := by decide +kernel
theorem d_Md_prefix_90 : decode c_Md_prefix 90 = .ok (.iload 4, 2) := by decide +kernel
theorem d_Md_prefix_92 : decode c_Md_prefix 92 = .ok (.iaload, 1) := by decide +kernel
theorem d_Md_prefix_93 : decode c_Md_prefix 93 = .ok (.iload_n 2, 1) := by decide +kernel
theorem d_Md_prefix_94 : decode c_Md_prefix 94 = .ok (.if_icmp .ne 7, 3) := by decide +kernel
theorem d_Md_prefix_97 : decode c_Md_prefix 97 = .ok (.iconst 1, 1) := by decide +kernel
theorem d_Md_prefix_98 : decode c_Md_prefix 98 = .ok (.goto 4, 3) := by decide +kernel
theorem d_Md_prefix_101 : decode c_Md_prefix 101 = .ok (.iconst 0, 1) := by decide +kernel
theorem d_Md_prefix_102 : decode c_Md_prefix 102 = .ok (.istore 5, 2) := by decide +kernel
theorem d_Md_prefix_104 : decode c_Md_prefix 104 = .ok (.iconst 0, 1) := by decide +kernel
theorem d_Md_prefix_105 : decode c_Md_prefix 105 = .ok (.istore 6, 2) := by decide +kernel
theorem d_Md_prefix_107 : decode c_Md_prefix 107 = .ok (.iload 6, 2) := by decide +kernel
theorem d_Md_prefix_109 : decode c_Md_prefix 109 = .ok (.iload_n 2, 1) := by decide +kernel
theorem d_Md_prefix_110 : decode c_Md_prefix 110 = .ok (.if_icmp .ge 44, 3) := by decide +kernel
theorem d_Md_prefix_113 : decode c_Md_prefix 113 = .ok (.iload 5, 2) := by decide +kernel
theorem d_Md_prefix_115 : decode c_Md_prefix 115 = .ok (.ifCond .eq 39, 3) := by decide +kernel
theorem d_Md_prefix_118 : decode c_Md_prefix 118 = .ok (.aload_n 0, 1) := by decide +kernel
theorem d_Md_prefix_119 : decode c_Md_prefix 119 = .ok (.getfield 38, 3) := by decide +kernel
theorem d_Md_prefix_122 : decode c_Md_prefix 122 = .ok (.bipush 6, 2) := by decide +kernel
theorem d_Md_prefix_124 : decode c_Md_prefix 124 = .ok (.iload 4, 2) := by decide +kernel
theorem d_Md_prefix_126 : decode c_Md_prefix 126 = .ok (.imul, 1) := by decide +kernel
theorem d_Md_prefix_127 : decode c_Md_prefix 127 = .ok (.iload 6, 2) := by decide +kernel
theorem d_Md_prefix_129 : decode c_Md_prefix 129 = .ok (.iadd, 1) := by decide +kernel
theorem d_Md_prefix_130 : decode c_Md_prefix 130 = .ok (.iaload, 1) := by decide +kernel
theorem d_Md_prefix_131 : decode c_Md_prefix 131 = .ok (.aload_n 0, 1) := by decide +kernel
theorem d_Md_prefix_132 : decode c_Md_prefix 132 = .ok (.getfield 7, 3) := by decide +kernel
theorem d_Md_prefix_135 : decode c_Md_prefix 135 = .ok (.iload 6, 2) := by decide +kernel
theorem d_Md_prefix_137 : decode c_Md_prefix 137 = .ok (.iaload, 1) := by decide +kernel
theorem d_Md_prefix_138 : decode c_Md_prefix 138 = .ok (.if_icmp .ne 7, 3) := by decide +kernel
theorem d_Md_prefix_141 : decode c_Md_prefix 141 = .ok (.iconst 1, 1) := by decide +kernel
theorem d_Md_prefix_142 : decode c_Md_prefix 142 = .ok (.goto 4, 3) := by decide +kernel
theorem d_Md_prefix_145 : decode c_Md_prefix 145 = .ok (.iconst 0, 1) := by decide +kernel
theorem d_Md_prefix_146 : decode c_Md_prefix 146 = .ok (.istore 5, 2) := by decide +kernel
theorem d_Md_prefix_148 : decode c_Md_prefix 148 = .ok (.iinc 6 1, 3) := by decide +kernel
theorem d_Md_prefix_151 : decode c_Md_prefix 151 = .ok (.goto (-44), 3) := by decide +kernel
theorem d_Md_prefix_154 : decode c_Md_prefix 154 = .ok (.iload 5, 2) := by decide +kernel
theorem d_Md_prefix_156 : decode c_Md_prefix 156 = .ok (.ifCond .eq 13, 3) := by decide +kernel
theorem d_Md_prefix_159 : decode c_Md_prefix 159 = .ok (.aload_n 0, 1) := by decide +kernel
theorem d_Md_prefix_160 : decode c_Md_prefix 160 = .ok (.getfield 41, 3) := by decide +kernel
theorem d_Md_prefix_163 : decode c_Md_prefix 163 = .ok (.iload 4, 2) := by decide +kernel
theorem d_Md_prefix_165 : decode c_Md_prefix 165 = .ok (.iload_n 1, 1) := by decide +kernel
theorem d_Md_prefix_166 : decode c_Md_prefix 166 = .ok (.iastore, 1) := by decide +kernel
theorem d_Md_prefix_167 : decode c_Md_prefix 167 = .ok (.iconst 0, 1) := by decide +kernel
theorem d_Md_prefix_168 : decode c_Md_prefix 168 = .ok (.ireturn, 1) := by decide +kernel
theorem d_Md_prefix_169 : decode c_Md_prefix 169 = .ok (.iinc 4 1, 3) := by decide +kernel
theorem d_Md_prefix_172 : decode c_Md_prefix 172 = .ok (.goto (-95), 3) := by decide +kernel
theorem d_Md_prefix_175 : decode c_Md_prefix 175 = .ok (.aload_n 0, 1) := by decide +kernel
theorem d_Md_prefix_176 : decode c_Md_prefix 176 = .ok (.getfield 187, 3) := by decide +kernel
theorem d_Md_prefix_179 : decode c_Md_prefix 179 = .ok (.bipush 8, 2) := by decide +kernel
theorem d_Md_prefix_181 : decode c_Md_prefix 181 = .ok (.if_icmp .ne 6, 3) := by decide +kernel
theorem d_Md_prefix_184 : decode c_Md_prefix 184 = .ok (.bipush (-3), 2) := by decide +kernel
theorem d_Md_prefix_186 : decode c_Md_prefix 186 = .ok (.ireturn, 1) := by decide +kernel
theorem d_Md_prefix_187 : decode c_Md_prefix 187 = .ok (.aload_n 0, 1) := by decide +kernel
theorem d_Md_prefix_188 : decode c_Md_prefix 188 = .ok (.getfield 35, 3) := by decide +kernel
theorem d_Md_prefix_191 : decode c_Md_prefix 191 = .ok (.aload_n 0, 1) := by decide +kernel
theorem d_Md_prefix_192 : decode c_Md_prefix 192 = .ok (.getfield 187, 3) := by decide +kernel
theorem d_Md_prefix_195 : decode c_Md_prefix 195 = .ok (.iload_n 2, 1) := by decide +kernel
theorem d_Md_prefix_196 : decode c_Md_prefix 196 = .ok (.iastore, 1) := by decide +kernel
theorem d_Md_prefix_197 : decode c_Md_prefix 197 = .ok (.iconst 0, 1) := by decide +kernel
theorem d_Md_prefix_198 : decode c_Md_prefix 198 = .ok (.istore 4, 2) := by decide +kernel
theorem d_Md_prefix_200 : decode c_Md_prefix 200 = .ok (.iload 4, 2) := by decide +kernel
theorem d_Md_prefix_202 : decode c_Md_prefix 202 = .ok (.iload_n 2, 1) := by decide +kernel
theorem d_Md_prefix_203 : decode c_Md_prefix 203 = .ok (.if_icmp .ge 31, 3) := by decide +kernel
theorem d_Md_prefix_206 : decode c_Md_prefix 206 = .ok (.aload_n 0, 1) := by decide +kernel
theorem d_Md_prefix_207 : decode c_Md_prefix 207 = .ok (.getfield 38, 3) := by decide +kernel
theorem d_Md_prefix_210 : decode c_Md_prefix 210 = .ok (.bipush 6, 2) := by decide +kernel
theorem d_Md_prefix_212 : decode c_Md_prefix 212 = .ok (.aload_n 0, 1) := by decide +kernel
theorem d_Md_prefix_213 : decode c_Md_prefix 213 = .ok (.getfield 187, 3) := by decide +kernel
theorem d_Md_prefix_216 : decode c_Md_prefix 216 = .ok (.imul, 1) := by decide +kernel
theorem d_Md_prefix_217 : decode c_Md_prefix 217 = .ok (.iload 4, 2) := by decide +kernel
theorem d_Md_prefix_219 : decode c_Md_prefix 219 = .ok (.iadd, 1) := by decide +kernel
theorem d_Md_prefix_220 : decode c_Md_prefix 220 = .ok (.aload_n 0, 1) := by decide +kernel
theorem d_Md_prefix_221 : decode c_Md_prefix 221 = .ok (.getfield 7, 3) := by decide +kernel
theorem d_Md_prefix_224 : decode c_Md_prefix 224 = .ok (.iload 4, 2) := by decide +kernel
theorem d_Md_prefix_226 : decode c_Md_prefix 226 = .ok (.iaload, 1) := by decide +kernel
theorem d_Md_prefix_227 : decode c_Md_prefix 227 = .ok (.iastore, 1) := by decide +kernel
theorem d_Md_prefix_228 : decode c_Md_prefix 228 = .ok (.iinc 4 1, 3) := by decide +kernel
theorem d_Md_prefix_231 : decode c_Md_prefix 231 = .ok (.goto (-31), 3) := by decide +kernel
theorem d_Md_prefix_234 : decode c_Md_prefix 234 = .ok (.aload_n 0, 1) := by decide +kernel
theorem d_Md_prefix_235 : decode c_Md_prefix 235 = .ok (.getfield 41, 3) := by decide +kernel
theorem d_Md_prefix_238 : decode c_Md_prefix 238 = .ok (.aload_n 0, 1) := by decide +kernel
theorem d_Md_prefix_239 : decode c_Md_prefix 239 = .ok (.getfield 187, 3) := by decide +kernel
theorem d_Md_prefix_242 : decode c_Md_prefix 242 = .ok (.iload_n 1, 1) := by decide +kernel
theorem d_Md_prefix_243 : decode c_Md_prefix 243 = .ok (.iastore, 1) := by decide +kernel
theorem d_Md_prefix_244 : decode c_Md_prefix 244 = .ok (.aload_n 0, 1) := by decide +kernel
theorem d_Md_prefix_245 : decode c_Md_prefix 245 = .ok (.dup, 1) := by decide +kernel
theorem d_Md_prefix_246 : decode c_Md_prefix 246 = .ok (.getfield 187, 3) := by decide +kernel
theorem d_Md_prefix_249 : decode c_Md_prefix 249 = .ok (.iconst 1, 1) := by decide +kernel
theorem d_Md_prefix_250 : decode c_Md_prefix 250 = .ok (.iadd, 1) := by decide +kernel
theorem d_Md_prefix_251 : decode c_Md_prefix 251 = .ok (.putfield 187, 3) := by decide +kernel
theorem d_Md_prefix_254 : decode c_Md_prefix 254 = .ok (.iconst 1, 1) := by decide +kernel
theorem d_Md_prefix_255 : decode c_Md_prefix 255 = .ok (.ireturn, 1) := by decide +kernel
theorem d_Md_part_0 : decode c_Md_part 0 = .ok (.aload_n 0, 1) := by decide +kernel
theorem d_Md_part_1 : decode c_Md_part 1 = .ok (.iload_n 1, 1) := by decide +kernel
theorem d_Md_part_2 : decode c_Md_part 2 = .ok (.invokevirtual 178, 3) := by decide +kernel
theorem d_Md_part_5 : decode c_Md_part 5 = .ok (.ifCond .eq 12, 3) := by decide +kernel
theorem d_Md_part_8 : decode c_Md_part 8 = .ok (.iload_n 2, 1) := by decide +kernel
theorem d_Md_part_9 : decode c_Md_part 9 = .ok (.iconst 0, 1) := by decide +kernel
theorem d_Md_part_10 : decode c_Md_part 10 = .ok (.iconst 4, 1) := by decide +kernel
theorem d_Md_part_11 : decode c_Md_part 11 = .ok (.invokestatic 77, 3) := by decide +kernel
theorem d_Md_part_14 : decode c_Md_part 14 = .ok (.ifCond .ne 5, 3) := by decide +kernel
theorem d_Md_part_17 : decode c_Md_part 17 = .ok (.iconst (-1), 1) := by decide +kernel
theorem d_Md_part_18 : decode c_Md_part 18 = .ok (.ireturn, 1) := by decide +kernel
theorem d_Md_part_19 : decode c_Md_part 19 = .ok (.aload_n 0, 1) := by decide +kernel
theorem d_Md_part_20 : decode c_Md_part 20 = .ok (.iload_n 1, 1) := by decide +kernel
theorem d_Md_part_21 : decode c_Md_part 21 = .ok (.invokevirtual 149, 3) := by decide +kernel
theorem d_Md_part_24 : decode c_Md_part 24 = .ok (.aload_n 0, 1) := by decide +kernel
theorem d_Md_part_25 : decode c_Md_part 25 = .ok (.getfield 56, 3) := by decide +kernel
theorem d_Md_part_28 : decode c_Md_part 28 = .ok (.iload_n 2, 1) := by decide +kernel
theorem d_Md_part_29 : decode c_Md_part 29 = .ok (.iaload, 1) := by decide +kernel
theorem d_Md_part_30 : decode c_Md_part 30 = .ok (.ifCond .ge 8, 3) := by decide +kernel
theorem d_Md_part_33 : decode c_Md_part 33 = .ok (.bipush (-2), 2) := by decide +kernel
theorem d_Md_part_35 : decode c_Md_part 35 = .ok (.goto 16, 3) := by decide +kernel
theorem d_Md_part_38 : decode c_Md_part 38 = .ok (.aload_n 0, 1) := by decide +kernel
theorem d_Md_part_39 : decode c_Md_part 39 = .ok (.getfield 59, 3) := by decide +kernel
theorem d_Md_part_42 : decode c_Md_part 42 = .ok (.iload_n 2, 1) := by decide +kernel
theorem d_Md_part_43 : decode c_Md_part 43 = .ok (.iaload, 1) := by decide +kernel
theorem d_Md_part_44 : decode c_Md_part 44 = .ok (.aload_n 0, 1) := by decide +kernel
theorem d_Md_part_45 : decode c_Md_part 45 = .ok (.getfield 56, 3) := by decide +kernel
theorem d_Md_part_48 : decode c_Md_part 48 = .ok (.iload_n 2, 1) := by decide +kernel
theorem d_Md_part_49 : decode c_Md_part 49 = .ok (.iaload, 1) := by decide +kernel
theorem d_Md_part_50 : decode c_Md_part 50 = .ok (.isub, 1) := by decide +kernel
theorem d_Md_part_51 : decode c_Md_part 51 = .ok (.ireturn, 1) := by decide +kernel
theorem d_Md_kind_0 : decode c_Md_kind 0 = .ok (.aload_n 0, 1) := by decide +kernel
theorem d_Md_kind_1 : decode c_Md_kind 1 = .ok (.iload_n 1, 1) := by decide +kernel
theorem d_Md_kind_2 : decode c_Md_kind 2 = .ok (.invokevirtual 103, 3) := by decide +kernel
theorem d_Md_kind_5 : decode c_Md_kind 5 = .ok (.ifCond .eq 12, 3) := by decide +kernel
theorem d_Md_kind_8 : decode c_Md_kind 8 = .ok (.aload_n 0, 1) := by decide +kernel
theorem d_Md_kind_9 : decode c_Md_kind 9 = .ok (.getfield 13, 3) := by decide +kernel
theorem d_Md_kind_12 : decode c_Md_kind 12 = .ok (.iload_n 1, 1) := by decide +kernel
theorem d_Md_kind_13 : decode c_Md_kind 13 = .ok (.iaload, 1) := by decide +kernel
theorem d_Md_kind_14 : decode c_Md_kind 14 = .ok (.goto 4, 3) := by decide +kernel
theorem d_Md_kind_17 : decode c_Md_kind 17 = .ok (.iconst (-1), 1) := by decide +kernel
theorem d_Md_kind_18 : decode c_Md_kind 18 = .ok (.ireturn, 1) := by decide +kernel
theorem d_Md_sort_0 : decode c_Md_sort 0 = .ok (.aload_n 0, 1) := by decide +kernel
theorem d_Md_sort_1 : decode c_Md_sort 1 = .ok (.iload_n 1, 1) := by decide +kernel
theorem d_Md_sort_2 : decode c_Md_sort 2 = .ok (.invokevirtual 103, 3) := by decide +kernel
theorem d_Md_sort_5 : decode c_Md_sort 5 = .ok (.ifCond .eq 22, 3) := by decide +kernel
theorem d_Md_sort_8 : decode c_Md_sort 8 = .ok (.aload_n 0, 1) := by decide +kernel
theorem d_Md_sort_9 : decode c_Md_sort 9 = .ok (.getfield 13, 3) := by decide +kernel
theorem d_Md_sort_12 : decode c_Md_sort 12 = .ok (.iload_n 1, 1) := by decide +kernel
theorem d_Md_sort_13 : decode c_Md_sort 13 = .ok (.iaload, 1) := by decide +kernel
theorem d_Md_sort_14 : decode c_Md_sort 14 = .ok (.iconst 2, 1) := by decide +kernel
theorem d_Md_sort_15 : decode c_Md_sort 15 = .ok (.if_icmp .ne 12, 3) := by decide +kernel
theorem d_Md_sort_18 : decode c_Md_sort 18 = .ok (.aload_n 0, 1) := by decide +kernel
theorem d_Md_sort_19 : decode c_Md_sort 19 = .ok (.getfield 16, 3) := by decide +kernel
theorem d_Md_sort_22 : decode c_Md_sort 22 = .ok (.iload_n 1, 1) := by decide +kernel
theorem d_Md_sort_23 : decode c_Md_sort 23 = .ok (.iaload, 1) := by decide +kernel
theorem d_Md_sort_24 : decode c_Md_sort 24 = .ok (.goto 4, 3) := by decide +kernel
theorem d_Md_sort_27 : decode c_Md_sort 27 = .ok (.iconst (-1), 1) := by decide +kernel
theorem d_Md_sort_28 : decode c_Md_sort 28 = .ok (.ireturn, 1) := by decide +kernel
theorem d_Md_alike_0 : decode c_Md_alike 0 = .ok (.aload_n 0, 1) := by decide +kernel
theorem d_Md_alike_1 : decode c_Md_alike 1 = .ok (.iload_n 1, 1) := by decide +kernel
theorem d_Md_alike_2 : decode c_Md_alike 2 = .ok (.invokevirtual 103, 3) := by decide +kernel
theorem d_Md_alike_5 : decode c_Md_alike 5 = .ok (.ifCond .eq 11, 3) := by decide +kernel
theorem d_Md_alike_8 : decode c_Md_alike 8 = .ok (.aload_n 0, 1) := by decide +kernel
theorem d_Md_alike_9 : decode c_Md_alike 9 = .ok (.iload_n 2, 1) := by decide +kernel
theorem d_Md_alike_10 : decode c_Md_alike 10 = .ok (.invokevirtual 103, 3) := by decide +kernel
theorem d_Md_alike_13 : decode c_Md_alike 13 = .ok (.ifCond .ne 5, 3) := by decide +kernel
theorem d_Md_alike_16 : decode c_Md_alike 16 = .ok (.iconst (-1), 1) := by decide +kernel
theorem d_Md_alike_17 : decode c_Md_alike 17 = .ok (.ireturn, 1) := by decide +kernel
theorem d_Md_alike_18 : decode c_Md_alike 18 = .ok (.iload_n 1, 1) := by decide +kernel
theorem d_Md_alike_19 : decode c_Md_alike 19 = .ok (.iload_n 2, 1) := by decide +kernel
theorem d_Md_alike_20 : decode c_Md_alike 20 = .ok (.if_icmp .ne 5, 3) := by decide +kernel
theorem d_Md_alike_23 : decode c_Md_alike 23 = .ok (.iconst 1, 1) := by decide +kernel
theorem d_Md_alike_24 : decode c_Md_alike 24 = .ok (.ireturn, 1) := by decide +kernel
theorem d_Md_alike_25 : decode c_Md_alike 25 = .ok (.aload_n 0, 1) := by decide +kernel
theorem d_Md_alike_26 : decode c_Md_alike 26 = .ok (.getfield 13, 3) := by decide +kernel
theorem d_Md_alike_29 : decode c_Md_alike 29 = .ok (.iload_n 1, 1) := by decide +kernel
theorem d_Md_alike_30 : decode c_Md_alike 30 = .ok (.iaload, 1) := by decide +kernel
theorem d_Md_alike_31 : decode c_Md_alike 31 = .ok (.iconst 2, 1) := by decide +kernel
theorem d_Md_alike_32 : decode c_Md_alike 32 = .ok (.if_icmp .ne 28, 3) := by decide +kernel
theorem d_Md_alike_35 : decode c_Md_alike 35 = .ok (.aload_n 0, 1) := by decide +kernel
theorem d_Md_alike_36 : decode c_Md_alike 36 = .ok (.getfield 13, 3) := by decide +kernel
theorem d_Md_alike_39 : decode c_Md_alike 39 = .ok (.iload_n 2, 1) := by decide +kernel
theorem d_Md_alike_40 : decode c_Md_alike 40 = .ok (.iaload, 1) := by decide +kernel
theorem d_Md_alike_41 : decode c_Md_alike 41 = .ok (.iconst 2, 1) := by decide +kernel
theorem d_Md_alike_42 : decode c_Md_alike 42 = .ok (.if_icmp .ne 18, 3) := by decide +kernel
theorem d_Md_alike_45 : decode c_Md_alike 45 = .ok (.aload_n 0, 1) := by decide +kernel
theorem d_Md_alike_46 : decode c_Md_alike 46 = .ok (.getfield 16, 3) := by decide +kernel
theorem d_Md_alike_49 : decode c_Md_alike 49 = .ok (.iload_n 1, 1) := by decide +kernel
theorem d_Md_alike_50 : decode c_Md_alike 50 = .ok (.iaload, 1) := by decide +kernel
theorem d_Md_alike_51 : decode c_Md_alike 51 = .ok (.aload_n 0, 1) := by decide +kernel
theorem d_Md_alike_52 : decode c_Md_alike 52 = .ok (.getfield 16, 3) := by decide +kernel
theorem d_Md_alike_55 : decode c_Md_alike 55 = .ok (.iload_n 2, 1) := by decide +kernel
theorem d_Md_alike_56 : decode c_Md_alike 56 = .ok (.iaload, 1) := by decide +kernel
theorem d_Md_alike_57 : decode c_Md_alike 57 = .ok (.if_icmp .eq 5, 3) := by decide +kernel
theorem d_Md_alike_60 : decode c_Md_alike 60 = .ok (.iconst 0, 1) := by decide +kernel
theorem d_Md_alike_61 : decode c_Md_alike 61 = .ok (.ireturn, 1) := by decide +kernel
theorem d_Md_alike_62 : decode c_Md_alike 62 = .ok (.aload_n 0, 1) := by decide +kernel
theorem d_Md_alike_63 : decode c_Md_alike 63 = .ok (.getfield 16, 3) := by decide +kernel
theorem d_Md_alike_66 : decode c_Md_alike 66 = .ok (.iload_n 1, 1) := by decide +kernel
theorem d_Md_alike_67 : decode c_Md_alike 67 = .ok (.iaload, 1) := by decide +kernel
theorem d_Md_alike_68 : decode c_Md_alike 68 = .ok (.iconst 2, 1) := by decide +kernel
theorem d_Md_alike_69 : decode c_Md_alike 69 = .ok (.if_icmp .ne 39, 3) := by decide +kernel
theorem d_Md_alike_72 : decode c_Md_alike 72 = .ok (.aload_n 0, 1) := by decide +kernel
theorem d_Md_alike_73 : decode c_Md_alike 73 = .ok (.iload_n 1, 1) := by decide +kernel
theorem d_Md_alike_74 : decode c_Md_alike 74 = .ok (.invokevirtual 204, 3) := by decide +kernel
theorem d_Md_alike_77 : decode c_Md_alike 77 = .ok (.ifCond .eq 29, 3) := by decide +kernel
theorem d_Md_alike_80 : decode c_Md_alike 80 = .ok (.aload_n 0, 1) := by decide +kernel
theorem d_Md_alike_81 : decode c_Md_alike 81 = .ok (.iload_n 2, 1) := by decide +kernel
theorem d_Md_alike_82 : decode c_Md_alike 82 = .ok (.invokevirtual 204, 3) := by decide +kernel
theorem d_Md_alike_85 : decode c_Md_alike 85 = .ok (.ifCond .eq 21, 3) := by decide +kernel
theorem d_Md_alike_88 : decode c_Md_alike 88 = .ok (.aload_n 0, 1) := by decide +kernel
theorem d_Md_alike_89 : decode c_Md_alike 89 = .ok (.iload_n 1, 1) := by decide +kernel
theorem d_Md_alike_90 : decode c_Md_alike 90 = .ok (.invokevirtual 207, 3) := by decide +kernel
theorem d_Md_alike_93 : decode c_Md_alike 93 = .ok (.aload_n 0, 1) := by decide +kernel
theorem d_Md_alike_94 : decode c_Md_alike 94 = .ok (.iload_n 2, 1) := by decide +kernel
theorem d_Md_alike_95 : decode c_Md_alike 95 = .ok (.invokevirtual 207, 3) := by decide +kernel
theorem d_Md_alike_98 : decode c_Md_alike 98 = .ok (.lcmp, 1) := by decide +kernel
theorem d_Md_alike_99 : decode c_Md_alike 99 = .ok (.ifCond .ne 7, 3) := by decide +kernel
theorem d_Md_alike_102 : decode c_Md_alike 102 = .ok (.iconst 1, 1) := by decide +kernel
theorem d_Md_alike_103 : decode c_Md_alike 103 = .ok (.goto 4, 3) := by decide +kernel
theorem d_Md_alike_106 : decode c_Md_alike 106 = .ok (.iconst 0, 1) := by decide +kernel
theorem d_Md_alike_107 : decode c_Md_alike 107 = .ok (.ireturn, 1) := by decide +kernel
theorem d_Md_alike_108 : decode c_Md_alike 108 = .ok (.aload_n 0, 1) := by decide +kernel
theorem d_Md_alike_109 : decode c_Md_alike 109 = .ok (.getfield 16, 3) := by decide +kernel
theorem d_Md_alike_112 : decode c_Md_alike 112 = .ok (.iload_n 1, 1) := by decide +kernel
theorem d_Md_alike_113 : decode c_Md_alike 113 = .ok (.iaload, 1) := by decide +kernel
theorem d_Md_alike_114 : decode c_Md_alike 114 = .ok (.iconst 3, 1) := by decide +kernel
theorem d_Md_alike_115 : decode c_Md_alike 115 = .ok (.if_icmp .ne 28, 3) := by decide +kernel
theorem d_Md_alike_118 : decode c_Md_alike 118 = .ok (.aload_n 0, 1) := by decide +kernel
theorem d_Md_alike_119 : decode c_Md_alike 119 = .ok (.iload_n 1, 1) := by decide +kernel
theorem d_Md_alike_120 : decode c_Md_alike 120 = .ok (.invokevirtual 211, 3) := by decide +kernel
theorem d_Md_alike_123 : decode c_Md_alike 123 = .ok (.ifCond .lt 20, 3) := by decide +kernel
theorem d_Md_alike_126 : decode c_Md_alike 126 = .ok (.aload_n 0, 1) := by decide +kernel
theorem d_Md_alike_127 : decode c_Md_alike 127 = .ok (.iload_n 1, 1) := by decide +kernel
theorem d_Md_alike_128 : decode c_Md_alike 128 = .ok (.invokevirtual 211, 3) := by decide +kernel
theorem d_Md_alike_131 : decode c_Md_alike 131 = .ok (.aload_n 0, 1) := by decide +kernel
theorem d_Md_alike_132 : decode c_Md_alike 132 = .ok (.iload_n 2, 1) := by decide +kernel
theorem d_Md_alike_133 : decode c_Md_alike 133 = .ok (.invokevirtual 211, 3) := by decide +kernel
theorem d_Md_alike_136 : decode c_Md_alike 136 = .ok (.if_icmp .ne 7, 3) := by decide +kernel
theorem d_Md_alike_139 : decode c_Md_alike 139 = .ok (.iconst 1, 1) := by decide +kernel
theorem d_Md_alike_140 : decode c_Md_alike 140 = .ok (.goto 4, 3) := by decide +kernel
theorem d_Md_alike_143 : decode c_Md_alike 143 = .ok (.iconst 0, 1) := by decide +kernel
theorem d_Md_alike_144 : decode c_Md_alike 144 = .ok (.ireturn, 1) := by decide +kernel
theorem d_Md_isWhole_0 : decode c_Md_isWhole 0 = .ok (.aload_n 0, 1) := by decide +kernel
theorem d_Md_isWhole_1 : decode c_Md_isWhole 1 = .ok (.getfield 19, 3) := by decide +kernel
theorem d_Md_isWhole_4 : decode c_Md_isWhole 4 = .ok (.iload_n 1, 1) := by decide +kernel
theorem d_Md_isWhole_5 : decode c_Md_isWhole 5 = .ok (.iaload, 1) := by decide +kernel
theorem d_Md_isWhole_6 : decode c_Md_isWhole 6 = .ok (.ifCond .le 35, 3) := by decide +kernel
theorem d_Md_isWhole_9 : decode c_Md_isWhole 9 = .ok (.aload_n 0, 1) := by decide +kernel
theorem d_Md_isWhole_10 : decode c_Md_isWhole 10 = .ok (.getfield 22, 3) := by decide +kernel
theorem d_Md_isWhole_13 : decode c_Md_isWhole 13 = .ok (.bipush 100, 2) := by decide +kernel
theorem d_Md_isWhole_15 : decode c_Md_isWhole 15 = .ok (.iload_n 1, 1) := by decide +kernel
theorem d_Md_isWhole_16 : decode c_Md_isWhole 16 = .ok (.imul, 1) := by decide +kernel
theorem d_Md_isWhole_17 : decode c_Md_isWhole 17 = .ok (.iaload, 1) := by decide +kernel
theorem d_Md_isWhole_18 : decode c_Md_isWhole 18 = .ok (.bipush 43, 2) := by decide +kernel
theorem d_Md_isWhole_20 : decode c_Md_isWhole 20 = .ok (.if_icmp .eq 17, 3) := by decide +kernel
theorem d_Md_isWhole_23 : decode c_Md_isWhole 23 = .ok (.aload_n 0, 1) := by decide +kernel
theorem d_Md_isWhole_24 : decode c_Md_isWhole 24 = .ok (.getfield 22, 3) := by decide +kernel
theorem d_Md_isWhole_27 : decode c_Md_isWhole 27 = .ok (.bipush 100, 2) := by decide +kernel
theorem d_Md_isWhole_29 : decode c_Md_isWhole 29 = .ok (.iload_n 1, 1) := by decide +kernel
theorem d_Md_isWhole_30 : decode c_Md_isWhole 30 = .ok (.imul, 1) := by decide +kernel
theorem d_Md_isWhole_31 : decode c_Md_isWhole 31 = .ok (.iaload, 1) := by decide +kernel
theorem d_Md_isWhole_32 : decode c_Md_isWhole 32 = .ok (.bipush 45, 2) := by decide +kernel
theorem d_Md_isWhole_34 : decode c_Md_isWhole 34 = .ok (.if_icmp .ne 7, 3) := by decide +kernel
theorem d_Md_isWhole_37 : decode c_Md_isWhole 37 = .ok (.iconst 1, 1) := by decide +kernel
theorem d_Md_isWhole_38 : decode c_Md_isWhole 38 = .ok (.goto 4, 3) := by decide +kernel
theorem d_Md_isWhole_41 : decode c_Md_isWhole 41 = .ok (.iconst 0, 1) := by decide +kernel
theorem d_Md_isWhole_42 : decode c_Md_isWhole 42 = .ok (.istore_n 2, 1) := by decide +kernel
theorem d_Md_isWhole_43 : decode c_Md_isWhole 43 = .ok (.aload_n 0, 1) := by decide +kernel
theorem d_Md_isWhole_44 : decode c_Md_isWhole 44 = .ok (.getfield 19, 3) := by decide +kernel
theorem d_Md_isWhole_47 : decode c_Md_isWhole 47 = .ok (.iload_n 1, 1) := by decide +kernel
theorem d_Md_isWhole_48 : decode c_Md_isWhole 48 = .ok (.iaload, 1) := by decide +kernel
theorem d_Md_isWhole_49 : decode c_Md_isWhole 49 = .ok (.iload_n 2, 1) := by decide +kernel
theorem d_Md_isWhole_50 : decode c_Md_isWhole 50 = .ok (.isub, 1) := by decide +kernel
theorem d_Md_isWhole_51 : decode c_Md_isWhole 51 = .ok (.iconst 1, 1) := by decide +kernel
theorem d_Md_isWhole_52 : decode c_Md_isWhole 52 = .ok (.bipush 18, 2) := by decide +kernel
theorem d_Md_isWhole_54 : decode c_Md_isWhole 54 = .ok (.invokestatic 77, 3) := by decide +kernel
theorem d_Md_isWhole_57 : decode c_Md_isWhole 57 = .ok (.istore_n 3, 1) := by decide +kernel
theorem d_Md_isWhole_58 : decode c_Md_isWhole 58 = .ok (.iload_n 2, 1) := by decide +kernel
theorem d_Md_isWhole_59 : decode c_Md_isWhole 59 = .ok (.istore 4, 2) := by decide +kernel
theorem d_Md_isWhole_61 : decode c_Md_isWhole 61 = .ok (.iload 4, 2) := by decide +kernel
theorem d_Md_isWhole_63 : decode c_Md_isWhole 63 = .ok (.aload_n 0, 1) := by decide +kernel
theorem d_Md_isWhole_64 : decode c_Md_isWhole 64 = .ok (.getfield 19, 3) := by decide +kernel
theorem d_Md_isWhole_67 : decode c_Md_isWhole 67 = .ok (.iload_n 1, 1) := by decide +kernel
theorem d_Md_isWhole_68 : decode c_Md_isWhole 68 = .ok (.iaload, 1) := by decide +kernel
theorem d_Md_isWhole_69 : decode c_Md_isWhole 69 = .ok (.if_icmp .ge 37, 3) := by decide +kernel
theorem d_Md_isWhole_72 : decode c_Md_isWhole 72 = .ok (.iload_n 3, 1) := by decide +kernel
theorem d_Md_isWhole_73 : decode c_Md_isWhole 73 = .ok (.ifCond .eq 25, 3) := by decide +kernel
theorem d_Md_isWhole_76 : decode c_Md_isWhole 76 = .ok (.aload_n 0, 1) := by decide +kernel
theorem d_Md_isWhole_77 : decode c_Md_isWhole 77 = .ok (.getfield 22, 3) := by decide +kernel
theorem d_Md_isWhole_80 : decode c_Md_isWhole 80 = .ok (.bipush 100, 2) := by decide +kernel
theorem d_Md_isWhole_82 : decode c_Md_isWhole 82 = .ok (.iload_n 1, 1) := by decide +kernel
theorem d_Md_isWhole_83 : decode c_Md_isWhole 83 = .ok (.imul, 1) := by decide +kernel
theorem d_Md_isWhole_84 : decode c_Md_isWhole 84 = .ok (.iload 4, 2) := by decide +kernel
theorem d_Md_isWhole_86 : decode c_Md_isWhole 86 = .ok (.iadd, 1) := by decide +kernel
theorem d_Md_isWhole_87 : decode c_Md_isWhole 87 = .ok (.iaload, 1) := by decide +kernel
theorem d_Md_isWhole_88 : decode c_Md_isWhole 88 = .ok (.invokestatic 85, 3) := by decide +kernel
theorem d_Md_isWhole_91 : decode c_Md_isWhole 91 = .ok (.ifCond .eq 7, 3) := by decide +kernel
theorem d_Md_isWhole_94 : decode c_Md_isWhole 94 = .ok (.iconst 1, 1) := by decide +kernel
theorem d_Md_isWhole_95 : decode c_Md_isWhole 95 = .ok (.goto 4, 3) := by decide +kernel
theorem d_Md_isWhole_98 : decode c_Md_isWhole 98 = .ok (.iconst 0, 1) := by decide +kernel
theorem d_Md_isWhole_99 : decode c_Md_isWhole 99 = .ok (.istore_n 3, 1) := by decide +kernel
theorem d_Md_isWhole_100 : decode c_Md_isWhole 100 = .ok (.iinc 4 1, 3) := by decide +kernel
theorem d_Md_isWhole_103 : decode c_Md_isWhole 103 = .ok (.goto (-42), 3) := by decide +kernel
theorem d_Md_isWhole_106 : decode c_Md_isWhole 106 = .ok (.iload_n 3, 1) := by decide +kernel
theorem d_Md_isWhole_107 : decode c_Md_isWhole 107 = .ok (.ireturn, 1) := by decide +kernel
theorem d_Md_whole_0 : decode c_Md_whole 0 = .ok (.lconst 0, 1) := by decide +kernel
theorem d_Md_whole_1 : decode c_Md_whole 1 = .ok (.lstore_n 2, 1) := by decide +kernel
theorem d_Md_whole_2 : decode c_Md_whole 2 = .ok (.iconst 0, 1) := by decide +kernel
theorem d_Md_whole_3 : decode c_Md_whole 3 = .ok (.istore 4, 2) := by decide +kernel
theorem d_Md_whole_5 : decode c_Md_whole 5 = .ok (.iload 4, 2) := by decide +kernel
theorem d_Md_whole_7 : decode c_Md_whole 7 = .ok (.aload_n 0, 1) := by decide +kernel
theorem d_Md_whole_8 : decode c_Md_whole 8 = .ok (.getfield 19, 3) := by decide +kernel
theorem d_Md_whole_11 : decode c_Md_whole 11 = .ok (.iload_n 1, 1) := by decide +kernel
theorem d_Md_whole_12 : decode c_Md_whole 12 = .ok (.iaload, 1) := by decide +kernel
theorem d_Md_whole_13 : decode c_Md_whole 13 = .ok (.if_icmp .ge 55, 3) := by decide +kernel
theorem d_Md_whole_16 : decode c_Md_whole 16 = .ok (.aload_n 0, 1) := by decide +kernel
theorem d_Md_whole_17 : decode c_Md_whole 17 = .ok (.getfield 22, 3) := by decide +kernel
theorem d_Md_whole_20 : decode c_Md_whole 20 = .ok (.bipush 100, 2) := by decide +kernel
theorem d_Md_whole_22 : decode c_Md_whole 22 = .ok (.iload_n 1, 1) := by decide +kernel
theorem d_Md_whole_23 : decode c_Md_whole 23 = .ok (.imul, 1) := by decide +kernel
theorem d_Md_whole_24 : decode c_Md_whole 24 = .ok (.iload 4, 2) := by decide +kernel
theorem d_Md_whole_26 : decode c_Md_whole 26 = .ok (.iadd, 1) := by decide +kernel
theorem d_Md_whole_27 : decode c_Md_whole 27 = .ok (.iaload, 1) := by decide +kernel
theorem d_Md_whole_28 : decode c_Md_whole 28 = .ok (.invokestatic 85, 3) := by decide +kernel
theorem d_Md_whole_31 : decode c_Md_whole 31 = .ok (.ifCond .eq 29, 3) := by decide +kernel
theorem d_Md_whole_34 : decode c_Md_whole 34 = .ok (.ldc2_w 190, 3) := by decide +kernel
theorem d_Md_whole_37 : decode c_Md_whole 37 = .ok (.lload_n 2, 1) := by decide +kernel
theorem d_Md_whole_38 : decode c_Md_whole 38 = .ok (.lmul, 1) := by decide +kernel
theorem d_Md_whole_39 : decode c_Md_whole 39 = .ok (.aload_n 0, 1) := by decide +kernel
theorem d_Md_whole_40 : decode c_Md_whole 40 = .ok (.getfield 22, 3) := by decide +kernel
theorem d_Md_whole_43 : decode c_Md_whole 43 = .ok (.bipush 100, 2) := by decide +kernel
theorem d_Md_whole_45 : decode c_Md_whole 45 = .ok (.iload_n 1, 1) := by decide +kernel
theorem d_Md_whole_46 : decode c_Md_whole 46 = .ok (.imul, 1) := by decide +kernel
theorem d_Md_whole_47 : decode c_Md_whole 47 = .ok (.iload 4, 2) := by decide +kernel
theorem d_Md_whole_49 : decode c_Md_whole 49 = .ok (.iadd, 1) := by decide +kernel
theorem d_Md_whole_50 : decode c_Md_whole 50 = .ok (.iaload, 1) := by decide +kernel
theorem d_Md_whole_51 : decode c_Md_whole 51 = .ok (.i2l, 1) := by decide +kernel
theorem d_Md_whole_52 : decode c_Md_whole 52 = .ok (.ladd, 1) := by decide +kernel
theorem d_Md_whole_53 : decode c_Md_whole 53 = .ok (.ldc2_w 192, 3) := by decide +kernel
theorem d_Md_whole_56 : decode c_Md_whole 56 = .ok (.lsub, 1) := by decide +kernel
theorem d_Md_whole_57 : decode c_Md_whole 57 = .ok (.goto 4, 3) := by decide +kernel
theorem d_Md_whole_60 : decode c_Md_whole 60 = .ok (.lload_n 2, 1) := by decide +kernel
theorem d_Md_whole_61 : decode c_Md_whole 61 = .ok (.lstore_n 2, 1) := by decide +kernel
theorem d_Md_whole_62 : decode c_Md_whole 62 = .ok (.iinc 4 1, 3) := by decide +kernel
theorem d_Md_whole_65 : decode c_Md_whole 65 = .ok (.goto (-60), 3) := by decide +kernel
theorem d_Md_whole_68 : decode c_Md_whole 68 = .ok (.aload_n 0, 1) := by decide +kernel
theorem d_Md_whole_69 : decode c_Md_whole 69 = .ok (.getfield 22, 3) := by decide +kernel
theorem d_Md_whole_72 : decode c_Md_whole 72 = .ok (.bipush 100, 2) := by decide +kernel
theorem d_Md_whole_74 : decode c_Md_whole 74 = .ok (.iload_n 1, 1) := by decide +kernel
theorem d_Md_whole_75 : decode c_Md_whole 75 = .ok (.imul, 1) := by decide +kernel
theorem d_Md_whole_76 : decode c_Md_whole 76 = .ok (.iaload, 1) := by decide +kernel
theorem d_Md_whole_77 : decode c_Md_whole 77 = .ok (.bipush 45, 2) := by decide +kernel
theorem d_Md_whole_79 : decode c_Md_whole 79 = .ok (.if_icmp .ne 8, 3) := by decide +kernel
theorem d_Md_whole_82 : decode c_Md_whole 82 = .ok (.lload_n 2, 1) := by decide +kernel
theorem d_Md_whole_83 : decode c_Md_whole 83 = .ok (.lneg, 1) := by decide +kernel
theorem d_Md_whole_84 : decode c_Md_whole 84 = .ok (.goto 4, 3) := by decide +kernel
theorem d_Md_whole_87 : decode c_Md_whole 87 = .ok (.lload_n 2, 1) := by decide +kernel
theorem d_Md_whole_88 : decode c_Md_whole 88 = .ok (.lreturn, 1) := by decide +kernel
theorem d_Md_truth_0 : decode c_Md_truth 0 = .ok (.aload_n 0, 1) := by decide +kernel
theorem d_Md_truth_1 : decode c_Md_truth 1 = .ok (.iload_n 1, 1) := by decide +kernel
theorem d_Md_truth_2 : decode c_Md_truth 2 = .ok (.iconst 4, 1) := by decide +kernel
theorem d_Md_truth_3 : decode c_Md_truth 3 = .ok (.ldc2_w 194, 3) := by decide +kernel
theorem d_Md_truth_6 : decode c_Md_truth 6 = .ok (.invokevirtual 196, 3) := by decide +kernel
theorem d_Md_truth_9 : decode c_Md_truth 9 = .ok (.ifCond .ne 15, 3) := by decide +kernel
theorem d_Md_truth_12 : decode c_Md_truth 12 = .ok (.aload_n 0, 1) := by decide +kernel
theorem d_Md_truth_13 : decode c_Md_truth 13 = .ok (.iload_n 1, 1) := by decide +kernel
theorem d_Md_truth_14 : decode c_Md_truth 14 = .ok (.iconst 1, 1) := by decide +kernel
theorem d_Md_truth_15 : decode c_Md_truth 15 = .ok (.ldc2_w 200, 3) := by decide +kernel
theorem d_Md_truth_18 : decode c_Md_truth 18 = .ok (.invokevirtual 196, 3) := by decide +kernel
theorem d_Md_truth_21 : decode c_Md_truth 21 = .ok (.ifCond .eq 7, 3) := by decide +kernel
theorem d_Md_truth_24 : decode c_Md_truth 24 = .ok (.iconst 1, 1) := by decide +kernel
theorem d_Md_truth_25 : decode c_Md_truth 25 = .ok (.goto 32, 3) := by decide +kernel
theorem d_Md_truth_28 : decode c_Md_truth 28 = .ok (.aload_n 0, 1) := by decide +kernel
theorem d_Md_truth_29 : decode c_Md_truth 29 = .ok (.iload_n 1, 1) := by decide +kernel
theorem d_Md_truth_30 : decode c_Md_truth 30 = .ok (.iconst 5, 1) := by decide +kernel
theorem d_Md_truth_31 : decode c_Md_truth 31 = .ok (.ldc2_w 202, 3) := by decide +kernel
theorem d_Md_truth_34 : decode c_Md_truth 34 = .ok (.invokevirtual 196, 3) := by decide +kernel
theorem d_Md_truth_37 : decode c_Md_truth 37 = .ok (.ifCond .ne 15, 3) := by decide +kernel
theorem d_Md_truth_40 : decode c_Md_truth 40 = .ok (.aload_n 0, 1) := by decide +kernel
theorem d_Md_truth_41 : decode c_Md_truth 41 = .ok (.iload_n 1, 1) := by decide +kernel
theorem d_Md_truth_42 : decode c_Md_truth 42 = .ok (.iconst 1, 1) := by decide +kernel
theorem d_Md_truth_43 : decode c_Md_truth 43 = .ok (.ldc2_w 192, 3) := by decide +kernel
theorem d_Md_truth_46 : decode c_Md_truth 46 = .ok (.invokevirtual 196, 3) := by decide +kernel
theorem d_Md_truth_49 : decode c_Md_truth 49 = .ok (.ifCond .eq 7, 3) := by decide +kernel
theorem d_Md_truth_52 : decode c_Md_truth 52 = .ok (.iconst 0, 1) := by decide +kernel
theorem d_Md_truth_53 : decode c_Md_truth 53 = .ok (.goto 4, 3) := by decide +kernel
theorem d_Md_truth_56 : decode c_Md_truth 56 = .ok (.iconst (-1), 1) := by decide +kernel
theorem d_Md_truth_57 : decode c_Md_truth 57 = .ok (.ireturn, 1) := by decide +kernel
theorem d_Md_isBytes_0 : decode c_Md_isBytes 0 = .ok (.aload_n 0, 1) := by decide +kernel
theorem d_Md_isBytes_1 : decode c_Md_isBytes 1 = .ok (.getfield 19, 3) := by decide +kernel
theorem d_Md_isBytes_4 : decode c_Md_isBytes 4 = .ok (.iload_n 1, 1) := by decide +kernel
theorem d_Md_isBytes_5 : decode c_Md_isBytes 5 = .ok (.iaload, 1) := by decide +kernel
theorem d_Md_isBytes_6 : decode c_Md_isBytes 6 = .ok (.iload_n 2, 1) := by decide +kernel
theorem d_Md_isBytes_7 : decode c_Md_isBytes 7 = .ok (.if_icmp .ne 7, 3) := by decide +kernel
theorem d_Md_isBytes_10 : decode c_Md_isBytes 10 = .ok (.iconst 1, 1) := by decide +kernel
theorem d_Md_isBytes_11 : decode c_Md_isBytes 11 = .ok (.goto 4, 3) := by decide +kernel
theorem d_Md_isBytes_14 : decode c_Md_isBytes 14 = .ok (.iconst 0, 1) := by decide +kernel
theorem d_Md_isBytes_15 : decode c_Md_isBytes 15 = .ok (.istore 5, 2) := by decide +kernel
theorem d_Md_isBytes_17 : decode c_Md_isBytes 17 = .ok (.iconst 0, 1) := by decide +kernel
theorem d_Md_isBytes_18 : decode c_Md_isBytes 18 = .ok (.istore 6, 2) := by decide +kernel
theorem d_Md_isBytes_20 : decode c_Md_isBytes 20 = .ok (.iload 6, 2) := by decide +kernel
theorem d_Md_isBytes_22 : decode c_Md_isBytes 22 = .ok (.iload_n 2, 1) := by decide +kernel
theorem d_Md_isBytes_23 : decode c_Md_isBytes 23 = .ok (.if_icmp .ge 52, 3) := by decide +kernel
theorem d_Md_isBytes_26 : decode c_Md_isBytes 26 = .ok (.iload 5, 2) := by decide +kernel
theorem d_Md_isBytes_28 : decode c_Md_isBytes 28 = .ok (.ifCond .eq 47, 3) := by decide +kernel
theorem d_Md_isBytes_31 : decode c_Md_isBytes 31 = .ok (.aload_n 0, 1) := by decide +kernel
theorem d_Md_isBytes_32 : decode c_Md_isBytes 32 = .ok (.getfield 22, 3) := by decide +kernel
theorem d_Md_isBytes_35 : decode c_Md_isBytes 35 = .ok (.bipush 100, 2) := by decide +kernel
theorem d_Md_isBytes_37 : decode c_Md_isBytes 37 = .ok (.iload_n 1, 1) := by decide +kernel
theorem d_Md_isBytes_38 : decode c_Md_isBytes 38 = .ok (.imul, 1) := by decide +kernel
theorem d_Md_isBytes_39 : decode c_Md_isBytes 39 = .ok (.iload 6, 2) := by decide +kernel
theorem d_Md_isBytes_41 : decode c_Md_isBytes 41 = .ok (.iadd, 1) := by decide +kernel
theorem d_Md_isBytes_42 : decode c_Md_isBytes 42 = .ok (.iaload, 1) := by decide +kernel
theorem d_Md_isBytes_43 : decode c_Md_isBytes 43 = .ok (.lload_n 3, 1) := by decide +kernel
theorem d_Md_isBytes_44 : decode c_Md_isBytes 44 = .ok (.bipush 8, 2) := by decide +kernel
theorem d_Md_isBytes_46 : decode c_Md_isBytes 46 = .ok (.iload_n 2, 1) := by decide +kernel
theorem d_Md_isBytes_47 : decode c_Md_isBytes 47 = .ok (.iconst 1, 1) := by decide +kernel
theorem d_Md_isBytes_48 : decode c_Md_isBytes 48 = .ok (.isub, 1) := by decide +kernel
theorem d_Md_isBytes_49 : decode c_Md_isBytes 49 = .ok (.iload 6, 2) := by decide +kernel
theorem d_Md_isBytes_51 : decode c_Md_isBytes 51 = .ok (.isub, 1) := by decide +kernel
theorem d_Md_isBytes_52 : decode c_Md_isBytes 52 = .ok (.imul, 1) := by decide +kernel
theorem d_Md_isBytes_53 : decode c_Md_isBytes 53 = .ok (.lshr, 1) := by decide +kernel
theorem d_Md_isBytes_54 : decode c_Md_isBytes 54 = .ok (.ldc2_w 88, 3) := by decide +kernel
theorem d_Md_isBytes_57 : decode c_Md_isBytes 57 = .ok (.land, 1) := by decide +kernel
theorem d_Md_isBytes_58 : decode c_Md_isBytes 58 = .ok (.l2i, 1) := by decide +kernel
theorem d_Md_isBytes_59 : decode c_Md_isBytes 59 = .ok (.if_icmp .ne 7, 3) := by decide +kernel
theorem d_Md_isBytes_62 : decode c_Md_isBytes 62 = .ok (.iconst 1, 1) := by decide +kernel
theorem d_Md_isBytes_63 : decode c_Md_isBytes 63 = .ok (.goto 4, 3) := by decide +kernel
theorem d_Md_isBytes_66 : decode c_Md_isBytes 66 = .ok (.iconst 0, 1) := by decide +kernel
theorem d_Md_isBytes_67 : decode c_Md_isBytes 67 = .ok (.istore 5, 2) := by decide +kernel
theorem d_Md_isBytes_69 : decode c_Md_isBytes 69 = .ok (.iinc 6 1, 3) := by decide +kernel
theorem d_Md_isBytes_72 : decode c_Md_isBytes 72 = .ok (.goto (-52), 3) := by decide +kernel
theorem d_Md_isBytes_75 : decode c_Md_isBytes 75 = .ok (.iload 5, 2) := by decide +kernel
theorem d_Md_isBytes_77 : decode c_Md_isBytes 77 = .ok (.ireturn, 1) := by decide +kernel
theorem d_Md_compare_0 : decode c_Md_compare 0 = .ok (.aload_n 0, 1) := by decide +kernel
theorem d_Md_compare_1 : decode c_Md_compare 1 = .ok (.iload_n 1, 1) := by decide +kernel
theorem d_Md_compare_2 : decode c_Md_compare 2 = .ok (.invokevirtual 103, 3) := by decide +kernel
theorem d_Md_compare_5 : decode c_Md_compare 5 = .ok (.ifCond .eq 11, 3) := by decide +kernel
theorem d_Md_compare_8 : decode c_Md_compare 8 = .ok (.aload_n 0, 1) := by decide +kernel
theorem d_Md_compare_9 : decode c_Md_compare 9 = .ok (.iload_n 2, 1) := by decide +kernel
theorem d_Md_compare_10 : decode c_Md_compare 10 = .ok (.invokevirtual 103, 3) := by decide +kernel
theorem d_Md_compare_13 : decode c_Md_compare 13 = .ok (.ifCond .ne 6, 3) := by decide +kernel
theorem d_Md_compare_16 : decode c_Md_compare 16 = .ok (.bipush (-2), 2) := by decide +kernel
theorem d_Md_compare_18 : decode c_Md_compare 18 = .ok (.ireturn, 1) := by decide +kernel
theorem d_Md_compare_19 : decode c_Md_compare 19 = .ok (.aload_n 0, 1) := by decide +kernel
theorem d_Md_compare_20 : decode c_Md_compare 20 = .ok (.getfield 13, 3) := by decide +kernel
theorem d_Md_compare_23 : decode c_Md_compare 23 = .ok (.iload_n 1, 1) := by decide +kernel
theorem d_Md_compare_24 : decode c_Md_compare 24 = .ok (.iaload, 1) := by decide +kernel
theorem d_Md_compare_25 : decode c_Md_compare 25 = .ok (.invokestatic 214, 3) := by decide +kernel
theorem d_Md_compare_28 : decode c_Md_compare 28 = .ok (.aload_n 0, 1) := by decide +kernel
theorem d_Md_compare_29 : decode c_Md_compare 29 = .ok (.getfield 13, 3) := by decide +kernel
theorem d_Md_compare_32 : decode c_Md_compare 32 = .ok (.iload_n 2, 1) := by decide +kernel
theorem d_Md_compare_33 : decode c_Md_compare 33 = .ok (.iaload, 1) := by decide +kernel
theorem d_Md_compare_34 : decode c_Md_compare 34 = .ok (.invokestatic 214, 3) := by decide +kernel
theorem d_Md_compare_37 : decode c_Md_compare 37 = .ok (.isub, 1) := by decide +kernel
theorem d_Md_compare_38 : decode c_Md_compare 38 = .ok (.istore_n 3, 1) := by decide +kernel
theorem d_Md_compare_39 : decode c_Md_compare 39 = .ok (.iload_n 3, 1) := by decide +kernel
theorem d_Md_compare_40 : decode c_Md_compare 40 = .ok (.ifCond .ne 27, 3) := by decide +kernel
theorem d_Md_compare_43 : decode c_Md_compare 43 = .ok (.aload_n 0, 1) := by decide +kernel
theorem d_Md_compare_44 : decode c_Md_compare 44 = .ok (.getfield 13, 3) := by decide +kernel
theorem d_Md_compare_47 : decode c_Md_compare 47 = .ok (.iload_n 1, 1) := by decide +kernel
theorem d_Md_compare_48 : decode c_Md_compare 48 = .ok (.iaload, 1) := by decide +kernel
theorem d_Md_compare_49 : decode c_Md_compare 49 = .ok (.iconst 1, 1) := by decide +kernel
theorem d_Md_compare_50 : decode c_Md_compare 50 = .ok (.if_icmp .ne 17, 3) := by decide +kernel
theorem d_Md_compare_53 : decode c_Md_compare 53 = .ok (.aload_n 0, 1) := by decide +kernel
theorem d_Md_compare_54 : decode c_Md_compare 54 = .ok (.getfield 16, 3) := by decide +kernel
theorem d_Md_compare_57 : decode c_Md_compare 57 = .ok (.iload_n 1, 1) := by decide +kernel
theorem d_Md_compare_58 : decode c_Md_compare 58 = .ok (.iaload, 1) := by decide +kernel
theorem d_Md_compare_59 : decode c_Md_compare 59 = .ok (.aload_n 0, 1) := by decide +kernel
theorem d_Md_compare_60 : decode c_Md_compare 60 = .ok (.getfield 16, 3) := by decide +kernel
theorem d_Md_compare_63 : decode c_Md_compare 63 = .ok (.iload_n 2, 1) := by decide +kernel
theorem d_Md_compare_64 : decode c_Md_compare 64 = .ok (.iaload, 1) := by decide +kernel
theorem d_Md_compare_65 : decode c_Md_compare 65 = .ok (.isub, 1) := by decide +kernel
theorem d_Md_compare_66 : decode c_Md_compare 66 = .ok (.istore_n 3, 1) := by decide +kernel
theorem d_Md_compare_67 : decode c_Md_compare 67 = .ok (.iload_n 3, 1) := by decide +kernel
theorem d_Md_compare_68 : decode c_Md_compare 68 = .ok (.ifCond .ne 10, 3) := by decide +kernel
theorem d_Md_compare_71 : decode c_Md_compare 71 = .ok (.aload_n 0, 1) := by decide +kernel
theorem d_Md_compare_72 : decode c_Md_compare 72 = .ok (.iload_n 1, 1) := by decide +kernel
theorem d_Md_compare_73 : decode c_Md_compare 73 = .ok (.iload_n 2, 1) := by decide +kernel
theorem d_Md_compare_74 : decode c_Md_compare 74 = .ok (.invokevirtual 217, 3) := by decide +kernel
theorem d_Md_compare_77 : decode c_Md_compare 77 = .ok (.istore_n 3, 1) := by decide +kernel
theorem d_Md_compare_78 : decode c_Md_compare 78 = .ok (.iload_n 3, 1) := by decide +kernel
theorem d_Md_compare_79 : decode c_Md_compare 79 = .ok (.ifCond .ne 17, 3) := by decide +kernel
theorem d_Md_compare_82 : decode c_Md_compare 82 = .ok (.aload_n 0, 1) := by decide +kernel
theorem d_Md_compare_83 : decode c_Md_compare 83 = .ok (.getfield 16, 3) := by decide +kernel
theorem d_Md_compare_86 : decode c_Md_compare 86 = .ok (.iload_n 1, 1) := by decide +kernel
theorem d_Md_compare_87 : decode c_Md_compare 87 = .ok (.iaload, 1) := by decide +kernel
theorem d_Md_compare_88 : decode c_Md_compare 88 = .ok (.aload_n 0, 1) := by decide +kernel
theorem d_Md_compare_89 : decode c_Md_compare 89 = .ok (.getfield 16, 3) := by decide +kernel
theorem d_Md_compare_92 : decode c_Md_compare 92 = .ok (.iload_n 2, 1) := by decide +kernel
theorem d_Md_compare_93 : decode c_Md_compare 93 = .ok (.iaload, 1) := by decide +kernel
theorem d_Md_compare_94 : decode c_Md_compare 94 = .ok (.isub, 1) := by decide +kernel
theorem d_Md_compare_95 : decode c_Md_compare 95 = .ok (.istore_n 3, 1) := by decide +kernel
theorem d_Md_compare_96 : decode c_Md_compare 96 = .ok (.iload_n 3, 1) := by decide +kernel
theorem d_Md_compare_97 : decode c_Md_compare 97 = .ok (.ifCond .ne 10, 3) := by decide +kernel
theorem d_Md_compare_100 : decode c_Md_compare 100 = .ok (.aload_n 0, 1) := by decide +kernel
theorem d_Md_compare_101 : decode c_Md_compare 101 = .ok (.iload_n 1, 1) := by decide +kernel
theorem d_Md_compare_102 : decode c_Md_compare 102 = .ok (.iload_n 2, 1) := by decide +kernel
theorem d_Md_compare_103 : decode c_Md_compare 103 = .ok (.invokevirtual 220, 3) := by decide +kernel
theorem d_Md_compare_106 : decode c_Md_compare 106 = .ok (.istore_n 3, 1) := by decide +kernel
theorem d_Md_compare_107 : decode c_Md_compare 107 = .ok (.iload_n 3, 1) := by decide +kernel
theorem d_Md_compare_108 : decode c_Md_compare 108 = .ok (.invokestatic 223, 3) := by decide +kernel
theorem d_Md_compare_111 : decode c_Md_compare 111 = .ok (.ireturn, 1) := by decide +kernel
theorem d_Md_rank_0 : decode c_Md_rank 0 = .ok (.iload_n 0, 1) := by decide +kernel
theorem d_Md_rank_1 : decode c_Md_rank 1 = .ok (.iconst 1, 1) := by decide +kernel
theorem d_Md_rank_2 : decode c_Md_rank 2 = .ok (.if_icmp .ne 7, 3) := by decide +kernel
theorem d_Md_rank_5 : decode c_Md_rank 5 = .ok (.iconst 0, 1) := by decide +kernel
theorem d_Md_rank_6 : decode c_Md_rank 6 = .ok (.goto 12, 3) := by decide +kernel
theorem d_Md_rank_9 : decode c_Md_rank 9 = .ok (.iload_n 0, 1) := by decide +kernel
theorem d_Md_rank_10 : decode c_Md_rank 10 = .ok (.ifCond .ne 7, 3) := by decide +kernel
theorem d_Md_rank_13 : decode c_Md_rank 13 = .ok (.iconst 1, 1) := by decide +kernel
theorem d_Md_rank_14 : decode c_Md_rank 14 = .ok (.goto 4, 3) := by decide +kernel
theorem d_Md_rank_17 : decode c_Md_rank 17 = .ok (.iconst 2, 1) := by decide +kernel
theorem d_Md_rank_18 : decode c_Md_rank 18 = .ok (.ireturn, 1) := by decide +kernel
theorem d_Md_compareBytes_0 : decode c_Md_compareBytes 0 = .ok (.iconst 0, 1) := by decide +kernel
theorem d_Md_compareBytes_1 : decode c_Md_compareBytes 1 = .ok (.istore_n 3, 1) := by decide +kernel
theorem d_Md_compareBytes_2 : decode c_Md_compareBytes 2 = .ok (.iload_n 3, 1) := by decide +kernel
theorem d_Md_compareBytes_3 : decode c_Md_compareBytes 3 = .ok (.aload_n 0, 1) := by decide +kernel
theorem d_Md_compareBytes_4 : decode c_Md_compareBytes 4 = .ok (.getfield 19, 3) := by decide +kernel
theorem d_Md_compareBytes_7 : decode c_Md_compareBytes 7 = .ok (.iload_n 1, 1) := by decide +kernel
theorem d_Md_compareBytes_8 : decode c_Md_compareBytes 8 = .ok (.iaload, 1) := by decide +kernel
theorem d_Md_compareBytes_9 : decode c_Md_compareBytes 9 = .ok (.if_icmp .ge 52, 3) := by decide +kernel
theorem d_Md_compareBytes_12 : decode c_Md_compareBytes 12 = .ok (.iload_n 3, 1) := by decide +kernel
theorem d_Md_compareBytes_13 : decode c_Md_compareBytes 13 = .ok (.aload_n 0, 1) := by decide +kernel
theorem d_Md_compareBytes_14 : decode c_Md_compareBytes 14 = .ok (.getfield 19, 3) := by decide +kernel
theorem d_Md_compareBytes_17 : decode c_Md_compareBytes 17 = .ok (.iload_n 2, 1) := by decide +kernel
theorem d_Md_compareBytes_18 : decode c_Md_compareBytes 18 = .ok (.iaload, 1) := by decide +kernel
theorem d_Md_compareBytes_19 : decode c_Md_compareBytes 19 = .ok (.if_icmp .ge 42, 3) := by decide +kernel
theorem d_Md_compareBytes_22 : decode c_Md_compareBytes 22 = .ok (.aload_n 0, 1) := by decide +kernel
theorem d_Md_compareBytes_23 : decode c_Md_compareBytes 23 = .ok (.getfield 22, 3) := by decide +kernel
theorem d_Md_compareBytes_26 : decode c_Md_compareBytes 26 = .ok (.bipush 100, 2) := by decide +kernel
theorem d_Md_compareBytes_28 : decode c_Md_compareBytes 28 = .ok (.iload_n 1, 1) := by decide +kernel
theorem d_Md_compareBytes_29 : decode c_Md_compareBytes 29 = .ok (.imul, 1) := by decide +kernel
theorem d_Md_compareBytes_30 : decode c_Md_compareBytes 30 = .ok (.iload_n 3, 1) := by decide +kernel
theorem d_Md_compareBytes_31 : decode c_Md_compareBytes 31 = .ok (.iadd, 1) := by decide +kernel
theorem d_Md_compareBytes_32 : decode c_Md_compareBytes 32 = .ok (.iaload, 1) := by decide +kernel
theorem d_Md_compareBytes_33 : decode c_Md_compareBytes 33 = .ok (.aload_n 0, 1) := by decide +kernel
theorem d_Md_compareBytes_34 : decode c_Md_compareBytes 34 = .ok (.getfield 22, 3) := by decide +kernel
theorem d_Md_compareBytes_37 : decode c_Md_compareBytes 37 = .ok (.bipush 100, 2) := by decide +kernel
theorem d_Md_compareBytes_39 : decode c_Md_compareBytes 39 = .ok (.iload_n 2, 1) := by decide +kernel
theorem d_Md_compareBytes_40 : decode c_Md_compareBytes 40 = .ok (.imul, 1) := by decide +kernel
theorem d_Md_compareBytes_41 : decode c_Md_compareBytes 41 = .ok (.iload_n 3, 1) := by decide +kernel
theorem d_Md_compareBytes_42 : decode c_Md_compareBytes 42 = .ok (.iadd, 1) := by decide +kernel
theorem d_Md_compareBytes_43 : decode c_Md_compareBytes 43 = .ok (.iaload, 1) := by decide +kernel
theorem d_Md_compareBytes_44 : decode c_Md_compareBytes 44 = .ok (.isub, 1) := by decide +kernel
theorem d_Md_compareBytes_45 : decode c_Md_compareBytes 45 = .ok (.istore 4, 2) := by decide +kernel
theorem d_Md_compareBytes_47 : decode c_Md_compareBytes 47 = .ok (.iload 4, 2) := by decide +kernel
theorem d_Md_compareBytes_49 : decode c_Md_compareBytes 49 = .ok (.ifCond .eq 6, 3) := by decide +kernel
theorem d_Md_compareBytes_52 : decode c_Md_compareBytes 52 = .ok (.iload 4, 2) := by decide +kernel
theorem d_Md_compareBytes_54 : decode c_Md_compareBytes 54 = .ok (.ireturn, 1) := by decide +kernel
theorem d_Md_compareBytes_55 : decode c_Md_compareBytes 55 = .ok (.iinc 3 1, 3) := by decide +kernel
theorem d_Md_compareBytes_58 : decode c_Md_compareBytes 58 = .ok (.goto (-56), 3) := by decide +kernel
theorem d_Md_compareBytes_61 : decode c_Md_compareBytes 61 = .ok (.aload_n 0, 1) := by decide +kernel
theorem d_Md_compareBytes_62 : decode c_Md_compareBytes 62 = .ok (.getfield 19, 3) := by decide +kernel
theorem d_Md_compareBytes_65 : decode c_Md_compareBytes 65 = .ok (.iload_n 1, 1) := by decide +kernel
theorem d_Md_compareBytes_66 : decode c_Md_compareBytes 66 = .ok (.iaload, 1) := by decide +kernel
theorem d_Md_compareBytes_67 : decode c_Md_compareBytes 67 = .ok (.aload_n 0, 1) := by decide +kernel
theorem d_Md_compareBytes_68 : decode c_Md_compareBytes 68 = .ok (.getfield 19, 3) := by decide +kernel
theorem d_Md_compareBytes_71 : decode c_Md_compareBytes 71 = .ok (.iload_n 2, 1) := by decide +kernel
theorem d_Md_compareBytes_72 : decode c_Md_compareBytes 72 = .ok (.iaload, 1) := by decide +kernel
theorem d_Md_compareBytes_73 : decode c_Md_compareBytes 73 = .ok (.isub, 1) := by decide +kernel
theorem d_Md_compareBytes_74 : decode c_Md_compareBytes 74 = .ok (.ireturn, 1) := by decide +kernel
theorem d_Md_compareTags_0 : decode c_Md_compareTags 0 = .ok (.iconst 0, 1) := by decide +kernel
theorem d_Md_compareTags_1 : decode c_Md_compareTags 1 = .ok (.istore_n 3, 1) := by decide +kernel
theorem d_Md_compareTags_2 : decode c_Md_compareTags 2 = .ok (.iload_n 3, 1) := by decide +kernel
theorem d_Md_compareTags_3 : decode c_Md_compareTags 3 = .ok (.aload_n 0, 1) := by decide +kernel
theorem d_Md_compareTags_4 : decode c_Md_compareTags 4 = .ok (.getfield 25, 3) := by decide +kernel
theorem d_Md_compareTags_7 : decode c_Md_compareTags 7 = .ok (.iload_n 1, 1) := by decide +kernel
theorem d_Md_compareTags_8 : decode c_Md_compareTags 8 = .ok (.iaload, 1) := by decide +kernel
theorem d_Md_compareTags_9 : decode c_Md_compareTags 9 = .ok (.if_icmp .ge 52, 3) := by decide +kernel
theorem d_Md_compareTags_12 : decode c_Md_compareTags 12 = .ok (.iload_n 3, 1) := by decide +kernel
theorem d_Md_compareTags_13 : decode c_Md_compareTags 13 = .ok (.aload_n 0, 1) := by decide +kernel
theorem d_Md_compareTags_14 : decode c_Md_compareTags 14 = .ok (.getfield 25, 3) := by decide +kernel
theorem d_Md_compareTags_17 : decode c_Md_compareTags 17 = .ok (.iload_n 2, 1) := by decide +kernel
theorem d_Md_compareTags_18 : decode c_Md_compareTags 18 = .ok (.iaload, 1) := by decide +kernel
theorem d_Md_compareTags_19 : decode c_Md_compareTags 19 = .ok (.if_icmp .ge 42, 3) := by decide +kernel
theorem d_Md_compareTags_22 : decode c_Md_compareTags 22 = .ok (.aload_n 0, 1) := by decide +kernel
theorem d_Md_compareTags_23 : decode c_Md_compareTags 23 = .ok (.getfield 28, 3) := by decide +kernel
theorem d_Md_compareTags_26 : decode c_Md_compareTags 26 = .ok (.bipush 16, 2) := by decide +kernel
theorem d_Md_compareTags_28 : decode c_Md_compareTags 28 = .ok (.iload_n 1, 1) := by decide +kernel
theorem d_Md_compareTags_29 : decode c_Md_compareTags 29 = .ok (.imul, 1) := by decide +kernel
theorem d_Md_compareTags_30 : decode c_Md_compareTags 30 = .ok (.iload_n 3, 1) := by decide +kernel
theorem d_Md_compareTags_31 : decode c_Md_compareTags 31 = .ok (.iadd, 1) := by decide +kernel
theorem d_Md_compareTags_32 : decode c_Md_compareTags 32 = .ok (.iaload, 1) := by decide +kernel
theorem d_Md_compareTags_33 : decode c_Md_compareTags 33 = .ok (.aload_n 0, 1) := by decide +kernel
theorem d_Md_compareTags_34 : decode c_Md_compareTags 34 = .ok (.getfield 28, 3) := by decide +kernel
theorem d_Md_compareTags_37 : decode c_Md_compareTags 37 = .ok (.bipush 16, 2) := by decide +kernel
theorem d_Md_compareTags_39 : decode c_Md_compareTags 39 = .ok (.iload_n 2, 1) := by decide +kernel
theorem d_Md_compareTags_40 : decode c_Md_compareTags 40 = .ok (.imul, 1) := by decide +kernel
theorem d_Md_compareTags_41 : decode c_Md_compareTags 41 = .ok (.iload_n 3, 1) := by decide +kernel
theorem d_Md_compareTags_42 : decode c_Md_compareTags 42 = .ok (.iadd, 1) := by decide +kernel
theorem d_Md_compareTags_43 : decode c_Md_compareTags 43 = .ok (.iaload, 1) := by decide +kernel
theorem d_Md_compareTags_44 : decode c_Md_compareTags 44 = .ok (.isub, 1) := by decide +kernel
theorem d_Md_compareTags_45 : decode c_Md_compareTags 45 = .ok (.istore 4, 2) := by decide +kernel
theorem d_Md_compareTags_47 : decode c_Md_compareTags 47 = .ok (.iload 4, 2) := by decide +kernel
theorem d_Md_compareTags_49 : decode c_Md_compareTags 49 = .ok (.ifCond .eq 6, 3) := by decide +kernel
theorem d_Md_compareTags_52 : decode c_Md_compareTags 52 = .ok (.iload 4, 2) := by decide +kernel
theorem d_Md_compareTags_54 : decode c_Md_compareTags 54 = .ok (.ireturn, 1) := by decide +kernel
theorem d_Md_compareTags_55 : decode c_Md_compareTags 55 = .ok (.iinc 3 1, 3) := by decide +kernel
theorem d_Md_compareTags_58 : decode c_Md_compareTags 58 = .ok (.goto (-56), 3) := by decide +kernel
theorem d_Md_compareTags_61 : decode c_Md_compareTags 61 = .ok (.aload_n 0, 1) := by decide +kernel
theorem d_Md_compareTags_62 : decode c_Md_compareTags 62 = .ok (.getfield 25, 3) := by decide +kernel
theorem d_Md_compareTags_65 : decode c_Md_compareTags 65 = .ok (.iload_n 1, 1) := by decide +kernel
theorem d_Md_compareTags_66 : decode c_Md_compareTags 66 = .ok (.iaload, 1) := by decide +kernel
theorem d_Md_compareTags_67 : decode c_Md_compareTags 67 = .ok (.aload_n 0, 1) := by decide +kernel
theorem d_Md_compareTags_68 : decode c_Md_compareTags 68 = .ok (.getfield 25, 3) := by decide +kernel
theorem d_Md_compareTags_71 : decode c_Md_compareTags 71 = .ok (.iload_n 2, 1) := by decide +kernel
theorem d_Md_compareTags_72 : decode c_Md_compareTags 72 = .ok (.iaload, 1) := by decide +kernel
theorem d_Md_compareTags_73 : decode c_Md_compareTags 73 = .ok (.isub, 1) := by decide +kernel
theorem d_Md_compareTags_74 : decode c_Md_compareTags 74 = .ok (.ireturn, 1) := by decide +kernel
theorem d_Md_sign_0 : decode c_Md_sign 0 = .ok (.iload_n 0, 1) := by decide +kernel
theorem d_Md_sign_1 : decode c_Md_sign 1 = .ok (.ifCond .ge 7, 3) := by decide +kernel
theorem d_Md_sign_4 : decode c_Md_sign 4 = .ok (.iconst (-1), 1) := by decide +kernel
theorem d_Md_sign_5 : decode c_Md_sign 5 = .ok (.goto 12, 3) := by decide +kernel
theorem d_Md_sign_8 : decode c_Md_sign 8 = .ok (.iload_n 0, 1) := by decide +kernel
theorem d_Md_sign_9 : decode c_Md_sign 9 = .ok (.ifCond .le 7, 3) := by decide +kernel
theorem d_Md_sign_12 : decode c_Md_sign 12 = .ok (.iconst 1, 1) := by decide +kernel
theorem d_Md_sign_13 : decode c_Md_sign 13 = .ok (.goto 4, 3) := by decide +kernel
theorem d_Md_sign_16 : decode c_Md_sign 16 = .ok (.iconst 0, 1) := by decide +kernel
theorem d_Md_sign_17 : decode c_Md_sign 17 = .ok (.ireturn, 1) := by decide +kernel
