theorem d_Md_print_0 : decode c_Md_print 0 = .ok (.aload_n 0, 1) := by decide +kernel
theorem d_Md_print_1 : decode c_Md_print 1 = .ok (.iload_n 1, 1) := by decide +kernel
theorem d_Md_print_2 : decode c_Md_print 2 = .ok (.invokevirtual 103, 3) := by decide +kernel
theorem d_Md_print_5 : decode c_Md_print 5 = .ok (.ifCond .eq 12, 3) := by decide +kernel
theorem d_Md_print_8 : decode c_Md_print 8 = .ok (.iload_n 2, 1) := by decide +kernel
theorem d_Md_print_9 : decode c_Md_print 9 = .ok (.iconst 0, 1) := by decide +kernel
theorem d_Md_print_10 : decode c_Md_print 10 = .ok (.iconst 1, 1) := by decide +kernel
theorem d_Md_print_11 : decode c_Md_print 11 = .ok (.invokestatic 77, 3) := by decide +kernel
theorem d_Md_print_14 : decode c_Md_print 14 = .ok (.ifCond .ne 5, 3) := by decide +kernel
theorem d_Md_print_17 : decode c_Md_print 17 = .ok (.iconst (-1), 1) := by decide +kernel
theorem d_Md_print_18 : decode c_Md_print 18 = .ok (.ireturn, 1) := by decide +kernel
theorem d_Md_print_19 : decode c_Md_print 19 = .ok (.aload_n 0, 1) := by decide +kernel
theorem d_Md_print_20 : decode c_Md_print 20 = .ok (.iconst 0, 1) := by decide +kernel
theorem d_Md_print_21 : decode c_Md_print 21 = .ok (.putfield 226, 3) := by decide +kernel
theorem d_Md_print_24 : decode c_Md_print 24 = .ok (.aload_n 0, 1) := by decide +kernel
theorem d_Md_print_25 : decode c_Md_print 25 = .ok (.getfield 13, 3) := by decide +kernel
theorem d_Md_print_28 : decode c_Md_print 28 = .ok (.iload_n 1, 1) := by decide +kernel
theorem d_Md_print_29 : decode c_Md_print 29 = .ok (.iaload, 1) := by decide +kernel
theorem d_Md_print_30 : decode c_Md_print 30 = .ok (.ifCond .ne 21, 3) := by decide +kernel
theorem d_Md_print_33 : decode c_Md_print 33 = .ok (.aload_n 0, 1) := by decide +kernel
theorem d_Md_print_34 : decode c_Md_print 34 = .ok (.iload_n 1, 1) := by decide +kernel
theorem d_Md_print_35 : decode c_Md_print 35 = .ok (.iload_n 2, 1) := by decide +kernel
theorem d_Md_print_36 : decode c_Md_print 36 = .ok (.iconst 1, 1) := by decide +kernel
theorem d_Md_print_37 : decode c_Md_print 37 = .ok (.if_icmp .ne 7, 3) := by decide +kernel
theorem d_Md_print_40 : decode c_Md_print 40 = .ok (.iconst 1, 1) := by decide +kernel
theorem d_Md_print_41 : decode c_Md_print 41 = .ok (.goto 4, 3) := by decide +kernel
theorem d_Md_print_44 : decode c_Md_print 44 = .ok (.iconst 0, 1) := by decide +kernel
theorem d_Md_print_45 : decode c_Md_print 45 = .ok (.invokevirtual 249, 3) := by decide +kernel
theorem d_Md_print_48 : decode c_Md_print 48 = .ok (.goto 39, 3) := by decide +kernel
theorem d_Md_print_51 : decode c_Md_print 51 = .ok (.aload_n 0, 1) := by decide +kernel
theorem d_Md_print_52 : decode c_Md_print 52 = .ok (.getfield 13, 3) := by decide +kernel
theorem d_Md_print_55 : decode c_Md_print 55 = .ok (.iload_n 1, 1) := by decide +kernel
theorem d_Md_print_56 : decode c_Md_print 56 = .ok (.iaload, 1) := by decide +kernel
theorem d_Md_print_57 : decode c_Md_print 57 = .ok (.iconst 1, 1) := by decide +kernel
theorem d_Md_print_58 : decode c_Md_print 58 = .ok (.if_icmp .ne 24, 3) := by decide +kernel
theorem d_Md_print_61 : decode c_Md_print 61 = .ok (.aload_n 0, 1) := by decide +kernel
theorem d_Md_print_62 : decode c_Md_print 62 = .ok (.ldc2_w 253, 3) := by decide +kernel
theorem d_Md_print_65 : decode c_Md_print 65 = .ok (.iconst 3, 1) := by decide +kernel
theorem d_Md_print_66 : decode c_Md_print 66 = .ok (.invokevirtual 234, 3) := by decide +kernel
theorem d_Md_print_69 : decode c_Md_print 69 = .ok (.aload_n 0, 1) := by decide +kernel
theorem d_Md_print_70 : decode c_Md_print 70 = .ok (.aload_n 0, 1) := by decide +kernel
theorem d_Md_print_71 : decode c_Md_print 71 = .ok (.getfield 16, 3) := by decide +kernel
theorem d_Md_print_74 : decode c_Md_print 74 = .ok (.iload_n 1, 1) := by decide +kernel
theorem d_Md_print_75 : decode c_Md_print 75 = .ok (.iaload, 1) := by decide +kernel
theorem d_Md_print_76 : decode c_Md_print 76 = .ok (.invokevirtual 255, 3) := by decide +kernel
theorem d_Md_print_79 : decode c_Md_print 79 = .ok (.goto 8, 3) := by decide +kernel
theorem d_Md_print_82 : decode c_Md_print 82 = .ok (.aload_n 0, 1) := by decide +kernel
theorem d_Md_print_83 : decode c_Md_print 83 = .ok (.iload_n 1, 1) := by decide +kernel
theorem d_Md_print_84 : decode c_Md_print 84 = .ok (.invokevirtual 258, 3) := by decide +kernel
theorem d_Md_print_87 : decode c_Md_print 87 = .ok (.aload_n 0, 1) := by decide +kernel
theorem d_Md_print_88 : decode c_Md_print 88 = .ok (.getfield 226, 3) := by decide +kernel
theorem d_Md_print_91 : decode c_Md_print 91 = .ok (.ireturn, 1) := by decide +kernel
theorem d_Md_tellAddress_0 : decode c_Md_tellAddress 0 = .ok (.iconst (-1), 1) := by decide +kernel
theorem d_Md_tellAddress_1 : decode c_Md_tellAddress 1 = .ok (.istore_n 3, 1) := by decide +kernel
theorem d_Md_tellAddress_2 : decode c_Md_tellAddress 2 = .ok (.iconst 0, 1) := by decide +kernel
theorem d_Md_tellAddress_3 : decode c_Md_tellAddress 3 = .ok (.istore 4, 2) := by decide +kernel
theorem d_Md_tellAddress_5 : decode c_Md_tellAddress 5 = .ok (.iload 4, 2) := by decide +kernel
theorem d_Md_tellAddress_7 : decode c_Md_tellAddress 7 = .ok (.aload_n 0, 1) := by decide +kernel
theorem d_Md_tellAddress_8 : decode c_Md_tellAddress 8 = .ok (.getfield 187, 3) := by decide +kernel
theorem d_Md_tellAddress_11 : decode c_Md_tellAddress 11 = .ok (.if_icmp .ge 108, 3) := by decide +kernel
theorem d_Md_tellAddress_14 : decode c_Md_tellAddress 14 = .ok (.iload_n 2, 1) := by decide +kernel
theorem d_Md_tellAddress_15 : decode c_Md_tellAddress 15 = .ok (.ifCond .eq 104, 3) := by decide +kernel
theorem d_Md_tellAddress_18 : decode c_Md_tellAddress 18 = .ok (.iload_n 3, 1) := by decide +kernel
theorem d_Md_tellAddress_19 : decode c_Md_tellAddress 19 = .ok (.ifCond .lt 65, 3) := by decide +kernel
theorem d_Md_tellAddress_22 : decode c_Md_tellAddress 22 = .ok (.aload_n 0, 1) := by decide +kernel
theorem d_Md_tellAddress_23 : decode c_Md_tellAddress 23 = .ok (.getfield 19, 3) := by decide +kernel
theorem d_Md_tellAddress_26 : decode c_Md_tellAddress 26 = .ok (.aload_n 0, 1) := by decide +kernel
theorem d_Md_tellAddress_27 : decode c_Md_tellAddress 27 = .ok (.getfield 41, 3) := by decide +kernel
theorem d_Md_tellAddress_30 : decode c_Md_tellAddress 30 = .ok (.iload 4, 2) := by decide +kernel
theorem d_Md_tellAddress_32 : decode c_Md_tellAddress 32 = .ok (.iaload, 1) := by decide +kernel
theorem d_Md_tellAddress_33 : decode c_Md_tellAddress 33 = .ok (.iaload, 1) := by decide +kernel
theorem d_Md_tellAddress_34 : decode c_Md_tellAddress 34 = .ok (.aload_n 0, 1) := by decide +kernel
theorem d_Md_tellAddress_35 : decode c_Md_tellAddress 35 = .ok (.getfield 19, 3) := by decide +kernel
theorem d_Md_tellAddress_38 : decode c_Md_tellAddress 38 = .ok (.aload_n 0, 1) := by decide +kernel
theorem d_Md_tellAddress_39 : decode c_Md_tellAddress 39 = .ok (.getfield 41, 3) := by decide +kernel
theorem d_Md_tellAddress_42 : decode c_Md_tellAddress 42 = .ok (.iload_n 3, 1) := by decide +kernel
theorem d_Md_tellAddress_43 : decode c_Md_tellAddress 43 = .ok (.iaload, 1) := by decide +kernel
theorem d_Md_tellAddress_44 : decode c_Md_tellAddress 44 = .ok (.iaload, 1) := by decide +kernel
theorem d_Md_tellAddress_45 : decode c_Md_tellAddress 45 = .ok (.if_icmp .gt 39, 3) := by decide +kernel
theorem d_Md_tellAddress_48 : decode c_Md_tellAddress 48 = .ok (.aload_n 0, 1) := by decide +kernel
theorem d_Md_tellAddress_49 : decode c_Md_tellAddress 49 = .ok (.getfield 19, 3) := by decide +kernel
theorem d_Md_tellAddress_52 : decode c_Md_tellAddress 52 = .ok (.aload_n 0, 1) := by decide +kernel
theorem d_Md_tellAddress_53 : decode c_Md_tellAddress 53 = .ok (.getfield 41, 3) := by decide +kernel
theorem d_Md_tellAddress_56 : decode c_Md_tellAddress 56 = .ok (.iload 4, 2) := by decide +kernel
theorem d_Md_tellAddress_58 : decode c_Md_tellAddress 58 = .ok (.iaload, 1) := by decide +kernel
theorem d_Md_tellAddress_59 : decode c_Md_tellAddress 59 = .ok (.iaload, 1) := by decide +kernel
theorem d_Md_tellAddress_60 : decode c_Md_tellAddress 60 = .ok (.aload_n 0, 1) := by decide +kernel
theorem d_Md_tellAddress_61 : decode c_Md_tellAddress 61 = .ok (.getfield 19, 3) := by decide +kernel
theorem d_Md_tellAddress_64 : decode c_Md_tellAddress 64 = .ok (.aload_n 0, 1) := by decide +kernel
theorem d_Md_tellAddress_65 : decode c_Md_tellAddress 65 = .ok (.getfield 41, 3) := by decide +kernel
theorem d_Md_tellAddress_68 : decode c_Md_tellAddress 68 = .ok (.iload_n 3, 1) := by decide +kernel
theorem d_Md_tellAddress_69 : decode c_Md_tellAddress 69 = .ok (.iaload, 1) := by decide +kernel
theorem d_Md_tellAddress_70 : decode c_Md_tellAddress 70 = .ok (.iaload, 1) := by decide +kernel
theorem d_Md_tellAddress_71 : decode c_Md_tellAddress 71 = .ok (.if_icmp .ne 17, 3) := by decide +kernel
theorem d_Md_tellAddress_74 : decode c_Md_tellAddress 74 = .ok (.aload_n 0, 1) := by decide +kernel
theorem d_Md_tellAddress_75 : decode c_Md_tellAddress 75 = .ok (.iload 4, 2) := by decide +kernel
theorem d_Md_tellAddress_77 : decode c_Md_tellAddress 77 = .ok (.iload_n 3, 1) := by decide +kernel
theorem d_Md_tellAddress_78 : decode c_Md_tellAddress 78 = .ok (.invokevirtual 242, 3) := by decide +kernel
theorem d_Md_tellAddress_81 : decode c_Md_tellAddress 81 = .ok (.ifCond .eq 7, 3) := by decide +kernel
theorem d_Md_tellAddress_84 : decode c_Md_tellAddress 84 = .ok (.iconst 1, 1) := by decide +kernel
theorem d_Md_tellAddress_85 : decode c_Md_tellAddress 85 = .ok (.goto 4, 3) := by decide +kernel
theorem d_Md_tellAddress_88 : decode c_Md_tellAddress 88 = .ok (.iconst 0, 1) := by decide +kernel
theorem d_Md_tellAddress_89 : decode c_Md_tellAddress 89 = .ok (.istore 5, 2) := by decide +kernel
theorem d_Md_tellAddress_91 : decode c_Md_tellAddress 91 = .ok (.aload_n 0, 1) := by decide +kernel
theorem d_Md_tellAddress_92 : decode c_Md_tellAddress 92 = .ok (.iload 4, 2) := by decide +kernel
theorem d_Md_tellAddress_94 : decode c_Md_tellAddress 94 = .ok (.iload_n 1, 1) := by decide +kernel
theorem d_Md_tellAddress_95 : decode c_Md_tellAddress 95 = .ok (.invokevirtual 246, 3) := by decide +kernel
theorem d_Md_tellAddress_98 : decode c_Md_tellAddress 98 = .ok (.ifCond .eq 13, 3) := by decide +kernel
theorem d_Md_tellAddress_101 : decode c_Md_tellAddress 101 = .ok (.iload 5, 2) := by decide +kernel
theorem d_Md_tellAddress_103 : decode c_Md_tellAddress 103 = .ok (.ifCond .eq 8, 3) := by decide +kernel
theorem d_Md_tellAddress_106 : decode c_Md_tellAddress 106 = .ok (.iload 4, 2) := by decide +kernel
theorem d_Md_tellAddress_108 : decode c_Md_tellAddress 108 = .ok (.goto 4, 3) := by decide +kernel
theorem d_Md_tellAddress_111 : decode c_Md_tellAddress 111 = .ok (.iload_n 3, 1) := by decide +kernel
theorem d_Md_tellAddress_112 : decode c_Md_tellAddress 112 = .ok (.istore_n 3, 1) := by decide +kernel
theorem d_Md_tellAddress_113 : decode c_Md_tellAddress 113 = .ok (.iinc 4 1, 3) := by decide +kernel
theorem d_Md_tellAddress_116 : decode c_Md_tellAddress 116 = .ok (.goto (-111), 3) := by decide +kernel
theorem d_Md_tellAddress_119 : decode c_Md_tellAddress 119 = .ok (.iload_n 3, 1) := by decide +kernel
theorem d_Md_tellAddress_120 : decode c_Md_tellAddress 120 = .ok (.ifCond .ge 12, 3) := by decide +kernel
theorem d_Md_tellAddress_123 : decode c_Md_tellAddress 123 = .ok (.aload_n 0, 1) := by decide +kernel
theorem d_Md_tellAddress_124 : decode c_Md_tellAddress 124 = .ok (.bipush 60, 2) := by decide +kernel
theorem d_Md_tellAddress_126 : decode c_Md_tellAddress 126 = .ok (.invokevirtual 229, 3) := by decide +kernel
theorem d_Md_tellAddress_129 : decode c_Md_tellAddress 129 = .ok (.goto 45, 3) := by decide +kernel
theorem d_Md_tellAddress_132 : decode c_Md_tellAddress 132 = .ok (.iconst 0, 1) := by decide +kernel
theorem d_Md_tellAddress_133 : decode c_Md_tellAddress 133 = .ok (.istore 4, 2) := by decide +kernel
theorem d_Md_tellAddress_135 : decode c_Md_tellAddress 135 = .ok (.iload 4, 2) := by decide +kernel
theorem d_Md_tellAddress_137 : decode c_Md_tellAddress 137 = .ok (.aload_n 0, 1) := by decide +kernel
theorem d_Md_tellAddress_138 : decode c_Md_tellAddress 138 = .ok (.getfield 35, 3) := by decide +kernel
theorem d_Md_tellAddress_141 : decode c_Md_tellAddress 141 = .ok (.iload_n 3, 1) := by decide +kernel
theorem d_Md_tellAddress_142 : decode c_Md_tellAddress 142 = .ok (.iaload, 1) := by decide +kernel
theorem d_Md_tellAddress_143 : decode c_Md_tellAddress 143 = .ok (.if_icmp .ge 25, 3) := by decide +kernel
theorem d_Md_tellAddress_146 : decode c_Md_tellAddress 146 = .ok (.aload_n 0, 1) := by decide +kernel
theorem d_Md_tellAddress_147 : decode c_Md_tellAddress 147 = .ok (.aload_n 0, 1) := by decide +kernel
theorem d_Md_tellAddress_148 : decode c_Md_tellAddress 148 = .ok (.getfield 38, 3) := by decide +kernel
theorem d_Md_tellAddress_151 : decode c_Md_tellAddress 151 = .ok (.bipush 6, 2) := by decide +kernel
theorem d_Md_tellAddress_153 : decode c_Md_tellAddress 153 = .ok (.iload_n 3, 1) := by decide +kernel
theorem d_Md_tellAddress_154 : decode c_Md_tellAddress 154 = .ok (.imul, 1) := by decide +kernel
theorem d_Md_tellAddress_155 : decode c_Md_tellAddress 155 = .ok (.iload 4, 2) := by decide +kernel
theorem d_Md_tellAddress_157 : decode c_Md_tellAddress 157 = .ok (.iadd, 1) := by decide +kernel
theorem d_Md_tellAddress_158 : decode c_Md_tellAddress 158 = .ok (.iaload, 1) := by decide +kernel
theorem d_Md_tellAddress_159 : decode c_Md_tellAddress 159 = .ok (.invokevirtual 229, 3) := by decide +kernel
theorem d_Md_tellAddress_162 : decode c_Md_tellAddress 162 = .ok (.iinc 4 1, 3) := by decide +kernel
theorem d_Md_tellAddress_165 : decode c_Md_tellAddress 165 = .ok (.goto (-30), 3) := by decide +kernel
theorem d_Md_tellAddress_168 : decode c_Md_tellAddress 168 = .ok (.aload_n 0, 1) := by decide +kernel
theorem d_Md_tellAddress_169 : decode c_Md_tellAddress 169 = .ok (.bipush 58, 2) := by decide +kernel
theorem d_Md_tellAddress_171 : decode c_Md_tellAddress 171 = .ok (.invokevirtual 229, 3) := by decide +kernel
theorem d_Md_tellAddress_174 : decode c_Md_tellAddress 174 = .ok (.iload_n 3, 1) := by decide +kernel
theorem d_Md_tellAddress_175 : decode c_Md_tellAddress 175 = .ok (.ifCond .ge 7, 3) := by decide +kernel
theorem d_Md_tellAddress_178 : decode c_Md_tellAddress 178 = .ok (.iconst 0, 1) := by decide +kernel
theorem d_Md_tellAddress_179 : decode c_Md_tellAddress 179 = .ok (.goto 14, 3) := by decide +kernel
theorem d_Md_tellAddress_182 : decode c_Md_tellAddress 182 = .ok (.aload_n 0, 1) := by decide +kernel
theorem d_Md_tellAddress_183 : decode c_Md_tellAddress 183 = .ok (.getfield 19, 3) := by decide +kernel
theorem d_Md_tellAddress_186 : decode c_Md_tellAddress 186 = .ok (.aload_n 0, 1) := by decide +kernel
theorem d_Md_tellAddress_187 : decode c_Md_tellAddress 187 = .ok (.getfield 41, 3) := by decide +kernel
theorem d_Md_tellAddress_190 : decode c_Md_tellAddress 190 = .ok (.iload_n 3, 1) := by decide +kernel
theorem d_Md_tellAddress_191 : decode c_Md_tellAddress 191 = .ok (.iaload, 1) := by decide +kernel
theorem d_Md_tellAddress_192 : decode c_Md_tellAddress 192 = .ok (.iaload, 1) := by decide +kernel
theorem d_Md_tellAddress_193 : decode c_Md_tellAddress 193 = .ok (.istore 4, 2) := by decide +kernel
theorem d_Md_tellAddress_195 : decode c_Md_tellAddress 195 = .ok (.iload 4, 2) := by decide +kernel
theorem d_Md_tellAddress_197 : decode c_Md_tellAddress 197 = .ok (.aload_n 0, 1) := by decide +kernel
theorem d_Md_tellAddress_198 : decode c_Md_tellAddress 198 = .ok (.getfield 19, 3) := by decide +kernel
theorem d_Md_tellAddress_201 : decode c_Md_tellAddress 201 = .ok (.iload_n 1, 1) := by decide +kernel
theorem d_Md_tellAddress_202 : decode c_Md_tellAddress 202 = .ok (.iaload, 1) := by decide +kernel
theorem d_Md_tellAddress_203 : decode c_Md_tellAddress 203 = .ok (.if_icmp .ge 25, 3) := by decide +kernel
theorem d_Md_tellAddress_206 : decode c_Md_tellAddress 206 = .ok (.aload_n 0, 1) := by decide +kernel
theorem d_Md_tellAddress_207 : decode c_Md_tellAddress 207 = .ok (.aload_n 0, 1) := by decide +kernel
theorem d_Md_tellAddress_208 : decode c_Md_tellAddress 208 = .ok (.getfield 22, 3) := by decide +kernel
theorem d_Md_tellAddress_211 : decode c_Md_tellAddress 211 = .ok (.bipush 100, 2) := by decide +kernel
theorem d_Md_tellAddress_213 : decode c_Md_tellAddress 213 = .ok (.iload_n 1, 1) := by decide +kernel
theorem d_Md_tellAddress_214 : decode c_Md_tellAddress 214 = .ok (.imul, 1) := by decide +kernel
theorem d_Md_tellAddress_215 : decode c_Md_tellAddress 215 = .ok (.iload 4, 2) := by decide +kernel
theorem d_Md_tellAddress_217 : decode c_Md_tellAddress 217 = .ok (.iadd, 1) := by decide +kernel
theorem d_Md_tellAddress_218 : decode c_Md_tellAddress 218 = .ok (.iaload, 1) := by decide +kernel
theorem d_Md_tellAddress_219 : decode c_Md_tellAddress 219 = .ok (.invokevirtual 229, 3) := by decide +kernel
theorem d_Md_tellAddress_222 : decode c_Md_tellAddress 222 = .ok (.iinc 4 1, 3) := by decide +kernel
theorem d_Md_tellAddress_225 : decode c_Md_tellAddress 225 = .ok (.goto (-30), 3) := by decide +kernel
theorem d_Md_tellAddress_228 : decode c_Md_tellAddress 228 = .ok (.iload_n 3, 1) := by decide +kernel
theorem d_Md_tellAddress_229 : decode c_Md_tellAddress 229 = .ok (.ifCond .ge 9, 3) := by decide +kernel
theorem d_Md_tellAddress_232 : decode c_Md_tellAddress 232 = .ok (.aload_n 0, 1) := by decide +kernel
theorem d_Md_tellAddress_233 : decode c_Md_tellAddress 233 = .ok (.bipush 62, 2) := by decide +kernel
theorem d_Md_tellAddress_235 : decode c_Md_tellAddress 235 = .ok (.invokevirtual 229, 3) := by decide +kernel
theorem d_Md_tellAddress_238 : decode c_Md_tellAddress 238 = .ok (.return_, 1) := by decide +kernel
theorem d_Md_isNameBefore_0 : decode c_Md_isNameBefore 0 = .ok (.iconst 0, 1) := by decide +kernel
theorem d_Md_isNameBefore_1 : decode c_Md_isNameBefore 1 = .ok (.istore_n 3, 1) := by decide +kernel
theorem d_Md_isNameBefore_2 : decode c_Md_isNameBefore 2 = .ok (.iload_n 3, 1) := by decide +kernel
theorem d_Md_isNameBefore_3 : decode c_Md_isNameBefore 3 = .ok (.aload_n 0, 1) := by decide +kernel
theorem d_Md_isNameBefore_4 : decode c_Md_isNameBefore 4 = .ok (.getfield 35, 3) := by decide +kernel
theorem d_Md_isNameBefore_7 : decode c_Md_isNameBefore 7 = .ok (.iload_n 1, 1) := by decide +kernel
theorem d_Md_isNameBefore_8 : decode c_Md_isNameBefore 8 = .ok (.iaload, 1) := by decide +kernel
theorem d_Md_isNameBefore_9 : decode c_Md_isNameBefore 9 = .ok (.if_icmp .ge 75, 3) := by decide +kernel
theorem d_Md_isNameBefore_12 : decode c_Md_isNameBefore 12 = .ok (.iload_n 3, 1) := by decide +kernel
theorem d_Md_isNameBefore_13 : decode c_Md_isNameBefore 13 = .ok (.aload_n 0, 1) := by decide +kernel
theorem d_Md_isNameBefore_14 : decode c_Md_isNameBefore 14 = .ok (.getfield 35, 3) := by decide +kernel
theorem d_Md_isNameBefore_17 : decode c_Md_isNameBefore 17 = .ok (.iload_n 2, 1) := by decide +kernel
theorem d_Md_isNameBefore_18 : decode c_Md_isNameBefore 18 = .ok (.iaload, 1) := by decide +kernel
theorem d_Md_isNameBefore_19 : decode c_Md_isNameBefore 19 = .ok (.if_icmp .ge 65, 3) := by decide +kernel
theorem d_Md_isNameBefore_22 : decode c_Md_isNameBefore 22 = .ok (.aload_n 0, 1) := by decide +kernel
theorem d_Md_isNameBefore_23 : decode c_Md_isNameBefore 23 = .ok (.getfield 38, 3) := by decide +kernel
theorem d_Md_isNameBefore_26 : decode c_Md_isNameBefore 26 = .ok (.bipush 6, 2) := by decide +kernel
theorem d_Md_isNameBefore_28 : decode c_Md_isNameBefore 28 = .ok (.iload_n 1, 1) := by decide +kernel
theorem d_Md_isNameBefore_29 : decode c_Md_isNameBefore 29 = .ok (.imul, 1) := by decide +kernel
theorem d_Md_isNameBefore_30 : decode c_Md_isNameBefore 30 = .ok (.iload_n 3, 1) := by decide +kernel
theorem d_Md_isNameBefore_31 : decode c_Md_isNameBefore 31 = .ok (.iadd, 1) := by decide +kernel
theorem d_Md_isNameBefore_32 : decode c_Md_isNameBefore 32 = .ok (.iaload, 1) := by decide +kernel
theorem d_Md_isNameBefore_33 : decode c_Md_isNameBefore 33 = .ok (.aload_n 0, 1) := by decide +kernel
theorem d_Md_isNameBefore_34 : decode c_Md_isNameBefore 34 = .ok (.getfield 38, 3) := by decide +kernel
theorem d_Md_isNameBefore_37 : decode c_Md_isNameBefore 37 = .ok (.bipush 6, 2) := by decide +kernel
theorem d_Md_isNameBefore_39 : decode c_Md_isNameBefore 39 = .ok (.iload_n 2, 1) := by decide +kernel
theorem d_Md_isNameBefore_40 : decode c_Md_isNameBefore 40 = .ok (.imul, 1) := by decide +kernel
theorem d_Md_isNameBefore_41 : decode c_Md_isNameBefore 41 = .ok (.iload_n 3, 1) := by decide +kernel
theorem d_Md_isNameBefore_42 : decode c_Md_isNameBefore 42 = .ok (.iadd, 1) := by decide +kernel
theorem d_Md_isNameBefore_43 : decode c_Md_isNameBefore 43 = .ok (.iaload, 1) := by decide +kernel
theorem d_Md_isNameBefore_44 : decode c_Md_isNameBefore 44 = .ok (.if_icmp .eq 34, 3) := by decide +kernel
theorem d_Md_isNameBefore_47 : decode c_Md_isNameBefore 47 = .ok (.aload_n 0, 1) := by decide +kernel
theorem d_Md_isNameBefore_48 : decode c_Md_isNameBefore 48 = .ok (.getfield 38, 3) := by decide +kernel
theorem d_Md_isNameBefore_51 : decode c_Md_isNameBefore 51 = .ok (.bipush 6, 2) := by decide +kernel
theorem d_Md_isNameBefore_53 : decode c_Md_isNameBefore 53 = .ok (.iload_n 1, 1) := by decide +kernel
theorem d_Md_isNameBefore_54 : decode c_Md_isNameBefore 54 = .ok (.imul, 1) := by decide +kernel
theorem d_Md_isNameBefore_55 : decode c_Md_isNameBefore 55 = .ok (.iload_n 3, 1) := by decide +kernel
theorem d_Md_isNameBefore_56 : decode c_Md_isNameBefore 56 = .ok (.iadd, 1) := by decide +kernel
theorem d_Md_isNameBefore_57 : decode c_Md_isNameBefore 57 = .ok (.iaload, 1) := by decide +kernel
theorem d_Md_isNameBefore_58 : decode c_Md_isNameBefore 58 = .ok (.aload_n 0, 1) := by decide +kernel
theorem d_Md_isNameBefore_59 : decode c_Md_isNameBefore 59 = .ok (.getfield 38, 3) := by decide +kernel
theorem d_Md_isNameBefore_62 : decode c_Md_isNameBefore 62 = .ok (.bipush 6, 2) := by decide +kernel
theorem d_Md_isNameBefore_64 : decode c_Md_isNameBefore 64 = .ok (.iload_n 2, 1) := by decide +kernel
theorem d_Md_isNameBefore_65 : decode c_Md_isNameBefore 65 = .ok (.imul, 1) := by decide +kernel
theorem d_Md_isNameBefore_66 : decode c_Md_isNameBefore 66 = .ok (.iload_n 3, 1) := by decide +kernel
theorem d_Md_isNameBefore_67 : decode c_Md_isNameBefore 67 = .ok (.iadd, 1) := by decide +kernel
theorem d_Md_isNameBefore_68 : decode c_Md_isNameBefore 68 = .ok (.iaload, 1) := by decide +kernel
theorem d_Md_isNameBefore_69 : decode c_Md_isNameBefore 69 = .ok (.if_icmp .ge 7, 3) := by decide +kernel
theorem d_Md_isNameBefore_72 : decode c_Md_isNameBefore 72 = .ok (.iconst 1, 1) := by decide +kernel
theorem d_Md_isNameBefore_73 : decode c_Md_isNameBefore 73 = .ok (.goto 4, 3) := by decide +kernel
theorem d_Md_isNameBefore_76 : decode c_Md_isNameBefore 76 = .ok (.iconst 0, 1) := by decide +kernel
theorem d_Md_isNameBefore_77 : decode c_Md_isNameBefore 77 = .ok (.ireturn, 1) := by decide +kernel
theorem d_Md_isNameBefore_78 : decode c_Md_isNameBefore 78 = .ok (.iinc 3 1, 3) := by decide +kernel
theorem d_Md_isNameBefore_81 : decode c_Md_isNameBefore 81 = .ok (.goto (-79), 3) := by decide +kernel
theorem d_Md_isNameBefore_84 : decode c_Md_isNameBefore 84 = .ok (.aload_n 0, 1) := by decide +kernel
theorem d_Md_isNameBefore_85 : decode c_Md_isNameBefore 85 = .ok (.getfield 35, 3) := by decide +kernel
theorem d_Md_isNameBefore_88 : decode c_Md_isNameBefore 88 = .ok (.iload_n 1, 1) := by decide +kernel
theorem d_Md_isNameBefore_89 : decode c_Md_isNameBefore 89 = .ok (.iaload, 1) := by decide +kernel
theorem d_Md_isNameBefore_90 : decode c_Md_isNameBefore 90 = .ok (.aload_n 0, 1) := by decide +kernel
theorem d_Md_isNameBefore_91 : decode c_Md_isNameBefore 91 = .ok (.getfield 35, 3) := by decide +kernel
theorem d_Md_isNameBefore_94 : decode c_Md_isNameBefore 94 = .ok (.iload_n 2, 1) := by decide +kernel
theorem d_Md_isNameBefore_95 : decode c_Md_isNameBefore 95 = .ok (.iaload, 1) := by decide +kernel
theorem d_Md_isNameBefore_96 : decode c_Md_isNameBefore 96 = .ok (.if_icmp .ge 7, 3) := by decide +kernel
theorem d_Md_isNameBefore_99 : decode c_Md_isNameBefore 99 = .ok (.iconst 1, 1) := by decide +kernel
theorem d_Md_isNameBefore_100 : decode c_Md_isNameBefore 100 = .ok (.goto 4, 3) := by decide +kernel
theorem d_Md_isNameBefore_103 : decode c_Md_isNameBefore 103 = .ok (.iconst 0, 1) := by decide +kernel
theorem d_Md_isNameBefore_104 : decode c_Md_isNameBefore 104 = .ok (.ireturn, 1) := by decide +kernel
theorem d_Md_shortens_0 : decode c_Md_shortens 0 = .ok (.aload_n 0, 1) := by decide +kernel
theorem d_Md_shortens_1 : decode c_Md_shortens 1 = .ok (.getfield 41, 3) := by decide +kernel
theorem d_Md_shortens_4 : decode c_Md_shortens 4 = .ok (.iload_n 1, 1) := by decide +kernel
theorem d_Md_shortens_5 : decode c_Md_shortens 5 = .ok (.iaload, 1) := by decide +kernel
theorem d_Md_shortens_6 : decode c_Md_shortens 6 = .ok (.istore_n 3, 1) := by decide +kernel
theorem d_Md_shortens_7 : decode c_Md_shortens 7 = .ok (.aload_n 0, 1) := by decide +kernel
theorem d_Md_shortens_8 : decode c_Md_shortens 8 = .ok (.getfield 19, 3) := by decide +kernel
theorem d_Md_shortens_11 : decode c_Md_shortens 11 = .ok (.iload_n 3, 1) := by decide +kernel
theorem d_Md_shortens_12 : decode c_Md_shortens 12 = .ok (.iaload, 1) := by decide +kernel
theorem d_Md_shortens_13 : decode c_Md_shortens 13 = .ok (.aload_n 0, 1) := by decide +kernel
theorem d_Md_shortens_14 : decode c_Md_shortens 14 = .ok (.getfield 19, 3) := by decide +kernel
theorem d_Md_shortens_17 : decode c_Md_shortens 17 = .ok (.iload_n 2, 1) := by decide +kernel
theorem d_Md_shortens_18 : decode c_Md_shortens 18 = .ok (.iaload, 1) := by decide +kernel
theorem d_Md_shortens_19 : decode c_Md_shortens 19 = .ok (.if_icmp .gt 7, 3) := by decide +kernel
theorem d_Md_shortens_22 : decode c_Md_shortens 22 = .ok (.iconst 1, 1) := by decide +kernel
theorem d_Md_shortens_23 : decode c_Md_shortens 23 = .ok (.goto 4, 3) := by decide +kernel
theorem d_Md_shortens_26 : decode c_Md_shortens 26 = .ok (.iconst 0, 1) := by decide +kernel
theorem d_Md_shortens_27 : decode c_Md_shortens 27 = .ok (.istore 4, 2) := by decide +kernel
theorem d_Md_shortens_29 : decode c_Md_shortens 29 = .ok (.iconst 0, 1) := by decide +kernel
theorem d_Md_shortens_30 : decode c_Md_shortens 30 = .ok (.istore 5, 2) := by decide +kernel
theorem d_Md_shortens_32 : decode c_Md_shortens 32 = .ok (.iload 5, 2) := by decide +kernel
theorem d_Md_shortens_34 : decode c_Md_shortens 34 = .ok (.aload_n 0, 1) := by decide +kernel
theorem d_Md_shortens_35 : decode c_Md_shortens 35 = .ok (.getfield 19, 3) := by decide +kernel
theorem d_Md_shortens_38 : decode c_Md_shortens 38 = .ok (.iload_n 2, 1) := by decide +kernel
theorem d_Md_shortens_39 : decode c_Md_shortens 39 = .ok (.iaload, 1) := by decide +kernel
theorem d_Md_shortens_40 : decode c_Md_shortens 40 = .ok (.if_icmp .ge 101, 3) := by decide +kernel
theorem d_Md_shortens_43 : decode c_Md_shortens 43 = .ok (.iload 4, 2) := by decide +kernel
theorem d_Md_shortens_45 : decode c_Md_shortens 45 = .ok (.ifCond .eq 96, 3) := by decide +kernel
theorem d_Md_shortens_48 : decode c_Md_shortens 48 = .ok (.aload_n 0, 1) := by decide +kernel
theorem d_Md_shortens_49 : decode c_Md_shortens 49 = .ok (.getfield 22, 3) := by decide +kernel
theorem d_Md_shortens_52 : decode c_Md_shortens 52 = .ok (.bipush 100, 2) := by decide +kernel
theorem d_Md_shortens_54 : decode c_Md_shortens 54 = .ok (.iload_n 2, 1) := by decide +kernel
theorem d_Md_shortens_55 : decode c_Md_shortens 55 = .ok (.imul, 1) := by decide +kernel
theorem d_Md_shortens_56 : decode c_Md_shortens 56 = .ok (.iload 5, 2) := by decide +kernel
theorem d_Md_shortens_58 : decode c_Md_shortens 58 = .ok (.iadd, 1) := by decide +kernel
theorem d_Md_shortens_59 : decode c_Md_shortens 59 = .ok (.iaload, 1) := by decide +kernel
theorem d_Md_shortens_60 : decode c_Md_shortens 60 = .ok (.istore 6, 2) := by decide +kernel
theorem d_Md_shortens_62 : decode c_Md_shortens 62 = .ok (.iload 5, 2) := by decide +kernel
theorem d_Md_shortens_64 : decode c_Md_shortens 64 = .ok (.aload_n 0, 1) := by decide +kernel
theorem d_Md_shortens_65 : decode c_Md_shortens 65 = .ok (.getfield 19, 3) := by decide +kernel
theorem d_Md_shortens_68 : decode c_Md_shortens 68 = .ok (.iload_n 3, 1) := by decide +kernel
theorem d_Md_shortens_69 : decode c_Md_shortens 69 = .ok (.iaload, 1) := by decide +kernel
theorem d_Md_shortens_70 : decode c_Md_shortens 70 = .ok (.if_icmp .ge 28, 3) := by decide +kernel
theorem d_Md_shortens_73 : decode c_Md_shortens 73 = .ok (.iload 6, 2) := by decide +kernel
theorem d_Md_shortens_75 : decode c_Md_shortens 75 = .ok (.aload_n 0, 1) := by decide +kernel
theorem d_Md_shortens_76 : decode c_Md_shortens 76 = .ok (.getfield 22, 3) := by decide +kernel
theorem d_Md_shortens_79 : decode c_Md_shortens 79 = .ok (.bipush 100, 2) := by decide +kernel
theorem d_Md_shortens_81 : decode c_Md_shortens 81 = .ok (.iload_n 3, 1) := by decide +kernel
theorem d_Md_shortens_82 : decode c_Md_shortens 82 = .ok (.imul, 1) := by decide +kernel
theorem d_Md_shortens_83 : decode c_Md_shortens 83 = .ok (.iload 5, 2) := by decide +kernel
theorem d_Md_shortens_85 : decode c_Md_shortens 85 = .ok (.iadd, 1) := by decide +kernel
theorem d_Md_shortens_86 : decode c_Md_shortens 86 = .ok (.iaload, 1) := by decide +kernel
theorem d_Md_shortens_87 : decode c_Md_shortens 87 = .ok (.if_icmp .ne 7, 3) := by decide +kernel
theorem d_Md_shortens_90 : decode c_Md_shortens 90 = .ok (.iconst 1, 1) := by decide +kernel
theorem d_Md_shortens_91 : decode c_Md_shortens 91 = .ok (.goto 42, 3) := by decide +kernel
theorem d_Md_shortens_94 : decode c_Md_shortens 94 = .ok (.iconst 0, 1) := by decide +kernel
theorem d_Md_shortens_95 : decode c_Md_shortens 95 = .ok (.goto 38, 3) := by decide +kernel
theorem d_Md_shortens_98 : decode c_Md_shortens 98 = .ok (.iload 6, 2) := by decide +kernel
theorem d_Md_shortens_100 : decode c_Md_shortens 100 = .ok (.invokestatic 116, 3) := by decide +kernel
theorem d_Md_shortens_103 : decode c_Md_shortens 103 = .ok (.ifCond .ne 25, 3) := by decide +kernel
theorem d_Md_shortens_106 : decode c_Md_shortens 106 = .ok (.iload 6, 2) := by decide +kernel
theorem d_Md_shortens_108 : decode c_Md_shortens 108 = .ok (.invokestatic 85, 3) := by decide +kernel
theorem d_Md_shortens_111 : decode c_Md_shortens 111 = .ok (.ifCond .ne 17, 3) := by decide +kernel
theorem d_Md_shortens_114 : decode c_Md_shortens 114 = .ok (.iload 6, 2) := by decide +kernel
theorem d_Md_shortens_116 : decode c_Md_shortens 116 = .ok (.bipush 95, 2) := by decide +kernel
theorem d_Md_shortens_118 : decode c_Md_shortens 118 = .ok (.if_icmp .eq 10, 3) := by decide +kernel
theorem d_Md_shortens_121 : decode c_Md_shortens 121 = .ok (.iload 6, 2) := by decide +kernel
theorem d_Md_shortens_123 : decode c_Md_shortens 123 = .ok (.bipush 45, 2) := by decide +kernel
theorem d_Md_shortens_125 : decode c_Md_shortens 125 = .ok (.if_icmp .ne 7, 3) := by decide +kernel
theorem d_Md_shortens_128 : decode c_Md_shortens 128 = .ok (.iconst 1, 1) := by decide +kernel
theorem d_Md_shortens_129 : decode c_Md_shortens 129 = .ok (.goto 4, 3) := by decide +kernel
theorem d_Md_shortens_132 : decode c_Md_shortens 132 = .ok (.iconst 0, 1) := by decide +kernel
theorem d_Md_shortens_133 : decode c_Md_shortens 133 = .ok (.istore 4, 2) := by decide +kernel
theorem d_Md_shortens_135 : decode c_Md_shortens 135 = .ok (.iinc 5 1, 3) := by decide +kernel
theorem d_Md_shortens_138 : decode c_Md_shortens 138 = .ok (.goto (-106), 3) := by decide +kernel
theorem d_Md_shortens_141 : decode c_Md_shortens 141 = .ok (.iload 4, 2) := by decide +kernel
theorem d_Md_shortens_143 : decode c_Md_shortens 143 = .ok (.ireturn, 1) := by decide +kernel
theorem d_Md_tell_0 : decode c_Md_tell 0 = .ok (.aload_n 0, 1) := by decide +kernel
theorem d_Md_tell_1 : decode c_Md_tell 1 = .ok (.getfield 50, 3) := by decide +kernel
theorem d_Md_tell_4 : decode c_Md_tell 4 = .ok (.aload_n 0, 1) := by decide +kernel
theorem d_Md_tell_5 : decode c_Md_tell 5 = .ok (.getfield 226, 3) := by decide +kernel
theorem d_Md_tell_8 : decode c_Md_tell 8 = .ok (.iload_n 1, 1) := by decide +kernel
theorem d_Md_tell_9 : decode c_Md_tell 9 = .ok (.iastore, 1) := by decide +kernel
theorem d_Md_tell_10 : decode c_Md_tell 10 = .ok (.aload_n 0, 1) := by decide +kernel
theorem d_Md_tell_11 : decode c_Md_tell 11 = .ok (.dup, 1) := by decide +kernel
theorem d_Md_tell_12 : decode c_Md_tell 12 = .ok (.getfield 226, 3) := by decide +kernel
theorem d_Md_tell_15 : decode c_Md_tell 15 = .ok (.iconst 1, 1) := by decide +kernel
theorem d_Md_tell_16 : decode c_Md_tell 16 = .ok (.iadd, 1) := by decide +kernel
theorem d_Md_tell_17 : decode c_Md_tell 17 = .ok (.putfield 226, 3) := by decide +kernel
theorem d_Md_tell_20 : decode c_Md_tell 20 = .ok (.return_, 1) := by decide +kernel
theorem d_Md_tellAll_0 : decode c_Md_tellAll 0 = .ok (.iload_n 3, 1) := by decide +kernel
theorem d_Md_tellAll_1 : decode c_Md_tellAll 1 = .ok (.iconst 1, 1) := by decide +kernel
theorem d_Md_tellAll_2 : decode c_Md_tellAll 2 = .ok (.isub, 1) := by decide +kernel
theorem d_Md_tellAll_3 : decode c_Md_tellAll 3 = .ok (.istore 4, 2) := by decide +kernel
theorem d_Md_tellAll_5 : decode c_Md_tellAll 5 = .ok (.iload 4, 2) := by decide +kernel
theorem d_Md_tellAll_7 : decode c_Md_tellAll 7 = .ok (.ifCond .lt 25, 3) := by decide +kernel
theorem d_Md_tellAll_10 : decode c_Md_tellAll 10 = .ok (.aload_n 0, 1) := by decide +kernel
theorem d_Md_tellAll_11 : decode c_Md_tellAll 11 = .ok (.lload_n 1, 1) := by decide +kernel
theorem d_Md_tellAll_12 : decode c_Md_tellAll 12 = .ok (.bipush 8, 2) := by decide +kernel
theorem d_Md_tellAll_14 : decode c_Md_tellAll 14 = .ok (.iload 4, 2) := by decide +kernel
theorem d_Md_tellAll_16 : decode c_Md_tellAll 16 = .ok (.imul, 1) := by decide +kernel
theorem d_Md_tellAll_17 : decode c_Md_tellAll 17 = .ok (.lshr, 1) := by decide +kernel
theorem d_Md_tellAll_18 : decode c_Md_tellAll 18 = .ok (.ldc2_w 88, 3) := by decide +kernel
theorem d_Md_tellAll_21 : decode c_Md_tellAll 21 = .ok (.land, 1) := by decide +kernel
theorem d_Md_tellAll_22 : decode c_Md_tellAll 22 = .ok (.l2i, 1) := by decide +kernel
theorem d_Md_tellAll_23 : decode c_Md_tellAll 23 = .ok (.invokevirtual 229, 3) := by decide +kernel
theorem d_Md_tellAll_26 : decode c_Md_tellAll 26 = .ok (.iinc 4 (-1), 3) := by decide +kernel
theorem d_Md_tellAll_29 : decode c_Md_tellAll 29 = .ok (.goto (-24), 3) := by decide +kernel
theorem d_Md_tellAll_32 : decode c_Md_tellAll 32 = .ok (.return_, 1) := by decide +kernel
theorem d_Md_tellNumber_0 : decode c_Md_tellNumber 0 = .ok (.iload_n 1, 1) := by decide +kernel
theorem d_Md_tellNumber_1 : decode c_Md_tellNumber 1 = .ok (.bipush 99, 2) := by decide +kernel
theorem d_Md_tellNumber_3 : decode c_Md_tellNumber 3 = .ok (.if_icmp .le 14, 3) := by decide +kernel
theorem d_Md_tellNumber_6 : decode c_Md_tellNumber 6 = .ok (.aload_n 0, 1) := by decide +kernel
theorem d_Md_tellNumber_7 : decode c_Md_tellNumber 7 = .ok (.bipush 48, 2) := by decide +kernel
theorem d_Md_tellNumber_9 : decode c_Md_tellNumber 9 = .ok (.iload_n 1, 1) := by decide +kernel
theorem d_Md_tellNumber_10 : decode c_Md_tellNumber 10 = .ok (.bipush 100, 2) := by decide +kernel
theorem d_Md_tellNumber_12 : decode c_Md_tellNumber 12 = .ok (.idiv, 1) := by decide +kernel
theorem d_Md_tellNumber_13 : decode c_Md_tellNumber 13 = .ok (.iadd, 1) := by decide +kernel
theorem d_Md_tellNumber_14 : decode c_Md_tellNumber 14 = .ok (.invokevirtual 229, 3) := by decide +kernel
theorem d_Md_tellNumber_17 : decode c_Md_tellNumber 17 = .ok (.iload_n 1, 1) := by decide +kernel
theorem d_Md_tellNumber_18 : decode c_Md_tellNumber 18 = .ok (.bipush 9, 2) := by decide +kernel
theorem d_Md_tellNumber_20 : decode c_Md_tellNumber 20 = .ok (.if_icmp .le 17, 3) := by decide +kernel
theorem d_Md_tellNumber_23 : decode c_Md_tellNumber 23 = .ok (.aload_n 0, 1) := by decide +kernel
theorem d_Md_tellNumber_24 : decode c_Md_tellNumber 24 = .ok (.bipush 48, 2) := by decide +kernel
theorem d_Md_tellNumber_26 : decode c_Md_tellNumber 26 = .ok (.iload_n 1, 1) := by decide +kernel
theorem d_Md_tellNumber_27 : decode c_Md_tellNumber 27 = .ok (.bipush 10, 2) := by decide +kernel
theorem d_Md_tellNumber_29 : decode c_Md_tellNumber 29 = .ok (.idiv, 1) := by decide +kernel
theorem d_Md_tellNumber_30 : decode c_Md_tellNumber 30 = .ok (.bipush 10, 2) := by decide +kernel
theorem d_Md_tellNumber_32 : decode c_Md_tellNumber 32 = .ok (.irem, 1) := by decide +kernel
theorem d_Md_tellNumber_33 : decode c_Md_tellNumber 33 = .ok (.iadd, 1) := by decide +kernel
theorem d_Md_tellNumber_34 : decode c_Md_tellNumber 34 = .ok (.invokevirtual 229, 3) := by decide +kernel
theorem d_Md_tellNumber_37 : decode c_Md_tellNumber 37 = .ok (.aload_n 0, 1) := by decide +kernel
theorem d_Md_tellNumber_38 : decode c_Md_tellNumber 38 = .ok (.bipush 48, 2) := by decide +kernel
theorem d_Md_tellNumber_40 : decode c_Md_tellNumber 40 = .ok (.iload_n 1, 1) := by decide +kernel
theorem d_Md_tellNumber_41 : decode c_Md_tellNumber 41 = .ok (.bipush 10, 2) := by decide +kernel
theorem d_Md_tellNumber_43 : decode c_Md_tellNumber 43 = .ok (.irem, 1) := by decide +kernel
theorem d_Md_tellNumber_44 : decode c_Md_tellNumber 44 = .ok (.iadd, 1) := by decide +kernel
theorem d_Md_tellNumber_45 : decode c_Md_tellNumber 45 = .ok (.invokevirtual 229, 3) := by decide +kernel
theorem d_Md_tellNumber_48 : decode c_Md_tellNumber 48 = .ok (.return_, 1) := by decide +kernel
theorem d_Md_tellLiteral_0 : decode c_Md_tellLiteral 0 = .ok (.aload_n 0, 1) := by decide +kernel
theorem d_Md_tellLiteral_1 : decode c_Md_tellLiteral 1 = .ok (.bipush 34, 2) := by decide +kernel
theorem d_Md_tellLiteral_3 : decode c_Md_tellLiteral 3 = .ok (.invokevirtual 229, 3) := by decide +kernel
theorem d_Md_tellLiteral_6 : decode c_Md_tellLiteral 6 = .ok (.iconst 0, 1) := by decide +kernel
theorem d_Md_tellLiteral_7 : decode c_Md_tellLiteral 7 = .ok (.istore_n 2, 1) := by decide +kernel
theorem d_Md_tellLiteral_8 : decode c_Md_tellLiteral 8 = .ok (.iload_n 2, 1) := by decide +kernel
theorem d_Md_tellLiteral_9 : decode c_Md_tellLiteral 9 = .ok (.aload_n 0, 1) := by decide +kernel
theorem d_Md_tellLiteral_10 : decode c_Md_tellLiteral 10 = .ok (.getfield 19, 3) := by decide +kernel
theorem d_Md_tellLiteral_13 : decode c_Md_tellLiteral 13 = .ok (.iload_n 1, 1) := by decide +kernel
theorem d_Md_tellLiteral_14 : decode c_Md_tellLiteral 14 = .ok (.iaload, 1) := by decide +kernel
theorem d_Md_tellLiteral_15 : decode c_Md_tellLiteral 15 = .ok (.if_icmp .ge 83, 3) := by decide +kernel
theorem d_Md_tellLiteral_18 : decode c_Md_tellLiteral 18 = .ok (.aload_n 0, 1) := by decide +kernel
theorem d_Md_tellLiteral_19 : decode c_Md_tellLiteral 19 = .ok (.getfield 22, 3) := by decide +kernel
theorem d_Md_tellLiteral_22 : decode c_Md_tellLiteral 22 = .ok (.bipush 100, 2) := by decide +kernel
theorem d_Md_tellLiteral_24 : decode c_Md_tellLiteral 24 = .ok (.iload_n 1, 1) := by decide +kernel
theorem d_Md_tellLiteral_25 : decode c_Md_tellLiteral 25 = .ok (.imul, 1) := by decide +kernel
theorem d_Md_tellLiteral_26 : decode c_Md_tellLiteral 26 = .ok (.iload_n 2, 1) := by decide +kernel
theorem d_Md_tellLiteral_27 : decode c_Md_tellLiteral 27 = .ok (.iadd, 1) := by decide +kernel
theorem d_Md_tellLiteral_28 : decode c_Md_tellLiteral 28 = .ok (.iaload, 1) := by decide +kernel
theorem d_Md_tellLiteral_29 : decode c_Md_tellLiteral 29 = .ok (.istore_n 3, 1) := by decide +kernel
theorem d_Md_tellLiteral_30 : decode c_Md_tellLiteral 30 = .ok (.iload_n 3, 1) := by decide +kernel
theorem d_Md_tellLiteral_31 : decode c_Md_tellLiteral 31 = .ok (.bipush 34, 2) := by decide +kernel
theorem d_Md_tellLiteral_33 : decode c_Md_tellLiteral 33 = .ok (.if_icmp .eq 15, 3) := by decide +kernel
theorem d_Md_tellLiteral_36 : decode c_Md_tellLiteral 36 = .ok (.iload_n 3, 1) := by decide +kernel
theorem d_Md_tellLiteral_37 : decode c_Md_tellLiteral 37 = .ok (.bipush 92, 2) := by decide +kernel
theorem d_Md_tellLiteral_39 : decode c_Md_tellLiteral 39 = .ok (.if_icmp .eq 9, 3) := by decide +kernel
theorem d_Md_tellLiteral_42 : decode c_Md_tellLiteral 42 = .ok (.iload_n 3, 1) := by decide +kernel
theorem d_Md_tellLiteral_43 : decode c_Md_tellLiteral 43 = .ok (.bipush 32, 2) := by decide +kernel
theorem d_Md_tellLiteral_45 : decode c_Md_tellLiteral 45 = .ok (.if_icmp .ge 9, 3) := by decide +kernel
theorem d_Md_tellLiteral_48 : decode c_Md_tellLiteral 48 = .ok (.aload_n 0, 1) := by decide +kernel
theorem d_Md_tellLiteral_49 : decode c_Md_tellLiteral 49 = .ok (.bipush 92, 2) := by decide +kernel
theorem d_Md_tellLiteral_51 : decode c_Md_tellLiteral 51 = .ok (.invokevirtual 229, 3) := by decide +kernel
theorem d_Md_tellLiteral_54 : decode c_Md_tellLiteral 54 = .ok (.aload_n 0, 1) := by decide +kernel
theorem d_Md_tellLiteral_55 : decode c_Md_tellLiteral 55 = .ok (.iload_n 3, 1) := by decide +kernel
theorem d_Md_tellLiteral_56 : decode c_Md_tellLiteral 56 = .ok (.bipush 9, 2) := by decide +kernel
theorem d_Md_tellLiteral_58 : decode c_Md_tellLiteral 58 = .ok (.if_icmp .ne 8, 3) := by decide +kernel
theorem d_Md_tellLiteral_61 : decode c_Md_tellLiteral 61 = .ok (.bipush 116, 2) := by decide +kernel
theorem d_Md_tellLiteral_63 : decode c_Md_tellLiteral 63 = .ok (.goto 26, 3) := by decide +kernel
theorem d_Md_tellLiteral_66 : decode c_Md_tellLiteral 66 = .ok (.iload_n 3, 1) := by decide +kernel
theorem d_Md_tellLiteral_67 : decode c_Md_tellLiteral 67 = .ok (.bipush 10, 2) := by decide +kernel
theorem d_Md_tellLiteral_69 : decode c_Md_tellLiteral 69 = .ok (.if_icmp .ne 8, 3) := by decide +kernel
theorem d_Md_tellLiteral_72 : decode c_Md_tellLiteral 72 = .ok (.bipush 110, 2) := by decide +kernel
theorem d_Md_tellLiteral_74 : decode c_Md_tellLiteral 74 = .ok (.goto 15, 3) := by decide +kernel
theorem d_Md_tellLiteral_77 : decode c_Md_tellLiteral 77 = .ok (.iload_n 3, 1) := by decide +kernel
theorem d_Md_tellLiteral_78 : decode c_Md_tellLiteral 78 = .ok (.bipush 13, 2) := by decide +kernel
theorem d_Md_tellLiteral_80 : decode c_Md_tellLiteral 80 = .ok (.if_icmp .ne 8, 3) := by decide +kernel
theorem d_Md_tellLiteral_83 : decode c_Md_tellLiteral 83 = .ok (.bipush 114, 2) := by decide +kernel
theorem d_Md_tellLiteral_85 : decode c_Md_tellLiteral 85 = .ok (.goto 4, 3) := by decide +kernel
theorem d_Md_tellLiteral_88 : decode c_Md_tellLiteral 88 = .ok (.iload_n 3, 1) := by decide +kernel
theorem d_Md_tellLiteral_89 : decode c_Md_tellLiteral 89 = .ok (.invokevirtual 229, 3) := by decide +kernel
theorem d_Md_tellLiteral_92 : decode c_Md_tellLiteral 92 = .ok (.iinc 2 1, 3) := by decide +kernel
theorem d_Md_tellLiteral_95 : decode c_Md_tellLiteral 95 = .ok (.goto (-87), 3) := by decide +kernel
theorem d_Md_tellLiteral_98 : decode c_Md_tellLiteral 98 = .ok (.aload_n 0, 1) := by decide +kernel
theorem d_Md_tellLiteral_99 : decode c_Md_tellLiteral 99 = .ok (.bipush 34, 2) := by decide +kernel
theorem d_Md_tellLiteral_101 : decode c_Md_tellLiteral 101 = .ok (.invokevirtual 229, 3) := by decide +kernel
theorem d_Md_tellLiteral_104 : decode c_Md_tellLiteral 104 = .ok (.aload_n 0, 1) := by decide +kernel
theorem d_Md_tellLiteral_105 : decode c_Md_tellLiteral 105 = .ok (.getfield 16, 3) := by decide +kernel
theorem d_Md_tellLiteral_108 : decode c_Md_tellLiteral 108 = .ok (.iload_n 1, 1) := by decide +kernel
theorem d_Md_tellLiteral_109 : decode c_Md_tellLiteral 109 = .ok (.iaload, 1) := by decide +kernel
theorem d_Md_tellLiteral_110 : decode c_Md_tellLiteral 110 = .ok (.iconst 1, 1) := by decide +kernel
theorem d_Md_tellLiteral_111 : decode c_Md_tellLiteral 111 = .ok (.if_icmp .ne 45, 3) := by decide +kernel
theorem d_Md_tellLiteral_114 : decode c_Md_tellLiteral 114 = .ok (.aload_n 0, 1) := by decide +kernel
theorem d_Md_tellLiteral_115 : decode c_Md_tellLiteral 115 = .ok (.bipush 64, 2) := by decide +kernel
theorem d_Md_tellLiteral_117 : decode c_Md_tellLiteral 117 = .ok (.invokevirtual 229, 3) := by decide +kernel
theorem d_Md_tellLiteral_120 : decode c_Md_tellLiteral 120 = .ok (.iconst 0, 1) := by decide +kernel
theorem d_Md_tellLiteral_121 : decode c_Md_tellLiteral 121 = .ok (.istore_n 2, 1) := by decide +kernel
theorem d_Md_tellLiteral_122 : decode c_Md_tellLiteral 122 = .ok (.iload_n 2, 1) := by decide +kernel
theorem d_Md_tellLiteral_123 : decode c_Md_tellLiteral 123 = .ok (.aload_n 0, 1) := by decide +kernel
theorem d_Md_tellLiteral_124 : decode c_Md_tellLiteral 124 = .ok (.getfield 25, 3) := by decide +kernel
theorem d_Md_tellLiteral_127 : decode c_Md_tellLiteral 127 = .ok (.iload_n 1, 1) := by decide +kernel
theorem d_Md_tellLiteral_128 : decode c_Md_tellLiteral 128 = .ok (.iaload, 1) := by decide +kernel
theorem d_Md_tellLiteral_129 : decode c_Md_tellLiteral 129 = .ok (.if_icmp .ge 24, 3) := by decide +kernel
theorem d_Md_tellLiteral_132 : decode c_Md_tellLiteral 132 = .ok (.aload_n 0, 1) := by decide +kernel
theorem d_Md_tellLiteral_133 : decode c_Md_tellLiteral 133 = .ok (.aload_n 0, 1) := by decide +kernel
theorem d_Md_tellLiteral_134 : decode c_Md_tellLiteral 134 = .ok (.getfield 28, 3) := by decide +kernel
theorem d_Md_tellLiteral_137 : decode c_Md_tellLiteral 137 = .ok (.bipush 16, 2) := by decide +kernel
theorem d_Md_tellLiteral_139 : decode c_Md_tellLiteral 139 = .ok (.iload_n 1, 1) := by decide +kernel
theorem d_Md_tellLiteral_140 : decode c_Md_tellLiteral 140 = .ok (.imul, 1) := by decide +kernel
theorem d_Md_tellLiteral_141 : decode c_Md_tellLiteral 141 = .ok (.iload_n 2, 1) := by decide +kernel
theorem d_Md_tellLiteral_142 : decode c_Md_tellLiteral 142 = .ok (.iadd, 1) := by decide +kernel
theorem d_Md_tellLiteral_143 : decode c_Md_tellLiteral 143 = .ok (.iaload, 1) := by decide +kernel
theorem d_Md_tellLiteral_144 : decode c_Md_tellLiteral 144 = .ok (.invokevirtual 229, 3) := by decide +kernel
theorem d_Md_tellLiteral_147 : decode c_Md_tellLiteral 147 = .ok (.iinc 2 1, 3) := by decide +kernel
theorem d_Md_tellLiteral_150 : decode c_Md_tellLiteral 150 = .ok (.goto (-28), 3) := by decide +kernel
theorem d_Md_tellLiteral_153 : decode c_Md_tellLiteral 153 = .ok (.goto 66, 3) := by decide +kernel
theorem d_Md_tellLiteral_156 : decode c_Md_tellLiteral 156 = .ok (.aload_n 0, 1) := by decide +kernel
theorem d_Md_tellLiteral_157 : decode c_Md_tellLiteral 157 = .ok (.getfield 16, 3) := by decide +kernel
theorem d_Md_tellLiteral_160 : decode c_Md_tellLiteral 160 = .ok (.iload_n 1, 1) := by decide +kernel
theorem d_Md_tellLiteral_161 : decode c_Md_tellLiteral 161 = .ok (.iaload, 1) := by decide +kernel
theorem d_Md_tellLiteral_162 : decode c_Md_tellLiteral 162 = .ok (.iconst 2, 1) := by decide +kernel
theorem d_Md_tellLiteral_163 : decode c_Md_tellLiteral 163 = .ok (.if_icmp .ne 15, 3) := by decide +kernel
theorem d_Md_tellLiteral_166 : decode c_Md_tellLiteral 166 = .ok (.aload_n 0, 1) := by decide +kernel
theorem d_Md_tellLiteral_167 : decode c_Md_tellLiteral 167 = .ok (.ldc2_w 232, 3) := by decide +kernel
theorem d_Md_tellLiteral_170 : decode c_Md_tellLiteral 170 = .ok (.bipush 7, 2) := by decide +kernel
theorem d_Md_tellLiteral_172 : decode c_Md_tellLiteral 172 = .ok (.invokevirtual 234, 3) := by decide +kernel
theorem d_Md_tellLiteral_175 : decode c_Md_tellLiteral 175 = .ok (.goto 44, 3) := by decide +kernel
theorem d_Md_tellLiteral_178 : decode c_Md_tellLiteral 178 = .ok (.aload_n 0, 1) := by decide +kernel
theorem d_Md_tellLiteral_179 : decode c_Md_tellLiteral 179 = .ok (.getfield 16, 3) := by decide +kernel
theorem d_Md_tellLiteral_182 : decode c_Md_tellLiteral 182 = .ok (.iload_n 1, 1) := by decide +kernel
theorem d_Md_tellLiteral_183 : decode c_Md_tellLiteral 183 = .ok (.iaload, 1) := by decide +kernel
theorem d_Md_tellLiteral_184 : decode c_Md_tellLiteral 184 = .ok (.iconst 3, 1) := by decide +kernel
theorem d_Md_tellLiteral_185 : decode c_Md_tellLiteral 185 = .ok (.if_icmp .ne 15, 3) := by decide +kernel
theorem d_Md_tellLiteral_188 : decode c_Md_tellLiteral 188 = .ok (.aload_n 0, 1) := by decide +kernel
theorem d_Md_tellLiteral_189 : decode c_Md_tellLiteral 189 = .ok (.ldc2_w 238, 3) := by decide +kernel
theorem d_Md_tellLiteral_192 : decode c_Md_tellLiteral 192 = .ok (.bipush 7, 2) := by decide +kernel
theorem d_Md_tellLiteral_194 : decode c_Md_tellLiteral 194 = .ok (.invokevirtual 234, 3) := by decide +kernel
theorem d_Md_tellLiteral_197 : decode c_Md_tellLiteral 197 = .ok (.goto 22, 3) := by decide +kernel
theorem d_Md_tellLiteral_200 : decode c_Md_tellLiteral 200 = .ok (.aload_n 0, 1) := by decide +kernel
theorem d_Md_tellLiteral_201 : decode c_Md_tellLiteral 201 = .ok (.getfield 16, 3) := by decide +kernel
theorem d_Md_tellLiteral_204 : decode c_Md_tellLiteral 204 = .ok (.iload_n 1, 1) := by decide +kernel
theorem d_Md_tellLiteral_205 : decode c_Md_tellLiteral 205 = .ok (.iaload, 1) := by decide +kernel
theorem d_Md_tellLiteral_206 : decode c_Md_tellLiteral 206 = .ok (.iconst 4, 1) := by decide +kernel
theorem d_Md_tellLiteral_207 : decode c_Md_tellLiteral 207 = .ok (.if_icmp .ne 12, 3) := by decide +kernel
theorem d_Md_tellLiteral_210 : decode c_Md_tellLiteral 210 = .ok (.aload_n 0, 1) := by decide +kernel
theorem d_Md_tellLiteral_211 : decode c_Md_tellLiteral 211 = .ok (.ldc2_w 240, 3) := by decide +kernel
theorem d_Md_tellLiteral_214 : decode c_Md_tellLiteral 214 = .ok (.bipush 7, 2) := by decide +kernel
theorem d_Md_tellLiteral_216 : decode c_Md_tellLiteral 216 = .ok (.invokevirtual 234, 3) := by decide +kernel
theorem d_Md_tellLiteral_219 : decode c_Md_tellLiteral 219 = .ok (.return_, 1) := by decide +kernel
theorem d_Md_at_0 : decode c_Md_at 0 = .ok (.iload_n 1, 1) := by decide +kernel
theorem d_Md_at_1 : decode c_Md_at 1 = .ok (.iconst 0, 1) := by decide +kernel
theorem d_Md_at_2 : decode c_Md_at 2 = .ok (.aload_n 0, 1) := by decide +kernel
theorem d_Md_at_3 : decode c_Md_at 3 = .ok (.getfield 226, 3) := by decide +kernel
theorem d_Md_at_6 : decode c_Md_at 6 = .ok (.iconst 1, 1) := by decide +kernel
theorem d_Md_at_7 : decode c_Md_at 7 = .ok (.isub, 1) := by decide +kernel
theorem d_Md_at_8 : decode c_Md_at 8 = .ok (.invokestatic 77, 3) := by decide +kernel
theorem d_Md_at_11 : decode c_Md_at 11 = .ok (.ifCond .eq 12, 3) := by decide +kernel
theorem d_Md_at_14 : decode c_Md_at 14 = .ok (.aload_n 0, 1) := by decide +kernel
theorem d_Md_at_15 : decode c_Md_at 15 = .ok (.getfield 50, 3) := by decide +kernel
theorem d_Md_at_18 : decode c_Md_at 18 = .ok (.iload_n 1, 1) := by decide +kernel
theorem d_Md_at_19 : decode c_Md_at 19 = .ok (.iaload, 1) := by decide +kernel
theorem d_Md_at_20 : decode c_Md_at 20 = .ok (.goto 5, 3) := by decide +kernel
theorem d_Md_at_23 : decode c_Md_at 23 = .ok (.bipush (-2), 2) := by decide +kernel
theorem d_Md_at_25 : decode c_Md_at 25 = .ok (.ireturn, 1) := by decide +kernel
theorem d_Md_count_0 : decode c_Md_count 0 = .ok (.iload_n 1, 1) := by decide +kernel
theorem d_Md_count_1 : decode c_Md_count 1 = .ok (.ifCond .ne 10, 3) := by decide +kernel
theorem d_Md_count_4 : decode c_Md_count 4 = .ok (.aload_n 0, 1) := by decide +kernel
theorem d_Md_count_5 : decode c_Md_count 5 = .ok (.getfield 74, 3) := by decide +kernel
theorem d_Md_count_8 : decode c_Md_count 8 = .ok (.goto 28, 3) := by decide +kernel
theorem d_Md_count_11 : decode c_Md_count 11 = .ok (.iload_n 1, 1) := by decide +kernel
theorem d_Md_count_12 : decode c_Md_count 12 = .ok (.iconst 1, 1) := by decide +kernel
theorem d_Md_count_13 : decode c_Md_count 13 = .ok (.if_icmp .ne 10, 3) := by decide +kernel
theorem d_Md_count_16 : decode c_Md_count 16 = .ok (.aload_n 0, 1) := by decide +kernel
theorem d_Md_count_17 : decode c_Md_count 17 = .ok (.getfield 187, 3) := by decide +kernel
theorem d_Md_count_20 : decode c_Md_count 20 = .ok (.goto 16, 3) := by decide +kernel
theorem d_Md_count_23 : decode c_Md_count 23 = .ok (.iload_n 1, 1) := by decide +kernel
theorem d_Md_count_24 : decode c_Md_count 24 = .ok (.iconst 2, 1) := by decide +kernel
theorem d_Md_count_25 : decode c_Md_count 25 = .ok (.if_icmp .ne 10, 3) := by decide +kernel
theorem d_Md_count_28 : decode c_Md_count 28 = .ok (.aload_n 0, 1) := by decide +kernel
theorem d_Md_count_29 : decode c_Md_count 29 = .ok (.getfield 90, 3) := by decide +kernel
theorem d_Md_count_32 : decode c_Md_count 32 = .ok (.goto 4, 3) := by decide +kernel
theorem d_Md_count_35 : decode c_Md_count 35 = .ok (.iconst (-1), 1) := by decide +kernel
theorem d_Md_count_36 : decode c_Md_count 36 = .ok (.ireturn, 1) := by decide +kernel
