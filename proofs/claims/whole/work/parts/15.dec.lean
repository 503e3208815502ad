theorem d_Md_type_0 : decode c_Md_type 0 = .ok (.iload_n 3, 1) := by decide +kernel
theorem d_Md_type_1 : decode c_Md_type 1 = .ok (.iconst 1, 1) := by decide +kernel
theorem d_Md_type_2 : decode c_Md_type 2 = .ok (.bipush 8, 2) := by decide +kernel
theorem d_Md_type_4 : decode c_Md_type 4 = .ok (.invokestatic 77, 3) := by decide +kernel
theorem d_Md_type_7 : decode c_Md_type 7 = .ok (.istore 4, 2) := by decide +kernel
theorem d_Md_type_9 : decode c_Md_type 9 = .ok (.iconst 0, 1) := by decide +kernel
theorem d_Md_type_10 : decode c_Md_type 10 = .ok (.istore 5, 2) := by decide +kernel
theorem d_Md_type_12 : decode c_Md_type 12 = .ok (.iload 5, 2) := by decide +kernel
theorem d_Md_type_14 : decode c_Md_type 14 = .ok (.iload_n 3, 1) := by decide +kernel
theorem d_Md_type_15 : decode c_Md_type 15 = .ok (.if_icmp .ge 35, 3) := by decide +kernel
theorem d_Md_type_18 : decode c_Md_type 18 = .ok (.iload 4, 2) := by decide +kernel
theorem d_Md_type_20 : decode c_Md_type 20 = .ok (.ifCond .eq 30, 3) := by decide +kernel
theorem d_Md_type_23 : decode c_Md_type 23 = .ok (.lload_n 1, 1) := by decide +kernel
theorem d_Md_type_24 : decode c_Md_type 24 = .ok (.bipush 8, 2) := by decide +kernel
theorem d_Md_type_26 : decode c_Md_type 26 = .ok (.iload 5, 2) := by decide +kernel
theorem d_Md_type_28 : decode c_Md_type 28 = .ok (.imul, 1) := by decide +kernel
theorem d_Md_type_29 : decode c_Md_type 29 = .ok (.lshr, 1) := by decide +kernel
theorem d_Md_type_30 : decode c_Md_type 30 = .ok (.ldc2_w 88, 3) := by decide +kernel
theorem d_Md_type_33 : decode c_Md_type 33 = .ok (.land, 1) := by decide +kernel
theorem d_Md_type_34 : decode c_Md_type 34 = .ok (.l2i, 1) := by decide +kernel
theorem d_Md_type_35 : decode c_Md_type 35 = .ok (.bipush 32, 2) := by decide +kernel
theorem d_Md_type_37 : decode c_Md_type 37 = .ok (.bipush 126, 2) := by decide +kernel
theorem d_Md_type_39 : decode c_Md_type 39 = .ok (.invokestatic 77, 3) := by decide +kernel
theorem d_Md_type_42 : decode c_Md_type 42 = .ok (.istore 4, 2) := by decide +kernel
theorem d_Md_type_44 : decode c_Md_type 44 = .ok (.iinc 5 1, 3) := by decide +kernel
theorem d_Md_type_47 : decode c_Md_type 47 = .ok (.goto (-35), 3) := by decide +kernel
theorem d_Md_type_50 : decode c_Md_type 50 = .ok (.iload 4, 2) := by decide +kernel
theorem d_Md_type_52 : decode c_Md_type 52 = .ok (.ifCond .ne 5, 3) := by decide +kernel
theorem d_Md_type_55 : decode c_Md_type 55 = .ok (.iconst (-1), 1) := by decide +kernel
theorem d_Md_type_56 : decode c_Md_type 56 = .ok (.ireturn, 1) := by decide +kernel
theorem d_Md_type_57 : decode c_Md_type 57 = .ok (.aload_n 0, 1) := by decide +kernel
theorem d_Md_type_58 : decode c_Md_type 58 = .ok (.getfield 90, 3) := by decide +kernel
theorem d_Md_type_61 : decode c_Md_type 61 = .ok (.iload_n 3, 1) := by decide +kernel
theorem d_Md_type_62 : decode c_Md_type 62 = .ok (.iadd, 1) := by decide +kernel
theorem d_Md_type_63 : decode c_Md_type 63 = .ok (.bipush 96, 2) := by decide +kernel
theorem d_Md_type_65 : decode c_Md_type 65 = .ok (.if_icmp .le 6, 3) := by decide +kernel
theorem d_Md_type_68 : decode c_Md_type 68 = .ok (.bipush (-3), 2) := by decide +kernel
theorem d_Md_type_70 : decode c_Md_type 70 = .ok (.ireturn, 1) := by decide +kernel
theorem d_Md_type_71 : decode c_Md_type 71 = .ok (.iload_n 3, 1) := by decide +kernel
theorem d_Md_type_72 : decode c_Md_type 72 = .ok (.iconst 1, 1) := by decide +kernel
theorem d_Md_type_73 : decode c_Md_type 73 = .ok (.isub, 1) := by decide +kernel
theorem d_Md_type_74 : decode c_Md_type 74 = .ok (.istore 5, 2) := by decide +kernel
theorem d_Md_type_76 : decode c_Md_type 76 = .ok (.iload 5, 2) := by decide +kernel
theorem d_Md_type_78 : decode c_Md_type 78 = .ok (.ifCond .lt 40, 3) := by decide +kernel
theorem d_Md_type_81 : decode c_Md_type 81 = .ok (.aload_n 0, 1) := by decide +kernel
theorem d_Md_type_82 : decode c_Md_type 82 = .ok (.getfield 7, 3) := by decide +kernel
theorem d_Md_type_85 : decode c_Md_type 85 = .ok (.aload_n 0, 1) := by decide +kernel
theorem d_Md_type_86 : decode c_Md_type 86 = .ok (.getfield 90, 3) := by decide +kernel
theorem d_Md_type_89 : decode c_Md_type 89 = .ok (.lload_n 1, 1) := by decide +kernel
theorem d_Md_type_90 : decode c_Md_type 90 = .ok (.bipush 8, 2) := by decide +kernel
theorem d_Md_type_92 : decode c_Md_type 92 = .ok (.iload 5, 2) := by decide +kernel
theorem d_Md_type_94 : decode c_Md_type 94 = .ok (.imul, 1) := by decide +kernel
theorem d_Md_type_95 : decode c_Md_type 95 = .ok (.lshr, 1) := by decide +kernel
theorem d_Md_type_96 : decode c_Md_type 96 = .ok (.ldc2_w 88, 3) := by decide +kernel
theorem d_Md_type_99 : decode c_Md_type 99 = .ok (.land, 1) := by decide +kernel
theorem d_Md_type_100 : decode c_Md_type 100 = .ok (.l2i, 1) := by decide +kernel
theorem d_Md_type_101 : decode c_Md_type 101 = .ok (.iastore, 1) := by decide +kernel
theorem d_Md_type_102 : decode c_Md_type 102 = .ok (.aload_n 0, 1) := by decide +kernel
theorem d_Md_type_103 : decode c_Md_type 103 = .ok (.dup, 1) := by decide +kernel
theorem d_Md_type_104 : decode c_Md_type 104 = .ok (.getfield 90, 3) := by decide +kernel
theorem d_Md_type_107 : decode c_Md_type 107 = .ok (.iconst 1, 1) := by decide +kernel
theorem d_Md_type_108 : decode c_Md_type 108 = .ok (.iadd, 1) := by decide +kernel
theorem d_Md_type_109 : decode c_Md_type 109 = .ok (.putfield 90, 3) := by decide +kernel
theorem d_Md_type_112 : decode c_Md_type 112 = .ok (.iinc 5 (-1), 3) := by decide +kernel
theorem d_Md_type_115 : decode c_Md_type 115 = .ok (.goto (-39), 3) := by decide +kernel
theorem d_Md_type_118 : decode c_Md_type 118 = .ok (.aload_n 0, 1) := by decide +kernel
theorem d_Md_type_119 : decode c_Md_type 119 = .ok (.getfield 90, 3) := by decide +kernel
theorem d_Md_type_122 : decode c_Md_type 122 = .ok (.ireturn, 1) := by decide +kernel
theorem d_Md_is_0 : decode c_Md_is 0 = .ok (.iload_n 0, 1) := by decide +kernel
theorem d_Md_is_1 : decode c_Md_is 1 = .ok (.iload_n 1, 1) := by decide +kernel
theorem d_Md_is_2 : decode c_Md_is 2 = .ok (.if_icmp .lt 12, 3) := by decide +kernel
theorem d_Md_is_5 : decode c_Md_is 5 = .ok (.iload_n 0, 1) := by decide +kernel
theorem d_Md_is_6 : decode c_Md_is 6 = .ok (.iload_n 2, 1) := by decide +kernel
theorem d_Md_is_7 : decode c_Md_is 7 = .ok (.if_icmp .gt 7, 3) := by decide +kernel
theorem d_Md_is_10 : decode c_Md_is 10 = .ok (.iconst 1, 1) := by decide +kernel
theorem d_Md_is_11 : decode c_Md_is 11 = .ok (.goto 4, 3) := by decide +kernel
theorem d_Md_is_14 : decode c_Md_is 14 = .ok (.iconst 0, 1) := by decide +kernel
theorem d_Md_is_15 : decode c_Md_is 15 = .ok (.ireturn, 1) := by decide +kernel
theorem d_Md_label_0 : decode c_Md_label 0 = .ok (.iload_n 1, 1) := by decide +kernel
theorem d_Md_label_1 : decode c_Md_label 1 = .ok (.iconst 0, 1) := by decide +kernel
theorem d_Md_label_2 : decode c_Md_label 2 = .ok (.sipush 999, 3) := by decide +kernel
theorem d_Md_label_5 : decode c_Md_label 5 = .ok (.invokestatic 77, 3) := by decide +kernel
theorem d_Md_label_8 : decode c_Md_label 8 = .ok (.ifCond .ne 5, 3) := by decide +kernel
theorem d_Md_label_11 : decode c_Md_label 11 = .ok (.iconst (-1), 1) := by decide +kernel
theorem d_Md_label_12 : decode c_Md_label 12 = .ok (.ireturn, 1) := by decide +kernel
theorem d_Md_label_13 : decode c_Md_label 13 = .ok (.aload_n 0, 1) := by decide +kernel
theorem d_Md_label_14 : decode c_Md_label 14 = .ok (.iconst 0, 1) := by decide +kernel
theorem d_Md_label_15 : decode c_Md_label 15 = .ok (.putfield 93, 3) := by decide +kernel
theorem d_Md_label_18 : decode c_Md_label 18 = .ok (.aload_n 0, 1) := by decide +kernel
theorem d_Md_label_19 : decode c_Md_label 19 = .ok (.iconst 0, 1) := by decide +kernel
theorem d_Md_label_20 : decode c_Md_label 20 = .ok (.putfield 96, 3) := by decide +kernel
theorem d_Md_label_23 : decode c_Md_label 23 = .ok (.aload_n 0, 1) := by decide +kernel
theorem d_Md_label_24 : decode c_Md_label 24 = .ok (.iconst 1, 1) := by decide +kernel
theorem d_Md_label_25 : decode c_Md_label 25 = .ok (.iload_n 1, 1) := by decide +kernel
theorem d_Md_label_26 : decode c_Md_label 26 = .ok (.invokevirtual 106, 3) := by decide +kernel
theorem d_Md_label_29 : decode c_Md_label 29 = .ok (.ireturn, 1) := by decide +kernel
theorem d_Md_note_0 : decode c_Md_note 0 = .ok (.aload_n 0, 1) := by decide +kernel
theorem d_Md_note_1 : decode c_Md_note 1 = .ok (.iload_n 1, 1) := by decide +kernel
theorem d_Md_note_2 : decode c_Md_note 2 = .ok (.iload_n 2, 1) := by decide +kernel
theorem d_Md_note_3 : decode c_Md_note 3 = .ok (.invokevirtual 99, 3) := by decide +kernel
theorem d_Md_note_6 : decode c_Md_note 6 = .ok (.istore_n 3, 1) := by decide +kernel
theorem d_Md_note_7 : decode c_Md_note 7 = .ok (.iload_n 3, 1) := by decide +kernel
theorem d_Md_note_8 : decode c_Md_note 8 = .ok (.ifCond .lt 5, 3) := by decide +kernel
theorem d_Md_note_11 : decode c_Md_note 11 = .ok (.iload_n 3, 1) := by decide +kernel
theorem d_Md_note_12 : decode c_Md_note 12 = .ok (.ireturn, 1) := by decide +kernel
theorem d_Md_note_13 : decode c_Md_note 13 = .ok (.aload_n 0, 1) := by decide +kernel
theorem d_Md_note_14 : decode c_Md_note 14 = .ok (.getfield 74, 3) := by decide +kernel
theorem d_Md_note_17 : decode c_Md_note 17 = .ok (.bipush 60, 2) := by decide +kernel
theorem d_Md_note_19 : decode c_Md_note 19 = .ok (.if_icmp .ne 6, 3) := by decide +kernel
theorem d_Md_note_22 : decode c_Md_note 22 = .ok (.bipush (-3), 2) := by decide +kernel
theorem d_Md_note_24 : decode c_Md_note 24 = .ok (.ireturn, 1) := by decide +kernel
theorem d_Md_note_25 : decode c_Md_note 25 = .ok (.aload_n 0, 1) := by decide +kernel
theorem d_Md_note_26 : decode c_Md_note 26 = .ok (.getfield 13, 3) := by decide +kernel
theorem d_Md_note_29 : decode c_Md_note 29 = .ok (.aload_n 0, 1) := by decide +kernel
theorem d_Md_note_30 : decode c_Md_note 30 = .ok (.getfield 74, 3) := by decide +kernel
theorem d_Md_note_33 : decode c_Md_note 33 = .ok (.iload_n 1, 1) := by decide +kernel
theorem d_Md_note_34 : decode c_Md_note 34 = .ok (.iastore, 1) := by decide +kernel
theorem d_Md_note_35 : decode c_Md_note 35 = .ok (.aload_n 0, 1) := by decide +kernel
theorem d_Md_note_36 : decode c_Md_note 36 = .ok (.getfield 16, 3) := by decide +kernel
theorem d_Md_note_39 : decode c_Md_note 39 = .ok (.aload_n 0, 1) := by decide +kernel
theorem d_Md_note_40 : decode c_Md_note 40 = .ok (.getfield 74, 3) := by decide +kernel
theorem d_Md_note_43 : decode c_Md_note 43 = .ok (.iload_n 2, 1) := by decide +kernel
theorem d_Md_note_44 : decode c_Md_note 44 = .ok (.iastore, 1) := by decide +kernel
theorem d_Md_note_45 : decode c_Md_note 45 = .ok (.aload_n 0, 1) := by decide +kernel
theorem d_Md_note_46 : decode c_Md_note 46 = .ok (.getfield 19, 3) := by decide +kernel
theorem d_Md_note_49 : decode c_Md_note 49 = .ok (.aload_n 0, 1) := by decide +kernel
theorem d_Md_note_50 : decode c_Md_note 50 = .ok (.getfield 74, 3) := by decide +kernel
theorem d_Md_note_53 : decode c_Md_note 53 = .ok (.aload_n 0, 1) := by decide +kernel
theorem d_Md_note_54 : decode c_Md_note 54 = .ok (.getfield 93, 3) := by decide +kernel
theorem d_Md_note_57 : decode c_Md_note 57 = .ok (.iastore, 1) := by decide +kernel
theorem d_Md_note_58 : decode c_Md_note 58 = .ok (.aload_n 0, 1) := by decide +kernel
theorem d_Md_note_59 : decode c_Md_note 59 = .ok (.getfield 25, 3) := by decide +kernel
theorem d_Md_note_62 : decode c_Md_note 62 = .ok (.aload_n 0, 1) := by decide +kernel
theorem d_Md_note_63 : decode c_Md_note 63 = .ok (.getfield 74, 3) := by decide +kernel
theorem d_Md_note_66 : decode c_Md_note 66 = .ok (.aload_n 0, 1) := by decide +kernel
theorem d_Md_note_67 : decode c_Md_note 67 = .ok (.getfield 96, 3) := by decide +kernel
theorem d_Md_note_70 : decode c_Md_note 70 = .ok (.iastore, 1) := by decide +kernel
theorem d_Md_note_71 : decode c_Md_note 71 = .ok (.iconst 0, 1) := by decide +kernel
theorem d_Md_note_72 : decode c_Md_note 72 = .ok (.istore 4, 2) := by decide +kernel
theorem d_Md_note_74 : decode c_Md_note 74 = .ok (.iload 4, 2) := by decide +kernel
theorem d_Md_note_76 : decode c_Md_note 76 = .ok (.aload_n 0, 1) := by decide +kernel
theorem d_Md_note_77 : decode c_Md_note 77 = .ok (.getfield 93, 3) := by decide +kernel
theorem d_Md_note_80 : decode c_Md_note 80 = .ok (.if_icmp .ge 31, 3) := by decide +kernel
theorem d_Md_note_83 : decode c_Md_note 83 = .ok (.aload_n 0, 1) := by decide +kernel
theorem d_Md_note_84 : decode c_Md_note 84 = .ok (.getfield 22, 3) := by decide +kernel
theorem d_Md_note_87 : decode c_Md_note 87 = .ok (.bipush 100, 2) := by decide +kernel
theorem d_Md_note_89 : decode c_Md_note 89 = .ok (.aload_n 0, 1) := by decide +kernel
theorem d_Md_note_90 : decode c_Md_note 90 = .ok (.getfield 74, 3) := by decide +kernel
theorem d_Md_note_93 : decode c_Md_note 93 = .ok (.imul, 1) := by decide +kernel
theorem d_Md_note_94 : decode c_Md_note 94 = .ok (.iload 4, 2) := by decide +kernel
theorem d_Md_note_96 : decode c_Md_note 96 = .ok (.iadd, 1) := by decide +kernel
theorem d_Md_note_97 : decode c_Md_note 97 = .ok (.aload_n 0, 1) := by decide +kernel
theorem d_Md_note_98 : decode c_Md_note 98 = .ok (.getfield 44, 3) := by decide +kernel
theorem d_Md_note_101 : decode c_Md_note 101 = .ok (.iload 4, 2) := by decide +kernel
theorem d_Md_note_103 : decode c_Md_note 103 = .ok (.iaload, 1) := by decide +kernel
theorem d_Md_note_104 : decode c_Md_note 104 = .ok (.iastore, 1) := by decide +kernel
theorem d_Md_note_105 : decode c_Md_note 105 = .ok (.iinc 4 1, 3) := by decide +kernel
theorem d_Md_note_108 : decode c_Md_note 108 = .ok (.goto (-34), 3) := by decide +kernel
theorem d_Md_note_111 : decode c_Md_note 111 = .ok (.iconst 0, 1) := by decide +kernel
theorem d_Md_note_112 : decode c_Md_note 112 = .ok (.istore 4, 2) := by decide +kernel
theorem d_Md_note_114 : decode c_Md_note 114 = .ok (.iload 4, 2) := by decide +kernel
theorem d_Md_note_116 : decode c_Md_note 116 = .ok (.aload_n 0, 1) := by decide +kernel
theorem d_Md_note_117 : decode c_Md_note 117 = .ok (.getfield 96, 3) := by decide +kernel
theorem d_Md_note_120 : decode c_Md_note 120 = .ok (.if_icmp .ge 31, 3) := by decide +kernel
theorem d_Md_note_123 : decode c_Md_note 123 = .ok (.aload_n 0, 1) := by decide +kernel
theorem d_Md_note_124 : decode c_Md_note 124 = .ok (.getfield 28, 3) := by decide +kernel
theorem d_Md_note_127 : decode c_Md_note 127 = .ok (.bipush 16, 2) := by decide +kernel
theorem d_Md_note_129 : decode c_Md_note 129 = .ok (.aload_n 0, 1) := by decide +kernel
theorem d_Md_note_130 : decode c_Md_note 130 = .ok (.getfield 74, 3) := by decide +kernel
theorem d_Md_note_133 : decode c_Md_note 133 = .ok (.imul, 1) := by decide +kernel
theorem d_Md_note_134 : decode c_Md_note 134 = .ok (.iload 4, 2) := by decide +kernel
theorem d_Md_note_136 : decode c_Md_note 136 = .ok (.iadd, 1) := by decide +kernel
theorem d_Md_note_137 : decode c_Md_note 137 = .ok (.aload_n 0, 1) := by decide +kernel
theorem d_Md_note_138 : decode c_Md_note 138 = .ok (.getfield 47, 3) := by decide +kernel
theorem d_Md_note_141 : decode c_Md_note 141 = .ok (.iload 4, 2) := by decide +kernel
theorem d_Md_note_143 : decode c_Md_note 143 = .ok (.iaload, 1) := by decide +kernel
theorem d_Md_note_144 : decode c_Md_note 144 = .ok (.iastore, 1) := by decide +kernel
theorem d_Md_note_145 : decode c_Md_note 145 = .ok (.iinc 4 1, 3) := by decide +kernel
theorem d_Md_note_148 : decode c_Md_note 148 = .ok (.goto (-34), 3) := by decide +kernel
theorem d_Md_note_151 : decode c_Md_note 151 = .ok (.aload_n 0, 1) := by decide +kernel
theorem d_Md_note_152 : decode c_Md_note 152 = .ok (.dup, 1) := by decide +kernel
theorem d_Md_note_153 : decode c_Md_note 153 = .ok (.getfield 74, 3) := by decide +kernel
theorem d_Md_note_156 : decode c_Md_note 156 = .ok (.iconst 1, 1) := by decide +kernel
theorem d_Md_note_157 : decode c_Md_note 157 = .ok (.iadd, 1) := by decide +kernel
theorem d_Md_note_158 : decode c_Md_note 158 = .ok (.putfield 74, 3) := by decide +kernel
theorem d_Md_note_161 : decode c_Md_note 161 = .ok (.aload_n 0, 1) := by decide +kernel
theorem d_Md_note_162 : decode c_Md_note 162 = .ok (.getfield 74, 3) := by decide +kernel
theorem d_Md_note_165 : decode c_Md_note 165 = .ok (.iconst 1, 1) := by decide +kernel
theorem d_Md_note_166 : decode c_Md_note 166 = .ok (.isub, 1) := by decide +kernel
theorem d_Md_note_167 : decode c_Md_note 167 = .ok (.ireturn, 1) := by decide +kernel
theorem d_Md_find_0 : decode c_Md_find 0 = .ok (.iconst 0, 1) := by decide +kernel
theorem d_Md_find_1 : decode c_Md_find 1 = .ok (.istore_n 3, 1) := by decide +kernel
theorem d_Md_find_2 : decode c_Md_find 2 = .ok (.iload_n 3, 1) := by decide +kernel
theorem d_Md_find_3 : decode c_Md_find 3 = .ok (.aload_n 0, 1) := by decide +kernel
theorem d_Md_find_4 : decode c_Md_find 4 = .ok (.getfield 74, 3) := by decide +kernel
theorem d_Md_find_7 : decode c_Md_find 7 = .ok (.if_icmp .ge 173, 3) := by decide +kernel
theorem d_Md_find_10 : decode c_Md_find 10 = .ok (.aload_n 0, 1) := by decide +kernel
theorem d_Md_find_11 : decode c_Md_find 11 = .ok (.getfield 13, 3) := by decide +kernel
theorem d_Md_find_14 : decode c_Md_find 14 = .ok (.iload_n 3, 1) := by decide +kernel
theorem d_Md_find_15 : decode c_Md_find 15 = .ok (.iaload, 1) := by decide +kernel
theorem d_Md_find_16 : decode c_Md_find 16 = .ok (.iload_n 1, 1) := by decide +kernel
theorem d_Md_find_17 : decode c_Md_find 17 = .ok (.if_icmp .ne 43, 3) := by decide +kernel
theorem d_Md_find_20 : decode c_Md_find 20 = .ok (.aload_n 0, 1) := by decide +kernel
theorem d_Md_find_21 : decode c_Md_find 21 = .ok (.getfield 16, 3) := by decide +kernel
theorem d_Md_find_24 : decode c_Md_find 24 = .ok (.iload_n 3, 1) := by decide +kernel
theorem d_Md_find_25 : decode c_Md_find 25 = .ok (.iaload, 1) := by decide +kernel
theorem d_Md_find_26 : decode c_Md_find 26 = .ok (.iload_n 2, 1) := by decide +kernel
theorem d_Md_find_27 : decode c_Md_find 27 = .ok (.if_icmp .ne 33, 3) := by decide +kernel
theorem d_Md_find_30 : decode c_Md_find 30 = .ok (.aload_n 0, 1) := by decide +kernel
theorem d_Md_find_31 : decode c_Md_find 31 = .ok (.getfield 19, 3) := by decide +kernel
theorem d_Md_find_34 : decode c_Md_find 34 = .ok (.iload_n 3, 1) := by decide +kernel
theorem d_Md_find_35 : decode c_Md_find 35 = .ok (.iaload, 1) := by decide +kernel
theorem d_Md_find_36 : decode c_Md_find 36 = .ok (.aload_n 0, 1) := by decide +kernel
theorem d_Md_find_37 : decode c_Md_find 37 = .ok (.getfield 93, 3) := by decide +kernel
theorem d_Md_find_40 : decode c_Md_find 40 = .ok (.if_icmp .ne 20, 3) := by decide +kernel
theorem d_Md_find_43 : decode c_Md_find 43 = .ok (.aload_n 0, 1) := by decide +kernel
theorem d_Md_find_44 : decode c_Md_find 44 = .ok (.getfield 25, 3) := by decide +kernel
theorem d_Md_find_47 : decode c_Md_find 47 = .ok (.iload_n 3, 1) := by decide +kernel
theorem d_Md_find_48 : decode c_Md_find 48 = .ok (.iaload, 1) := by decide +kernel
theorem d_Md_find_49 : decode c_Md_find 49 = .ok (.aload_n 0, 1) := by decide +kernel
theorem d_Md_find_50 : decode c_Md_find 50 = .ok (.getfield 96, 3) := by decide +kernel
theorem d_Md_find_53 : decode c_Md_find 53 = .ok (.if_icmp .ne 7, 3) := by decide +kernel
theorem d_Md_find_56 : decode c_Md_find 56 = .ok (.iconst 1, 1) := by decide +kernel
theorem d_Md_find_57 : decode c_Md_find 57 = .ok (.goto 4, 3) := by decide +kernel
theorem d_Md_find_60 : decode c_Md_find 60 = .ok (.iconst 0, 1) := by decide +kernel
theorem d_Md_find_61 : decode c_Md_find 61 = .ok (.istore 4, 2) := by decide +kernel
theorem d_Md_find_63 : decode c_Md_find 63 = .ok (.iconst 0, 1) := by decide +kernel
theorem d_Md_find_64 : decode c_Md_find 64 = .ok (.istore 5, 2) := by decide +kernel
theorem d_Md_find_66 : decode c_Md_find 66 = .ok (.iload 5, 2) := by decide +kernel
theorem d_Md_find_68 : decode c_Md_find 68 = .ok (.aload_n 0, 1) := by decide +kernel
theorem d_Md_find_69 : decode c_Md_find 69 = .ok (.getfield 93, 3) := by decide +kernel
theorem d_Md_find_72 : decode c_Md_find 72 = .ok (.if_icmp .ge 43, 3) := by decide +kernel
theorem d_Md_find_75 : decode c_Md_find 75 = .ok (.iload 4, 2) := by decide +kernel
theorem d_Md_find_77 : decode c_Md_find 77 = .ok (.ifCond .eq 38, 3) := by decide +kernel
theorem d_Md_find_80 : decode c_Md_find 80 = .ok (.aload_n 0, 1) := by decide +kernel
theorem d_Md_find_81 : decode c_Md_find 81 = .ok (.getfield 22, 3) := by decide +kernel
theorem d_Md_find_84 : decode c_Md_find 84 = .ok (.bipush 100, 2) := by decide +kernel
theorem d_Md_find_86 : decode c_Md_find 86 = .ok (.iload_n 3, 1) := by decide +kernel
theorem d_Md_find_87 : decode c_Md_find 87 = .ok (.imul, 1) := by decide +kernel
theorem d_Md_find_88 : decode c_Md_find 88 = .ok (.iload 5, 2) := by decide +kernel
theorem d_Md_find_90 : decode c_Md_find 90 = .ok (.iadd, 1) := by decide +kernel
theorem d_Md_find_91 : decode c_Md_find 91 = .ok (.iaload, 1) := by decide +kernel
theorem d_Md_find_92 : decode c_Md_find 92 = .ok (.aload_n 0, 1) := by decide +kernel
theorem d_Md_find_93 : decode c_Md_find 93 = .ok (.getfield 44, 3) := by decide +kernel
theorem d_Md_find_96 : decode c_Md_find 96 = .ok (.iload 5, 2) := by decide +kernel
theorem d_Md_find_98 : decode c_Md_find 98 = .ok (.iaload, 1) := by decide +kernel
theorem d_Md_find_99 : decode c_Md_find 99 = .ok (.if_icmp .ne 7, 3) := by decide +kernel
theorem d_Md_find_102 : decode c_Md_find 102 = .ok (.iconst 1, 1) := by decide +kernel
theorem d_Md_find_103 : decode c_Md_find 103 = .ok (.goto 4, 3) := by decide +kernel
theorem d_Md_find_106 : decode c_Md_find 106 = .ok (.iconst 0, 1) := by decide +kernel
theorem d_Md_find_107 : decode c_Md_find 107 = .ok (.istore 4, 2) := by decide +kernel
theorem d_Md_find_109 : decode c_Md_find 109 = .ok (.iinc 5 1, 3) := by decide +kernel
theorem d_Md_find_112 : decode c_Md_find 112 = .ok (.goto (-46), 3) := by decide +kernel
theorem d_Md_find_115 : decode c_Md_find 115 = .ok (.iconst 0, 1) := by decide +kernel
theorem d_Md_find_116 : decode c_Md_find 116 = .ok (.istore 5, 2) := by decide +kernel
theorem d_Md_find_118 : decode c_Md_find 118 = .ok (.iload 5, 2) := by decide +kernel
theorem d_Md_find_120 : decode c_Md_find 120 = .ok (.aload_n 0, 1) := by decide +kernel
theorem d_Md_find_121 : decode c_Md_find 121 = .ok (.getfield 96, 3) := by decide +kernel
theorem d_Md_find_124 : decode c_Md_find 124 = .ok (.if_icmp .ge 43, 3) := by decide +kernel
theorem d_Md_find_127 : decode c_Md_find 127 = .ok (.iload 4, 2) := by decide +kernel
theorem d_Md_find_129 : decode c_Md_find 129 = .ok (.ifCond .eq 38, 3) := by decide +kernel
theorem d_Md_find_132 : decode c_Md_find 132 = .ok (.aload_n 0, 1) := by decide +kernel
theorem d_Md_find_133 : decode c_Md_find 133 = .ok (.getfield 28, 3) := by decide +kernel
theorem d_Md_find_136 : decode c_Md_find 136 = .ok (.bipush 16, 2) := by decide +kernel
theorem d_Md_find_138 : decode c_Md_find 138 = .ok (.iload_n 3, 1) := by decide +kernel
theorem d_Md_find_139 : decode c_Md_find 139 = .ok (.imul, 1) := by decide +kernel
theorem d_Md_find_140 : decode c_Md_find 140 = .ok (.iload 5, 2) := by decide +kernel
theorem d_Md_find_142 : decode c_Md_find 142 = .ok (.iadd, 1) := by decide +kernel
theorem d_Md_find_143 : decode c_Md_find 143 = .ok (.iaload, 1) := by decide +kernel
theorem d_Md_find_144 : decode c_Md_find 144 = .ok (.aload_n 0, 1) := by decide +kernel
theorem d_Md_find_145 : decode c_Md_find 145 = .ok (.getfield 47, 3) := by decide +kernel
theorem d_Md_find_148 : decode c_Md_find 148 = .ok (.iload 5, 2) := by decide +kernel
theorem d_Md_find_150 : decode c_Md_find 150 = .ok (.iaload, 1) := by decide +kernel
theorem d_Md_find_151 : decode c_Md_find 151 = .ok (.if_icmp .ne 7, 3) := by decide +kernel
theorem d_Md_find_154 : decode c_Md_find 154 = .ok (.iconst 1, 1) := by decide +kernel
theorem d_Md_find_155 : decode c_Md_find 155 = .ok (.goto 4, 3) := by decide +kernel
theorem d_Md_find_158 : decode c_Md_find 158 = .ok (.iconst 0, 1) := by decide +kernel
theorem d_Md_find_159 : decode c_Md_find 159 = .ok (.istore 4, 2) := by decide +kernel
theorem d_Md_find_161 : decode c_Md_find 161 = .ok (.iinc 5 1, 3) := by decide +kernel
theorem d_Md_find_164 : decode c_Md_find 164 = .ok (.goto (-46), 3) := by decide +kernel
theorem d_Md_find_167 : decode c_Md_find 167 = .ok (.iload 4, 2) := by decide +kernel
theorem d_Md_find_169 : decode c_Md_find 169 = .ok (.ifCond .eq 5, 3) := by decide +kernel
theorem d_Md_find_172 : decode c_Md_find 172 = .ok (.iload_n 3, 1) := by decide +kernel
theorem d_Md_find_173 : decode c_Md_find 173 = .ok (.ireturn, 1) := by decide +kernel
theorem d_Md_find_174 : decode c_Md_find 174 = .ok (.iinc 3 1, 3) := by decide +kernel
theorem d_Md_find_177 : decode c_Md_find 177 = .ok (.goto (-175), 3) := by decide +kernel
theorem d_Md_find_180 : decode c_Md_find 180 = .ok (.iconst (-1), 1) := by decide +kernel
theorem d_Md_find_181 : decode c_Md_find 181 = .ok (.ireturn, 1) := by decide +kernel
theorem d_Md_resolve_0 : decode c_Md_resolve 0 = .ok (.aload_n 0, 1) := by decide +kernel
theorem d_Md_resolve_1 : decode c_Md_resolve 1 = .ok (.invokevirtual 171, 3) := by decide +kernel
theorem d_Md_resolve_4 : decode c_Md_resolve 4 = .ok (.istore_n 1, 1) := by decide +kernel
theorem d_Md_resolve_5 : decode c_Md_resolve 5 = .ok (.iload_n 1, 1) := by decide +kernel
theorem d_Md_resolve_6 : decode c_Md_resolve 6 = .ok (.ifCond .lt 13, 3) := by decide +kernel
theorem d_Md_resolve_9 : decode c_Md_resolve 9 = .ok (.aload_n 0, 1) := by decide +kernel
theorem d_Md_resolve_10 : decode c_Md_resolve 10 = .ok (.iconst 0, 1) := by decide +kernel
theorem d_Md_resolve_11 : decode c_Md_resolve 11 = .ok (.putfield 90, 3) := by decide +kernel
theorem d_Md_resolve_14 : decode c_Md_resolve 14 = .ok (.bipush (-10), 2) := by decide +kernel
theorem d_Md_resolve_16 : decode c_Md_resolve 16 = .ok (.iload_n 1, 1) := by decide +kernel
theorem d_Md_resolve_17 : decode c_Md_resolve 17 = .ok (.isub, 1) := by decide +kernel
theorem d_Md_resolve_18 : decode c_Md_resolve 18 = .ok (.ireturn, 1) := by decide +kernel
theorem d_Md_resolve_19 : decode c_Md_resolve 19 = .ok (.aload_n 0, 1) := by decide +kernel
theorem d_Md_resolve_20 : decode c_Md_resolve 20 = .ok (.iconst 0, 1) := by decide +kernel
theorem d_Md_resolve_21 : decode c_Md_resolve 21 = .ok (.putfield 93, 3) := by decide +kernel
theorem d_Md_resolve_24 : decode c_Md_resolve 24 = .ok (.aload_n 0, 1) := by decide +kernel
theorem d_Md_resolve_25 : decode c_Md_resolve 25 = .ok (.iconst 0, 1) := by decide +kernel
theorem d_Md_resolve_26 : decode c_Md_resolve 26 = .ok (.putfield 96, 3) := by decide +kernel
theorem d_Md_resolve_29 : decode c_Md_resolve 29 = .ok (.iconst 1, 1) := by decide +kernel
theorem d_Md_resolve_30 : decode c_Md_resolve 30 = .ok (.istore_n 2, 1) := by decide +kernel
theorem d_Md_resolve_31 : decode c_Md_resolve 31 = .ok (.aload_n 0, 1) := by decide +kernel
theorem d_Md_resolve_32 : decode c_Md_resolve 32 = .ok (.getfield 31, 3) := by decide +kernel
theorem d_Md_resolve_35 : decode c_Md_resolve 35 = .ok (.ifCond .lt 10, 3) := by decide +kernel
theorem d_Md_resolve_38 : decode c_Md_resolve 38 = .ok (.aload_n 0, 1) := by decide +kernel
theorem d_Md_resolve_39 : decode c_Md_resolve 39 = .ok (.invokevirtual 175, 3) := by decide +kernel
theorem d_Md_resolve_42 : decode c_Md_resolve 42 = .ok (.goto 68, 3) := by decide +kernel
theorem d_Md_resolve_45 : decode c_Md_resolve 45 = .ok (.aload_n 0, 1) := by decide +kernel
theorem d_Md_resolve_46 : decode c_Md_resolve 46 = .ok (.aload_n 0, 1) := by decide +kernel
theorem d_Md_resolve_47 : decode c_Md_resolve 47 = .ok (.getfield 90, 3) := by decide +kernel
theorem d_Md_resolve_50 : decode c_Md_resolve 50 = .ok (.putfield 109, 3) := by decide +kernel
theorem d_Md_resolve_53 : decode c_Md_resolve 53 = .ok (.iconst 0, 1) := by decide +kernel
theorem d_Md_resolve_54 : decode c_Md_resolve 54 = .ok (.istore_n 3, 1) := by decide +kernel
theorem d_Md_resolve_55 : decode c_Md_resolve 55 = .ok (.iload_n 3, 1) := by decide +kernel
theorem d_Md_resolve_56 : decode c_Md_resolve 56 = .ok (.aload_n 0, 1) := by decide +kernel
theorem d_Md_resolve_57 : decode c_Md_resolve 57 = .ok (.getfield 90, 3) := by decide +kernel
theorem d_Md_resolve_60 : decode c_Md_resolve 60 = .ok (.if_icmp .ge 31, 3) := by decide +kernel
theorem d_Md_resolve_63 : decode c_Md_resolve 63 = .ok (.aload_n 0, 1) := by decide +kernel
theorem d_Md_resolve_64 : decode c_Md_resolve 64 = .ok (.getfield 53, 3) := by decide +kernel
theorem d_Md_resolve_67 : decode c_Md_resolve 67 = .ok (.iload_n 3, 1) := by decide +kernel
theorem d_Md_resolve_68 : decode c_Md_resolve 68 = .ok (.aload_n 0, 1) := by decide +kernel
theorem d_Md_resolve_69 : decode c_Md_resolve 69 = .ok (.getfield 7, 3) := by decide +kernel
theorem d_Md_resolve_72 : decode c_Md_resolve 72 = .ok (.iload_n 3, 1) := by decide +kernel
theorem d_Md_resolve_73 : decode c_Md_resolve 73 = .ok (.iaload, 1) := by decide +kernel
theorem d_Md_resolve_74 : decode c_Md_resolve 74 = .ok (.iastore, 1) := by decide +kernel
theorem d_Md_resolve_75 : decode c_Md_resolve 75 = .ok (.aload_n 0, 1) := by decide +kernel
theorem d_Md_resolve_76 : decode c_Md_resolve 76 = .ok (.aload_n 0, 1) := by decide +kernel
theorem d_Md_resolve_77 : decode c_Md_resolve 77 = .ok (.getfield 7, 3) := by decide +kernel
theorem d_Md_resolve_80 : decode c_Md_resolve 80 = .ok (.iload_n 3, 1) := by decide +kernel
theorem d_Md_resolve_81 : decode c_Md_resolve 81 = .ok (.iaload, 1) := by decide +kernel
theorem d_Md_resolve_82 : decode c_Md_resolve 82 = .ok (.invokevirtual 146, 3) := by decide +kernel
theorem d_Md_resolve_85 : decode c_Md_resolve 85 = .ok (.iinc 3 1, 3) := by decide +kernel
theorem d_Md_resolve_88 : decode c_Md_resolve 88 = .ok (.goto (-33), 3) := by decide +kernel
theorem d_Md_resolve_91 : decode c_Md_resolve 91 = .ok (.aload_n 0, 1) := by decide +kernel
theorem d_Md_resolve_92 : decode c_Md_resolve 92 = .ok (.invokevirtual 123, 3) := by decide +kernel
theorem d_Md_resolve_95 : decode c_Md_resolve 95 = .ok (.aload_n 0, 1) := by decide +kernel
theorem d_Md_resolve_96 : decode c_Md_resolve 96 = .ok (.getfield 56, 3) := by decide +kernel
theorem d_Md_resolve_99 : decode c_Md_resolve 99 = .ok (.iconst 0, 1) := by decide +kernel
theorem d_Md_resolve_100 : decode c_Md_resolve 100 = .ok (.iaload, 1) := by decide +kernel
theorem d_Md_resolve_101 : decode c_Md_resolve 101 = .ok (.ifCond .lt 7, 3) := by decide +kernel
theorem d_Md_resolve_104 : decode c_Md_resolve 104 = .ok (.iconst 1, 1) := by decide +kernel
theorem d_Md_resolve_105 : decode c_Md_resolve 105 = .ok (.goto 4, 3) := by decide +kernel
theorem d_Md_resolve_108 : decode c_Md_resolve 108 = .ok (.iconst 0, 1) := by decide +kernel
theorem d_Md_resolve_109 : decode c_Md_resolve 109 = .ok (.istore_n 2, 1) := by decide +kernel
theorem d_Md_resolve_110 : decode c_Md_resolve 110 = .ok (.aload_n 0, 1) := by decide +kernel
theorem d_Md_resolve_111 : decode c_Md_resolve 111 = .ok (.iconst 0, 1) := by decide +kernel
theorem d_Md_resolve_112 : decode c_Md_resolve 112 = .ok (.putfield 90, 3) := by decide +kernel
theorem d_Md_resolve_115 : decode c_Md_resolve 115 = .ok (.iload_n 2, 1) := by decide +kernel
theorem d_Md_resolve_116 : decode c_Md_resolve 116 = .ok (.ifCond .ne 6, 3) := by decide +kernel
theorem d_Md_resolve_119 : decode c_Md_resolve 119 = .ok (.bipush (-2), 2) := by decide +kernel
theorem d_Md_resolve_121 : decode c_Md_resolve 121 = .ok (.ireturn, 1) := by decide +kernel
theorem d_Md_resolve_122 : decode c_Md_resolve 122 = .ok (.aload_n 0, 1) := by decide +kernel
theorem d_Md_resolve_123 : decode c_Md_resolve 123 = .ok (.getfield 93, 3) := by decide +kernel
theorem d_Md_resolve_126 : decode c_Md_resolve 126 = .ok (.bipush 100, 2) := by decide +kernel
theorem d_Md_resolve_128 : decode c_Md_resolve 128 = .ok (.if_icmp .le 8, 3) := by decide +kernel
theorem d_Md_resolve_131 : decode c_Md_resolve 131 = .ok (.bipush (-3), 2) := by decide +kernel
theorem d_Md_resolve_133 : decode c_Md_resolve 133 = .ok (.goto 9, 3) := by decide +kernel
theorem d_Md_resolve_136 : decode c_Md_resolve 136 = .ok (.aload_n 0, 1) := by decide +kernel
theorem d_Md_resolve_137 : decode c_Md_resolve 137 = .ok (.iconst 0, 1) := by decide +kernel
theorem d_Md_resolve_138 : decode c_Md_resolve 138 = .ok (.iconst 0, 1) := by decide +kernel
theorem d_Md_resolve_139 : decode c_Md_resolve 139 = .ok (.invokevirtual 106, 3) := by decide +kernel
theorem d_Md_resolve_142 : decode c_Md_resolve 142 = .ok (.ireturn, 1) := by decide +kernel
theorem d_Md_wrong_0 : decode c_Md_wrong 0 = .ok (.iconst 0, 1) := by decide +kernel
theorem d_Md_wrong_1 : decode c_Md_wrong 1 = .ok (.istore_n 1, 1) := by decide +kernel
theorem d_Md_wrong_2 : decode c_Md_wrong 2 = .ok (.iload_n 1, 1) := by decide +kernel
theorem d_Md_wrong_3 : decode c_Md_wrong 3 = .ok (.aload_n 0, 1) := by decide +kernel
theorem d_Md_wrong_4 : decode c_Md_wrong 4 = .ok (.getfield 90, 3) := by decide +kernel
theorem d_Md_wrong_7 : decode c_Md_wrong 7 = .ok (.if_icmp .ge 136, 3) := by decide +kernel
theorem d_Md_wrong_10 : decode c_Md_wrong 10 = .ok (.aload_n 0, 1) := by decide +kernel
theorem d_Md_wrong_11 : decode c_Md_wrong 11 = .ok (.getfield 7, 3) := by decide +kernel
theorem d_Md_wrong_14 : decode c_Md_wrong 14 = .ok (.iload_n 1, 1) := by decide +kernel
theorem d_Md_wrong_15 : decode c_Md_wrong 15 = .ok (.iaload, 1) := by decide +kernel
theorem d_Md_wrong_16 : decode c_Md_wrong 16 = .ok (.istore_n 2, 1) := by decide +kernel
theorem d_Md_wrong_17 : decode c_Md_wrong 17 = .ok (.iload_n 2, 1) := by decide +kernel
theorem d_Md_wrong_18 : decode c_Md_wrong 18 = .ok (.bipush 33, 2) := by decide +kernel
theorem d_Md_wrong_20 : decode c_Md_wrong 20 = .ok (.bipush 126, 2) := by decide +kernel
theorem d_Md_wrong_22 : decode c_Md_wrong 22 = .ok (.invokestatic 77, 3) := by decide +kernel
theorem d_Md_wrong_25 : decode c_Md_wrong 25 = .ok (.ifCond .eq 54, 3) := by decide +kernel
theorem d_Md_wrong_28 : decode c_Md_wrong 28 = .ok (.iload_n 2, 1) := by decide +kernel
theorem d_Md_wrong_29 : decode c_Md_wrong 29 = .ok (.bipush 34, 2) := by decide +kernel
theorem d_Md_wrong_31 : decode c_Md_wrong 31 = .ok (.if_icmp .eq 48, 3) := by decide +kernel
theorem d_Md_wrong_34 : decode c_Md_wrong 34 = .ok (.iload_n 2, 1) := by decide +kernel
theorem d_Md_wrong_35 : decode c_Md_wrong 35 = .ok (.bipush 60, 2) := by decide +kernel
theorem d_Md_wrong_37 : decode c_Md_wrong 37 = .ok (.if_icmp .eq 42, 3) := by decide +kernel
theorem d_Md_wrong_40 : decode c_Md_wrong 40 = .ok (.iload_n 2, 1) := by decide +kernel
theorem d_Md_wrong_41 : decode c_Md_wrong 41 = .ok (.bipush 62, 2) := by decide +kernel
theorem d_Md_wrong_43 : decode c_Md_wrong 43 = .ok (.if_icmp .eq 36, 3) := by decide +kernel
theorem d_Md_wrong_46 : decode c_Md_wrong 46 = .ok (.iload_n 2, 1) := by decide +kernel
theorem d_Md_wrong_47 : decode c_Md_wrong 47 = .ok (.bipush 92, 2) := by decide +kernel
theorem d_Md_wrong_49 : decode c_Md_wrong 49 = .ok (.if_icmp .eq 30, 3) := by decide +kernel
theorem d_Md_wrong_52 : decode c_Md_wrong 52 = .ok (.iload_n 2, 1) := by decide +kernel
theorem d_Md_wrong_53 : decode c_Md_wrong 53 = .ok (.bipush 94, 2) := by decide +kernel
theorem d_Md_wrong_55 : decode c_Md_wrong 55 = .ok (.if_icmp .eq 24, 3) := by decide +kernel
theorem d_Md_wrong_58 : decode c_Md_wrong 58 = .ok (.iload_n 2, 1) := by decide +kernel
theorem d_Md_wrong_59 : decode c_Md_wrong 59 = .ok (.bipush 96, 2) := by decide +kernel
theorem d_Md_wrong_61 : decode c_Md_wrong 61 = .ok (.if_icmp .eq 18, 3) := by decide +kernel
theorem d_Md_wrong_64 : decode c_Md_wrong 64 = .ok (.iload_n 2, 1) := by decide +kernel
theorem d_Md_wrong_65 : decode c_Md_wrong 65 = .ok (.bipush 123, 2) := by decide +kernel
theorem d_Md_wrong_67 : decode c_Md_wrong 67 = .ok (.bipush 125, 2) := by decide +kernel
theorem d_Md_wrong_69 : decode c_Md_wrong 69 = .ok (.invokestatic 77, 3) := by decide +kernel
theorem d_Md_wrong_72 : decode c_Md_wrong 72 = .ok (.ifCond .ne 7, 3) := by decide +kernel
theorem d_Md_wrong_75 : decode c_Md_wrong 75 = .ok (.iconst 1, 1) := by decide +kernel
theorem d_Md_wrong_76 : decode c_Md_wrong 76 = .ok (.goto 4, 3) := by decide +kernel
theorem d_Md_wrong_79 : decode c_Md_wrong 79 = .ok (.iconst 0, 1) := by decide +kernel
theorem d_Md_wrong_80 : decode c_Md_wrong 80 = .ok (.istore_n 3, 1) := by decide +kernel
theorem d_Md_wrong_81 : decode c_Md_wrong 81 = .ok (.iload_n 2, 1) := by decide +kernel
theorem d_Md_wrong_82 : decode c_Md_wrong 82 = .ok (.bipush 37, 2) := by decide +kernel
theorem d_Md_wrong_84 : decode c_Md_wrong 84 = .ok (.if_icmp .ne 47, 3) := by decide +kernel
theorem d_Md_wrong_87 : decode c_Md_wrong 87 = .ok (.iload_n 1, 1) := by decide +kernel
theorem d_Md_wrong_88 : decode c_Md_wrong 88 = .ok (.iconst 2, 1) := by decide +kernel
theorem d_Md_wrong_89 : decode c_Md_wrong 89 = .ok (.iadd, 1) := by decide +kernel
theorem d_Md_wrong_90 : decode c_Md_wrong 90 = .ok (.aload_n 0, 1) := by decide +kernel
theorem d_Md_wrong_91 : decode c_Md_wrong 91 = .ok (.getfield 90, 3) := by decide +kernel
theorem d_Md_wrong_94 : decode c_Md_wrong 94 = .ok (.if_icmp .ge 35, 3) := by decide +kernel
theorem d_Md_wrong_97 : decode c_Md_wrong 97 = .ok (.aload_n 0, 1) := by decide +kernel
theorem d_Md_wrong_98 : decode c_Md_wrong 98 = .ok (.getfield 7, 3) := by decide +kernel
theorem d_Md_wrong_101 : decode c_Md_wrong 101 = .ok (.iload_n 1, 1) := by decide +kernel
theorem d_Md_wrong_102 : decode c_Md_wrong 102 = .ok (.iconst 1, 1) := by decide +kernel
theorem d_Md_wrong_103 : decode c_Md_wrong 103 = .ok (.iadd, 1) := by decide +kernel
theorem d_Md_wrong_104 : decode c_Md_wrong 104 = .ok (.iaload, 1) := by decide +kernel
theorem d_Md_wrong_105 : decode c_Md_wrong 105 = .ok (.invokestatic 126, 3) := by decide +kernel
theorem d_Md_wrong_108 : decode c_Md_wrong 108 = .ok (.ifCond .lt 21, 3) := by decide +kernel
theorem d_Md_wrong_111 : decode c_Md_wrong 111 = .ok (.aload_n 0, 1) := by decide +kernel
theorem d_Md_wrong_112 : decode c_Md_wrong 112 = .ok (.getfield 7, 3) := by decide +kernel
theorem d_Md_wrong_115 : decode c_Md_wrong 115 = .ok (.iload_n 1, 1) := by decide +kernel
theorem d_Md_wrong_116 : decode c_Md_wrong 116 = .ok (.iconst 2, 1) := by decide +kernel
theorem d_Md_wrong_117 : decode c_Md_wrong 117 = .ok (.iadd, 1) := by decide +kernel
theorem d_Md_wrong_118 : decode c_Md_wrong 118 = .ok (.iaload, 1) := by decide +kernel
theorem d_Md_wrong_119 : decode c_Md_wrong 119 = .ok (.invokestatic 126, 3) := by decide +kernel
theorem d_Md_wrong_122 : decode c_Md_wrong 122 = .ok (.ifCond .lt 7, 3) := by decide +kernel
theorem d_Md_wrong_125 : decode c_Md_wrong 125 = .ok (.iconst 1, 1) := by decide +kernel
theorem d_Md_wrong_126 : decode c_Md_wrong 126 = .ok (.goto 4, 3) := by decide +kernel
theorem d_Md_wrong_129 : decode c_Md_wrong 129 = .ok (.iconst 0, 1) := by decide +kernel
theorem d_Md_wrong_130 : decode c_Md_wrong 130 = .ok (.istore_n 3, 1) := by decide +kernel
theorem d_Md_wrong_131 : decode c_Md_wrong 131 = .ok (.iload_n 3, 1) := by decide +kernel
theorem d_Md_wrong_132 : decode c_Md_wrong 132 = .ok (.ifCond .ne 5, 3) := by decide +kernel
theorem d_Md_wrong_135 : decode c_Md_wrong 135 = .ok (.iload_n 1, 1) := by decide +kernel
theorem d_Md_wrong_136 : decode c_Md_wrong 136 = .ok (.ireturn, 1) := by decide +kernel
theorem d_Md_wrong_137 : decode c_Md_wrong 137 = .ok (.iinc 1 1, 3) := by decide +kernel
theorem d_Md_wrong_140 : decode c_Md_wrong 140 = .ok (.goto (-138), 3) := by decide +kernel
theorem d_Md_wrong_143 : decode c_Md_wrong 143 = .ok (.iconst (-1), 1) := by decide +kernel
theorem d_Md_wrong_144 : decode c_Md_wrong 144 = .ok (.ireturn, 1) := by decide +kernel
theorem d_Md_hex_0 : decode c_Md_hex 0 = .ok (.iload_n 0, 1) := by decide +kernel
theorem d_Md_hex_1 : decode c_Md_hex 1 = .ok (.invokestatic 85, 3) := by decide +kernel
theorem d_Md_hex_4 : decode c_Md_hex 4 = .ok (.ifCond .eq 10, 3) := by decide +kernel
theorem d_Md_hex_7 : decode c_Md_hex 7 = .ok (.iload_n 0, 1) := by decide +kernel
theorem d_Md_hex_8 : decode c_Md_hex 8 = .ok (.bipush 48, 2) := by decide +kernel
theorem d_Md_hex_10 : decode c_Md_hex 10 = .ok (.isub, 1) := by decide +kernel
theorem d_Md_hex_11 : decode c_Md_hex 11 = .ok (.goto 46, 3) := by decide +kernel
theorem d_Md_hex_14 : decode c_Md_hex 14 = .ok (.iload_n 0, 1) := by decide +kernel
theorem d_Md_hex_15 : decode c_Md_hex 15 = .ok (.bipush 97, 2) := by decide +kernel
theorem d_Md_hex_17 : decode c_Md_hex 17 = .ok (.bipush 102, 2) := by decide +kernel
theorem d_Md_hex_19 : decode c_Md_hex 19 = .ok (.invokestatic 77, 3) := by decide +kernel
theorem d_Md_hex_22 : decode c_Md_hex 22 = .ok (.ifCond .eq 13, 3) := by decide +kernel
theorem d_Md_hex_25 : decode c_Md_hex 25 = .ok (.iload_n 0, 1) := by decide +kernel
theorem d_Md_hex_26 : decode c_Md_hex 26 = .ok (.bipush 97, 2) := by decide +kernel
theorem d_Md_hex_28 : decode c_Md_hex 28 = .ok (.isub, 1) := by decide +kernel
theorem d_Md_hex_29 : decode c_Md_hex 29 = .ok (.bipush 10, 2) := by decide +kernel
theorem d_Md_hex_31 : decode c_Md_hex 31 = .ok (.iadd, 1) := by decide +kernel
theorem d_Md_hex_32 : decode c_Md_hex 32 = .ok (.goto 25, 3) := by decide +kernel
theorem d_Md_hex_35 : decode c_Md_hex 35 = .ok (.iload_n 0, 1) := by decide +kernel
theorem d_Md_hex_36 : decode c_Md_hex 36 = .ok (.bipush 65, 2) := by decide +kernel
theorem d_Md_hex_38 : decode c_Md_hex 38 = .ok (.bipush 70, 2) := by decide +kernel
theorem d_Md_hex_40 : decode c_Md_hex 40 = .ok (.invokestatic 77, 3) := by decide +kernel
theorem d_Md_hex_43 : decode c_Md_hex 43 = .ok (.ifCond .eq 13, 3) := by decide +kernel
theorem d_Md_hex_46 : decode c_Md_hex 46 = .ok (.iload_n 0, 1) := by decide +kernel
theorem d_Md_hex_47 : decode c_Md_hex 47 = .ok (.bipush 65, 2) := by decide +kernel
theorem d_Md_hex_49 : decode c_Md_hex 49 = .ok (.isub, 1) := by decide +kernel
theorem d_Md_hex_50 : decode c_Md_hex 50 = .ok (.bipush 10, 2) := by decide +kernel
theorem d_Md_hex_52 : decode c_Md_hex 52 = .ok (.iadd, 1) := by decide +kernel
theorem d_Md_hex_53 : decode c_Md_hex 53 = .ok (.goto 4, 3) := by decide +kernel
theorem d_Md_hex_56 : decode c_Md_hex 56 = .ok (.iconst (-1), 1) := by decide +kernel
theorem d_Md_hex_57 : decode c_Md_hex 57 = .ok (.ireturn, 1) := by decide +kernel
theorem d_Md_isDigit_0 : decode c_Md_isDigit 0 = .ok (.iload_n 0, 1) := by decide +kernel
theorem d_Md_isDigit_1 : decode c_Md_isDigit 1 = .ok (.bipush 48, 2) := by decide +kernel
theorem d_Md_isDigit_3 : decode c_Md_isDigit 3 = .ok (.bipush 57, 2) := by decide +kernel
theorem d_Md_isDigit_5 : decode c_Md_isDigit 5 = .ok (.invokestatic 77, 3) := by decide +kernel
theorem d_Md_isDigit_8 : decode c_Md_isDigit 8 = .ok (.ireturn, 1) := by decide +kernel
