theorem d_At_sort_0 : decode c_At_sort 0 = .ok (.aload_n 0, 1) := by decide +kernel
theorem d_At_sort_1 : decode c_At_sort 1 = .ok (.iload_n 1, 1) := by decide +kernel
theorem d_At_sort_2 : decode c_At_sort 2 = .ok (.invokevirtual 128, 3) := by decide +kernel
theorem d_At_sort_5 : decode c_At_sort 5 = .ok (.astore_n 2, 1) := by decide +kernel
theorem d_At_sort_6 : decode c_At_sort 6 = .ok (.aload_n 2, 1) := by decide +kernel
theorem d_At_sort_7 : decode c_At_sort 7 = .ok (.ifnonnull 7, 3) := by decide +kernel
theorem d_At_sort_10 : decode c_At_sort 10 = .ok (.iconst (-1), 1) := by decide +kernel
theorem d_At_sort_11 : decode c_At_sort 11 = .ok (.goto 7, 3) := by decide +kernel
theorem d_At_sort_14 : decode c_At_sort 14 = .ok (.aload_n 2, 1) := by decide +kernel
theorem d_At_sort_15 : decode c_At_sort 15 = .ok (.getfield 131, 3) := by decide +kernel
theorem d_At_sort_18 : decode c_At_sort 18 = .ok (.ireturn, 1) := by decide +kernel
theorem d_At_alike_0 : decode c_At_alike 0 = .ok (.aload_n 0, 1) := by decide +kernel
theorem d_At_alike_1 : decode c_At_alike 1 = .ok (.iload_n 1, 1) := by decide +kernel
theorem d_At_alike_2 : decode c_At_alike 2 = .ok (.invokevirtual 122, 3) := by decide +kernel
theorem d_At_alike_5 : decode c_At_alike 5 = .ok (.astore_n 3, 1) := by decide +kernel
theorem d_At_alike_6 : decode c_At_alike 6 = .ok (.aload_n 0, 1) := by decide +kernel
theorem d_At_alike_7 : decode c_At_alike 7 = .ok (.iload_n 2, 1) := by decide +kernel
theorem d_At_alike_8 : decode c_At_alike 8 = .ok (.invokevirtual 122, 3) := by decide +kernel
theorem d_At_alike_11 : decode c_At_alike 11 = .ok (.astore 4, 2) := by decide +kernel
theorem d_At_alike_13 : decode c_At_alike 13 = .ok (.aload_n 3, 1) := by decide +kernel
theorem d_At_alike_14 : decode c_At_alike 14 = .ok (.ifnull 8, 3) := by decide +kernel
theorem d_At_alike_17 : decode c_At_alike 17 = .ok (.aload 4, 2) := by decide +kernel
theorem d_At_alike_19 : decode c_At_alike 19 = .ok (.ifnonnull 5, 3) := by decide +kernel
theorem d_At_alike_22 : decode c_At_alike 22 = .ok (.iconst (-1), 1) := by decide +kernel
theorem d_At_alike_23 : decode c_At_alike 23 = .ok (.ireturn, 1) := by decide +kernel
theorem d_At_alike_24 : decode c_At_alike 24 = .ok (.iload_n 1, 1) := by decide +kernel
theorem d_At_alike_25 : decode c_At_alike 25 = .ok (.iload_n 2, 1) := by decide +kernel
theorem d_At_alike_26 : decode c_At_alike 26 = .ok (.if_icmp .eq 12, 3) := by decide +kernel
theorem d_At_alike_29 : decode c_At_alike 29 = .ok (.aload_n 3, 1) := by decide +kernel
theorem d_At_alike_30 : decode c_At_alike 30 = .ok (.aload 4, 2) := by decide +kernel
theorem d_At_alike_32 : decode c_At_alike 32 = .ok (.invokestatic 134, 3) := by decide +kernel
theorem d_At_alike_35 : decode c_At_alike 35 = .ok (.ifCond .eq 7, 3) := by decide +kernel
theorem d_At_alike_38 : decode c_At_alike 38 = .ok (.iconst 1, 1) := by decide +kernel
theorem d_At_alike_39 : decode c_At_alike 39 = .ok (.goto 4, 3) := by decide +kernel
theorem d_At_alike_42 : decode c_At_alike 42 = .ok (.iconst 0, 1) := by decide +kernel
theorem d_At_alike_43 : decode c_At_alike 43 = .ok (.ireturn, 1) := by decide +kernel
theorem d_At_haveSameValue_0 : decode c_At_haveSameValue 0 = .ok (.aload_n 0, 1) := by decide +kernel
theorem d_At_haveSameValue_1 : decode c_At_haveSameValue 1 = .ok (.getfield 125, 3) := by decide +kernel
theorem d_At_haveSameValue_4 : decode c_At_haveSameValue 4 = .ok (.iconst 2, 1) := by decide +kernel
theorem d_At_haveSameValue_5 : decode c_At_haveSameValue 5 = .ok (.if_icmp .ne 22, 3) := by decide +kernel
theorem d_At_haveSameValue_8 : decode c_At_haveSameValue 8 = .ok (.aload_n 1, 1) := by decide +kernel
theorem d_At_haveSameValue_9 : decode c_At_haveSameValue 9 = .ok (.getfield 125, 3) := by decide +kernel
theorem d_At_haveSameValue_12 : decode c_At_haveSameValue 12 = .ok (.iconst 2, 1) := by decide +kernel
theorem d_At_haveSameValue_13 : decode c_At_haveSameValue 13 = .ok (.if_icmp .ne 14, 3) := by decide +kernel
theorem d_At_haveSameValue_16 : decode c_At_haveSameValue 16 = .ok (.aload_n 0, 1) := by decide +kernel
theorem d_At_haveSameValue_17 : decode c_At_haveSameValue 17 = .ok (.getfield 131, 3) := by decide +kernel
theorem d_At_haveSameValue_20 : decode c_At_haveSameValue 20 = .ok (.aload_n 1, 1) := by decide +kernel
theorem d_At_haveSameValue_21 : decode c_At_haveSameValue 21 = .ok (.getfield 131, 3) := by decide +kernel
theorem d_At_haveSameValue_24 : decode c_At_haveSameValue 24 = .ok (.if_icmp .eq 5, 3) := by decide +kernel
theorem d_At_haveSameValue_27 : decode c_At_haveSameValue 27 = .ok (.iconst 0, 1) := by decide +kernel
theorem d_At_haveSameValue_28 : decode c_At_haveSameValue 28 = .ok (.ireturn, 1) := by decide +kernel
theorem d_At_haveSameValue_29 : decode c_At_haveSameValue 29 = .ok (.aload_n 0, 1) := by decide +kernel
theorem d_At_haveSameValue_30 : decode c_At_haveSameValue 30 = .ok (.getfield 131, 3) := by decide +kernel
theorem d_At_haveSameValue_33 : decode c_At_haveSameValue 33 = .ok (.iconst 2, 1) := by decide +kernel
theorem d_At_haveSameValue_34 : decode c_At_haveSameValue 34 = .ok (.if_icmp .ne 47, 3) := by decide +kernel
theorem d_At_haveSameValue_37 : decode c_At_haveSameValue 37 = .ok (.aload_n 0, 1) := by decide +kernel
theorem d_At_haveSameValue_38 : decode c_At_haveSameValue 38 = .ok (.getfield 109, 3) := by decide +kernel
theorem d_At_haveSameValue_41 : decode c_At_haveSameValue 41 = .ok (.invokestatic 286, 3) := by decide +kernel
theorem d_At_haveSameValue_44 : decode c_At_haveSameValue 44 = .ok (.ifCond .eq 35, 3) := by decide +kernel
theorem d_At_haveSameValue_47 : decode c_At_haveSameValue 47 = .ok (.aload_n 1, 1) := by decide +kernel
theorem d_At_haveSameValue_48 : decode c_At_haveSameValue 48 = .ok (.getfield 109, 3) := by decide +kernel
theorem d_At_haveSameValue_51 : decode c_At_haveSameValue 51 = .ok (.invokestatic 286, 3) := by decide +kernel
theorem d_At_haveSameValue_54 : decode c_At_haveSameValue 54 = .ok (.ifCond .eq 25, 3) := by decide +kernel
theorem d_At_haveSameValue_57 : decode c_At_haveSameValue 57 = .ok (.aload_n 0, 1) := by decide +kernel
theorem d_At_haveSameValue_58 : decode c_At_haveSameValue 58 = .ok (.getfield 109, 3) := by decide +kernel
theorem d_At_haveSameValue_61 : decode c_At_haveSameValue 61 = .ok (.invokestatic 289, 3) := by decide +kernel
theorem d_At_haveSameValue_64 : decode c_At_haveSameValue 64 = .ok (.aload_n 1, 1) := by decide +kernel
theorem d_At_haveSameValue_65 : decode c_At_haveSameValue 65 = .ok (.getfield 109, 3) := by decide +kernel
theorem d_At_haveSameValue_68 : decode c_At_haveSameValue 68 = .ok (.invokestatic 289, 3) := by decide +kernel
theorem d_At_haveSameValue_71 : decode c_At_haveSameValue 71 = .ok (.lcmp, 1) := by decide +kernel
theorem d_At_haveSameValue_72 : decode c_At_haveSameValue 72 = .ok (.ifCond .ne 7, 3) := by decide +kernel
theorem d_At_haveSameValue_75 : decode c_At_haveSameValue 75 = .ok (.iconst 1, 1) := by decide +kernel
theorem d_At_haveSameValue_76 : decode c_At_haveSameValue 76 = .ok (.goto 4, 3) := by decide +kernel
theorem d_At_haveSameValue_79 : decode c_At_haveSameValue 79 = .ok (.iconst 0, 1) := by decide +kernel
theorem d_At_haveSameValue_80 : decode c_At_haveSameValue 80 = .ok (.ireturn, 1) := by decide +kernel
theorem d_At_haveSameValue_81 : decode c_At_haveSameValue 81 = .ok (.aload_n 0, 1) := by decide +kernel
theorem d_At_haveSameValue_82 : decode c_At_haveSameValue 82 = .ok (.getfield 131, 3) := by decide +kernel
theorem d_At_haveSameValue_85 : decode c_At_haveSameValue 85 = .ok (.iconst 3, 1) := by decide +kernel
theorem d_At_haveSameValue_86 : decode c_At_haveSameValue 86 = .ok (.if_icmp .ne 49, 3) := by decide +kernel
theorem d_At_haveSameValue_89 : decode c_At_haveSameValue 89 = .ok (.aload_n 0, 1) := by decide +kernel
theorem d_At_haveSameValue_90 : decode c_At_haveSameValue 90 = .ok (.getfield 109, 3) := by decide +kernel
theorem d_At_haveSameValue_93 : decode c_At_haveSameValue 93 = .ok (.invokestatic 293, 3) := by decide +kernel
theorem d_At_haveSameValue_96 : decode c_At_haveSameValue 96 = .ok (.ifCond .eq 13, 3) := by decide +kernel
theorem d_At_haveSameValue_99 : decode c_At_haveSameValue 99 = .ok (.aload_n 1, 1) := by decide +kernel
theorem d_At_haveSameValue_100 : decode c_At_haveSameValue 100 = .ok (.getfield 109, 3) := by decide +kernel
theorem d_At_haveSameValue_103 : decode c_At_haveSameValue 103 = .ok (.invokestatic 293, 3) := by decide +kernel
theorem d_At_haveSameValue_106 : decode c_At_haveSameValue 106 = .ok (.ifCond .ne 23, 3) := by decide +kernel
theorem d_At_haveSameValue_109 : decode c_At_haveSameValue 109 = .ok (.aload_n 0, 1) := by decide +kernel
theorem d_At_haveSameValue_110 : decode c_At_haveSameValue 110 = .ok (.getfield 109, 3) := by decide +kernel
theorem d_At_haveSameValue_113 : decode c_At_haveSameValue 113 = .ok (.invokestatic 296, 3) := by decide +kernel
theorem d_At_haveSameValue_116 : decode c_At_haveSameValue 116 = .ok (.ifCond .eq 17, 3) := by decide +kernel
theorem d_At_haveSameValue_119 : decode c_At_haveSameValue 119 = .ok (.aload_n 1, 1) := by decide +kernel
theorem d_At_haveSameValue_120 : decode c_At_haveSameValue 120 = .ok (.getfield 109, 3) := by decide +kernel
theorem d_At_haveSameValue_123 : decode c_At_haveSameValue 123 = .ok (.invokestatic 296, 3) := by decide +kernel
theorem d_At_haveSameValue_126 : decode c_At_haveSameValue 126 = .ok (.ifCond .eq 7, 3) := by decide +kernel
theorem d_At_haveSameValue_129 : decode c_At_haveSameValue 129 = .ok (.iconst 1, 1) := by decide +kernel
theorem d_At_haveSameValue_130 : decode c_At_haveSameValue 130 = .ok (.goto 4, 3) := by decide +kernel
theorem d_At_haveSameValue_133 : decode c_At_haveSameValue 133 = .ok (.iconst 0, 1) := by decide +kernel
theorem d_At_haveSameValue_134 : decode c_At_haveSameValue 134 = .ok (.ireturn, 1) := by decide +kernel
theorem d_At_haveSameValue_135 : decode c_At_haveSameValue 135 = .ok (.iconst 0, 1) := by decide +kernel
theorem d_At_haveSameValue_136 : decode c_At_haveSameValue 136 = .ok (.ireturn, 1) := by decide +kernel
theorem d_At_isWhole_0 : decode c_At_isWhole 0 = .ok (.aload_n 0, 1) := by decide +kernel
theorem d_At_isWhole_1 : decode c_At_isWhole 1 = .ok (.invokevirtual 75, 3) := by decide +kernel
theorem d_At_isWhole_4 : decode c_At_isWhole 4 = .ok (.aload_n 0, 1) := by decide +kernel
theorem d_At_isWhole_5 : decode c_At_isWhole 5 = .ok (.invokestatic 311, 3) := by decide +kernel
theorem d_At_isWhole_8 : decode c_At_isWhole 8 = .ok (.isub, 1) := by decide +kernel
theorem d_At_isWhole_9 : decode c_At_isWhole 9 = .ok (.istore_n 1, 1) := by decide +kernel
theorem d_At_isWhole_10 : decode c_At_isWhole 10 = .ok (.iload_n 1, 1) := by decide +kernel
theorem d_At_isWhole_11 : decode c_At_isWhole 11 = .ok (.iconst 1, 1) := by decide +kernel
theorem d_At_isWhole_12 : decode c_At_isWhole 12 = .ok (.if_icmp .lt 9, 3) := by decide +kernel
theorem d_At_isWhole_15 : decode c_At_isWhole 15 = .ok (.iload_n 1, 1) := by decide +kernel
theorem d_At_isWhole_16 : decode c_At_isWhole 16 = .ok (.bipush 18, 2) := by decide +kernel
theorem d_At_isWhole_18 : decode c_At_isWhole 18 = .ok (.if_icmp .le 5, 3) := by decide +kernel
theorem d_At_isWhole_21 : decode c_At_isWhole 21 = .ok (.iconst 0, 1) := by decide +kernel
theorem d_At_isWhole_22 : decode c_At_isWhole 22 = .ok (.ireturn, 1) := by decide +kernel
theorem d_At_isWhole_23 : decode c_At_isWhole 23 = .ok (.aload_n 0, 1) := by decide +kernel
theorem d_At_isWhole_24 : decode c_At_isWhole 24 = .ok (.invokestatic 311, 3) := by decide +kernel
theorem d_At_isWhole_27 : decode c_At_isWhole 27 = .ok (.istore_n 2, 1) := by decide +kernel
theorem d_At_isWhole_28 : decode c_At_isWhole 28 = .ok (.iload_n 2, 1) := by decide +kernel
theorem d_At_isWhole_29 : decode c_At_isWhole 29 = .ok (.aload_n 0, 1) := by decide +kernel
theorem d_At_isWhole_30 : decode c_At_isWhole 30 = .ok (.invokevirtual 75, 3) := by decide +kernel
theorem d_At_isWhole_33 : decode c_At_isWhole 33 = .ok (.if_icmp .ge 22, 3) := by decide +kernel
theorem d_At_isWhole_36 : decode c_At_isWhole 36 = .ok (.aload_n 0, 1) := by decide +kernel
theorem d_At_isWhole_37 : decode c_At_isWhole 37 = .ok (.iload_n 2, 1) := by decide +kernel
theorem d_At_isWhole_38 : decode c_At_isWhole 38 = .ok (.invokevirtual 162, 3) := by decide +kernel
theorem d_At_isWhole_41 : decode c_At_isWhole 41 = .ok (.invokestatic 264, 3) := by decide +kernel
theorem d_At_isWhole_44 : decode c_At_isWhole 44 = .ok (.ifCond .ne 5, 3) := by decide +kernel
theorem d_At_isWhole_47 : decode c_At_isWhole 47 = .ok (.iconst 0, 1) := by decide +kernel
theorem d_At_isWhole_48 : decode c_At_isWhole 48 = .ok (.ireturn, 1) := by decide +kernel
theorem d_At_isWhole_49 : decode c_At_isWhole 49 = .ok (.iinc 2 1, 3) := by decide +kernel
theorem d_At_isWhole_52 : decode c_At_isWhole 52 = .ok (.goto (-24), 3) := by decide +kernel
theorem d_At_isWhole_55 : decode c_At_isWhole 55 = .ok (.iconst 1, 1) := by decide +kernel
theorem d_At_isWhole_56 : decode c_At_isWhole 56 = .ok (.ireturn, 1) := by decide +kernel
theorem d_At_signLength_0 : decode c_At_signLength 0 = .ok (.aload_n 0, 1) := by decide +kernel
theorem d_At_signLength_1 : decode c_At_signLength 1 = .ok (.iconst 0, 1) := by decide +kernel
theorem d_At_signLength_2 : decode c_At_signLength 2 = .ok (.invokevirtual 162, 3) := by decide +kernel
theorem d_At_signLength_5 : decode c_At_signLength 5 = .ok (.bipush 43, 2) := by decide +kernel
theorem d_At_signLength_7 : decode c_At_signLength 7 = .ok (.if_icmp .eq 13, 3) := by decide +kernel
theorem d_At_signLength_10 : decode c_At_signLength 10 = .ok (.aload_n 0, 1) := by decide +kernel
theorem d_At_signLength_11 : decode c_At_signLength 11 = .ok (.iconst 0, 1) := by decide +kernel
theorem d_At_signLength_12 : decode c_At_signLength 12 = .ok (.invokevirtual 162, 3) := by decide +kernel
theorem d_At_signLength_15 : decode c_At_signLength 15 = .ok (.bipush 45, 2) := by decide +kernel
theorem d_At_signLength_17 : decode c_At_signLength 17 = .ok (.if_icmp .ne 7, 3) := by decide +kernel
theorem d_At_signLength_20 : decode c_At_signLength 20 = .ok (.iconst 1, 1) := by decide +kernel
theorem d_At_signLength_21 : decode c_At_signLength 21 = .ok (.goto 4, 3) := by decide +kernel
theorem d_At_signLength_24 : decode c_At_signLength 24 = .ok (.iconst 0, 1) := by decide +kernel
theorem d_At_signLength_25 : decode c_At_signLength 25 = .ok (.ireturn, 1) := by decide +kernel
theorem d_At_wholeValue_0 : decode c_At_wholeValue 0 = .ok (.lconst 0, 1) := by decide +kernel
theorem d_At_wholeValue_1 : decode c_At_wholeValue 1 = .ok (.lstore_n 1, 1) := by decide +kernel
theorem d_At_wholeValue_2 : decode c_At_wholeValue 2 = .ok (.aload_n 0, 1) := by decide +kernel
theorem d_At_wholeValue_3 : decode c_At_wholeValue 3 = .ok (.invokestatic 311, 3) := by decide +kernel
theorem d_At_wholeValue_6 : decode c_At_wholeValue 6 = .ok (.istore_n 3, 1) := by decide +kernel
theorem d_At_wholeValue_7 : decode c_At_wholeValue 7 = .ok (.iload_n 3, 1) := by decide +kernel
theorem d_At_wholeValue_8 : decode c_At_wholeValue 8 = .ok (.aload_n 0, 1) := by decide +kernel
theorem d_At_wholeValue_9 : decode c_At_wholeValue 9 = .ok (.invokevirtual 75, 3) := by decide +kernel
theorem d_At_wholeValue_12 : decode c_At_wholeValue 12 = .ok (.if_icmp .ge 25, 3) := by decide +kernel
theorem d_At_wholeValue_15 : decode c_At_wholeValue 15 = .ok (.lload_n 1, 1) := by decide +kernel
theorem d_At_wholeValue_16 : decode c_At_wholeValue 16 = .ok (.ldc2_w 314, 3) := by decide +kernel
theorem d_At_wholeValue_19 : decode c_At_wholeValue 19 = .ok (.lmul, 1) := by decide +kernel
theorem d_At_wholeValue_20 : decode c_At_wholeValue 20 = .ok (.aload_n 0, 1) := by decide +kernel
theorem d_At_wholeValue_21 : decode c_At_wholeValue 21 = .ok (.iload_n 3, 1) := by decide +kernel
theorem d_At_wholeValue_22 : decode c_At_wholeValue 22 = .ok (.invokevirtual 162, 3) := by decide +kernel
theorem d_At_wholeValue_25 : decode c_At_wholeValue 25 = .ok (.bipush 48, 2) := by decide +kernel
theorem d_At_wholeValue_27 : decode c_At_wholeValue 27 = .ok (.isub, 1) := by decide +kernel
theorem d_At_wholeValue_28 : decode c_At_wholeValue 28 = .ok (.i2l, 1) := by decide +kernel
theorem d_At_wholeValue_29 : decode c_At_wholeValue 29 = .ok (.ladd, 1) := by decide +kernel
theorem d_At_wholeValue_30 : decode c_At_wholeValue 30 = .ok (.lstore_n 1, 1) := by decide +kernel
theorem d_At_wholeValue_31 : decode c_At_wholeValue 31 = .ok (.iinc 3 1, 3) := by decide +kernel
theorem d_At_wholeValue_34 : decode c_At_wholeValue 34 = .ok (.goto (-27), 3) := by decide +kernel
theorem d_At_wholeValue_37 : decode c_At_wholeValue 37 = .ok (.aload_n 0, 1) := by decide +kernel
theorem d_At_wholeValue_38 : decode c_At_wholeValue 38 = .ok (.iconst 0, 1) := by decide +kernel
theorem d_At_wholeValue_39 : decode c_At_wholeValue 39 = .ok (.invokevirtual 162, 3) := by decide +kernel
theorem d_At_wholeValue_42 : decode c_At_wholeValue 42 = .ok (.bipush 45, 2) := by decide +kernel
theorem d_At_wholeValue_44 : decode c_At_wholeValue 44 = .ok (.if_icmp .ne 8, 3) := by decide +kernel
theorem d_At_wholeValue_47 : decode c_At_wholeValue 47 = .ok (.lload_n 1, 1) := by decide +kernel
theorem d_At_wholeValue_48 : decode c_At_wholeValue 48 = .ok (.lneg, 1) := by decide +kernel
theorem d_At_wholeValue_49 : decode c_At_wholeValue 49 = .ok (.goto 4, 3) := by decide +kernel
theorem d_At_wholeValue_52 : decode c_At_wholeValue 52 = .ok (.lload_n 1, 1) := by decide +kernel
theorem d_At_wholeValue_53 : decode c_At_wholeValue 53 = .ok (.lreturn, 1) := by decide +kernel
theorem d_At_isTrue_0 : decode c_At_isTrue 0 = .ok (.aload_n 0, 1) := by decide +kernel
theorem d_At_isTrue_1 : decode c_At_isTrue 1 = .ok (.iconst 0, 1) := by decide +kernel
theorem d_At_isTrue_2 : decode c_At_isTrue 2 = .ok (.ldc_w 299, 3) := by decide +kernel
theorem d_At_isTrue_5 : decode c_At_isTrue 5 = .ok (.invokevirtual 301, 3) := by decide +kernel
theorem d_At_isTrue_8 : decode c_At_isTrue 8 = .ok (.ifCond .ne 14, 3) := by decide +kernel
theorem d_At_isTrue_11 : decode c_At_isTrue 11 = .ok (.aload_n 0, 1) := by decide +kernel
theorem d_At_isTrue_12 : decode c_At_isTrue 12 = .ok (.iconst 0, 1) := by decide +kernel
theorem d_At_isTrue_13 : decode c_At_isTrue 13 = .ok (.ldc_w 305, 3) := by decide +kernel
theorem d_At_isTrue_16 : decode c_At_isTrue 16 = .ok (.invokevirtual 301, 3) := by decide +kernel
theorem d_At_isTrue_19 : decode c_At_isTrue 19 = .ok (.ifCond .eq 7, 3) := by decide +kernel
theorem d_At_isTrue_22 : decode c_At_isTrue 22 = .ok (.iconst 1, 1) := by decide +kernel
theorem d_At_isTrue_23 : decode c_At_isTrue 23 = .ok (.goto 4, 3) := by decide +kernel
theorem d_At_isTrue_26 : decode c_At_isTrue 26 = .ok (.iconst 0, 1) := by decide +kernel
theorem d_At_isTrue_27 : decode c_At_isTrue 27 = .ok (.ireturn, 1) := by decide +kernel
theorem d_At_isFalse_0 : decode c_At_isFalse 0 = .ok (.aload_n 0, 1) := by decide +kernel
theorem d_At_isFalse_1 : decode c_At_isFalse 1 = .ok (.iconst 0, 1) := by decide +kernel
theorem d_At_isFalse_2 : decode c_At_isFalse 2 = .ok (.ldc_w 307, 3) := by decide +kernel
theorem d_At_isFalse_5 : decode c_At_isFalse 5 = .ok (.invokevirtual 301, 3) := by decide +kernel
theorem d_At_isFalse_8 : decode c_At_isFalse 8 = .ok (.ifCond .ne 14, 3) := by decide +kernel
theorem d_At_isFalse_11 : decode c_At_isFalse 11 = .ok (.aload_n 0, 1) := by decide +kernel
theorem d_At_isFalse_12 : decode c_At_isFalse 12 = .ok (.iconst 0, 1) := by decide +kernel
theorem d_At_isFalse_13 : decode c_At_isFalse 13 = .ok (.ldc_w 309, 3) := by decide +kernel
theorem d_At_isFalse_16 : decode c_At_isFalse 16 = .ok (.invokevirtual 301, 3) := by decide +kernel
theorem d_At_isFalse_19 : decode c_At_isFalse 19 = .ok (.ifCond .eq 7, 3) := by decide +kernel
theorem d_At_isFalse_22 : decode c_At_isFalse 22 = .ok (.iconst 1, 1) := by decide +kernel
theorem d_At_isFalse_23 : decode c_At_isFalse 23 = .ok (.goto 4, 3) := by decide +kernel
theorem d_At_isFalse_26 : decode c_At_isFalse 26 = .ok (.iconst 0, 1) := by decide +kernel
theorem d_At_isFalse_27 : decode c_At_isFalse 27 = .ok (.ireturn, 1) := by decide +kernel
theorem d_At_compare_0 : decode c_At_compare 0 = .ok (.aload_n 0, 1) := by decide +kernel
theorem d_At_compare_1 : decode c_At_compare 1 = .ok (.iload_n 1, 1) := by decide +kernel
theorem d_At_compare_2 : decode c_At_compare 2 = .ok (.invokevirtual 122, 3) := by decide +kernel
theorem d_At_compare_5 : decode c_At_compare 5 = .ok (.astore_n 3, 1) := by decide +kernel
theorem d_At_compare_6 : decode c_At_compare 6 = .ok (.aload_n 0, 1) := by decide +kernel
theorem d_At_compare_7 : decode c_At_compare 7 = .ok (.iload_n 2, 1) := by decide +kernel
theorem d_At_compare_8 : decode c_At_compare 8 = .ok (.invokevirtual 122, 3) := by decide +kernel
theorem d_At_compare_11 : decode c_At_compare 11 = .ok (.astore 4, 2) := by decide +kernel
theorem d_At_compare_13 : decode c_At_compare 13 = .ok (.aload_n 3, 1) := by decide +kernel
theorem d_At_compare_14 : decode c_At_compare 14 = .ok (.ifnull 8, 3) := by decide +kernel
theorem d_At_compare_17 : decode c_At_compare 17 = .ok (.aload 4, 2) := by decide +kernel
theorem d_At_compare_19 : decode c_At_compare 19 = .ok (.ifnonnull 6, 3) := by decide +kernel
theorem d_At_compare_22 : decode c_At_compare 22 = .ok (.bipush (-2), 2) := by decide +kernel
theorem d_At_compare_24 : decode c_At_compare 24 = .ok (.ireturn, 1) := by decide +kernel
theorem d_At_compare_25 : decode c_At_compare 25 = .ok (.aload_n 3, 1) := by decide +kernel
theorem d_At_compare_26 : decode c_At_compare 26 = .ok (.aload 4, 2) := by decide +kernel
theorem d_At_compare_28 : decode c_At_compare 28 = .ok (.invokevirtual 138, 3) := by decide +kernel
theorem d_At_compare_31 : decode c_At_compare 31 = .ok (.ireturn, 1) := by decide +kernel
theorem d_At_print_0 : decode c_At_print 0 = .ok (.aload_n 0, 1) := by decide +kernel
theorem d_At_print_1 : decode c_At_print 1 = .ok (.iload_n 1, 1) := by decide +kernel
theorem d_At_print_2 : decode c_At_print 2 = .ok (.invokevirtual 122, 3) := by decide +kernel
theorem d_At_print_5 : decode c_At_print 5 = .ok (.astore_n 3, 1) := by decide +kernel
theorem d_At_print_6 : decode c_At_print 6 = .ok (.aload_n 3, 1) := by decide +kernel
theorem d_At_print_7 : decode c_At_print 7 = .ok (.ifnull 12, 3) := by decide +kernel
theorem d_At_print_10 : decode c_At_print 10 = .ok (.iload_n 2, 1) := by decide +kernel
theorem d_At_print_11 : decode c_At_print 11 = .ok (.ifCond .eq 10, 3) := by decide +kernel
theorem d_At_print_14 : decode c_At_print 14 = .ok (.iload_n 2, 1) := by decide +kernel
theorem d_At_print_15 : decode c_At_print 15 = .ok (.iconst 1, 1) := by decide +kernel
theorem d_At_print_16 : decode c_At_print 16 = .ok (.if_icmp .eq 5, 3) := by decide +kernel
theorem d_At_print_19 : decode c_At_print 19 = .ok (.iconst (-1), 1) := by decide +kernel
theorem d_At_print_20 : decode c_At_print 20 = .ok (.ireturn, 1) := by decide +kernel
theorem d_At_print_21 : decode c_At_print 21 = .ok (.aload_n 0, 1) := by decide +kernel
theorem d_At_print_22 : decode c_At_print 22 = .ok (.getfield 18, 3) := by decide +kernel
theorem d_At_print_25 : decode c_At_print 25 = .ok (.iconst 0, 1) := by decide +kernel
theorem d_At_print_26 : decode c_At_print 26 = .ok (.invokevirtual 85, 3) := by decide +kernel
theorem d_At_print_29 : decode c_At_print 29 = .ok (.aload_n 3, 1) := by decide +kernel
theorem d_At_print_30 : decode c_At_print 30 = .ok (.getfield 125, 3) := by decide +kernel
theorem d_At_print_33 : decode c_At_print 33 = .ok (.iconst 1, 1) := by decide +kernel
theorem d_At_print_34 : decode c_At_print 34 = .ok (.if_icmp .ne 26, 3) := by decide +kernel
theorem d_At_print_37 : decode c_At_print 37 = .ok (.aload_n 0, 1) := by decide +kernel
theorem d_At_print_38 : decode c_At_print 38 = .ok (.getfield 18, 3) := by decide +kernel
theorem d_At_print_41 : decode c_At_print 41 = .ok (.ldc 142, 2) := by decide +kernel
theorem d_At_print_43 : decode c_At_print 43 = .ok (.invokevirtual 144, 3) := by decide +kernel
theorem d_At_print_46 : decode c_At_print 46 = .ok (.aload_n 0, 1) := by decide +kernel
theorem d_At_print_47 : decode c_At_print 47 = .ok (.getfield 18, 3) := by decide +kernel
theorem d_At_print_50 : decode c_At_print 50 = .ok (.aload_n 3, 1) := by decide +kernel
theorem d_At_print_51 : decode c_At_print 51 = .ok (.getfield 148, 3) := by decide +kernel
theorem d_At_print_54 : decode c_At_print 54 = .ok (.invokevirtual 151, 3) := by decide +kernel
theorem d_At_print_57 : decode c_At_print 57 = .ok (.goto 28, 3) := by decide +kernel
theorem d_At_print_60 : decode c_At_print 60 = .ok (.aload_n 3, 1) := by decide +kernel
theorem d_At_print_61 : decode c_At_print 61 = .ok (.getfield 125, 3) := by decide +kernel
theorem d_At_print_64 : decode c_At_print 64 = .ok (.iconst 2, 1) := by decide +kernel
theorem d_At_print_65 : decode c_At_print 65 = .ok (.if_icmp .ne 11, 3) := by decide +kernel
theorem d_At_print_68 : decode c_At_print 68 = .ok (.aload_n 0, 1) := by decide +kernel
theorem d_At_print_69 : decode c_At_print 69 = .ok (.aload_n 3, 1) := by decide +kernel
theorem d_At_print_70 : decode c_At_print 70 = .ok (.invokevirtual 154, 3) := by decide +kernel
theorem d_At_print_73 : decode c_At_print 73 = .ok (.goto 12, 3) := by decide +kernel
theorem d_At_print_76 : decode c_At_print 76 = .ok (.aload_n 0, 1) := by decide +kernel
theorem d_At_print_77 : decode c_At_print 77 = .ok (.aload_n 3, 1) := by decide +kernel
theorem d_At_print_78 : decode c_At_print 78 = .ok (.getfield 109, 3) := by decide +kernel
theorem d_At_print_81 : decode c_At_print 81 = .ok (.iload_n 2, 1) := by decide +kernel
theorem d_At_print_82 : decode c_At_print 82 = .ok (.invokevirtual 158, 3) := by decide +kernel
theorem d_At_print_85 : decode c_At_print 85 = .ok (.aload_n 0, 1) := by decide +kernel
theorem d_At_print_86 : decode c_At_print 86 = .ok (.getfield 18, 3) := by decide +kernel
theorem d_At_print_89 : decode c_At_print 89 = .ok (.invokevirtual 75, 3) := by decide +kernel
theorem d_At_print_92 : decode c_At_print 92 = .ok (.ireturn, 1) := by decide +kernel
theorem d_Rw_addNumber_0 : decode c_Rw_addNumber 0 = .ok (.iload_n 1, 1) := by decide +kernel
theorem d_Rw_addNumber_1 : decode c_Rw_addNumber 1 = .ok (.bipush 100, 2) := by decide +kernel
theorem d_Rw_addNumber_3 : decode c_Rw_addNumber 3 = .ok (.if_icmp .lt 17, 3) := by decide +kernel
theorem d_Rw_addNumber_6 : decode c_Rw_addNumber 6 = .ok (.aload_n 0, 1) := by decide +kernel
theorem d_Rw_addNumber_7 : decode c_Rw_addNumber 7 = .ok (.bipush 48, 2) := by decide +kernel
theorem d_Rw_addNumber_9 : decode c_Rw_addNumber 9 = .ok (.iload_n 1, 1) := by decide +kernel
theorem d_Rw_addNumber_10 : decode c_Rw_addNumber 10 = .ok (.bipush 100, 2) := by decide +kernel
theorem d_Rw_addNumber_12 : decode c_Rw_addNumber 12 = .ok (.idiv, 1) := by decide +kernel
theorem d_Rw_addNumber_13 : decode c_Rw_addNumber 13 = .ok (.bipush 10, 2) := by decide +kernel
theorem d_Rw_addNumber_15 : decode c_Rw_addNumber 15 = .ok (.irem, 1) := by decide +kernel
theorem d_Rw_addNumber_16 : decode c_Rw_addNumber 16 = .ok (.iadd, 1) := by decide +kernel
theorem d_Rw_addNumber_17 : decode c_Rw_addNumber 17 = .ok (.invokevirtual 32, 3) := by decide +kernel
theorem d_Rw_addNumber_20 : decode c_Rw_addNumber 20 = .ok (.iload_n 1, 1) := by decide +kernel
theorem d_Rw_addNumber_21 : decode c_Rw_addNumber 21 = .ok (.bipush 10, 2) := by decide +kernel
theorem d_Rw_addNumber_23 : decode c_Rw_addNumber 23 = .ok (.if_icmp .lt 17, 3) := by decide +kernel
theorem d_Rw_addNumber_26 : decode c_Rw_addNumber 26 = .ok (.aload_n 0, 1) := by decide +kernel
theorem d_Rw_addNumber_27 : decode c_Rw_addNumber 27 = .ok (.bipush 48, 2) := by decide +kernel
theorem d_Rw_addNumber_29 : decode c_Rw_addNumber 29 = .ok (.iload_n 1, 1) := by decide +kernel
theorem d_Rw_addNumber_30 : decode c_Rw_addNumber 30 = .ok (.bipush 10, 2) := by decide +kernel
theorem d_Rw_addNumber_32 : decode c_Rw_addNumber 32 = .ok (.idiv, 1) := by decide +kernel
theorem d_Rw_addNumber_33 : decode c_Rw_addNumber 33 = .ok (.bipush 10, 2) := by decide +kernel
theorem d_Rw_addNumber_35 : decode c_Rw_addNumber 35 = .ok (.irem, 1) := by decide +kernel
theorem d_Rw_addNumber_36 : decode c_Rw_addNumber 36 = .ok (.iadd, 1) := by decide +kernel
theorem d_Rw_addNumber_37 : decode c_Rw_addNumber 37 = .ok (.invokevirtual 32, 3) := by decide +kernel
theorem d_Rw_addNumber_40 : decode c_Rw_addNumber 40 = .ok (.aload_n 0, 1) := by decide +kernel
theorem d_Rw_addNumber_41 : decode c_Rw_addNumber 41 = .ok (.bipush 48, 2) := by decide +kernel
theorem d_Rw_addNumber_43 : decode c_Rw_addNumber 43 = .ok (.iload_n 1, 1) := by decide +kernel
theorem d_Rw_addNumber_44 : decode c_Rw_addNumber 44 = .ok (.bipush 10, 2) := by decide +kernel
theorem d_Rw_addNumber_46 : decode c_Rw_addNumber 46 = .ok (.irem, 1) := by decide +kernel
theorem d_Rw_addNumber_47 : decode c_Rw_addNumber 47 = .ok (.iadd, 1) := by decide +kernel
theorem d_Rw_addNumber_48 : decode c_Rw_addNumber 48 = .ok (.invokevirtual 32, 3) := by decide +kernel
theorem d_Rw_addNumber_51 : decode c_Rw_addNumber 51 = .ok (.return_, 1) := by decide +kernel
theorem d_At_printLiteral_0 : decode c_At_printLiteral 0 = .ok (.aload_n 0, 1) := by decide +kernel
theorem d_At_printLiteral_1 : decode c_At_printLiteral 1 = .ok (.getfield 18, 3) := by decide +kernel
theorem d_At_printLiteral_4 : decode c_At_printLiteral 4 = .ok (.bipush 34, 2) := by decide +kernel
theorem d_At_printLiteral_6 : decode c_At_printLiteral 6 = .ok (.invokevirtual 79, 3) := by decide +kernel
theorem d_At_printLiteral_9 : decode c_At_printLiteral 9 = .ok (.iconst 0, 1) := by decide +kernel
theorem d_At_printLiteral_10 : decode c_At_printLiteral 10 = .ok (.istore_n 2, 1) := by decide +kernel
theorem d_At_printLiteral_11 : decode c_At_printLiteral 11 = .ok (.iload_n 2, 1) := by decide +kernel
theorem d_At_printLiteral_12 : decode c_At_printLiteral 12 = .ok (.aload_n 1, 1) := by decide +kernel
theorem d_At_printLiteral_13 : decode c_At_printLiteral 13 = .ok (.getfield 109, 3) := by decide +kernel
theorem d_At_printLiteral_16 : decode c_At_printLiteral 16 = .ok (.invokevirtual 75, 3) := by decide +kernel
theorem d_At_printLiteral_19 : decode c_At_printLiteral 19 = .ok (.if_icmp .ge 21, 3) := by decide +kernel
theorem d_At_printLiteral_22 : decode c_At_printLiteral 22 = .ok (.aload_n 0, 1) := by decide +kernel
theorem d_At_printLiteral_23 : decode c_At_printLiteral 23 = .ok (.aload_n 1, 1) := by decide +kernel
theorem d_At_printLiteral_24 : decode c_At_printLiteral 24 = .ok (.getfield 109, 3) := by decide +kernel
theorem d_At_printLiteral_27 : decode c_At_printLiteral 27 = .ok (.iload_n 2, 1) := by decide +kernel
theorem d_At_printLiteral_28 : decode c_At_printLiteral 28 = .ok (.invokevirtual 162, 3) := by decide +kernel
theorem d_At_printLiteral_31 : decode c_At_printLiteral 31 = .ok (.invokevirtual 227, 3) := by decide +kernel
theorem d_At_printLiteral_34 : decode c_At_printLiteral 34 = .ok (.iinc 2 1, 3) := by decide +kernel
theorem d_At_printLiteral_37 : decode c_At_printLiteral 37 = .ok (.goto (-26), 3) := by decide +kernel
theorem d_At_printLiteral_40 : decode c_At_printLiteral 40 = .ok (.aload_n 0, 1) := by decide +kernel
theorem d_At_printLiteral_41 : decode c_At_printLiteral 41 = .ok (.getfield 18, 3) := by decide +kernel
theorem d_At_printLiteral_44 : decode c_At_printLiteral 44 = .ok (.bipush 34, 2) := by decide +kernel
theorem d_At_printLiteral_46 : decode c_At_printLiteral 46 = .ok (.invokevirtual 79, 3) := by decide +kernel
theorem d_At_printLiteral_49 : decode c_At_printLiteral 49 = .ok (.aload_n 1, 1) := by decide +kernel
theorem d_At_printLiteral_50 : decode c_At_printLiteral 50 = .ok (.getfield 131, 3) := by decide +kernel
theorem d_At_printLiteral_53 : decode c_At_printLiteral 53 = .ok (.tableswitch 98 1 4 #[31, 62, 74, 86], 31) := by decide +kernel
theorem d_At_printLiteral_84 : decode c_At_printLiteral 84 = .ok (.aload_n 0, 1) := by decide +kernel
theorem d_At_printLiteral_85 : decode c_At_printLiteral 85 = .ok (.getfield 18, 3) := by decide +kernel
theorem d_At_printLiteral_88 : decode c_At_printLiteral 88 = .ok (.bipush 64, 2) := by decide +kernel
theorem d_At_printLiteral_90 : decode c_At_printLiteral 90 = .ok (.invokevirtual 79, 3) := by decide +kernel
theorem d_At_printLiteral_93 : decode c_At_printLiteral 93 = .ok (.aload_n 0, 1) := by decide +kernel
theorem d_At_printLiteral_94 : decode c_At_printLiteral 94 = .ok (.getfield 18, 3) := by decide +kernel
theorem d_At_printLiteral_97 : decode c_At_printLiteral 97 = .ok (.aload_n 1, 1) := by decide +kernel
theorem d_At_printLiteral_98 : decode c_At_printLiteral 98 = .ok (.getfield 188, 3) := by decide +kernel
theorem d_At_printLiteral_101 : decode c_At_printLiteral 101 = .ok (.iconst 0, 1) := by decide +kernel
theorem d_At_printLiteral_102 : decode c_At_printLiteral 102 = .ok (.aload_n 1, 1) := by decide +kernel
theorem d_At_printLiteral_103 : decode c_At_printLiteral 103 = .ok (.getfield 188, 3) := by decide +kernel
theorem d_At_printLiteral_106 : decode c_At_printLiteral 106 = .ok (.invokevirtual 75, 3) := by decide +kernel
theorem d_At_printLiteral_109 : decode c_At_printLiteral 109 = .ok (.invokevirtual 173, 3) := by decide +kernel
theorem d_At_printLiteral_112 : decode c_At_printLiteral 112 = .ok (.goto 39, 3) := by decide +kernel
theorem d_At_printLiteral_115 : decode c_At_printLiteral 115 = .ok (.aload_n 0, 1) := by decide +kernel
theorem d_At_printLiteral_116 : decode c_At_printLiteral 116 = .ok (.getfield 18, 3) := by decide +kernel
theorem d_At_printLiteral_119 : decode c_At_printLiteral 119 = .ok (.ldc 230, 2) := by decide +kernel
theorem d_At_printLiteral_121 : decode c_At_printLiteral 121 = .ok (.invokevirtual 144, 3) := by decide +kernel
theorem d_At_printLiteral_124 : decode c_At_printLiteral 124 = .ok (.goto 27, 3) := by decide +kernel
theorem d_At_printLiteral_127 : decode c_At_printLiteral 127 = .ok (.aload_n 0, 1) := by decide +kernel
theorem d_At_printLiteral_128 : decode c_At_printLiteral 128 = .ok (.getfield 18, 3) := by decide +kernel
theorem d_At_printLiteral_131 : decode c_At_printLiteral 131 = .ok (.ldc 232, 2) := by decide +kernel
theorem d_At_printLiteral_133 : decode c_At_printLiteral 133 = .ok (.invokevirtual 144, 3) := by decide +kernel
theorem d_At_printLiteral_136 : decode c_At_printLiteral 136 = .ok (.goto 15, 3) := by decide +kernel
theorem d_At_printLiteral_139 : decode c_At_printLiteral 139 = .ok (.aload_n 0, 1) := by decide +kernel
theorem d_At_printLiteral_140 : decode c_At_printLiteral 140 = .ok (.getfield 18, 3) := by decide +kernel
theorem d_At_printLiteral_143 : decode c_At_printLiteral 143 = .ok (.ldc 234, 2) := by decide +kernel
theorem d_At_printLiteral_145 : decode c_At_printLiteral 145 = .ok (.invokevirtual 144, 3) := by decide +kernel
theorem d_At_printLiteral_148 : decode c_At_printLiteral 148 = .ok (.goto 3, 3) := by decide +kernel
theorem d_At_printLiteral_151 : decode c_At_printLiteral 151 = .ok (.return_, 1) := by decide +kernel
theorem d_At_printTextByte_0 : decode c_At_printTextByte 0 = .ok (.iload_n 1, 1) := by decide +kernel
theorem d_At_printTextByte_1 : decode c_At_printTextByte 1 = .ok (.lookupswitch 111 #[(9, 51), (10, 63), (13, 75), (34, 87), (92, 99)], 51) := by decide +kernel
theorem d_At_printTextByte_52 : decode c_At_printTextByte 52 = .ok (.aload_n 0, 1) := by decide +kernel
theorem d_At_printTextByte_53 : decode c_At_printTextByte 53 = .ok (.getfield 18, 3) := by decide +kernel
theorem d_At_printTextByte_56 : decode c_At_printTextByte 56 = .ok (.ldc 236, 2) := by decide +kernel
theorem d_At_printTextByte_58 : decode c_At_printTextByte 58 = .ok (.invokevirtual 144, 3) := by decide +kernel
theorem d_At_printTextByte_61 : decode c_At_printTextByte 61 = .ok (.goto 59, 3) := by decide +kernel
theorem d_At_printTextByte_64 : decode c_At_printTextByte 64 = .ok (.aload_n 0, 1) := by decide +kernel
theorem d_At_printTextByte_65 : decode c_At_printTextByte 65 = .ok (.getfield 18, 3) := by decide +kernel
theorem d_At_printTextByte_68 : decode c_At_printTextByte 68 = .ok (.ldc 238, 2) := by decide +kernel
theorem d_At_printTextByte_70 : decode c_At_printTextByte 70 = .ok (.invokevirtual 144, 3) := by decide +kernel
theorem d_At_printTextByte_73 : decode c_At_printTextByte 73 = .ok (.goto 47, 3) := by decide +kernel
theorem d_At_printTextByte_76 : decode c_At_printTextByte 76 = .ok (.aload_n 0, 1) := by decide +kernel
theorem d_At_printTextByte_77 : decode c_At_printTextByte 77 = .ok (.getfield 18, 3) := by decide +kernel
theorem d_At_printTextByte_80 : decode c_At_printTextByte 80 = .ok (.ldc 240, 2) := by decide +kernel
theorem d_At_printTextByte_82 : decode c_At_printTextByte 82 = .ok (.invokevirtual 144, 3) := by decide +kernel
theorem d_At_printTextByte_85 : decode c_At_printTextByte 85 = .ok (.goto 35, 3) := by decide +kernel
theorem d_At_printTextByte_88 : decode c_At_printTextByte 88 = .ok (.aload_n 0, 1) := by decide +kernel
theorem d_At_printTextByte_89 : decode c_At_printTextByte 89 = .ok (.getfield 18, 3) := by decide +kernel
theorem d_At_printTextByte_92 : decode c_At_printTextByte 92 = .ok (.ldc 242, 2) := by decide +kernel
theorem d_At_printTextByte_94 : decode c_At_printTextByte 94 = .ok (.invokevirtual 144, 3) := by decide +kernel
theorem d_At_printTextByte_97 : decode c_At_printTextByte 97 = .ok (.goto 23, 3) := by decide +kernel
theorem d_At_printTextByte_100 : decode c_At_printTextByte 100 = .ok (.aload_n 0, 1) := by decide +kernel
theorem d_At_printTextByte_101 : decode c_At_printTextByte 101 = .ok (.getfield 18, 3) := by decide +kernel
theorem d_At_printTextByte_104 : decode c_At_printTextByte 104 = .ok (.ldc 244, 2) := by decide +kernel
theorem d_At_printTextByte_106 : decode c_At_printTextByte 106 = .ok (.invokevirtual 144, 3) := by decide +kernel
theorem d_At_printTextByte_109 : decode c_At_printTextByte 109 = .ok (.goto 11, 3) := by decide +kernel
theorem d_At_printTextByte_112 : decode c_At_printTextByte 112 = .ok (.aload_n 0, 1) := by decide +kernel
theorem d_At_printTextByte_113 : decode c_At_printTextByte 113 = .ok (.getfield 18, 3) := by decide +kernel
theorem d_At_printTextByte_116 : decode c_At_printTextByte 116 = .ok (.iload_n 1, 1) := by decide +kernel
theorem d_At_printTextByte_117 : decode c_At_printTextByte 117 = .ok (.invokevirtual 79, 3) := by decide +kernel
theorem d_At_printTextByte_120 : decode c_At_printTextByte 120 = .ok (.return_, 1) := by decide +kernel
theorem d_At_printAddress_0 : decode c_At_printAddress 0 = .ok (.iload_n 2, 1) := by decide +kernel
theorem d_At_printAddress_1 : decode c_At_printAddress 1 = .ok (.iconst 1, 1) := by decide +kernel
theorem d_At_printAddress_2 : decode c_At_printAddress 2 = .ok (.if_icmp .ne 11, 3) := by decide +kernel
theorem d_At_printAddress_5 : decode c_At_printAddress 5 = .ok (.aload_n 0, 1) := by decide +kernel
theorem d_At_printAddress_6 : decode c_At_printAddress 6 = .ok (.aload_n 1, 1) := by decide +kernel
theorem d_At_printAddress_7 : decode c_At_printAddress 7 = .ok (.invokevirtual 216, 3) := by decide +kernel
theorem d_At_printAddress_10 : decode c_At_printAddress 10 = .ok (.goto 4, 3) := by decide +kernel
theorem d_At_printAddress_13 : decode c_At_printAddress 13 = .ok (.aconst_null, 1) := by decide +kernel
theorem d_At_printAddress_14 : decode c_At_printAddress 14 = .ok (.astore_n 3, 1) := by decide +kernel
theorem d_At_printAddress_15 : decode c_At_printAddress 15 = .ok (.aload_n 3, 1) := by decide +kernel
theorem d_At_printAddress_16 : decode c_At_printAddress 16 = .ok (.ifnonnull 37, 3) := by decide +kernel
theorem d_At_printAddress_19 : decode c_At_printAddress 19 = .ok (.aload_n 0, 1) := by decide +kernel
theorem d_At_printAddress_20 : decode c_At_printAddress 20 = .ok (.getfield 18, 3) := by decide +kernel
theorem d_At_printAddress_23 : decode c_At_printAddress 23 = .ok (.bipush 60, 2) := by decide +kernel
theorem d_At_printAddress_25 : decode c_At_printAddress 25 = .ok (.invokevirtual 79, 3) := by decide +kernel
theorem d_At_printAddress_28 : decode c_At_printAddress 28 = .ok (.aload_n 0, 1) := by decide +kernel
theorem d_At_printAddress_29 : decode c_At_printAddress 29 = .ok (.getfield 18, 3) := by decide +kernel
theorem d_At_printAddress_32 : decode c_At_printAddress 32 = .ok (.aload_n 1, 1) := by decide +kernel
theorem d_At_printAddress_33 : decode c_At_printAddress 33 = .ok (.iconst 0, 1) := by decide +kernel
theorem d_At_printAddress_34 : decode c_At_printAddress 34 = .ok (.aload_n 1, 1) := by decide +kernel
theorem d_At_printAddress_35 : decode c_At_printAddress 35 = .ok (.invokevirtual 75, 3) := by decide +kernel
theorem d_At_printAddress_38 : decode c_At_printAddress 38 = .ok (.invokevirtual 173, 3) := by decide +kernel
theorem d_At_printAddress_41 : decode c_At_printAddress 41 = .ok (.aload_n 0, 1) := by decide +kernel
theorem d_At_printAddress_42 : decode c_At_printAddress 42 = .ok (.getfield 18, 3) := by decide +kernel
theorem d_At_printAddress_45 : decode c_At_printAddress 45 = .ok (.bipush 62, 2) := by decide +kernel
theorem d_At_printAddress_47 : decode c_At_printAddress 47 = .ok (.invokevirtual 79, 3) := by decide +kernel
theorem d_At_printAddress_50 : decode c_At_printAddress 50 = .ok (.goto 50, 3) := by decide +kernel
theorem d_At_printAddress_53 : decode c_At_printAddress 53 = .ok (.aload_n 0, 1) := by decide +kernel
theorem d_At_printAddress_54 : decode c_At_printAddress 54 = .ok (.getfield 18, 3) := by decide +kernel
theorem d_At_printAddress_57 : decode c_At_printAddress 57 = .ok (.aload_n 3, 1) := by decide +kernel
theorem d_At_printAddress_58 : decode c_At_printAddress 58 = .ok (.getfield 202, 3) := by decide +kernel
theorem d_At_printAddress_61 : decode c_At_printAddress 61 = .ok (.iconst 0, 1) := by decide +kernel
theorem d_At_printAddress_62 : decode c_At_printAddress 62 = .ok (.aload_n 3, 1) := by decide +kernel
theorem d_At_printAddress_63 : decode c_At_printAddress 63 = .ok (.getfield 202, 3) := by decide +kernel
theorem d_At_printAddress_66 : decode c_At_printAddress 66 = .ok (.invokevirtual 75, 3) := by decide +kernel
theorem d_At_printAddress_69 : decode c_At_printAddress 69 = .ok (.invokevirtual 173, 3) := by decide +kernel
theorem d_At_printAddress_72 : decode c_At_printAddress 72 = .ok (.aload_n 0, 1) := by decide +kernel
theorem d_At_printAddress_73 : decode c_At_printAddress 73 = .ok (.getfield 18, 3) := by decide +kernel
theorem d_At_printAddress_76 : decode c_At_printAddress 76 = .ok (.bipush 58, 2) := by decide +kernel
theorem d_At_printAddress_78 : decode c_At_printAddress 78 = .ok (.invokevirtual 79, 3) := by decide +kernel
theorem d_At_printAddress_81 : decode c_At_printAddress 81 = .ok (.aload_n 0, 1) := by decide +kernel
theorem d_At_printAddress_82 : decode c_At_printAddress 82 = .ok (.getfield 18, 3) := by decide +kernel
theorem d_At_printAddress_85 : decode c_At_printAddress 85 = .ok (.aload_n 1, 1) := by decide +kernel
theorem d_At_printAddress_86 : decode c_At_printAddress 86 = .ok (.aload_n 3, 1) := by decide +kernel
theorem d_At_printAddress_87 : decode c_At_printAddress 87 = .ok (.getfield 207, 3) := by decide +kernel
theorem d_At_printAddress_90 : decode c_At_printAddress 90 = .ok (.invokevirtual 75, 3) := by decide +kernel
theorem d_At_printAddress_93 : decode c_At_printAddress 93 = .ok (.aload_n 1, 1) := by decide +kernel
theorem d_At_printAddress_94 : decode c_At_printAddress 94 = .ok (.invokevirtual 75, 3) := by decide +kernel
theorem d_At_printAddress_97 : decode c_At_printAddress 97 = .ok (.invokevirtual 173, 3) := by decide +kernel
theorem d_At_printAddress_100 : decode c_At_printAddress 100 = .ok (.return_, 1) := by decide +kernel
theorem d_At_bestPrefix_0 : decode c_At_bestPrefix 0 = .ok (.aconst_null, 1) := by decide +kernel
theorem d_At_bestPrefix_1 : decode c_At_bestPrefix 1 = .ok (.astore_n 2, 1) := by decide +kernel
theorem d_At_bestPrefix_2 : decode c_At_bestPrefix 2 = .ok (.iconst 0, 1) := by decide +kernel
theorem d_At_bestPrefix_3 : decode c_At_bestPrefix 3 = .ok (.istore_n 3, 1) := by decide +kernel
theorem d_At_bestPrefix_4 : decode c_At_bestPrefix 4 = .ok (.iload_n 3, 1) := by decide +kernel
theorem d_At_bestPrefix_5 : decode c_At_bestPrefix 5 = .ok (.aload_n 0, 1) := by decide +kernel
theorem d_At_bestPrefix_6 : decode c_At_bestPrefix 6 = .ok (.getfield 61, 3) := by decide +kernel
theorem d_At_bestPrefix_9 : decode c_At_bestPrefix 9 = .ok (.if_icmp .ge 46, 3) := by decide +kernel
theorem d_At_bestPrefix_12 : decode c_At_bestPrefix 12 = .ok (.aload_n 0, 1) := by decide +kernel
theorem d_At_bestPrefix_13 : decode c_At_bestPrefix 13 = .ok (.iload_n 3, 1) := by decide +kernel
theorem d_At_bestPrefix_14 : decode c_At_bestPrefix 14 = .ok (.invokevirtual 198, 3) := by decide +kernel
theorem d_At_bestPrefix_17 : decode c_At_bestPrefix 17 = .ok (.astore 4, 2) := by decide +kernel
theorem d_At_bestPrefix_19 : decode c_At_bestPrefix 19 = .ok (.aload 4, 2) := by decide +kernel
theorem d_At_bestPrefix_21 : decode c_At_bestPrefix 21 = .ok (.ifnull 28, 3) := by decide +kernel
theorem d_At_bestPrefix_24 : decode c_At_bestPrefix 24 = .ok (.aload 4, 2) := by decide +kernel
theorem d_At_bestPrefix_26 : decode c_At_bestPrefix 26 = .ok (.aload_n 1, 1) := by decide +kernel
theorem d_At_bestPrefix_27 : decode c_At_bestPrefix 27 = .ok (.invokevirtual 220, 3) := by decide +kernel
theorem d_At_bestPrefix_30 : decode c_At_bestPrefix 30 = .ok (.ifCond .eq 19, 3) := by decide +kernel
theorem d_At_bestPrefix_33 : decode c_At_bestPrefix 33 = .ok (.aload_n 2, 1) := by decide +kernel
theorem d_At_bestPrefix_34 : decode c_At_bestPrefix 34 = .ok (.ifnull 12, 3) := by decide +kernel
theorem d_At_bestPrefix_37 : decode c_At_bestPrefix 37 = .ok (.aload 4, 2) := by decide +kernel
theorem d_At_bestPrefix_39 : decode c_At_bestPrefix 39 = .ok (.aload_n 2, 1) := by decide +kernel
theorem d_At_bestPrefix_40 : decode c_At_bestPrefix 40 = .ok (.invokevirtual 223, 3) := by decide +kernel
theorem d_At_bestPrefix_43 : decode c_At_bestPrefix 43 = .ok (.ifCond .eq 6, 3) := by decide +kernel
theorem d_At_bestPrefix_46 : decode c_At_bestPrefix 46 = .ok (.aload 4, 2) := by decide +kernel
theorem d_At_bestPrefix_48 : decode c_At_bestPrefix 48 = .ok (.astore_n 2, 1) := by decide +kernel
theorem d_At_bestPrefix_49 : decode c_At_bestPrefix 49 = .ok (.iinc 3 1, 3) := by decide +kernel
theorem d_At_bestPrefix_52 : decode c_At_bestPrefix 52 = .ok (.goto (-48), 3) := by decide +kernel
theorem d_At_bestPrefix_55 : decode c_At_bestPrefix 55 = .ok (.aload_n 2, 1) := by decide +kernel
theorem d_At_bestPrefix_56 : decode c_At_bestPrefix 56 = .ok (.areturn, 1) := by decide +kernel
theorem d_Px_tells_0 : decode c_Px_tells 0 = .ok (.aload_n 1, 1) := by decide +kernel
theorem d_Px_tells_1 : decode c_Px_tells 1 = .ok (.aload_n 0, 1) := by decide +kernel
theorem d_Px_tells_2 : decode c_Px_tells 2 = .ok (.getfield 13, 3) := by decide +kernel
theorem d_Px_tells_5 : decode c_Px_tells 5 = .ok (.invokevirtual 16, 3) := by decide +kernel
theorem d_Px_tells_8 : decode c_Px_tells 8 = .ok (.ifCond .ne 5, 3) := by decide +kernel
theorem d_Px_tells_11 : decode c_Px_tells 11 = .ok (.iconst 0, 1) := by decide +kernel
theorem d_Px_tells_12 : decode c_Px_tells 12 = .ok (.ireturn, 1) := by decide +kernel
theorem d_Px_tells_13 : decode c_Px_tells 13 = .ok (.aload_n 0, 1) := by decide +kernel
theorem d_Px_tells_14 : decode c_Px_tells 14 = .ok (.getfield 13, 3) := by decide +kernel
theorem d_Px_tells_17 : decode c_Px_tells 17 = .ok (.invokevirtual 22, 3) := by decide +kernel
theorem d_Px_tells_20 : decode c_Px_tells 20 = .ok (.istore_n 2, 1) := by decide +kernel
theorem d_Px_tells_21 : decode c_Px_tells 21 = .ok (.iload_n 2, 1) := by decide +kernel
theorem d_Px_tells_22 : decode c_Px_tells 22 = .ok (.aload_n 1, 1) := by decide +kernel
theorem d_Px_tells_23 : decode c_Px_tells 23 = .ok (.invokevirtual 22, 3) := by decide +kernel
theorem d_Px_tells_26 : decode c_Px_tells 26 = .ok (.if_icmp .ge 36, 3) := by decide +kernel
theorem d_Px_tells_29 : decode c_Px_tells 29 = .ok (.aload_n 1, 1) := by decide +kernel
theorem d_Px_tells_30 : decode c_Px_tells 30 = .ok (.iload_n 2, 1) := by decide +kernel
theorem d_Px_tells_31 : decode c_Px_tells 31 = .ok (.invokevirtual 26, 3) := by decide +kernel
theorem d_Px_tells_34 : decode c_Px_tells 34 = .ok (.istore_n 3, 1) := by decide +kernel
theorem d_Px_tells_35 : decode c_Px_tells 35 = .ok (.iload_n 3, 1) := by decide +kernel
theorem d_Px_tells_36 : decode c_Px_tells 36 = .ok (.invokestatic 30, 3) := by decide +kernel
theorem d_Px_tells_39 : decode c_Px_tells 39 = .ok (.ifCond .ne 17, 3) := by decide +kernel
theorem d_Px_tells_42 : decode c_Px_tells 42 = .ok (.iload_n 3, 1) := by decide +kernel
theorem d_Px_tells_43 : decode c_Px_tells 43 = .ok (.bipush 95, 2) := by decide +kernel
theorem d_Px_tells_45 : decode c_Px_tells 45 = .ok (.if_icmp .eq 11, 3) := by decide +kernel
theorem d_Px_tells_48 : decode c_Px_tells 48 = .ok (.iload_n 3, 1) := by decide +kernel
theorem d_Px_tells_49 : decode c_Px_tells 49 = .ok (.bipush 45, 2) := by decide +kernel
theorem d_Px_tells_51 : decode c_Px_tells 51 = .ok (.if_icmp .eq 5, 3) := by decide +kernel
theorem d_Px_tells_54 : decode c_Px_tells 54 = .ok (.iconst 0, 1) := by decide +kernel
theorem d_Px_tells_55 : decode c_Px_tells 55 = .ok (.ireturn, 1) := by decide +kernel
theorem d_Px_tells_56 : decode c_Px_tells 56 = .ok (.iinc 2 1, 3) := by decide +kernel
theorem d_Px_tells_59 : decode c_Px_tells 59 = .ok (.goto (-38), 3) := by decide +kernel
theorem d_Px_tells_62 : decode c_Px_tells 62 = .ok (.iconst 1, 1) := by decide +kernel
theorem d_Px_tells_63 : decode c_Px_tells 63 = .ok (.ireturn, 1) := by decide +kernel
theorem d_Rw_beginsWith_0 : decode c_Rw_beginsWith 0 = .ok (.aload_n 1, 1) := by decide +kernel
theorem d_Rw_beginsWith_1 : decode c_Rw_beginsWith 1 = .ok (.getfield 9, 3) := by decide +kernel
theorem d_Rw_beginsWith_4 : decode c_Rw_beginsWith 4 = .ok (.aload_n 0, 1) := by decide +kernel
theorem d_Rw_beginsWith_5 : decode c_Rw_beginsWith 5 = .ok (.getfield 9, 3) := by decide +kernel
theorem d_Rw_beginsWith_8 : decode c_Rw_beginsWith 8 = .ok (.if_icmp .le 5, 3) := by decide +kernel
theorem d_Rw_beginsWith_11 : decode c_Rw_beginsWith 11 = .ok (.iconst 0, 1) := by decide +kernel
theorem d_Rw_beginsWith_12 : decode c_Rw_beginsWith 12 = .ok (.ireturn, 1) := by decide +kernel
theorem d_Rw_beginsWith_13 : decode c_Rw_beginsWith 13 = .ok (.iconst 0, 1) := by decide +kernel
theorem d_Rw_beginsWith_14 : decode c_Rw_beginsWith 14 = .ok (.istore_n 2, 1) := by decide +kernel
theorem d_Rw_beginsWith_15 : decode c_Rw_beginsWith 15 = .ok (.iload_n 2, 1) := by decide +kernel
theorem d_Rw_beginsWith_16 : decode c_Rw_beginsWith 16 = .ok (.aload_n 1, 1) := by decide +kernel
theorem d_Rw_beginsWith_17 : decode c_Rw_beginsWith 17 = .ok (.getfield 9, 3) := by decide +kernel
theorem d_Rw_beginsWith_20 : decode c_Rw_beginsWith 20 = .ok (.if_icmp .ge 24, 3) := by decide +kernel
theorem d_Rw_beginsWith_23 : decode c_Rw_beginsWith 23 = .ok (.aload_n 0, 1) := by decide +kernel
theorem d_Rw_beginsWith_24 : decode c_Rw_beginsWith 24 = .ok (.iload_n 2, 1) := by decide +kernel
theorem d_Rw_beginsWith_25 : decode c_Rw_beginsWith 25 = .ok (.invokevirtual 28, 3) := by decide +kernel
theorem d_Rw_beginsWith_28 : decode c_Rw_beginsWith 28 = .ok (.aload_n 1, 1) := by decide +kernel
theorem d_Rw_beginsWith_29 : decode c_Rw_beginsWith 29 = .ok (.iload_n 2, 1) := by decide +kernel
theorem d_Rw_beginsWith_30 : decode c_Rw_beginsWith 30 = .ok (.invokevirtual 28, 3) := by decide +kernel
theorem d_Rw_beginsWith_33 : decode c_Rw_beginsWith 33 = .ok (.if_icmp .eq 5, 3) := by decide +kernel
theorem d_Rw_beginsWith_36 : decode c_Rw_beginsWith 36 = .ok (.iconst 0, 1) := by decide +kernel
theorem d_Rw_beginsWith_37 : decode c_Rw_beginsWith 37 = .ok (.ireturn, 1) := by decide +kernel
theorem d_Rw_beginsWith_38 : decode c_Rw_beginsWith 38 = .ok (.iinc 2 1, 3) := by decide +kernel
theorem d_Rw_beginsWith_41 : decode c_Rw_beginsWith 41 = .ok (.goto (-26), 3) := by decide +kernel
theorem d_Rw_beginsWith_44 : decode c_Rw_beginsWith 44 = .ok (.iconst 1, 1) := by decide +kernel
theorem d_Rw_beginsWith_45 : decode c_Rw_beginsWith 45 = .ok (.ireturn, 1) := by decide +kernel
theorem d_Px_isBetterThan_0 : decode c_Px_isBetterThan 0 = .ok (.aload_n 1, 1) := by decide +kernel
theorem d_Px_isBetterThan_1 : decode c_Px_isBetterThan 1 = .ok (.getfield 13, 3) := by decide +kernel
theorem d_Px_isBetterThan_4 : decode c_Px_isBetterThan 4 = .ok (.invokevirtual 22, 3) := by decide +kernel
theorem d_Px_isBetterThan_7 : decode c_Px_isBetterThan 7 = .ok (.aload_n 0, 1) := by decide +kernel
theorem d_Px_isBetterThan_8 : decode c_Px_isBetterThan 8 = .ok (.getfield 13, 3) := by decide +kernel
theorem d_Px_isBetterThan_11 : decode c_Px_isBetterThan 11 = .ok (.invokevirtual 22, 3) := by decide +kernel
theorem d_Px_isBetterThan_14 : decode c_Px_isBetterThan 14 = .ok (.invokestatic 36, 3) := by decide +kernel
theorem d_Px_isBetterThan_17 : decode c_Px_isBetterThan 17 = .ok (.istore_n 2, 1) := by decide +kernel
theorem d_Px_isBetterThan_18 : decode c_Px_isBetterThan 18 = .ok (.iload_n 2, 1) := by decide +kernel
theorem d_Px_isBetterThan_19 : decode c_Px_isBetterThan 19 = .ok (.ifCond .ne 25, 3) := by decide +kernel
theorem d_Px_isBetterThan_22 : decode c_Px_isBetterThan 22 = .ok (.aload_n 0, 1) := by decide +kernel
theorem d_Px_isBetterThan_23 : decode c_Px_isBetterThan 23 = .ok (.getfield 7, 3) := by decide +kernel
theorem d_Px_isBetterThan_26 : decode c_Px_isBetterThan 26 = .ok (.aload_n 1, 1) := by decide +kernel
theorem d_Px_isBetterThan_27 : decode c_Px_isBetterThan 27 = .ok (.getfield 7, 3) := by decide +kernel
theorem d_Px_isBetterThan_30 : decode c_Px_isBetterThan 30 = .ok (.invokevirtual 40, 3) := by decide +kernel
theorem d_Px_isBetterThan_33 : decode c_Px_isBetterThan 33 = .ok (.ifCond .ge 7, 3) := by decide +kernel
theorem d_Px_isBetterThan_36 : decode c_Px_isBetterThan 36 = .ok (.iconst 1, 1) := by decide +kernel
theorem d_Px_isBetterThan_37 : decode c_Px_isBetterThan 37 = .ok (.goto 16, 3) := by decide +kernel
theorem d_Px_isBetterThan_40 : decode c_Px_isBetterThan 40 = .ok (.iconst 0, 1) := by decide +kernel
theorem d_Px_isBetterThan_41 : decode c_Px_isBetterThan 41 = .ok (.goto 12, 3) := by decide +kernel
theorem d_Px_isBetterThan_44 : decode c_Px_isBetterThan 44 = .ok (.iload_n 2, 1) := by decide +kernel
theorem d_Px_isBetterThan_45 : decode c_Px_isBetterThan 45 = .ok (.ifCond .ge 7, 3) := by decide +kernel
theorem d_Px_isBetterThan_48 : decode c_Px_isBetterThan 48 = .ok (.iconst 1, 1) := by decide +kernel
theorem d_Px_isBetterThan_49 : decode c_Px_isBetterThan 49 = .ok (.goto 4, 3) := by decide +kernel
theorem d_Px_isBetterThan_52 : decode c_Px_isBetterThan 52 = .ok (.iconst 0, 1) := by decide +kernel
theorem d_Px_isBetterThan_53 : decode c_Px_isBetterThan 53 = .ok (.ireturn, 1) := by decide +kernel
theorem d_At_at_0 : decode c_At_at 0 = .ok (.aload_n 0, 1) := by decide +kernel
theorem d_At_at_1 : decode c_At_at 1 = .ok (.getfield 18, 3) := by decide +kernel
theorem d_At_at_4 : decode c_At_at 4 = .ok (.iload_n 1, 1) := by decide +kernel
theorem d_At_at_5 : decode c_At_at 5 = .ok (.invokevirtual 162, 3) := by decide +kernel
theorem d_At_at_8 : decode c_At_at 8 = .ok (.istore_n 2, 1) := by decide +kernel
theorem d_At_at_9 : decode c_At_at 9 = .ok (.iload_n 2, 1) := by decide +kernel
theorem d_At_at_10 : decode c_At_at 10 = .ok (.iconst (-1), 1) := by decide +kernel
theorem d_At_at_11 : decode c_At_at 11 = .ok (.if_icmp .ne 8, 3) := by decide +kernel
theorem d_At_at_14 : decode c_At_at 14 = .ok (.bipush (-2), 2) := by decide +kernel
theorem d_At_at_16 : decode c_At_at 16 = .ok (.goto 4, 3) := by decide +kernel
theorem d_At_at_19 : decode c_At_at 19 = .ok (.iload_n 2, 1) := by decide +kernel
theorem d_At_at_20 : decode c_At_at 20 = .ok (.ireturn, 1) := by decide +kernel
theorem d_At_count_0 : decode c_At_count 0 = .ok (.iload_n 1, 1) := by decide +kernel
theorem d_At_count_1 : decode c_At_count 1 = .ok (.tableswitch 45 0 2 #[27, 32, 37], 27) := by decide +kernel
theorem d_At_count_28 : decode c_At_count 28 = .ok (.aload_n 0, 1) := by decide +kernel
theorem d_At_count_29 : decode c_At_count 29 = .ok (.getfield 57, 3) := by decide +kernel
theorem d_At_count_32 : decode c_At_count 32 = .ok (.ireturn, 1) := by decide +kernel
theorem d_At_count_33 : decode c_At_count 33 = .ok (.aload_n 0, 1) := by decide +kernel
theorem d_At_count_34 : decode c_At_count 34 = .ok (.getfield 61, 3) := by decide +kernel
theorem d_At_count_37 : decode c_At_count 37 = .ok (.ireturn, 1) := by decide +kernel
theorem d_At_count_38 : decode c_At_count 38 = .ok (.aload_n 0, 1) := by decide +kernel
theorem d_At_count_39 : decode c_At_count 39 = .ok (.getfield 14, 3) := by decide +kernel
theorem d_At_count_42 : decode c_At_count 42 = .ok (.invokevirtual 75, 3) := by decide +kernel
theorem d_At_count_45 : decode c_At_count 45 = .ok (.ireturn, 1) := by decide +kernel
theorem d_At_count_46 : decode c_At_count 46 = .ok (.iconst (-1), 1) := by decide +kernel
theorem d_At_count_47 : decode c_At_count 47 = .ok (.ireturn, 1) := by decide +kernel
theorem d_Md_init_0 : decode c_Md_init 0 = .ok (.aload_n 0, 1) := by decide +kernel
theorem d_Md_init_1 : decode c_Md_init 1 = .ok (.invokespecial 1, 3) := by decide +kernel
theorem d_Md_init_4 : decode c_Md_init 4 = .ok (.aload_n 0, 1) := by decide +kernel
theorem d_Md_init_5 : decode c_Md_init 5 = .ok (.bipush 96, 2) := by decide +kernel
theorem d_Md_init_7 : decode c_Md_init 7 = .ok (.newarray .int, 2) := by decide +kernel
theorem d_Md_init_9 : decode c_Md_init 9 = .ok (.putfield 7, 3) := by decide +kernel
theorem d_Md_init_12 : decode c_Md_init 12 = .ok (.aload_n 0, 1) := by decide +kernel
theorem d_Md_init_13 : decode c_Md_init 13 = .ok (.bipush 60, 2) := by decide +kernel
theorem d_Md_init_15 : decode c_Md_init 15 = .ok (.newarray .int, 2) := by decide +kernel
theorem d_Md_init_17 : decode c_Md_init 17 = .ok (.putfield 13, 3) := by decide +kernel
theorem d_Md_init_20 : decode c_Md_init 20 = .ok (.aload_n 0, 1) := by decide +kernel
theorem d_Md_init_21 : decode c_Md_init 21 = .ok (.bipush 60, 2) := by decide +kernel
theorem d_Md_init_23 : decode c_Md_init 23 = .ok (.newarray .int, 2) := by decide +kernel
theorem d_Md_init_25 : decode c_Md_init 25 = .ok (.putfield 16, 3) := by decide +kernel
theorem d_Md_init_28 : decode c_Md_init 28 = .ok (.aload_n 0, 1) := by decide +kernel
theorem d_Md_init_29 : decode c_Md_init 29 = .ok (.bipush 60, 2) := by decide +kernel
theorem d_Md_init_31 : decode c_Md_init 31 = .ok (.newarray .int, 2) := by decide +kernel
theorem d_Md_init_33 : decode c_Md_init 33 = .ok (.putfield 19, 3) := by decide +kernel
theorem d_Md_init_36 : decode c_Md_init 36 = .ok (.aload_n 0, 1) := by decide +kernel
theorem d_Md_init_37 : decode c_Md_init 37 = .ok (.sipush 6000, 3) := by decide +kernel
theorem d_Md_init_40 : decode c_Md_init 40 = .ok (.newarray .int, 2) := by decide +kernel
theorem d_Md_init_42 : decode c_Md_init 42 = .ok (.putfield 22, 3) := by decide +kernel
theorem d_Md_init_45 : decode c_Md_init 45 = .ok (.aload_n 0, 1) := by decide +kernel
theorem d_Md_init_46 : decode c_Md_init 46 = .ok (.bipush 60, 2) := by decide +kernel
theorem d_Md_init_48 : decode c_Md_init 48 = .ok (.newarray .int, 2) := by decide +kernel
theorem d_Md_init_50 : decode c_Md_init 50 = .ok (.putfield 25, 3) := by decide +kernel
theorem d_Md_init_53 : decode c_Md_init 53 = .ok (.aload_n 0, 1) := by decide +kernel
theorem d_Md_init_54 : decode c_Md_init 54 = .ok (.sipush 960, 3) := by decide +kernel
theorem d_Md_init_57 : decode c_Md_init 57 = .ok (.newarray .int, 2) := by decide +kernel
theorem d_Md_init_59 : decode c_Md_init 59 = .ok (.putfield 28, 3) := by decide +kernel
theorem d_Md_init_62 : decode c_Md_init 62 = .ok (.aload_n 0, 1) := by decide +kernel
theorem d_Md_init_63 : decode c_Md_init 63 = .ok (.iconst (-1), 1) := by decide +kernel
theorem d_Md_init_64 : decode c_Md_init 64 = .ok (.putfield 31, 3) := by decide +kernel
theorem d_Md_init_67 : decode c_Md_init 67 = .ok (.aload_n 0, 1) := by decide +kernel
theorem d_Md_init_68 : decode c_Md_init 68 = .ok (.bipush 8, 2) := by decide +kernel
theorem d_Md_init_70 : decode c_Md_init 70 = .ok (.newarray .int, 2) := by decide +kernel
theorem d_Md_init_72 : decode c_Md_init 72 = .ok (.putfield 35, 3) := by decide +kernel
theorem d_Md_init_75 : decode c_Md_init 75 = .ok (.aload_n 0, 1) := by decide +kernel
theorem d_Md_init_76 : decode c_Md_init 76 = .ok (.bipush 48, 2) := by decide +kernel
theorem d_Md_init_78 : decode c_Md_init 78 = .ok (.newarray .int, 2) := by decide +kernel
theorem d_Md_init_80 : decode c_Md_init 80 = .ok (.putfield 38, 3) := by decide +kernel
theorem d_Md_init_83 : decode c_Md_init 83 = .ok (.aload_n 0, 1) := by decide +kernel
theorem d_Md_init_84 : decode c_Md_init 84 = .ok (.bipush 8, 2) := by decide +kernel
theorem d_Md_init_86 : decode c_Md_init 86 = .ok (.newarray .int, 2) := by decide +kernel
theorem d_Md_init_88 : decode c_Md_init 88 = .ok (.putfield 41, 3) := by decide +kernel
theorem d_Md_init_91 : decode c_Md_init 91 = .ok (.aload_n 0, 1) := by decide +kernel
theorem d_Md_init_92 : decode c_Md_init 92 = .ok (.sipush 400, 3) := by decide +kernel
theorem d_Md_init_95 : decode c_Md_init 95 = .ok (.newarray .int, 2) := by decide +kernel
theorem d_Md_init_97 : decode c_Md_init 97 = .ok (.putfield 44, 3) := by decide +kernel
theorem d_Md_init_100 : decode c_Md_init 100 = .ok (.aload_n 0, 1) := by decide +kernel
theorem d_Md_init_101 : decode c_Md_init 101 = .ok (.bipush 16, 2) := by decide +kernel
theorem d_Md_init_103 : decode c_Md_init 103 = .ok (.newarray .int, 2) := by decide +kernel
theorem d_Md_init_105 : decode c_Md_init 105 = .ok (.putfield 47, 3) := by decide +kernel
theorem d_Md_init_108 : decode c_Md_init 108 = .ok (.aload_n 0, 1) := by decide +kernel
theorem d_Md_init_109 : decode c_Md_init 109 = .ok (.sipush 300, 3) := by decide +kernel
theorem d_Md_init_112 : decode c_Md_init 112 = .ok (.newarray .int, 2) := by decide +kernel
theorem d_Md_init_114 : decode c_Md_init 114 = .ok (.putfield 50, 3) := by decide +kernel
theorem d_Md_init_117 : decode c_Md_init 117 = .ok (.aload_n 0, 1) := by decide +kernel
theorem d_Md_init_118 : decode c_Md_init 118 = .ok (.bipush 100, 2) := by decide +kernel
theorem d_Md_init_120 : decode c_Md_init 120 = .ok (.newarray .int, 2) := by decide +kernel
theorem d_Md_init_122 : decode c_Md_init 122 = .ok (.putfield 53, 3) := by decide +kernel
theorem d_Md_init_125 : decode c_Md_init 125 = .ok (.aload_n 0, 1) := by decide +kernel
theorem d_Md_init_126 : decode c_Md_init 126 = .ok (.iconst 5, 1) := by decide +kernel
theorem d_Md_init_127 : decode c_Md_init 127 = .ok (.newarray .int, 2) := by decide +kernel
theorem d_Md_init_129 : decode c_Md_init 129 = .ok (.putfield 56, 3) := by decide +kernel
theorem d_Md_init_132 : decode c_Md_init 132 = .ok (.aload_n 0, 1) := by decide +kernel
theorem d_Md_init_133 : decode c_Md_init 133 = .ok (.iconst 5, 1) := by decide +kernel
theorem d_Md_init_134 : decode c_Md_init 134 = .ok (.newarray .int, 2) := by decide +kernel
theorem d_Md_init_136 : decode c_Md_init 136 = .ok (.putfield 59, 3) := by decide +kernel
theorem d_Md_init_139 : decode c_Md_init 139 = .ok (.aload_n 0, 1) := by decide +kernel
theorem d_Md_init_140 : decode c_Md_init 140 = .ok (.iconst 5, 1) := by decide +kernel
theorem d_Md_init_141 : decode c_Md_init 141 = .ok (.newarray .int, 2) := by decide +kernel
theorem d_Md_init_143 : decode c_Md_init 143 = .ok (.putfield 62, 3) := by decide +kernel
theorem d_Md_init_146 : decode c_Md_init 146 = .ok (.aload_n 0, 1) := by decide +kernel
theorem d_Md_init_147 : decode c_Md_init 147 = .ok (.iconst 5, 1) := by decide +kernel
theorem d_Md_init_148 : decode c_Md_init 148 = .ok (.newarray .int, 2) := by decide +kernel
theorem d_Md_init_150 : decode c_Md_init 150 = .ok (.putfield 65, 3) := by decide +kernel
theorem d_Md_init_153 : decode c_Md_init 153 = .ok (.aload_n 0, 1) := by decide +kernel
theorem d_Md_init_154 : decode c_Md_init 154 = .ok (.sipush 300, 3) := by decide +kernel
theorem d_Md_init_157 : decode c_Md_init 157 = .ok (.newarray .int, 2) := by decide +kernel
theorem d_Md_init_159 : decode c_Md_init 159 = .ok (.putfield 68, 3) := by decide +kernel
theorem d_Md_init_162 : decode c_Md_init 162 = .ok (.aload_n 0, 1) := by decide +kernel
theorem d_Md_init_163 : decode c_Md_init 163 = .ok (.sipush 300, 3) := by decide +kernel
theorem d_Md_init_166 : decode c_Md_init 166 = .ok (.newarray .int, 2) := by decide +kernel
theorem d_Md_init_168 : decode c_Md_init 168 = .ok (.putfield 71, 3) := by decide +kernel
theorem d_Md_init_171 : decode c_Md_init 171 = .ok (.aload_n 0, 1) := by decide +kernel
theorem d_Md_init_172 : decode c_Md_init 172 = .ok (.iconst 0, 1) := by decide +kernel
theorem d_Md_init_173 : decode c_Md_init 173 = .ok (.putfield 74, 3) := by decide +kernel
theorem d_Md_init_176 : decode c_Md_init 176 = .ok (.return_, 1) := by decide +kernel
