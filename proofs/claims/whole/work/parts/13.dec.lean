theorem d_Tm_order_0 : decode c_Tm_order 0 = .ok (.aload_n 0, 1) := by decide +kernel
theorem d_Tm_order_1 : decode c_Tm_order 1 = .ok (.invokevirtual 51, 3) := by decide +kernel
theorem d_Tm_order_4 : decode c_Tm_order 4 = .ok (.aload_n 1, 1) := by decide +kernel
theorem d_Tm_order_5 : decode c_Tm_order 5 = .ok (.invokevirtual 51, 3) := by decide +kernel
theorem d_Tm_order_8 : decode c_Tm_order 8 = .ok (.invokestatic 54, 3) := by decide +kernel
theorem d_Tm_order_11 : decode c_Tm_order 11 = .ok (.istore_n 2, 1) := by decide +kernel
theorem d_Tm_order_12 : decode c_Tm_order 12 = .ok (.iload_n 2, 1) := by decide +kernel
theorem d_Tm_order_13 : decode c_Tm_order 13 = .ok (.ifCond .ne 15, 3) := by decide +kernel
theorem d_Tm_order_16 : decode c_Tm_order 16 = .ok (.aload_n 0, 1) := by decide +kernel
theorem d_Tm_order_17 : decode c_Tm_order 17 = .ok (.getfield 18, 3) := by decide +kernel
theorem d_Tm_order_20 : decode c_Tm_order 20 = .ok (.aload_n 1, 1) := by decide +kernel
theorem d_Tm_order_21 : decode c_Tm_order 21 = .ok (.getfield 18, 3) := by decide +kernel
theorem d_Tm_order_24 : decode c_Tm_order 24 = .ok (.invokestatic 54, 3) := by decide +kernel
theorem d_Tm_order_27 : decode c_Tm_order 27 = .ok (.istore_n 2, 1) := by decide +kernel
theorem d_Tm_order_28 : decode c_Tm_order 28 = .ok (.iload_n 2, 1) := by decide +kernel
theorem d_Tm_order_29 : decode c_Tm_order 29 = .ok (.ifCond .ne 15, 3) := by decide +kernel
theorem d_Tm_order_32 : decode c_Tm_order 32 = .ok (.aload_n 0, 1) := by decide +kernel
theorem d_Tm_order_33 : decode c_Tm_order 33 = .ok (.getfield 26, 3) := by decide +kernel
theorem d_Tm_order_36 : decode c_Tm_order 36 = .ok (.aload_n 1, 1) := by decide +kernel
theorem d_Tm_order_37 : decode c_Tm_order 37 = .ok (.getfield 26, 3) := by decide +kernel
theorem d_Tm_order_40 : decode c_Tm_order 40 = .ok (.invokevirtual 58, 3) := by decide +kernel
theorem d_Tm_order_43 : decode c_Tm_order 43 = .ok (.istore_n 2, 1) := by decide +kernel
theorem d_Tm_order_44 : decode c_Tm_order 44 = .ok (.iload_n 2, 1) := by decide +kernel
theorem d_Tm_order_45 : decode c_Tm_order 45 = .ok (.ifCond .ne 15, 3) := by decide +kernel
theorem d_Tm_order_48 : decode c_Tm_order 48 = .ok (.aload_n 0, 1) := by decide +kernel
theorem d_Tm_order_49 : decode c_Tm_order 49 = .ok (.getfield 15, 3) := by decide +kernel
theorem d_Tm_order_52 : decode c_Tm_order 52 = .ok (.aload_n 1, 1) := by decide +kernel
theorem d_Tm_order_53 : decode c_Tm_order 53 = .ok (.getfield 15, 3) := by decide +kernel
theorem d_Tm_order_56 : decode c_Tm_order 56 = .ok (.invokestatic 54, 3) := by decide +kernel
theorem d_Tm_order_59 : decode c_Tm_order 59 = .ok (.istore_n 2, 1) := by decide +kernel
theorem d_Tm_order_60 : decode c_Tm_order 60 = .ok (.iload_n 2, 1) := by decide +kernel
theorem d_Tm_order_61 : decode c_Tm_order 61 = .ok (.ifCond .ne 17, 3) := by decide +kernel
theorem d_Tm_order_64 : decode c_Tm_order 64 = .ok (.aload_n 0, 1) := by decide +kernel
theorem d_Tm_order_65 : decode c_Tm_order 65 = .ok (.getfield 30, 3) := by decide +kernel
theorem d_Tm_order_68 : decode c_Tm_order 68 = .ok (.aload_n 1, 1) := by decide +kernel
theorem d_Tm_order_69 : decode c_Tm_order 69 = .ok (.getfield 30, 3) := by decide +kernel
theorem d_Tm_order_72 : decode c_Tm_order 72 = .ok (.invokevirtual 58, 3) := by decide +kernel
theorem d_Tm_order_75 : decode c_Tm_order 75 = .ok (.goto 4, 3) := by decide +kernel
theorem d_Tm_order_78 : decode c_Tm_order 78 = .ok (.iload_n 2, 1) := by decide +kernel
theorem d_Tm_order_79 : decode c_Tm_order 79 = .ok (.ireturn, 1) := by decide +kernel
theorem d_Tm_rank_0 : decode c_Tm_rank 0 = .ok (.aload_n 0, 1) := by decide +kernel
theorem d_Tm_rank_1 : decode c_Tm_rank 1 = .ok (.getfield 9, 3) := by decide +kernel
theorem d_Tm_rank_4 : decode c_Tm_rank 4 = .ok (.iconst 1, 1) := by decide +kernel
theorem d_Tm_rank_5 : decode c_Tm_rank 5 = .ok (.if_icmp .ne 5, 3) := by decide +kernel
theorem d_Tm_rank_8 : decode c_Tm_rank 8 = .ok (.iconst 0, 1) := by decide +kernel
theorem d_Tm_rank_9 : decode c_Tm_rank 9 = .ok (.ireturn, 1) := by decide +kernel
theorem d_Tm_rank_10 : decode c_Tm_rank 10 = .ok (.aload_n 0, 1) := by decide +kernel
theorem d_Tm_rank_11 : decode c_Tm_rank 11 = .ok (.getfield 9, 3) := by decide +kernel
theorem d_Tm_rank_14 : decode c_Tm_rank 14 = .ok (.ifCond .ne 7, 3) := by decide +kernel
theorem d_Tm_rank_17 : decode c_Tm_rank 17 = .ok (.iconst 1, 1) := by decide +kernel
theorem d_Tm_rank_18 : decode c_Tm_rank 18 = .ok (.goto 4, 3) := by decide +kernel
theorem d_Tm_rank_21 : decode c_Tm_rank 21 = .ok (.iconst 2, 1) := by decide +kernel
theorem d_Tm_rank_22 : decode c_Tm_rank 22 = .ok (.ireturn, 1) := by decide +kernel
theorem d_At_orderOf_0 : decode c_At_orderOf 0 = .ok (.iload_n 0, 1) := by decide +kernel
theorem d_At_orderOf_1 : decode c_At_orderOf 1 = .ok (.iload_n 1, 1) := by decide +kernel
theorem d_At_orderOf_2 : decode c_At_orderOf 2 = .ok (.if_icmp .ne 5, 3) := by decide +kernel
theorem d_At_orderOf_5 : decode c_At_orderOf 5 = .ok (.iconst 0, 1) := by decide +kernel
theorem d_At_orderOf_6 : decode c_At_orderOf 6 = .ok (.ireturn, 1) := by decide +kernel
theorem d_At_orderOf_7 : decode c_At_orderOf 7 = .ok (.iload_n 0, 1) := by decide +kernel
theorem d_At_orderOf_8 : decode c_At_orderOf 8 = .ok (.iload_n 1, 1) := by decide +kernel
theorem d_At_orderOf_9 : decode c_At_orderOf 9 = .ok (.if_icmp .ge 7, 3) := by decide +kernel
theorem d_At_orderOf_12 : decode c_At_orderOf 12 = .ok (.iconst (-1), 1) := by decide +kernel
theorem d_At_orderOf_13 : decode c_At_orderOf 13 = .ok (.goto 4, 3) := by decide +kernel
theorem d_At_orderOf_16 : decode c_At_orderOf 16 = .ok (.iconst 1, 1) := by decide +kernel
theorem d_At_orderOf_17 : decode c_At_orderOf 17 = .ok (.ireturn, 1) := by decide +kernel
theorem d_Rw_order_0 : decode c_Rw_order 0 = .ok (.aload_n 0, 1) := by decide +kernel
theorem d_Rw_order_1 : decode c_Rw_order 1 = .ok (.getfield 9, 3) := by decide +kernel
theorem d_Rw_order_4 : decode c_Rw_order 4 = .ok (.aload_n 1, 1) := by decide +kernel
theorem d_Rw_order_5 : decode c_Rw_order 5 = .ok (.getfield 9, 3) := by decide +kernel
theorem d_Rw_order_8 : decode c_Rw_order 8 = .ok (.invokestatic 25, 3) := by decide +kernel
theorem d_Rw_order_11 : decode c_Rw_order 11 = .ok (.istore_n 2, 1) := by decide +kernel
theorem d_Rw_order_12 : decode c_Rw_order 12 = .ok (.iconst 0, 1) := by decide +kernel
theorem d_Rw_order_13 : decode c_Rw_order 13 = .ok (.istore_n 3, 1) := by decide +kernel
theorem d_Rw_order_14 : decode c_Rw_order 14 = .ok (.iload_n 3, 1) := by decide +kernel
theorem d_Rw_order_15 : decode c_Rw_order 15 = .ok (.iload_n 2, 1) := by decide +kernel
theorem d_Rw_order_16 : decode c_Rw_order 16 = .ok (.if_icmp .ge 32, 3) := by decide +kernel
theorem d_Rw_order_19 : decode c_Rw_order 19 = .ok (.aload_n 0, 1) := by decide +kernel
theorem d_Rw_order_20 : decode c_Rw_order 20 = .ok (.iload_n 3, 1) := by decide +kernel
theorem d_Rw_order_21 : decode c_Rw_order 21 = .ok (.invokevirtual 28, 3) := by decide +kernel
theorem d_Rw_order_24 : decode c_Rw_order 24 = .ok (.aload_n 1, 1) := by decide +kernel
theorem d_Rw_order_25 : decode c_Rw_order 25 = .ok (.iload_n 3, 1) := by decide +kernel
theorem d_Rw_order_26 : decode c_Rw_order 26 = .ok (.invokevirtual 28, 3) := by decide +kernel
theorem d_Rw_order_29 : decode c_Rw_order 29 = .ok (.invokestatic 51, 3) := by decide +kernel
theorem d_Rw_order_32 : decode c_Rw_order 32 = .ok (.istore 4, 2) := by decide +kernel
theorem d_Rw_order_34 : decode c_Rw_order 34 = .ok (.iload 4, 2) := by decide +kernel
theorem d_Rw_order_36 : decode c_Rw_order 36 = .ok (.ifCond .eq 6, 3) := by decide +kernel
theorem d_Rw_order_39 : decode c_Rw_order 39 = .ok (.iload 4, 2) := by decide +kernel
theorem d_Rw_order_41 : decode c_Rw_order 41 = .ok (.ireturn, 1) := by decide +kernel
theorem d_Rw_order_42 : decode c_Rw_order 42 = .ok (.iinc 3 1, 3) := by decide +kernel
theorem d_Rw_order_45 : decode c_Rw_order 45 = .ok (.goto (-31), 3) := by decide +kernel
theorem d_Rw_order_48 : decode c_Rw_order 48 = .ok (.aload_n 0, 1) := by decide +kernel
theorem d_Rw_order_49 : decode c_Rw_order 49 = .ok (.getfield 9, 3) := by decide +kernel
theorem d_Rw_order_52 : decode c_Rw_order 52 = .ok (.aload_n 1, 1) := by decide +kernel
theorem d_Rw_order_53 : decode c_Rw_order 53 = .ok (.getfield 9, 3) := by decide +kernel
theorem d_Rw_order_56 : decode c_Rw_order 56 = .ok (.invokestatic 51, 3) := by decide +kernel
theorem d_Rw_order_59 : decode c_Rw_order 59 = .ok (.ireturn, 1) := by decide +kernel
theorem d_Tm_copy_0 : decode c_Tm_copy 0 = .ok (.new 10, 3) := by decide +kernel
theorem d_Tm_copy_3 : decode c_Tm_copy 3 = .ok (.dup, 1) := by decide +kernel
theorem d_Tm_copy_4 : decode c_Tm_copy 4 = .ok (.aload_n 0, 1) := by decide +kernel
theorem d_Tm_copy_5 : decode c_Tm_copy 5 = .ok (.getfield 26, 3) := by decide +kernel
theorem d_Tm_copy_8 : decode c_Tm_copy 8 = .ok (.invokevirtual 36, 3) := by decide +kernel
theorem d_Tm_copy_11 : decode c_Tm_copy 11 = .ok (.aload_n 0, 1) := by decide +kernel
theorem d_Tm_copy_12 : decode c_Tm_copy 12 = .ok (.getfield 30, 3) := by decide +kernel
theorem d_Tm_copy_15 : decode c_Tm_copy 15 = .ok (.invokevirtual 36, 3) := by decide +kernel
theorem d_Tm_copy_18 : decode c_Tm_copy 18 = .ok (.invokespecial 40, 3) := by decide +kernel
theorem d_Tm_copy_21 : decode c_Tm_copy 21 = .ok (.astore_n 1, 1) := by decide +kernel
theorem d_Tm_copy_22 : decode c_Tm_copy 22 = .ok (.aload_n 1, 1) := by decide +kernel
theorem d_Tm_copy_23 : decode c_Tm_copy 23 = .ok (.aload_n 0, 1) := by decide +kernel
theorem d_Tm_copy_24 : decode c_Tm_copy 24 = .ok (.getfield 9, 3) := by decide +kernel
theorem d_Tm_copy_27 : decode c_Tm_copy 27 = .ok (.aload_n 0, 1) := by decide +kernel
theorem d_Tm_copy_28 : decode c_Tm_copy 28 = .ok (.getfield 15, 3) := by decide +kernel
theorem d_Tm_copy_31 : decode c_Tm_copy 31 = .ok (.aload_n 0, 1) := by decide +kernel
theorem d_Tm_copy_32 : decode c_Tm_copy 32 = .ok (.getfield 18, 3) := by decide +kernel
theorem d_Tm_copy_35 : decode c_Tm_copy 35 = .ok (.invokevirtual 43, 3) := by decide +kernel
theorem d_Tm_copy_38 : decode c_Tm_copy 38 = .ok (.aload_n 1, 1) := by decide +kernel
theorem d_Tm_copy_39 : decode c_Tm_copy 39 = .ok (.getfield 26, 3) := by decide +kernel
theorem d_Tm_copy_42 : decode c_Tm_copy 42 = .ok (.aload_n 0, 1) := by decide +kernel
theorem d_Tm_copy_43 : decode c_Tm_copy 43 = .ok (.getfield 26, 3) := by decide +kernel
theorem d_Tm_copy_46 : decode c_Tm_copy 46 = .ok (.iconst 0, 1) := by decide +kernel
theorem d_Tm_copy_47 : decode c_Tm_copy 47 = .ok (.aload_n 0, 1) := by decide +kernel
theorem d_Tm_copy_48 : decode c_Tm_copy 48 = .ok (.getfield 26, 3) := by decide +kernel
theorem d_Tm_copy_51 : decode c_Tm_copy 51 = .ok (.invokevirtual 36, 3) := by decide +kernel
theorem d_Tm_copy_54 : decode c_Tm_copy 54 = .ok (.invokevirtual 47, 3) := by decide +kernel
theorem d_Tm_copy_57 : decode c_Tm_copy 57 = .ok (.aload_n 1, 1) := by decide +kernel
theorem d_Tm_copy_58 : decode c_Tm_copy 58 = .ok (.getfield 30, 3) := by decide +kernel
theorem d_Tm_copy_61 : decode c_Tm_copy 61 = .ok (.aload_n 0, 1) := by decide +kernel
theorem d_Tm_copy_62 : decode c_Tm_copy 62 = .ok (.getfield 30, 3) := by decide +kernel
theorem d_Tm_copy_65 : decode c_Tm_copy 65 = .ok (.iconst 0, 1) := by decide +kernel
theorem d_Tm_copy_66 : decode c_Tm_copy 66 = .ok (.aload_n 0, 1) := by decide +kernel
theorem d_Tm_copy_67 : decode c_Tm_copy 67 = .ok (.getfield 30, 3) := by decide +kernel
theorem d_Tm_copy_70 : decode c_Tm_copy 70 = .ok (.invokevirtual 36, 3) := by decide +kernel
theorem d_Tm_copy_73 : decode c_Tm_copy 73 = .ok (.invokevirtual 47, 3) := by decide +kernel
theorem d_Tm_copy_76 : decode c_Tm_copy 76 = .ok (.aload_n 1, 1) := by decide +kernel
theorem d_Tm_copy_77 : decode c_Tm_copy 77 = .ok (.areturn, 1) := by decide +kernel
theorem d_At_base_0 : decode c_At_base 0 = .ok (.iload_n 1, 1) := by decide +kernel
theorem d_At_base_1 : decode c_At_base 1 = .ok (.iconst (-1), 1) := by decide +kernel
theorem d_At_base_2 : decode c_At_base 2 = .ok (.if_icmp .eq 13, 3) := by decide +kernel
theorem d_At_base_5 : decode c_At_base 5 = .ok (.aload_n 0, 1) := by decide +kernel
theorem d_At_base_6 : decode c_At_base 6 = .ok (.iload_n 1, 1) := by decide +kernel
theorem d_At_base_7 : decode c_At_base 7 = .ok (.invokevirtual 88, 3) := by decide +kernel
theorem d_At_base_10 : decode c_At_base 10 = .ok (.ifnonnull 5, 3) := by decide +kernel
theorem d_At_base_13 : decode c_At_base 13 = .ok (.iconst (-1), 1) := by decide +kernel
theorem d_At_base_14 : decode c_At_base 14 = .ok (.ireturn, 1) := by decide +kernel
theorem d_At_base_15 : decode c_At_base 15 = .ok (.aload_n 0, 1) := by decide +kernel
theorem d_At_base_16 : decode c_At_base 16 = .ok (.iload_n 1, 1) := by decide +kernel
theorem d_At_base_17 : decode c_At_base 17 = .ok (.putfield 64, 3) := by decide +kernel
theorem d_At_base_20 : decode c_At_base 20 = .ok (.iconst 1, 1) := by decide +kernel
theorem d_At_base_21 : decode c_At_base 21 = .ok (.ireturn, 1) := by decide +kernel
theorem d_At_label_0 : decode c_At_label 0 = .ok (.iload_n 1, 1) := by decide +kernel
theorem d_At_label_1 : decode c_At_label 1 = .ok (.ifCond .lt 10, 3) := by decide +kernel
theorem d_At_label_4 : decode c_At_label 4 = .ok (.iload_n 1, 1) := by decide +kernel
theorem d_At_label_5 : decode c_At_label 5 = .ok (.sipush 999, 3) := by decide +kernel
theorem d_At_label_8 : decode c_At_label 8 = .ok (.if_icmp .le 5, 3) := by decide +kernel
theorem d_At_label_11 : decode c_At_label 11 = .ok (.iconst (-1), 1) := by decide +kernel
theorem d_At_label_12 : decode c_At_label 12 = .ok (.ireturn, 1) := by decide +kernel
theorem d_At_label_13 : decode c_At_label 13 = .ok (.aload_n 0, 1) := by decide +kernel
theorem d_At_label_14 : decode c_At_label 14 = .ok (.getfield 36, 3) := by decide +kernel
theorem d_At_label_17 : decode c_At_label 17 = .ok (.iconst 1, 1) := by decide +kernel
theorem d_At_label_18 : decode c_At_label 18 = .ok (.iconst 0, 1) := by decide +kernel
theorem d_At_label_19 : decode c_At_label 19 = .ok (.iload_n 1, 1) := by decide +kernel
theorem d_At_label_20 : decode c_At_label 20 = .ok (.invokevirtual 92, 3) := by decide +kernel
theorem d_At_label_23 : decode c_At_label 23 = .ok (.aload_n 0, 1) := by decide +kernel
theorem d_At_label_24 : decode c_At_label 24 = .ok (.invokevirtual 96, 3) := by decide +kernel
theorem d_At_label_27 : decode c_At_label 27 = .ok (.ireturn, 1) := by decide +kernel
theorem d_At_literal_0 : decode c_At_literal 0 = .ok (.aload_n 0, 1) := by decide +kernel
theorem d_At_literal_1 : decode c_At_literal 1 = .ok (.iload_n 1, 1) := by decide +kernel
theorem d_At_literal_2 : decode c_At_literal 2 = .ok (.invokevirtual 99, 3) := by decide +kernel
theorem d_At_literal_5 : decode c_At_literal 5 = .ok (.istore_n 2, 1) := by decide +kernel
theorem d_At_literal_6 : decode c_At_literal 6 = .ok (.aload_n 0, 1) := by decide +kernel
theorem d_At_literal_7 : decode c_At_literal 7 = .ok (.getfield 14, 3) := by decide +kernel
theorem d_At_literal_10 : decode c_At_literal 10 = .ok (.iconst 0, 1) := by decide +kernel
theorem d_At_literal_11 : decode c_At_literal 11 = .ok (.invokevirtual 85, 3) := by decide +kernel
theorem d_At_literal_14 : decode c_At_literal 14 = .ok (.iload_n 2, 1) := by decide +kernel
theorem d_At_literal_15 : decode c_At_literal 15 = .ok (.ireturn, 1) := by decide +kernel
theorem d_At_literalOnTape_0 : decode c_At_literalOnTape 0 = .ok (.iload_n 1, 1) := by decide +kernel
theorem d_At_literalOnTape_1 : decode c_At_literalOnTape 1 = .ok (.ifCond .eq 20, 3) := by decide +kernel
theorem d_At_literalOnTape_4 : decode c_At_literalOnTape 4 = .ok (.iload_n 1, 1) := by decide +kernel
theorem d_At_literalOnTape_5 : decode c_At_literalOnTape 5 = .ok (.iconst 2, 1) := by decide +kernel
theorem d_At_literalOnTape_6 : decode c_At_literalOnTape 6 = .ok (.if_icmp .eq 15, 3) := by decide +kernel
theorem d_At_literalOnTape_9 : decode c_At_literalOnTape 9 = .ok (.iload_n 1, 1) := by decide +kernel
theorem d_At_literalOnTape_10 : decode c_At_literalOnTape 10 = .ok (.iconst 3, 1) := by decide +kernel
theorem d_At_literalOnTape_11 : decode c_At_literalOnTape 11 = .ok (.if_icmp .eq 10, 3) := by decide +kernel
theorem d_At_literalOnTape_14 : decode c_At_literalOnTape 14 = .ok (.iload_n 1, 1) := by decide +kernel
theorem d_At_literalOnTape_15 : decode c_At_literalOnTape 15 = .ok (.iconst 4, 1) := by decide +kernel
theorem d_At_literalOnTape_16 : decode c_At_literalOnTape 16 = .ok (.if_icmp .eq 5, 3) := by decide +kernel
theorem d_At_literalOnTape_19 : decode c_At_literalOnTape 19 = .ok (.iconst (-1), 1) := by decide +kernel
theorem d_At_literalOnTape_20 : decode c_At_literalOnTape 20 = .ok (.ireturn, 1) := by decide +kernel
theorem d_At_literalOnTape_21 : decode c_At_literalOnTape 21 = .ok (.aload_n 0, 1) := by decide +kernel
theorem d_At_literalOnTape_22 : decode c_At_literalOnTape 22 = .ok (.getfield 36, 3) := by decide +kernel
theorem d_At_literalOnTape_25 : decode c_At_literalOnTape 25 = .ok (.iconst 2, 1) := by decide +kernel
theorem d_At_literalOnTape_26 : decode c_At_literalOnTape 26 = .ok (.iload_n 1, 1) := by decide +kernel
theorem d_At_literalOnTape_27 : decode c_At_literalOnTape 27 = .ok (.iconst 0, 1) := by decide +kernel
theorem d_At_literalOnTape_28 : decode c_At_literalOnTape 28 = .ok (.invokevirtual 92, 3) := by decide +kernel
theorem d_At_literalOnTape_31 : decode c_At_literalOnTape 31 = .ok (.aload_n 0, 1) := by decide +kernel
theorem d_At_literalOnTape_32 : decode c_At_literalOnTape 32 = .ok (.getfield 14, 3) := by decide +kernel
theorem d_At_literalOnTape_35 : decode c_At_literalOnTape 35 = .ok (.aload_n 0, 1) := by decide +kernel
theorem d_At_literalOnTape_36 : decode c_At_literalOnTape 36 = .ok (.getfield 36, 3) := by decide +kernel
theorem d_At_literalOnTape_39 : decode c_At_literalOnTape 39 = .ok (.getfield 109, 3) := by decide +kernel
theorem d_At_literalOnTape_42 : decode c_At_literalOnTape 42 = .ok (.invokestatic 181, 3) := by decide +kernel
theorem d_At_literalOnTape_45 : decode c_At_literalOnTape 45 = .ok (.istore_n 2, 1) := by decide +kernel
theorem d_At_literalOnTape_46 : decode c_At_literalOnTape 46 = .ok (.iload_n 2, 1) := by decide +kernel
theorem d_At_literalOnTape_47 : decode c_At_literalOnTape 47 = .ok (.iconst (-1), 1) := by decide +kernel
theorem d_At_literalOnTape_48 : decode c_At_literalOnTape 48 = .ok (.if_icmp .eq 8, 3) := by decide +kernel
theorem d_At_literalOnTape_51 : decode c_At_literalOnTape 51 = .ok (.bipush (-10), 2) := by decide +kernel
theorem d_At_literalOnTape_53 : decode c_At_literalOnTape 53 = .ok (.iload_n 2, 1) := by decide +kernel
theorem d_At_literalOnTape_54 : decode c_At_literalOnTape 54 = .ok (.isub, 1) := by decide +kernel
theorem d_At_literalOnTape_55 : decode c_At_literalOnTape 55 = .ok (.ireturn, 1) := by decide +kernel
theorem d_At_literalOnTape_56 : decode c_At_literalOnTape 56 = .ok (.aload_n 0, 1) := by decide +kernel
theorem d_At_literalOnTape_57 : decode c_At_literalOnTape 57 = .ok (.getfield 36, 3) := by decide +kernel
theorem d_At_literalOnTape_60 : decode c_At_literalOnTape 60 = .ok (.getfield 109, 3) := by decide +kernel
theorem d_At_literalOnTape_63 : decode c_At_literalOnTape 63 = .ok (.invokevirtual 75, 3) := by decide +kernel
theorem d_At_literalOnTape_66 : decode c_At_literalOnTape 66 = .ok (.bipush 40, 2) := by decide +kernel
theorem d_At_literalOnTape_68 : decode c_At_literalOnTape 68 = .ok (.if_icmp .le 8, 3) := by decide +kernel
theorem d_At_literalOnTape_71 : decode c_At_literalOnTape 71 = .ok (.bipush (-3), 2) := by decide +kernel
theorem d_At_literalOnTape_73 : decode c_At_literalOnTape 73 = .ok (.goto 7, 3) := by decide +kernel
theorem d_At_literalOnTape_76 : decode c_At_literalOnTape 76 = .ok (.aload_n 0, 1) := by decide +kernel
theorem d_At_literalOnTape_77 : decode c_At_literalOnTape 77 = .ok (.invokevirtual 96, 3) := by decide +kernel
theorem d_At_literalOnTape_80 : decode c_At_literalOnTape 80 = .ok (.ireturn, 1) := by decide +kernel
theorem d_At_readText_0 : decode c_At_readText 0 = .ok (.iconst 0, 1) := by decide +kernel
theorem d_At_readText_1 : decode c_At_readText 1 = .ok (.istore_n 2, 1) := by decide +kernel
theorem d_At_readText_2 : decode c_At_readText 2 = .ok (.iconst 0, 1) := by decide +kernel
theorem d_At_readText_3 : decode c_At_readText 3 = .ok (.istore_n 3, 1) := by decide +kernel
theorem d_At_readText_4 : decode c_At_readText 4 = .ok (.iload_n 3, 1) := by decide +kernel
theorem d_At_readText_5 : decode c_At_readText 5 = .ok (.aload_n 0, 1) := by decide +kernel
theorem d_At_readText_6 : decode c_At_readText 6 = .ok (.invokevirtual 75, 3) := by decide +kernel
theorem d_At_readText_9 : decode c_At_readText 9 = .ok (.if_icmp .ge 93, 3) := by decide +kernel
theorem d_At_readText_12 : decode c_At_readText 12 = .ok (.iload_n 2, 1) := by decide +kernel
theorem d_At_readText_13 : decode c_At_readText 13 = .ok (.aload_n 0, 1) := by decide +kernel
theorem d_At_readText_14 : decode c_At_readText 14 = .ok (.invokevirtual 75, 3) := by decide +kernel
theorem d_At_readText_17 : decode c_At_readText 17 = .ok (.if_icmp .ge 85, 3) := by decide +kernel
theorem d_At_readText_20 : decode c_At_readText 20 = .ok (.aload_n 0, 1) := by decide +kernel
theorem d_At_readText_21 : decode c_At_readText 21 = .ok (.iload_n 2, 1) := by decide +kernel
theorem d_At_readText_22 : decode c_At_readText 22 = .ok (.invokevirtual 162, 3) := by decide +kernel
theorem d_At_readText_25 : decode c_At_readText 25 = .ok (.istore 4, 2) := by decide +kernel
theorem d_At_readText_27 : decode c_At_readText 27 = .ok (.iconst 1, 1) := by decide +kernel
theorem d_At_readText_28 : decode c_At_readText 28 = .ok (.istore 5, 2) := by decide +kernel
theorem d_At_readText_30 : decode c_At_readText 30 = .ok (.iload 4, 2) := by decide +kernel
theorem d_At_readText_32 : decode c_At_readText 32 = .ok (.bipush 92, 2) := by decide +kernel
theorem d_At_readText_34 : decode c_At_readText 34 = .ok (.if_icmp .ne 33, 3) := by decide +kernel
theorem d_At_readText_37 : decode c_At_readText 37 = .ok (.aload_n 0, 1) := by decide +kernel
theorem d_At_readText_38 : decode c_At_readText 38 = .ok (.iload_n 2, 1) := by decide +kernel
theorem d_At_readText_39 : decode c_At_readText 39 = .ok (.iconst 1, 1) := by decide +kernel
theorem d_At_readText_40 : decode c_At_readText 40 = .ok (.iadd, 1) := by decide +kernel
theorem d_At_readText_41 : decode c_At_readText 41 = .ok (.invokevirtual 162, 3) := by decide +kernel
theorem d_At_readText_44 : decode c_At_readText 44 = .ok (.bipush 117, 2) := by decide +kernel
theorem d_At_readText_46 : decode c_At_readText 46 = .ok (.if_icmp .ne 8, 3) := by decide +kernel
theorem d_At_readText_49 : decode c_At_readText 49 = .ok (.bipush 6, 2) := by decide +kernel
theorem d_At_readText_51 : decode c_At_readText 51 = .ok (.goto 4, 3) := by decide +kernel
theorem d_At_readText_54 : decode c_At_readText 54 = .ok (.iconst 2, 1) := by decide +kernel
theorem d_At_readText_55 : decode c_At_readText 55 = .ok (.istore 5, 2) := by decide +kernel
theorem d_At_readText_57 : decode c_At_readText 57 = .ok (.aload_n 0, 1) := by decide +kernel
theorem d_At_readText_58 : decode c_At_readText 58 = .ok (.iload_n 2, 1) := by decide +kernel
theorem d_At_readText_59 : decode c_At_readText 59 = .ok (.invokestatic 276, 3) := by decide +kernel
theorem d_At_readText_62 : decode c_At_readText 62 = .ok (.istore 4, 2) := by decide +kernel
theorem d_At_readText_64 : decode c_At_readText 64 = .ok (.goto 13, 3) := by decide +kernel
theorem d_At_readText_67 : decode c_At_readText 67 = .ok (.iload 4, 2) := by decide +kernel
theorem d_At_readText_69 : decode c_At_readText 69 = .ok (.bipush 34, 2) := by decide +kernel
theorem d_At_readText_71 : decode c_At_readText 71 = .ok (.if_icmp .ne 6, 3) := by decide +kernel
theorem d_At_readText_74 : decode c_At_readText 74 = .ok (.iconst (-1), 1) := by decide +kernel
theorem d_At_readText_75 : decode c_At_readText 75 = .ok (.istore 4, 2) := by decide +kernel
theorem d_At_readText_77 : decode c_At_readText 77 = .ok (.iload 4, 2) := by decide +kernel
theorem d_At_readText_79 : decode c_At_readText 79 = .ok (.iconst (-1), 1) := by decide +kernel
theorem d_At_readText_80 : decode c_At_readText 80 = .ok (.if_icmp .ne 5, 3) := by decide +kernel
theorem d_At_readText_83 : decode c_At_readText 83 = .ok (.iload_n 2, 1) := by decide +kernel
theorem d_At_readText_84 : decode c_At_readText 84 = .ok (.ireturn, 1) := by decide +kernel
theorem d_At_readText_85 : decode c_At_readText 85 = .ok (.aload_n 1, 1) := by decide +kernel
theorem d_At_readText_86 : decode c_At_readText 86 = .ok (.iload 4, 2) := by decide +kernel
theorem d_At_readText_88 : decode c_At_readText 88 = .ok (.invokevirtual 79, 3) := by decide +kernel
theorem d_At_readText_91 : decode c_At_readText 91 = .ok (.iload_n 2, 1) := by decide +kernel
theorem d_At_readText_92 : decode c_At_readText 92 = .ok (.iload 5, 2) := by decide +kernel
theorem d_At_readText_94 : decode c_At_readText 94 = .ok (.iadd, 1) := by decide +kernel
theorem d_At_readText_95 : decode c_At_readText 95 = .ok (.istore_n 2, 1) := by decide +kernel
theorem d_At_readText_96 : decode c_At_readText 96 = .ok (.iinc 3 1, 3) := by decide +kernel
theorem d_At_readText_99 : decode c_At_readText 99 = .ok (.goto (-95), 3) := by decide +kernel
theorem d_At_readText_102 : decode c_At_readText 102 = .ok (.iconst (-1), 1) := by decide +kernel
theorem d_At_readText_103 : decode c_At_readText 103 = .ok (.ireturn, 1) := by decide +kernel
theorem d_At_escapedByte_0 : decode c_At_escapedByte 0 = .ok (.aload_n 0, 1) := by decide +kernel
theorem d_At_escapedByte_1 : decode c_At_escapedByte 1 = .ok (.iload_n 1, 1) := by decide +kernel
theorem d_At_escapedByte_2 : decode c_At_escapedByte 2 = .ok (.iconst 1, 1) := by decide +kernel
theorem d_At_escapedByte_3 : decode c_At_escapedByte 3 = .ok (.iadd, 1) := by decide +kernel
theorem d_At_escapedByte_4 : decode c_At_escapedByte 4 = .ok (.invokevirtual 162, 3) := by decide +kernel
theorem d_At_escapedByte_7 : decode c_At_escapedByte 7 = .ok (.lookupswitch 80 #[(34, 66), (92, 69), (110, 60), (114, 63), (116, 57), (117, 72)], 57) := by decide +kernel
theorem d_At_escapedByte_64 : decode c_At_escapedByte 64 = .ok (.bipush 9, 2) := by decide +kernel
theorem d_At_escapedByte_66 : decode c_At_escapedByte 66 = .ok (.ireturn, 1) := by decide +kernel
theorem d_At_escapedByte_67 : decode c_At_escapedByte 67 = .ok (.bipush 10, 2) := by decide +kernel
theorem d_At_escapedByte_69 : decode c_At_escapedByte 69 = .ok (.ireturn, 1) := by decide +kernel
theorem d_At_escapedByte_70 : decode c_At_escapedByte 70 = .ok (.bipush 13, 2) := by decide +kernel
theorem d_At_escapedByte_72 : decode c_At_escapedByte 72 = .ok (.ireturn, 1) := by decide +kernel
theorem d_At_escapedByte_73 : decode c_At_escapedByte 73 = .ok (.bipush 34, 2) := by decide +kernel
theorem d_At_escapedByte_75 : decode c_At_escapedByte 75 = .ok (.ireturn, 1) := by decide +kernel
theorem d_At_escapedByte_76 : decode c_At_escapedByte 76 = .ok (.bipush 92, 2) := by decide +kernel
theorem d_At_escapedByte_78 : decode c_At_escapedByte 78 = .ok (.ireturn, 1) := by decide +kernel
theorem d_At_escapedByte_79 : decode c_At_escapedByte 79 = .ok (.aload_n 0, 1) := by decide +kernel
theorem d_At_escapedByte_80 : decode c_At_escapedByte 80 = .ok (.iload_n 1, 1) := by decide +kernel
theorem d_At_escapedByte_81 : decode c_At_escapedByte 81 = .ok (.iconst 2, 1) := by decide +kernel
theorem d_At_escapedByte_82 : decode c_At_escapedByte 82 = .ok (.iadd, 1) := by decide +kernel
theorem d_At_escapedByte_83 : decode c_At_escapedByte 83 = .ok (.invokestatic 280, 3) := by decide +kernel
theorem d_At_escapedByte_86 : decode c_At_escapedByte 86 = .ok (.ireturn, 1) := by decide +kernel
theorem d_At_escapedByte_87 : decode c_At_escapedByte 87 = .ok (.iconst (-1), 1) := by decide +kernel
theorem d_At_escapedByte_88 : decode c_At_escapedByte 88 = .ok (.ireturn, 1) := by decide +kernel
theorem d_At_hexByte_0 : decode c_At_hexByte 0 = .ok (.iconst 0, 1) := by decide +kernel
theorem d_At_hexByte_1 : decode c_At_hexByte 1 = .ok (.istore_n 2, 1) := by decide +kernel
theorem d_At_hexByte_2 : decode c_At_hexByte 2 = .ok (.iconst 0, 1) := by decide +kernel
theorem d_At_hexByte_3 : decode c_At_hexByte 3 = .ok (.istore_n 3, 1) := by decide +kernel
theorem d_At_hexByte_4 : decode c_At_hexByte 4 = .ok (.iload_n 3, 1) := by decide +kernel
theorem d_At_hexByte_5 : decode c_At_hexByte 5 = .ok (.iconst 4, 1) := by decide +kernel
theorem d_At_hexByte_6 : decode c_At_hexByte 6 = .ok (.if_icmp .ge 37, 3) := by decide +kernel
theorem d_At_hexByte_9 : decode c_At_hexByte 9 = .ok (.aload_n 0, 1) := by decide +kernel
theorem d_At_hexByte_10 : decode c_At_hexByte 10 = .ok (.iload_n 1, 1) := by decide +kernel
theorem d_At_hexByte_11 : decode c_At_hexByte 11 = .ok (.iload_n 3, 1) := by decide +kernel
theorem d_At_hexByte_12 : decode c_At_hexByte 12 = .ok (.iadd, 1) := by decide +kernel
theorem d_At_hexByte_13 : decode c_At_hexByte 13 = .ok (.invokevirtual 162, 3) := by decide +kernel
theorem d_At_hexByte_16 : decode c_At_hexByte 16 = .ok (.invokestatic 270, 3) := by decide +kernel
theorem d_At_hexByte_19 : decode c_At_hexByte 19 = .ok (.istore 4, 2) := by decide +kernel
theorem d_At_hexByte_21 : decode c_At_hexByte 21 = .ok (.iload 4, 2) := by decide +kernel
theorem d_At_hexByte_23 : decode c_At_hexByte 23 = .ok (.iconst (-1), 1) := by decide +kernel
theorem d_At_hexByte_24 : decode c_At_hexByte 24 = .ok (.if_icmp .ne 5, 3) := by decide +kernel
theorem d_At_hexByte_27 : decode c_At_hexByte 27 = .ok (.iconst (-1), 1) := by decide +kernel
theorem d_At_hexByte_28 : decode c_At_hexByte 28 = .ok (.ireturn, 1) := by decide +kernel
theorem d_At_hexByte_29 : decode c_At_hexByte 29 = .ok (.iload_n 2, 1) := by decide +kernel
theorem d_At_hexByte_30 : decode c_At_hexByte 30 = .ok (.bipush 16, 2) := by decide +kernel
theorem d_At_hexByte_32 : decode c_At_hexByte 32 = .ok (.imul, 1) := by decide +kernel
theorem d_At_hexByte_33 : decode c_At_hexByte 33 = .ok (.iload 4, 2) := by decide +kernel
theorem d_At_hexByte_35 : decode c_At_hexByte 35 = .ok (.iadd, 1) := by decide +kernel
theorem d_At_hexByte_36 : decode c_At_hexByte 36 = .ok (.istore_n 2, 1) := by decide +kernel
theorem d_At_hexByte_37 : decode c_At_hexByte 37 = .ok (.iinc 3 1, 3) := by decide +kernel
theorem d_At_hexByte_40 : decode c_At_hexByte 40 = .ok (.goto (-36), 3) := by decide +kernel
theorem d_At_hexByte_43 : decode c_At_hexByte 43 = .ok (.iload_n 2, 1) := by decide +kernel
theorem d_At_hexByte_44 : decode c_At_hexByte 44 = .ok (.invokestatic 283, 3) := by decide +kernel
theorem d_At_hexByte_47 : decode c_At_hexByte 47 = .ok (.ifCond .eq 7, 3) := by decide +kernel
theorem d_At_hexByte_50 : decode c_At_hexByte 50 = .ok (.iload_n 2, 1) := by decide +kernel
theorem d_At_hexByte_51 : decode c_At_hexByte 51 = .ok (.goto 4, 3) := by decide +kernel
theorem d_At_hexByte_54 : decode c_At_hexByte 54 = .ok (.iconst (-1), 1) := by decide +kernel
theorem d_At_hexByte_55 : decode c_At_hexByte 55 = .ok (.ireturn, 1) := by decide +kernel
theorem d_At_isTextByte_0 : decode c_At_isTextByte 0 = .ok (.iload_n 0, 1) := by decide +kernel
theorem d_At_isTextByte_1 : decode c_At_isTextByte 1 = .ok (.bipush 9, 2) := by decide +kernel
theorem d_At_isTextByte_3 : decode c_At_isTextByte 3 = .ok (.if_icmp .eq 22, 3) := by decide +kernel
theorem d_At_isTextByte_6 : decode c_At_isTextByte 6 = .ok (.iload_n 0, 1) := by decide +kernel
theorem d_At_isTextByte_7 : decode c_At_isTextByte 7 = .ok (.bipush 10, 2) := by decide +kernel
theorem d_At_isTextByte_9 : decode c_At_isTextByte 9 = .ok (.if_icmp .eq 16, 3) := by decide +kernel
theorem d_At_isTextByte_12 : decode c_At_isTextByte 12 = .ok (.iload_n 0, 1) := by decide +kernel
theorem d_At_isTextByte_13 : decode c_At_isTextByte 13 = .ok (.bipush 13, 2) := by decide +kernel
theorem d_At_isTextByte_15 : decode c_At_isTextByte 15 = .ok (.if_icmp .eq 10, 3) := by decide +kernel
theorem d_At_isTextByte_18 : decode c_At_isTextByte 18 = .ok (.iload_n 0, 1) := by decide +kernel
theorem d_At_isTextByte_19 : decode c_At_isTextByte 19 = .ok (.invokestatic 71, 3) := by decide +kernel
theorem d_At_isTextByte_22 : decode c_At_isTextByte 22 = .ok (.ifCond .eq 7, 3) := by decide +kernel
theorem d_At_isTextByte_25 : decode c_At_isTextByte 25 = .ok (.iconst 1, 1) := by decide +kernel
theorem d_At_isTextByte_26 : decode c_At_isTextByte 26 = .ok (.goto 4, 3) := by decide +kernel
theorem d_At_isTextByte_29 : decode c_At_isTextByte 29 = .ok (.iconst 0, 1) := by decide +kernel
theorem d_At_isTextByte_30 : decode c_At_isTextByte 30 = .ok (.ireturn, 1) := by decide +kernel
theorem d_At_tagged_0 : decode c_At_tagged 0 = .ok (.aload_n 0, 1) := by decide +kernel
theorem d_At_tagged_1 : decode c_At_tagged 1 = .ok (.iload_n 1, 1) := by decide +kernel
theorem d_At_tagged_2 : decode c_At_tagged 2 = .ok (.invokevirtual 103, 3) := by decide +kernel
theorem d_At_tagged_5 : decode c_At_tagged 5 = .ok (.istore_n 2, 1) := by decide +kernel
theorem d_At_tagged_6 : decode c_At_tagged 6 = .ok (.aload_n 0, 1) := by decide +kernel
theorem d_At_tagged_7 : decode c_At_tagged 7 = .ok (.getfield 14, 3) := by decide +kernel
theorem d_At_tagged_10 : decode c_At_tagged 10 = .ok (.iconst 0, 1) := by decide +kernel
theorem d_At_tagged_11 : decode c_At_tagged 11 = .ok (.invokevirtual 85, 3) := by decide +kernel
theorem d_At_tagged_14 : decode c_At_tagged 14 = .ok (.iload_n 2, 1) := by decide +kernel
theorem d_At_tagged_15 : decode c_At_tagged 15 = .ok (.ireturn, 1) := by decide +kernel
theorem d_At_tagOnTape_0 : decode c_At_tagOnTape 0 = .ok (.aload_n 0, 1) := by decide +kernel
theorem d_At_tagOnTape_1 : decode c_At_tagOnTape 1 = .ok (.iload_n 1, 1) := by decide +kernel
theorem d_At_tagOnTape_2 : decode c_At_tagOnTape 2 = .ok (.invokevirtual 128, 3) := by decide +kernel
theorem d_At_tagOnTape_5 : decode c_At_tagOnTape 5 = .ok (.astore_n 2, 1) := by decide +kernel
theorem d_At_tagOnTape_6 : decode c_At_tagOnTape 6 = .ok (.aload_n 2, 1) := by decide +kernel
theorem d_At_tagOnTape_7 : decode c_At_tagOnTape 7 = .ok (.ifnull 10, 3) := by decide +kernel
theorem d_At_tagOnTape_10 : decode c_At_tagOnTape 10 = .ok (.aload_n 2, 1) := by decide +kernel
theorem d_At_tagOnTape_11 : decode c_At_tagOnTape 11 = .ok (.getfield 131, 3) := by decide +kernel
theorem d_At_tagOnTape_14 : decode c_At_tagOnTape 14 = .ok (.ifCond .eq 5, 3) := by decide +kernel
theorem d_At_tagOnTape_17 : decode c_At_tagOnTape 17 = .ok (.iconst (-1), 1) := by decide +kernel
theorem d_At_tagOnTape_18 : decode c_At_tagOnTape 18 = .ok (.ireturn, 1) := by decide +kernel
theorem d_At_tagOnTape_19 : decode c_At_tagOnTape 19 = .ok (.aload_n 0, 1) := by decide +kernel
theorem d_At_tagOnTape_20 : decode c_At_tagOnTape 20 = .ok (.getfield 14, 3) := by decide +kernel
theorem d_At_tagOnTape_23 : decode c_At_tagOnTape 23 = .ok (.invokestatic 185, 3) := by decide +kernel
theorem d_At_tagOnTape_26 : decode c_At_tagOnTape 26 = .ok (.istore_n 3, 1) := by decide +kernel
theorem d_At_tagOnTape_27 : decode c_At_tagOnTape 27 = .ok (.iload_n 3, 1) := by decide +kernel
theorem d_At_tagOnTape_28 : decode c_At_tagOnTape 28 = .ok (.iconst (-1), 1) := by decide +kernel
theorem d_At_tagOnTape_29 : decode c_At_tagOnTape 29 = .ok (.if_icmp .eq 8, 3) := by decide +kernel
theorem d_At_tagOnTape_32 : decode c_At_tagOnTape 32 = .ok (.bipush (-10), 2) := by decide +kernel
theorem d_At_tagOnTape_34 : decode c_At_tagOnTape 34 = .ok (.iload_n 3, 1) := by decide +kernel
theorem d_At_tagOnTape_35 : decode c_At_tagOnTape 35 = .ok (.isub, 1) := by decide +kernel
theorem d_At_tagOnTape_36 : decode c_At_tagOnTape 36 = .ok (.ireturn, 1) := by decide +kernel
theorem d_At_tagOnTape_37 : decode c_At_tagOnTape 37 = .ok (.aload_n 0, 1) := by decide +kernel
theorem d_At_tagOnTape_38 : decode c_At_tagOnTape 38 = .ok (.getfield 36, 3) := by decide +kernel
theorem d_At_tagOnTape_41 : decode c_At_tagOnTape 41 = .ok (.iconst 2, 1) := by decide +kernel
theorem d_At_tagOnTape_42 : decode c_At_tagOnTape 42 = .ok (.iconst 1, 1) := by decide +kernel
theorem d_At_tagOnTape_43 : decode c_At_tagOnTape 43 = .ok (.iconst 0, 1) := by decide +kernel
theorem d_At_tagOnTape_44 : decode c_At_tagOnTape 44 = .ok (.invokevirtual 92, 3) := by decide +kernel
theorem d_At_tagOnTape_47 : decode c_At_tagOnTape 47 = .ok (.aload_n 0, 1) := by decide +kernel
theorem d_At_tagOnTape_48 : decode c_At_tagOnTape 48 = .ok (.getfield 36, 3) := by decide +kernel
theorem d_At_tagOnTape_51 : decode c_At_tagOnTape 51 = .ok (.getfield 109, 3) := by decide +kernel
theorem d_At_tagOnTape_54 : decode c_At_tagOnTape 54 = .ok (.aload_n 2, 1) := by decide +kernel
theorem d_At_tagOnTape_55 : decode c_At_tagOnTape 55 = .ok (.getfield 109, 3) := by decide +kernel
theorem d_At_tagOnTape_58 : decode c_At_tagOnTape 58 = .ok (.iconst 0, 1) := by decide +kernel
theorem d_At_tagOnTape_59 : decode c_At_tagOnTape 59 = .ok (.aload_n 2, 1) := by decide +kernel
theorem d_At_tagOnTape_60 : decode c_At_tagOnTape 60 = .ok (.getfield 109, 3) := by decide +kernel
theorem d_At_tagOnTape_63 : decode c_At_tagOnTape 63 = .ok (.invokevirtual 75, 3) := by decide +kernel
theorem d_At_tagOnTape_66 : decode c_At_tagOnTape 66 = .ok (.invokevirtual 173, 3) := by decide +kernel
theorem d_At_tagOnTape_69 : decode c_At_tagOnTape 69 = .ok (.iconst 0, 1) := by decide +kernel
theorem d_At_tagOnTape_70 : decode c_At_tagOnTape 70 = .ok (.istore 4, 2) := by decide +kernel
theorem d_At_tagOnTape_72 : decode c_At_tagOnTape 72 = .ok (.iload 4, 2) := by decide +kernel
theorem d_At_tagOnTape_74 : decode c_At_tagOnTape 74 = .ok (.aload_n 0, 1) := by decide +kernel
theorem d_At_tagOnTape_75 : decode c_At_tagOnTape 75 = .ok (.getfield 14, 3) := by decide +kernel
theorem d_At_tagOnTape_78 : decode c_At_tagOnTape 78 = .ok (.invokevirtual 75, 3) := by decide +kernel
theorem d_At_tagOnTape_81 : decode c_At_tagOnTape 81 = .ok (.if_icmp .ge 31, 3) := by decide +kernel
theorem d_At_tagOnTape_84 : decode c_At_tagOnTape 84 = .ok (.aload_n 0, 1) := by decide +kernel
theorem d_At_tagOnTape_85 : decode c_At_tagOnTape 85 = .ok (.getfield 36, 3) := by decide +kernel
theorem d_At_tagOnTape_88 : decode c_At_tagOnTape 88 = .ok (.getfield 188, 3) := by decide +kernel
theorem d_At_tagOnTape_91 : decode c_At_tagOnTape 91 = .ok (.aload_n 0, 1) := by decide +kernel
theorem d_At_tagOnTape_92 : decode c_At_tagOnTape 92 = .ok (.getfield 14, 3) := by decide +kernel
theorem d_At_tagOnTape_95 : decode c_At_tagOnTape 95 = .ok (.iload 4, 2) := by decide +kernel
theorem d_At_tagOnTape_97 : decode c_At_tagOnTape 97 = .ok (.invokevirtual 162, 3) := by decide +kernel
theorem d_At_tagOnTape_100 : decode c_At_tagOnTape 100 = .ok (.invokestatic 191, 3) := by decide +kernel
theorem d_At_tagOnTape_103 : decode c_At_tagOnTape 103 = .ok (.invokevirtual 79, 3) := by decide +kernel
theorem d_At_tagOnTape_106 : decode c_At_tagOnTape 106 = .ok (.iinc 4 1, 3) := by decide +kernel
theorem d_At_tagOnTape_109 : decode c_At_tagOnTape 109 = .ok (.goto (-37), 3) := by decide +kernel
theorem d_At_tagOnTape_112 : decode c_At_tagOnTape 112 = .ok (.aload_n 0, 1) := by decide +kernel
theorem d_At_tagOnTape_113 : decode c_At_tagOnTape 113 = .ok (.invokevirtual 96, 3) := by decide +kernel
theorem d_At_tagOnTape_116 : decode c_At_tagOnTape 116 = .ok (.ireturn, 1) := by decide +kernel
theorem d_At_literalAt_0 : decode c_At_literalAt 0 = .ok (.aload_n 0, 1) := by decide +kernel
theorem d_At_literalAt_1 : decode c_At_literalAt 1 = .ok (.iload_n 1, 1) := by decide +kernel
theorem d_At_literalAt_2 : decode c_At_literalAt 2 = .ok (.invokevirtual 122, 3) := by decide +kernel
theorem d_At_literalAt_5 : decode c_At_literalAt 5 = .ok (.astore_n 2, 1) := by decide +kernel
theorem d_At_literalAt_6 : decode c_At_literalAt 6 = .ok (.aload_n 2, 1) := by decide +kernel
theorem d_At_literalAt_7 : decode c_At_literalAt 7 = .ok (.ifnull 15, 3) := by decide +kernel
theorem d_At_literalAt_10 : decode c_At_literalAt 10 = .ok (.aload_n 2, 1) := by decide +kernel
theorem d_At_literalAt_11 : decode c_At_literalAt 11 = .ok (.getfield 125, 3) := by decide +kernel
theorem d_At_literalAt_14 : decode c_At_literalAt 14 = .ok (.iconst 2, 1) := by decide +kernel
theorem d_At_literalAt_15 : decode c_At_literalAt 15 = .ok (.if_icmp .ne 7, 3) := by decide +kernel
theorem d_At_literalAt_18 : decode c_At_literalAt 18 = .ok (.aload_n 2, 1) := by decide +kernel
theorem d_At_literalAt_19 : decode c_At_literalAt 19 = .ok (.goto 4, 3) := by decide +kernel
theorem d_At_literalAt_22 : decode c_At_literalAt 22 = .ok (.aconst_null, 1) := by decide +kernel
theorem d_At_literalAt_23 : decode c_At_literalAt 23 = .ok (.areturn, 1) := by decide +kernel
theorem d_At_wrongInTag_0 : decode c_At_wrongInTag 0 = .ok (.iconst 2, 1) := by decide +kernel
theorem d_At_wrongInTag_1 : decode c_At_wrongInTag 1 = .ok (.istore_n 1, 1) := by decide +kernel
theorem d_At_wrongInTag_2 : decode c_At_wrongInTag 2 = .ok (.iconst 0, 1) := by decide +kernel
theorem d_At_wrongInTag_3 : decode c_At_wrongInTag 3 = .ok (.istore_n 2, 1) := by decide +kernel
theorem d_At_wrongInTag_4 : decode c_At_wrongInTag 4 = .ok (.iconst 1, 1) := by decide +kernel
theorem d_At_wrongInTag_5 : decode c_At_wrongInTag 5 = .ok (.istore_n 3, 1) := by decide +kernel
theorem d_At_wrongInTag_6 : decode c_At_wrongInTag 6 = .ok (.iconst 0, 1) := by decide +kernel
theorem d_At_wrongInTag_7 : decode c_At_wrongInTag 7 = .ok (.istore 4, 2) := by decide +kernel
theorem d_At_wrongInTag_9 : decode c_At_wrongInTag 9 = .ok (.iload 4, 2) := by decide +kernel
theorem d_At_wrongInTag_11 : decode c_At_wrongInTag 11 = .ok (.aload_n 0, 1) := by decide +kernel
theorem d_At_wrongInTag_12 : decode c_At_wrongInTag 12 = .ok (.invokevirtual 75, 3) := by decide +kernel
theorem d_At_wrongInTag_15 : decode c_At_wrongInTag 15 = .ok (.if_icmp .ge 87, 3) := by decide +kernel
theorem d_At_wrongInTag_18 : decode c_At_wrongInTag 18 = .ok (.aload_n 0, 1) := by decide +kernel
theorem d_At_wrongInTag_19 : decode c_At_wrongInTag 19 = .ok (.iload 4, 2) := by decide +kernel
theorem d_At_wrongInTag_21 : decode c_At_wrongInTag 21 = .ok (.invokevirtual 162, 3) := by decide +kernel
theorem d_At_wrongInTag_24 : decode c_At_wrongInTag 24 = .ok (.istore 5, 2) := by decide +kernel
theorem d_At_wrongInTag_26 : decode c_At_wrongInTag 26 = .ok (.iload 4, 2) := by decide +kernel
theorem d_At_wrongInTag_28 : decode c_At_wrongInTag 28 = .ok (.bipush 16, 2) := by decide +kernel
theorem d_At_wrongInTag_30 : decode c_At_wrongInTag 30 = .ok (.if_icmp .lt 6, 3) := by decide +kernel
theorem d_At_wrongInTag_33 : decode c_At_wrongInTag 33 = .ok (.iload 4, 2) := by decide +kernel
theorem d_At_wrongInTag_35 : decode c_At_wrongInTag 35 = .ok (.ireturn, 1) := by decide +kernel
theorem d_At_wrongInTag_36 : decode c_At_wrongInTag 36 = .ok (.iload 5, 2) := by decide +kernel
theorem d_At_wrongInTag_38 : decode c_At_wrongInTag 38 = .ok (.bipush 45, 2) := by decide +kernel
theorem d_At_wrongInTag_40 : decode c_At_wrongInTag 40 = .ok (.if_icmp .ne 20, 3) := by decide +kernel
theorem d_At_wrongInTag_43 : decode c_At_wrongInTag 43 = .ok (.iload_n 2, 1) := by decide +kernel
theorem d_At_wrongInTag_44 : decode c_At_wrongInTag 44 = .ok (.iload_n 1, 1) := by decide +kernel
theorem d_At_wrongInTag_45 : decode c_At_wrongInTag 45 = .ok (.if_icmp .ge 6, 3) := by decide +kernel
theorem d_At_wrongInTag_48 : decode c_At_wrongInTag 48 = .ok (.iload 4, 2) := by decide +kernel
theorem d_At_wrongInTag_50 : decode c_At_wrongInTag 50 = .ok (.ireturn, 1) := by decide +kernel
theorem d_At_wrongInTag_51 : decode c_At_wrongInTag 51 = .ok (.iconst 0, 1) := by decide +kernel
theorem d_At_wrongInTag_52 : decode c_At_wrongInTag 52 = .ok (.istore_n 3, 1) := by decide +kernel
theorem d_At_wrongInTag_53 : decode c_At_wrongInTag 53 = .ok (.iconst 1, 1) := by decide +kernel
theorem d_At_wrongInTag_54 : decode c_At_wrongInTag 54 = .ok (.istore_n 1, 1) := by decide +kernel
theorem d_At_wrongInTag_55 : decode c_At_wrongInTag 55 = .ok (.iconst 0, 1) := by decide +kernel
theorem d_At_wrongInTag_56 : decode c_At_wrongInTag 56 = .ok (.istore_n 2, 1) := by decide +kernel
theorem d_At_wrongInTag_57 : decode c_At_wrongInTag 57 = .ok (.goto 39, 3) := by decide +kernel
theorem d_At_wrongInTag_60 : decode c_At_wrongInTag 60 = .ok (.iload_n 3, 1) := by decide +kernel
theorem d_At_wrongInTag_61 : decode c_At_wrongInTag 61 = .ok (.ifCond .eq 11, 3) := by decide +kernel
theorem d_At_wrongInTag_64 : decode c_At_wrongInTag 64 = .ok (.iload 5, 2) := by decide +kernel
theorem d_At_wrongInTag_66 : decode c_At_wrongInTag 66 = .ok (.invokestatic 261, 3) := by decide +kernel
theorem d_At_wrongInTag_69 : decode c_At_wrongInTag 69 = .ok (.goto 8, 3) := by decide +kernel
theorem d_At_wrongInTag_72 : decode c_At_wrongInTag 72 = .ok (.iload 5, 2) := by decide +kernel
theorem d_At_wrongInTag_74 : decode c_At_wrongInTag 74 = .ok (.invokestatic 273, 3) := by decide +kernel
theorem d_At_wrongInTag_77 : decode c_At_wrongInTag 77 = .ok (.istore 6, 2) := by decide +kernel
theorem d_At_wrongInTag_79 : decode c_At_wrongInTag 79 = .ok (.iload 6, 2) := by decide +kernel
theorem d_At_wrongInTag_81 : decode c_At_wrongInTag 81 = .ok (.ifCond .eq 9, 3) := by decide +kernel
theorem d_At_wrongInTag_84 : decode c_At_wrongInTag 84 = .ok (.iload_n 2, 1) := by decide +kernel
theorem d_At_wrongInTag_85 : decode c_At_wrongInTag 85 = .ok (.bipush 8, 2) := by decide +kernel
theorem d_At_wrongInTag_87 : decode c_At_wrongInTag 87 = .ok (.if_icmp .lt 6, 3) := by decide +kernel
theorem d_At_wrongInTag_90 : decode c_At_wrongInTag 90 = .ok (.iload 4, 2) := by decide +kernel
theorem d_At_wrongInTag_92 : decode c_At_wrongInTag 92 = .ok (.ireturn, 1) := by decide +kernel
theorem d_At_wrongInTag_93 : decode c_At_wrongInTag 93 = .ok (.iinc 2 1, 3) := by decide +kernel
theorem d_At_wrongInTag_96 : decode c_At_wrongInTag 96 = .ok (.iinc 4 1, 3) := by decide +kernel
theorem d_At_wrongInTag_99 : decode c_At_wrongInTag 99 = .ok (.goto (-90), 3) := by decide +kernel
theorem d_At_wrongInTag_102 : decode c_At_wrongInTag 102 = .ok (.iload_n 2, 1) := by decide +kernel
theorem d_At_wrongInTag_103 : decode c_At_wrongInTag 103 = .ok (.iload_n 1, 1) := by decide +kernel
theorem d_At_wrongInTag_104 : decode c_At_wrongInTag 104 = .ok (.if_icmp .ge 10, 3) := by decide +kernel
theorem d_At_wrongInTag_107 : decode c_At_wrongInTag 107 = .ok (.aload_n 0, 1) := by decide +kernel
theorem d_At_wrongInTag_108 : decode c_At_wrongInTag 108 = .ok (.invokevirtual 75, 3) := by decide +kernel
theorem d_At_wrongInTag_111 : decode c_At_wrongInTag 111 = .ok (.goto 4, 3) := by decide +kernel
theorem d_At_wrongInTag_114 : decode c_At_wrongInTag 114 = .ok (.iconst (-1), 1) := by decide +kernel
theorem d_At_wrongInTag_115 : decode c_At_wrongInTag 115 = .ok (.ireturn, 1) := by decide +kernel
theorem d_At_smallOf_0 : decode c_At_smallOf 0 = .ok (.iload_n 0, 1) := by decide +kernel
theorem d_At_smallOf_1 : decode c_At_smallOf 1 = .ok (.invokestatic 258, 3) := by decide +kernel
theorem d_At_smallOf_4 : decode c_At_smallOf 4 = .ok (.ifCond .eq 13, 3) := by decide +kernel
theorem d_At_smallOf_7 : decode c_At_smallOf 7 = .ok (.iload_n 0, 1) := by decide +kernel
theorem d_At_smallOf_8 : decode c_At_smallOf 8 = .ok (.bipush 65, 2) := by decide +kernel
theorem d_At_smallOf_10 : decode c_At_smallOf 10 = .ok (.isub, 1) := by decide +kernel
theorem d_At_smallOf_11 : decode c_At_smallOf 11 = .ok (.bipush 97, 2) := by decide +kernel
theorem d_At_smallOf_13 : decode c_At_smallOf 13 = .ok (.iadd, 1) := by decide +kernel
theorem d_At_smallOf_14 : decode c_At_smallOf 14 = .ok (.goto 4, 3) := by decide +kernel
theorem d_At_smallOf_17 : decode c_At_smallOf 17 = .ok (.iload_n 0, 1) := by decide +kernel
theorem d_At_smallOf_18 : decode c_At_smallOf 18 = .ok (.ireturn, 1) := by decide +kernel
theorem d_At_prefix_0 : decode c_At_prefix 0 = .ok (.aload_n 0, 1) := by decide +kernel
theorem d_At_prefix_1 : decode c_At_prefix 1 = .ok (.iload_n 1, 1) := by decide +kernel
theorem d_At_prefix_2 : decode c_At_prefix 2 = .ok (.invokevirtual 106, 3) := by decide +kernel
theorem d_At_prefix_5 : decode c_At_prefix 5 = .ok (.istore_n 2, 1) := by decide +kernel
theorem d_At_prefix_6 : decode c_At_prefix 6 = .ok (.aload_n 0, 1) := by decide +kernel
theorem d_At_prefix_7 : decode c_At_prefix 7 = .ok (.getfield 14, 3) := by decide +kernel
theorem d_At_prefix_10 : decode c_At_prefix 10 = .ok (.iconst 0, 1) := by decide +kernel
theorem d_At_prefix_11 : decode c_At_prefix 11 = .ok (.invokevirtual 85, 3) := by decide +kernel
theorem d_At_prefix_14 : decode c_At_prefix 14 = .ok (.iload_n 2, 1) := by decide +kernel
theorem d_At_prefix_15 : decode c_At_prefix 15 = .ok (.ireturn, 1) := by decide +kernel
theorem d_At_nameOnTape_0 : decode c_At_nameOnTape 0 = .ok (.aload_n 0, 1) := by decide +kernel
theorem d_At_nameOnTape_1 : decode c_At_nameOnTape 1 = .ok (.iload_n 1, 1) := by decide +kernel
theorem d_At_nameOnTape_2 : decode c_At_nameOnTape 2 = .ok (.invokevirtual 88, 3) := by decide +kernel
theorem d_At_nameOnTape_5 : decode c_At_nameOnTape 5 = .ok (.astore_n 2, 1) := by decide +kernel
theorem d_At_nameOnTape_6 : decode c_At_nameOnTape 6 = .ok (.aload_n 2, 1) := by decide +kernel
theorem d_At_nameOnTape_7 : decode c_At_nameOnTape 7 = .ok (.ifnull 13, 3) := by decide +kernel
theorem d_At_nameOnTape_10 : decode c_At_nameOnTape 10 = .ok (.aload_n 0, 1) := by decide +kernel
theorem d_At_nameOnTape_11 : decode c_At_nameOnTape 11 = .ok (.getfield 14, 3) := by decide +kernel
theorem d_At_nameOnTape_14 : decode c_At_nameOnTape 14 = .ok (.invokestatic 194, 3) := by decide +kernel
theorem d_At_nameOnTape_17 : decode c_At_nameOnTape 17 = .ok (.ifCond .ne 5, 3) := by decide +kernel
theorem d_At_nameOnTape_20 : decode c_At_nameOnTape 20 = .ok (.iconst (-1), 1) := by decide +kernel
theorem d_At_nameOnTape_21 : decode c_At_nameOnTape 21 = .ok (.ireturn, 1) := by decide +kernel
theorem d_At_nameOnTape_22 : decode c_At_nameOnTape 22 = .ok (.iconst 0, 1) := by decide +kernel
theorem d_At_nameOnTape_23 : decode c_At_nameOnTape 23 = .ok (.istore_n 3, 1) := by decide +kernel
theorem d_At_nameOnTape_24 : decode c_At_nameOnTape 24 = .ok (.iload_n 3, 1) := by decide +kernel
theorem d_At_nameOnTape_25 : decode c_At_nameOnTape 25 = .ok (.aload_n 0, 1) := by decide +kernel
theorem d_At_nameOnTape_26 : decode c_At_nameOnTape 26 = .ok (.getfield 61, 3) := by decide +kernel
theorem d_At_nameOnTape_29 : decode c_At_nameOnTape 29 = .ok (.if_icmp .ge 47, 3) := by decide +kernel
theorem d_At_nameOnTape_32 : decode c_At_nameOnTape 32 = .ok (.aload_n 0, 1) := by decide +kernel
theorem d_At_nameOnTape_33 : decode c_At_nameOnTape 33 = .ok (.iload_n 3, 1) := by decide +kernel
theorem d_At_nameOnTape_34 : decode c_At_nameOnTape 34 = .ok (.invokevirtual 198, 3) := by decide +kernel
theorem d_At_nameOnTape_37 : decode c_At_nameOnTape 37 = .ok (.astore 4, 2) := by decide +kernel
theorem d_At_nameOnTape_39 : decode c_At_nameOnTape 39 = .ok (.aload 4, 2) := by decide +kernel
theorem d_At_nameOnTape_41 : decode c_At_nameOnTape 41 = .ok (.ifnull 29, 3) := by decide +kernel
theorem d_At_nameOnTape_44 : decode c_At_nameOnTape 44 = .ok (.aload 4, 2) := by decide +kernel
theorem d_At_nameOnTape_46 : decode c_At_nameOnTape 46 = .ok (.getfield 202, 3) := by decide +kernel
theorem d_At_nameOnTape_49 : decode c_At_nameOnTape 49 = .ok (.aload_n 0, 1) := by decide +kernel
theorem d_At_nameOnTape_50 : decode c_At_nameOnTape 50 = .ok (.getfield 14, 3) := by decide +kernel
theorem d_At_nameOnTape_53 : decode c_At_nameOnTape 53 = .ok (.invokevirtual 205, 3) := by decide +kernel
theorem d_At_nameOnTape_56 : decode c_At_nameOnTape 56 = .ok (.ifCond .ne 14, 3) := by decide +kernel
theorem d_At_nameOnTape_59 : decode c_At_nameOnTape 59 = .ok (.aload 4, 2) := by decide +kernel
theorem d_At_nameOnTape_61 : decode c_At_nameOnTape 61 = .ok (.aload_n 2, 1) := by decide +kernel
theorem d_At_nameOnTape_62 : decode c_At_nameOnTape 62 = .ok (.getfield 109, 3) := by decide +kernel
theorem d_At_nameOnTape_65 : decode c_At_nameOnTape 65 = .ok (.putfield 207, 3) := by decide +kernel
theorem d_At_nameOnTape_68 : decode c_At_nameOnTape 68 = .ok (.iconst 0, 1) := by decide +kernel
theorem d_At_nameOnTape_69 : decode c_At_nameOnTape 69 = .ok (.ireturn, 1) := by decide +kernel
theorem d_At_nameOnTape_70 : decode c_At_nameOnTape 70 = .ok (.iinc 3 1, 3) := by decide +kernel
theorem d_At_nameOnTape_73 : decode c_At_nameOnTape 73 = .ok (.goto (-49), 3) := by decide +kernel
theorem d_At_nameOnTape_76 : decode c_At_nameOnTape 76 = .ok (.aload_n 0, 1) := by decide +kernel
theorem d_At_nameOnTape_77 : decode c_At_nameOnTape 77 = .ok (.getfield 61, 3) := by decide +kernel
theorem d_At_nameOnTape_80 : decode c_At_nameOnTape 80 = .ok (.ifCond .lt 15, 3) := by decide +kernel
theorem d_At_nameOnTape_83 : decode c_At_nameOnTape 83 = .ok (.aload_n 0, 1) := by decide +kernel
theorem d_At_nameOnTape_84 : decode c_At_nameOnTape 84 = .ok (.getfield 61, 3) := by decide +kernel
theorem d_At_nameOnTape_87 : decode c_At_nameOnTape 87 = .ok (.aload_n 0, 1) := by decide +kernel
theorem d_At_nameOnTape_88 : decode c_At_nameOnTape 88 = .ok (.getfield 29, 3) := by decide +kernel
theorem d_At_nameOnTape_91 : decode c_At_nameOnTape 91 = .ok (.arraylength, 1) := by decide +kernel
theorem d_At_nameOnTape_92 : decode c_At_nameOnTape 92 = .ok (.if_icmp .lt 6, 3) := by decide +kernel
theorem d_At_nameOnTape_95 : decode c_At_nameOnTape 95 = .ok (.bipush (-3), 2) := by decide +kernel
theorem d_At_nameOnTape_97 : decode c_At_nameOnTape 97 = .ok (.ireturn, 1) := by decide +kernel
theorem d_At_nameOnTape_98 : decode c_At_nameOnTape 98 = .ok (.aload_n 0, 1) := by decide +kernel
theorem d_At_nameOnTape_99 : decode c_At_nameOnTape 99 = .ok (.getfield 29, 3) := by decide +kernel
theorem d_At_nameOnTape_102 : decode c_At_nameOnTape 102 = .ok (.aload_n 0, 1) := by decide +kernel
theorem d_At_nameOnTape_103 : decode c_At_nameOnTape 103 = .ok (.getfield 61, 3) := by decide +kernel
theorem d_At_nameOnTape_106 : decode c_At_nameOnTape 106 = .ok (.new 27, 3) := by decide +kernel
theorem d_At_nameOnTape_109 : decode c_At_nameOnTape 109 = .ok (.dup, 1) := by decide +kernel
theorem d_At_nameOnTape_110 : decode c_At_nameOnTape 110 = .ok (.aload_n 0, 1) := by decide +kernel
theorem d_At_nameOnTape_111 : decode c_At_nameOnTape 111 = .ok (.getfield 14, 3) := by decide +kernel
theorem d_At_nameOnTape_114 : decode c_At_nameOnTape 114 = .ok (.invokevirtual 210, 3) := by decide +kernel
theorem d_At_nameOnTape_117 : decode c_At_nameOnTape 117 = .ok (.aload_n 2, 1) := by decide +kernel
theorem d_At_nameOnTape_118 : decode c_At_nameOnTape 118 = .ok (.getfield 109, 3) := by decide +kernel
theorem d_At_nameOnTape_121 : decode c_At_nameOnTape 121 = .ok (.invokespecial 213, 3) := by decide +kernel
theorem d_At_nameOnTape_124 : decode c_At_nameOnTape 124 = .ok (.aastore, 1) := by decide +kernel
theorem d_At_nameOnTape_125 : decode c_At_nameOnTape 125 = .ok (.aload_n 0, 1) := by decide +kernel
theorem d_At_nameOnTape_126 : decode c_At_nameOnTape 126 = .ok (.dup, 1) := by decide +kernel
theorem d_At_nameOnTape_127 : decode c_At_nameOnTape 127 = .ok (.getfield 61, 3) := by decide +kernel
theorem d_At_nameOnTape_130 : decode c_At_nameOnTape 130 = .ok (.iconst 1, 1) := by decide +kernel
theorem d_At_nameOnTape_131 : decode c_At_nameOnTape 131 = .ok (.iadd, 1) := by decide +kernel
theorem d_At_nameOnTape_132 : decode c_At_nameOnTape 132 = .ok (.putfield 61, 3) := by decide +kernel
theorem d_At_nameOnTape_135 : decode c_At_nameOnTape 135 = .ok (.iconst 1, 1) := by decide +kernel
theorem d_At_nameOnTape_136 : decode c_At_nameOnTape 136 = .ok (.ireturn, 1) := by decide +kernel
theorem d_At_isName_0 : decode c_At_isName 0 = .ok (.aload_n 0, 1) := by decide +kernel
theorem d_At_isName_1 : decode c_At_isName 1 = .ok (.invokevirtual 75, 3) := by decide +kernel
theorem d_At_isName_4 : decode c_At_isName 4 = .ok (.bipush 6, 2) := by decide +kernel
theorem d_At_isName_6 : decode c_At_isName 6 = .ok (.if_icmp .le 5, 3) := by decide +kernel
theorem d_At_isName_9 : decode c_At_isName 9 = .ok (.iconst 0, 1) := by decide +kernel
theorem d_At_isName_10 : decode c_At_isName 10 = .ok (.ireturn, 1) := by decide +kernel
theorem d_At_isName_11 : decode c_At_isName 11 = .ok (.iconst 0, 1) := by decide +kernel
theorem d_At_isName_12 : decode c_At_isName 12 = .ok (.istore_n 1, 1) := by decide +kernel
theorem d_At_isName_13 : decode c_At_isName 13 = .ok (.iload_n 1, 1) := by decide +kernel
theorem d_At_isName_14 : decode c_At_isName 14 = .ok (.aload_n 0, 1) := by decide +kernel
theorem d_At_isName_15 : decode c_At_isName 15 = .ok (.invokevirtual 75, 3) := by decide +kernel
theorem d_At_isName_18 : decode c_At_isName 18 = .ok (.if_icmp .ge 22, 3) := by decide +kernel
theorem d_At_isName_21 : decode c_At_isName 21 = .ok (.aload_n 0, 1) := by decide +kernel
theorem d_At_isName_22 : decode c_At_isName 22 = .ok (.iload_n 1, 1) := by decide +kernel
theorem d_At_isName_23 : decode c_At_isName 23 = .ok (.invokevirtual 162, 3) := by decide +kernel
theorem d_At_isName_26 : decode c_At_isName 26 = .ok (.invokestatic 255, 3) := by decide +kernel
theorem d_At_isName_29 : decode c_At_isName 29 = .ok (.ifCond .ne 5, 3) := by decide +kernel
theorem d_At_isName_32 : decode c_At_isName 32 = .ok (.iconst 0, 1) := by decide +kernel
theorem d_At_isName_33 : decode c_At_isName 33 = .ok (.ireturn, 1) := by decide +kernel
theorem d_At_isName_34 : decode c_At_isName 34 = .ok (.iinc 1 1, 3) := by decide +kernel
theorem d_At_isName_37 : decode c_At_isName 37 = .ok (.goto (-24), 3) := by decide +kernel
theorem d_At_isName_40 : decode c_At_isName 40 = .ok (.iconst 1, 1) := by decide +kernel
theorem d_At_isName_41 : decode c_At_isName 41 = .ok (.ireturn, 1) := by decide +kernel
theorem d_At_prefixAt_0 : decode c_At_prefixAt 0 = .ok (.iload_n 1, 1) := by decide +kernel
theorem d_At_prefixAt_1 : decode c_At_prefixAt 1 = .ok (.ifCond .lt 29, 3) := by decide +kernel
theorem d_At_prefixAt_4 : decode c_At_prefixAt 4 = .ok (.iload_n 1, 1) := by decide +kernel
theorem d_At_prefixAt_5 : decode c_At_prefixAt 5 = .ok (.aload_n 0, 1) := by decide +kernel
theorem d_At_prefixAt_6 : decode c_At_prefixAt 6 = .ok (.getfield 61, 3) := by decide +kernel
theorem d_At_prefixAt_9 : decode c_At_prefixAt 9 = .ok (.if_icmp .ge 21, 3) := by decide +kernel
theorem d_At_prefixAt_12 : decode c_At_prefixAt 12 = .ok (.iload_n 1, 1) := by decide +kernel
theorem d_At_prefixAt_13 : decode c_At_prefixAt 13 = .ok (.aload_n 0, 1) := by decide +kernel
theorem d_At_prefixAt_14 : decode c_At_prefixAt 14 = .ok (.getfield 29, 3) := by decide +kernel
theorem d_At_prefixAt_17 : decode c_At_prefixAt 17 = .ok (.arraylength, 1) := by decide +kernel
theorem d_At_prefixAt_18 : decode c_At_prefixAt 18 = .ok (.if_icmp .ge 12, 3) := by decide +kernel
theorem d_At_prefixAt_21 : decode c_At_prefixAt 21 = .ok (.aload_n 0, 1) := by decide +kernel
theorem d_At_prefixAt_22 : decode c_At_prefixAt 22 = .ok (.getfield 29, 3) := by decide +kernel
theorem d_At_prefixAt_25 : decode c_At_prefixAt 25 = .ok (.iload_n 1, 1) := by decide +kernel
theorem d_At_prefixAt_26 : decode c_At_prefixAt 26 = .ok (.aaload, 1) := by decide +kernel
theorem d_At_prefixAt_27 : decode c_At_prefixAt 27 = .ok (.goto 4, 3) := by decide +kernel
theorem d_At_prefixAt_30 : decode c_At_prefixAt 30 = .ok (.aconst_null, 1) := by decide +kernel
theorem d_At_prefixAt_31 : decode c_At_prefixAt 31 = .ok (.areturn, 1) := by decide +kernel
theorem d_Rw_copy_0 : decode c_Rw_copy 0 = .ok (.new 10, 3) := by decide +kernel
theorem d_Rw_copy_3 : decode c_Rw_copy 3 = .ok (.dup, 1) := by decide +kernel
theorem d_Rw_copy_4 : decode c_Rw_copy 4 = .ok (.aload_n 0, 1) := by decide +kernel
theorem d_Rw_copy_5 : decode c_Rw_copy 5 = .ok (.getfield 9, 3) := by decide +kernel
theorem d_Rw_copy_8 : decode c_Rw_copy 8 = .ok (.invokespecial 45, 3) := by decide +kernel
theorem d_Rw_copy_11 : decode c_Rw_copy 11 = .ok (.astore_n 1, 1) := by decide +kernel
theorem d_Rw_copy_12 : decode c_Rw_copy 12 = .ok (.aload_n 1, 1) := by decide +kernel
theorem d_Rw_copy_13 : decode c_Rw_copy 13 = .ok (.aload_n 0, 1) := by decide +kernel
theorem d_Rw_copy_14 : decode c_Rw_copy 14 = .ok (.iconst 0, 1) := by decide +kernel
theorem d_Rw_copy_15 : decode c_Rw_copy 15 = .ok (.aload_n 0, 1) := by decide +kernel
theorem d_Rw_copy_16 : decode c_Rw_copy 16 = .ok (.getfield 9, 3) := by decide +kernel
theorem d_Rw_copy_19 : decode c_Rw_copy 19 = .ok (.invokevirtual 47, 3) := by decide +kernel
theorem d_Rw_copy_22 : decode c_Rw_copy 22 = .ok (.aload_n 1, 1) := by decide +kernel
theorem d_Rw_copy_23 : decode c_Rw_copy 23 = .ok (.areturn, 1) := by decide +kernel
theorem d_Px_init_0 : decode c_Px_init 0 = .ok (.aload_n 0, 1) := by decide +kernel
theorem d_Px_init_1 : decode c_Px_init 1 = .ok (.invokespecial 1, 3) := by decide +kernel
theorem d_Px_init_4 : decode c_Px_init 4 = .ok (.aload_n 0, 1) := by decide +kernel
theorem d_Px_init_5 : decode c_Px_init 5 = .ok (.aload_n 1, 1) := by decide +kernel
theorem d_Px_init_6 : decode c_Px_init 6 = .ok (.putfield 7, 3) := by decide +kernel
theorem d_Px_init_9 : decode c_Px_init 9 = .ok (.aload_n 0, 1) := by decide +kernel
theorem d_Px_init_10 : decode c_Px_init 10 = .ok (.aload_n 2, 1) := by decide +kernel
theorem d_Px_init_11 : decode c_Px_init 11 = .ok (.putfield 13, 3) := by decide +kernel
theorem d_Px_init_14 : decode c_Px_init 14 = .ok (.return_, 1) := by decide +kernel
theorem d_At_part_0 : decode c_At_part 0 = .ok (.aload_n 0, 1) := by decide +kernel
theorem d_At_part_1 : decode c_At_part 1 = .ok (.iload_n 1, 1) := by decide +kernel
theorem d_At_part_2 : decode c_At_part 2 = .ok (.invokevirtual 88, 3) := by decide +kernel
theorem d_At_part_5 : decode c_At_part 5 = .ok (.astore_n 3, 1) := by decide +kernel
theorem d_At_part_6 : decode c_At_part 6 = .ok (.aload_n 3, 1) := by decide +kernel
theorem d_At_part_7 : decode c_At_part 7 = .ok (.ifnull 12, 3) := by decide +kernel
theorem d_At_part_10 : decode c_At_part 10 = .ok (.iload_n 2, 1) := by decide +kernel
theorem d_At_part_11 : decode c_At_part 11 = .ok (.ifCond .lt 8, 3) := by decide +kernel
theorem d_At_part_14 : decode c_At_part 14 = .ok (.iload_n 2, 1) := by decide +kernel
theorem d_At_part_15 : decode c_At_part 15 = .ok (.iconst 5, 1) := by decide +kernel
theorem d_At_part_16 : decode c_At_part 16 = .ok (.if_icmp .lt 5, 3) := by decide +kernel
theorem d_At_part_19 : decode c_At_part 19 = .ok (.iconst (-1), 1) := by decide +kernel
theorem d_At_part_20 : decode c_At_part 20 = .ok (.ireturn, 1) := by decide +kernel
theorem d_At_part_21 : decode c_At_part 21 = .ok (.aload_n 0, 1) := by decide +kernel
theorem d_At_part_22 : decode c_At_part 22 = .ok (.getfield 47, 3) := by decide +kernel
theorem d_At_part_25 : decode c_At_part 25 = .ok (.aload_n 3, 1) := by decide +kernel
theorem d_At_part_26 : decode c_At_part 26 = .ok (.getfield 109, 3) := by decide +kernel
theorem d_At_part_29 : decode c_At_part 29 = .ok (.invokevirtual 112, 3) := by decide +kernel
theorem d_At_part_32 : decode c_At_part 32 = .ok (.aload_n 0, 1) := by decide +kernel
theorem d_At_part_33 : decode c_At_part 33 = .ok (.getfield 47, 3) := by decide +kernel
theorem d_At_part_36 : decode c_At_part 36 = .ok (.iload_n 2, 1) := by decide +kernel
theorem d_At_part_37 : decode c_At_part 37 = .ok (.invokevirtual 116, 3) := by decide +kernel
theorem d_At_part_40 : decode c_At_part 40 = .ok (.ifCond .eq 14, 3) := by decide +kernel
theorem d_At_part_43 : decode c_At_part 43 = .ok (.aload_n 0, 1) := by decide +kernel
theorem d_At_part_44 : decode c_At_part 44 = .ok (.getfield 47, 3) := by decide +kernel
theorem d_At_part_47 : decode c_At_part 47 = .ok (.iload_n 2, 1) := by decide +kernel
theorem d_At_part_48 : decode c_At_part 48 = .ok (.invokevirtual 119, 3) := by decide +kernel
theorem d_At_part_51 : decode c_At_part 51 = .ok (.goto 5, 3) := by decide +kernel
theorem d_At_part_54 : decode c_At_part 54 = .ok (.bipush (-2), 2) := by decide +kernel
theorem d_At_part_56 : decode c_At_part 56 = .ok (.ireturn, 1) := by decide +kernel
theorem d_At_kind_0 : decode c_At_kind 0 = .ok (.aload_n 0, 1) := by decide +kernel
theorem d_At_kind_1 : decode c_At_kind 1 = .ok (.iload_n 1, 1) := by decide +kernel
theorem d_At_kind_2 : decode c_At_kind 2 = .ok (.invokevirtual 122, 3) := by decide +kernel
theorem d_At_kind_5 : decode c_At_kind 5 = .ok (.astore_n 2, 1) := by decide +kernel
theorem d_At_kind_6 : decode c_At_kind 6 = .ok (.aload_n 2, 1) := by decide +kernel
theorem d_At_kind_7 : decode c_At_kind 7 = .ok (.ifnonnull 7, 3) := by decide +kernel
theorem d_At_kind_10 : decode c_At_kind 10 = .ok (.iconst (-1), 1) := by decide +kernel
theorem d_At_kind_11 : decode c_At_kind 11 = .ok (.goto 7, 3) := by decide +kernel
theorem d_At_kind_14 : decode c_At_kind 14 = .ok (.aload_n 2, 1) := by decide +kernel
theorem d_At_kind_15 : decode c_At_kind 15 = .ok (.getfield 125, 3) := by decide +kernel
theorem d_At_kind_18 : decode c_At_kind 18 = .ok (.ireturn, 1) := by decide +kernel
