theorem d_At_init_0 : decode c_At_init 0 = .ok (.aload_n 0, 1) := by decide +kernel
theorem d_At_init_1 : decode c_At_init 1 = .ok (.invokespecial 3, 3) := by decide +kernel
theorem d_At_init_4 : decode c_At_init 4 = .ok (.aload_n 0, 1) := by decide +kernel
theorem d_At_init_5 : decode c_At_init 5 = .ok (.new 9, 3) := by decide +kernel
theorem d_At_init_8 : decode c_At_init 8 = .ok (.dup, 1) := by decide +kernel
theorem d_At_init_9 : decode c_At_init 9 = .ok (.bipush 96, 2) := by decide +kernel
theorem d_At_init_11 : decode c_At_init 11 = .ok (.invokespecial 11, 3) := by decide +kernel
theorem d_At_init_14 : decode c_At_init 14 = .ok (.putfield 14, 3) := by decide +kernel
theorem d_At_init_17 : decode c_At_init 17 = .ok (.aload_n 0, 1) := by decide +kernel
theorem d_At_init_18 : decode c_At_init 18 = .ok (.new 9, 3) := by decide +kernel
theorem d_At_init_21 : decode c_At_init 21 = .ok (.dup, 1) := by decide +kernel
theorem d_At_init_22 : decode c_At_init 22 = .ok (.bipush 108, 2) := by decide +kernel
theorem d_At_init_24 : decode c_At_init 24 = .ok (.invokespecial 11, 3) := by decide +kernel
theorem d_At_init_27 : decode c_At_init 27 = .ok (.putfield 18, 3) := by decide +kernel
theorem d_At_init_30 : decode c_At_init 30 = .ok (.aload_n 0, 1) := by decide +kernel
theorem d_At_init_31 : decode c_At_init 31 = .ok (.bipush 60, 2) := by decide +kernel
theorem d_At_init_33 : decode c_At_init 33 = .ok (.anewarray 21, 3) := by decide +kernel
theorem d_At_init_36 : decode c_At_init 36 = .ok (.putfield 23, 3) := by decide +kernel
theorem d_At_init_39 : decode c_At_init 39 = .ok (.aload_n 0, 1) := by decide +kernel
theorem d_At_init_40 : decode c_At_init 40 = .ok (.bipush 8, 2) := by decide +kernel
theorem d_At_init_42 : decode c_At_init 42 = .ok (.anewarray 27, 3) := by decide +kernel
theorem d_At_init_45 : decode c_At_init 45 = .ok (.putfield 29, 3) := by decide +kernel
theorem d_At_init_48 : decode c_At_init 48 = .ok (.aload_n 0, 1) := by decide +kernel
theorem d_At_init_49 : decode c_At_init 49 = .ok (.new 21, 3) := by decide +kernel
theorem d_At_init_52 : decode c_At_init 52 = .ok (.dup, 1) := by decide +kernel
theorem d_At_init_53 : decode c_At_init 53 = .ok (.sipush 197, 3) := by decide +kernel
theorem d_At_init_56 : decode c_At_init 56 = .ok (.bipush 16, 2) := by decide +kernel
theorem d_At_init_58 : decode c_At_init 58 = .ok (.invokespecial 33, 3) := by decide +kernel
theorem d_At_init_61 : decode c_At_init 61 = .ok (.putfield 36, 3) := by decide +kernel
theorem d_At_init_64 : decode c_At_init 64 = .ok (.aload_n 0, 1) := by decide +kernel
theorem d_At_init_65 : decode c_At_init 65 = .ok (.new 40, 3) := by decide +kernel
theorem d_At_init_68 : decode c_At_init 68 = .ok (.dup, 1) := by decide +kernel
theorem d_At_init_69 : decode c_At_init 69 = .ok (.invokespecial 42, 3) := by decide +kernel
theorem d_At_init_72 : decode c_At_init 72 = .ok (.putfield 43, 3) := by decide +kernel
theorem d_At_init_75 : decode c_At_init 75 = .ok (.aload_n 0, 1) := by decide +kernel
theorem d_At_init_76 : decode c_At_init 76 = .ok (.new 40, 3) := by decide +kernel
theorem d_At_init_79 : decode c_At_init 79 = .ok (.dup, 1) := by decide +kernel
theorem d_At_init_80 : decode c_At_init 80 = .ok (.invokespecial 42, 3) := by decide +kernel
theorem d_At_init_83 : decode c_At_init 83 = .ok (.putfield 47, 3) := by decide +kernel
theorem d_At_init_86 : decode c_At_init 86 = .ok (.aload_n 0, 1) := by decide +kernel
theorem d_At_init_87 : decode c_At_init 87 = .ok (.new 50, 3) := by decide +kernel
theorem d_At_init_90 : decode c_At_init 90 = .ok (.dup, 1) := by decide +kernel
theorem d_At_init_91 : decode c_At_init 91 = .ok (.invokespecial 52, 3) := by decide +kernel
theorem d_At_init_94 : decode c_At_init 94 = .ok (.putfield 53, 3) := by decide +kernel
theorem d_At_init_97 : decode c_At_init 97 = .ok (.aload_n 0, 1) := by decide +kernel
theorem d_At_init_98 : decode c_At_init 98 = .ok (.iconst 0, 1) := by decide +kernel
theorem d_At_init_99 : decode c_At_init 99 = .ok (.putfield 57, 3) := by decide +kernel
theorem d_At_init_102 : decode c_At_init 102 = .ok (.aload_n 0, 1) := by decide +kernel
theorem d_At_init_103 : decode c_At_init 103 = .ok (.iconst 0, 1) := by decide +kernel
theorem d_At_init_104 : decode c_At_init 104 = .ok (.putfield 61, 3) := by decide +kernel
theorem d_At_init_107 : decode c_At_init 107 = .ok (.aload_n 0, 1) := by decide +kernel
theorem d_At_init_108 : decode c_At_init 108 = .ok (.iconst (-1), 1) := by decide +kernel
theorem d_At_init_109 : decode c_At_init 109 = .ok (.putfield 64, 3) := by decide +kernel
theorem d_At_init_112 : decode c_At_init 112 = .ok (.return_, 1) := by decide +kernel
theorem d_Rw_init_0 : decode c_Rw_init 0 = .ok (.aload_n 0, 1) := by decide +kernel
theorem d_Rw_init_1 : decode c_Rw_init 1 = .ok (.invokespecial 3, 3) := by decide +kernel
theorem d_Rw_init_4 : decode c_Rw_init 4 = .ok (.aload_n 0, 1) := by decide +kernel
theorem d_Rw_init_5 : decode c_Rw_init 5 = .ok (.iconst 0, 1) := by decide +kernel
theorem d_Rw_init_6 : decode c_Rw_init 6 = .ok (.putfield 9, 3) := by decide +kernel
theorem d_Rw_init_9 : decode c_Rw_init 9 = .ok (.aload_n 0, 1) := by decide +kernel
theorem d_Rw_init_10 : decode c_Rw_init 10 = .ok (.iload_n 1, 1) := by decide +kernel
theorem d_Rw_init_11 : decode c_Rw_init 11 = .ok (.iconst 0, 1) := by decide +kernel
theorem d_Rw_init_12 : decode c_Rw_init 12 = .ok (.invokestatic 15, 3) := by decide +kernel
theorem d_Rw_init_15 : decode c_Rw_init 15 = .ok (.newarray .byte, 2) := by decide +kernel
theorem d_Rw_init_17 : decode c_Rw_init 17 = .ok (.putfield 21, 3) := by decide +kernel
theorem d_Rw_init_20 : decode c_Rw_init 20 = .ok (.return_, 1) := by decide +kernel
theorem d_Tm_init_0 : decode c_Tm_init 0 = .ok (.aload_n 0, 1) := by decide +kernel
theorem d_Tm_init_1 : decode c_Tm_init 1 = .ok (.invokespecial 3, 3) := by decide +kernel
theorem d_Tm_init_4 : decode c_Tm_init 4 = .ok (.aload_n 0, 1) := by decide +kernel
theorem d_Tm_init_5 : decode c_Tm_init 5 = .ok (.iconst 1, 1) := by decide +kernel
theorem d_Tm_init_6 : decode c_Tm_init 6 = .ok (.putfield 9, 3) := by decide +kernel
theorem d_Tm_init_9 : decode c_Tm_init 9 = .ok (.aload_n 0, 1) := by decide +kernel
theorem d_Tm_init_10 : decode c_Tm_init 10 = .ok (.iconst 0, 1) := by decide +kernel
theorem d_Tm_init_11 : decode c_Tm_init 11 = .ok (.putfield 15, 3) := by decide +kernel
theorem d_Tm_init_14 : decode c_Tm_init 14 = .ok (.aload_n 0, 1) := by decide +kernel
theorem d_Tm_init_15 : decode c_Tm_init 15 = .ok (.iconst 0, 1) := by decide +kernel
theorem d_Tm_init_16 : decode c_Tm_init 16 = .ok (.putfield 18, 3) := by decide +kernel
theorem d_Tm_init_19 : decode c_Tm_init 19 = .ok (.aload_n 0, 1) := by decide +kernel
theorem d_Tm_init_20 : decode c_Tm_init 20 = .ok (.new 21, 3) := by decide +kernel
theorem d_Tm_init_23 : decode c_Tm_init 23 = .ok (.dup, 1) := by decide +kernel
theorem d_Tm_init_24 : decode c_Tm_init 24 = .ok (.iload_n 1, 1) := by decide +kernel
theorem d_Tm_init_25 : decode c_Tm_init 25 = .ok (.invokespecial 23, 3) := by decide +kernel
theorem d_Tm_init_28 : decode c_Tm_init 28 = .ok (.putfield 26, 3) := by decide +kernel
theorem d_Tm_init_31 : decode c_Tm_init 31 = .ok (.aload_n 0, 1) := by decide +kernel
theorem d_Tm_init_32 : decode c_Tm_init 32 = .ok (.new 21, 3) := by decide +kernel
theorem d_Tm_init_35 : decode c_Tm_init 35 = .ok (.dup, 1) := by decide +kernel
theorem d_Tm_init_36 : decode c_Tm_init 36 = .ok (.iload_n 2, 1) := by decide +kernel
theorem d_Tm_init_37 : decode c_Tm_init 37 = .ok (.invokespecial 23, 3) := by decide +kernel
theorem d_Tm_init_40 : decode c_Tm_init 40 = .ok (.putfield 30, 3) := by decide +kernel
theorem d_Tm_init_43 : decode c_Tm_init 43 = .ok (.return_, 1) := by decide +kernel
theorem d_Rf_init_0 : decode c_Rf_init 0 = .ok (.aload_n 0, 1) := by decide +kernel
theorem d_Rf_init_1 : decode c_Rf_init 1 = .ok (.invokespecial 3, 3) := by decide +kernel
theorem d_Rf_init_4 : decode c_Rf_init 4 = .ok (.aload_n 0, 1) := by decide +kernel
theorem d_Rf_init_5 : decode c_Rf_init 5 = .ok (.iconst 5, 1) := by decide +kernel
theorem d_Rf_init_6 : decode c_Rf_init 6 = .ok (.newarray .int, 2) := by decide +kernel
theorem d_Rf_init_8 : decode c_Rf_init 8 = .ok (.putfield 9, 3) := by decide +kernel
theorem d_Rf_init_11 : decode c_Rf_init 11 = .ok (.aload_n 0, 1) := by decide +kernel
theorem d_Rf_init_12 : decode c_Rf_init 12 = .ok (.iconst 5, 1) := by decide +kernel
theorem d_Rf_init_13 : decode c_Rf_init 13 = .ok (.newarray .int, 2) := by decide +kernel
theorem d_Rf_init_15 : decode c_Rf_init 15 = .ok (.putfield 15, 3) := by decide +kernel
theorem d_Rf_init_18 : decode c_Rf_init 18 = .ok (.aload_n 0, 1) := by decide +kernel
theorem d_Rf_init_19 : decode c_Rf_init 19 = .ok (.new 18, 3) := by decide +kernel
theorem d_Rf_init_22 : decode c_Rf_init 22 = .ok (.dup, 1) := by decide +kernel
theorem d_Rf_init_23 : decode c_Rf_init 23 = .ok (.iconst 0, 1) := by decide +kernel
theorem d_Rf_init_24 : decode c_Rf_init 24 = .ok (.invokespecial 20, 3) := by decide +kernel
theorem d_Rf_init_27 : decode c_Rf_init 27 = .ok (.putfield 23, 3) := by decide +kernel
theorem d_Rf_init_30 : decode c_Rf_init 30 = .ok (.return_, 1) := by decide +kernel
theorem d_Rs_init_0 : decode c_Rs_init 0 = .ok (.aload_n 0, 1) := by decide +kernel
theorem d_Rs_init_1 : decode c_Rs_init 1 = .ok (.invokespecial 3, 3) := by decide +kernel
theorem d_Rs_init_4 : decode c_Rs_init 4 = .ok (.aload_n 0, 1) := by decide +kernel
theorem d_Rs_init_5 : decode c_Rs_init 5 = .ok (.new 9, 3) := by decide +kernel
theorem d_Rs_init_8 : decode c_Rs_init 8 = .ok (.dup, 1) := by decide +kernel
theorem d_Rs_init_9 : decode c_Rs_init 9 = .ok (.sipush 197, 3) := by decide +kernel
theorem d_Rs_init_12 : decode c_Rs_init 12 = .ok (.invokespecial 11, 3) := by decide +kernel
theorem d_Rs_init_15 : decode c_Rs_init 15 = .ok (.putfield 14, 3) := by decide +kernel
theorem d_Rs_init_18 : decode c_Rs_init 18 = .ok (.return_, 1) := by decide +kernel
theorem d_At_type_0 : decode c_At_type 0 = .ok (.iload_n 3, 1) := by decide +kernel
theorem d_At_type_1 : decode c_At_type 1 = .ok (.iconst 1, 1) := by decide +kernel
theorem d_At_type_2 : decode c_At_type 2 = .ok (.if_icmp .lt 9, 3) := by decide +kernel
theorem d_At_type_5 : decode c_At_type 5 = .ok (.iload_n 3, 1) := by decide +kernel
theorem d_At_type_6 : decode c_At_type 6 = .ok (.bipush 8, 2) := by decide +kernel
theorem d_At_type_8 : decode c_At_type 8 = .ok (.if_icmp .le 5, 3) := by decide +kernel
theorem d_At_type_11 : decode c_At_type 11 = .ok (.iconst (-1), 1) := by decide +kernel
theorem d_At_type_12 : decode c_At_type 12 = .ok (.ireturn, 1) := by decide +kernel
theorem d_At_type_13 : decode c_At_type 13 = .ok (.iconst 0, 1) := by decide +kernel
theorem d_At_type_14 : decode c_At_type 14 = .ok (.istore 4, 2) := by decide +kernel
theorem d_At_type_16 : decode c_At_type 16 = .ok (.iload 4, 2) := by decide +kernel
theorem d_At_type_18 : decode c_At_type 18 = .ok (.iload_n 3, 1) := by decide +kernel
theorem d_At_type_19 : decode c_At_type 19 = .ok (.if_icmp .ge 23, 3) := by decide +kernel
theorem d_At_type_22 : decode c_At_type 22 = .ok (.lload_n 1, 1) := by decide +kernel
theorem d_At_type_23 : decode c_At_type 23 = .ok (.iload 4, 2) := by decide +kernel
theorem d_At_type_25 : decode c_At_type 25 = .ok (.invokestatic 67, 3) := by decide +kernel
theorem d_At_type_28 : decode c_At_type 28 = .ok (.invokestatic 71, 3) := by decide +kernel
theorem d_At_type_31 : decode c_At_type 31 = .ok (.ifCond .ne 5, 3) := by decide +kernel
theorem d_At_type_34 : decode c_At_type 34 = .ok (.iconst (-1), 1) := by decide +kernel
theorem d_At_type_35 : decode c_At_type 35 = .ok (.ireturn, 1) := by decide +kernel
theorem d_At_type_36 : decode c_At_type 36 = .ok (.iinc 4 1, 3) := by decide +kernel
theorem d_At_type_39 : decode c_At_type 39 = .ok (.goto (-23), 3) := by decide +kernel
theorem d_At_type_42 : decode c_At_type 42 = .ok (.aload_n 0, 1) := by decide +kernel
theorem d_At_type_43 : decode c_At_type 43 = .ok (.getfield 14, 3) := by decide +kernel
theorem d_At_type_46 : decode c_At_type 46 = .ok (.invokevirtual 75, 3) := by decide +kernel
theorem d_At_type_49 : decode c_At_type 49 = .ok (.iload_n 3, 1) := by decide +kernel
theorem d_At_type_50 : decode c_At_type 50 = .ok (.iadd, 1) := by decide +kernel
theorem d_At_type_51 : decode c_At_type 51 = .ok (.bipush 96, 2) := by decide +kernel
theorem d_At_type_53 : decode c_At_type 53 = .ok (.if_icmp .le 6, 3) := by decide +kernel
theorem d_At_type_56 : decode c_At_type 56 = .ok (.bipush (-3), 2) := by decide +kernel
theorem d_At_type_58 : decode c_At_type 58 = .ok (.ireturn, 1) := by decide +kernel
theorem d_At_type_59 : decode c_At_type 59 = .ok (.iload_n 3, 1) := by decide +kernel
theorem d_At_type_60 : decode c_At_type 60 = .ok (.iconst 1, 1) := by decide +kernel
theorem d_At_type_61 : decode c_At_type 61 = .ok (.isub, 1) := by decide +kernel
theorem d_At_type_62 : decode c_At_type 62 = .ok (.istore 4, 2) := by decide +kernel
theorem d_At_type_64 : decode c_At_type 64 = .ok (.iload 4, 2) := by decide +kernel
theorem d_At_type_66 : decode c_At_type 66 = .ok (.ifCond .lt 22, 3) := by decide +kernel
theorem d_At_type_69 : decode c_At_type 69 = .ok (.aload_n 0, 1) := by decide +kernel
theorem d_At_type_70 : decode c_At_type 70 = .ok (.getfield 14, 3) := by decide +kernel
theorem d_At_type_73 : decode c_At_type 73 = .ok (.lload_n 1, 1) := by decide +kernel
theorem d_At_type_74 : decode c_At_type 74 = .ok (.iload 4, 2) := by decide +kernel
theorem d_At_type_76 : decode c_At_type 76 = .ok (.invokestatic 67, 3) := by decide +kernel
theorem d_At_type_79 : decode c_At_type 79 = .ok (.invokevirtual 79, 3) := by decide +kernel
theorem d_At_type_82 : decode c_At_type 82 = .ok (.iinc 4 (-1), 3) := by decide +kernel
theorem d_At_type_85 : decode c_At_type 85 = .ok (.goto (-21), 3) := by decide +kernel
theorem d_At_type_88 : decode c_At_type 88 = .ok (.aload_n 0, 1) := by decide +kernel
theorem d_At_type_89 : decode c_At_type 89 = .ok (.getfield 14, 3) := by decide +kernel
theorem d_At_type_92 : decode c_At_type 92 = .ok (.invokevirtual 75, 3) := by decide +kernel
theorem d_At_type_95 : decode c_At_type 95 = .ok (.ireturn, 1) := by decide +kernel
theorem d_At_byteOf_0 : decode c_At_byteOf 0 = .ok (.lload_n 0, 1) := by decide +kernel
theorem d_At_byteOf_1 : decode c_At_byteOf 1 = .ok (.bipush 8, 2) := by decide +kernel
theorem d_At_byteOf_3 : decode c_At_byteOf 3 = .ok (.iload_n 2, 1) := by decide +kernel
theorem d_At_byteOf_4 : decode c_At_byteOf 4 = .ok (.imul, 1) := by decide +kernel
theorem d_At_byteOf_5 : decode c_At_byteOf 5 = .ok (.lushr, 1) := by decide +kernel
theorem d_At_byteOf_6 : decode c_At_byteOf 6 = .ok (.ldc2_w 246, 3) := by decide +kernel
theorem d_At_byteOf_9 : decode c_At_byteOf 9 = .ok (.land, 1) := by decide +kernel
theorem d_At_byteOf_10 : decode c_At_byteOf 10 = .ok (.l2i, 1) := by decide +kernel
theorem d_At_byteOf_11 : decode c_At_byteOf 11 = .ok (.ireturn, 1) := by decide +kernel
theorem d_At_isTapeByte_0 : decode c_At_isTapeByte 0 = .ok (.iload_n 0, 1) := by decide +kernel
theorem d_At_isTapeByte_1 : decode c_At_isTapeByte 1 = .ok (.bipush 32, 2) := by decide +kernel
theorem d_At_isTapeByte_3 : decode c_At_isTapeByte 3 = .ok (.if_icmp .lt 13, 3) := by decide +kernel
theorem d_At_isTapeByte_6 : decode c_At_isTapeByte 6 = .ok (.iload_n 0, 1) := by decide +kernel
theorem d_At_isTapeByte_7 : decode c_At_isTapeByte 7 = .ok (.bipush 126, 2) := by decide +kernel
theorem d_At_isTapeByte_9 : decode c_At_isTapeByte 9 = .ok (.if_icmp .gt 7, 3) := by decide +kernel
theorem d_At_isTapeByte_12 : decode c_At_isTapeByte 12 = .ok (.iconst 1, 1) := by decide +kernel
theorem d_At_isTapeByte_13 : decode c_At_isTapeByte 13 = .ok (.goto 4, 3) := by decide +kernel
theorem d_At_isTapeByte_16 : decode c_At_isTapeByte 16 = .ok (.iconst 0, 1) := by decide +kernel
theorem d_At_isTapeByte_17 : decode c_At_isTapeByte 17 = .ok (.ireturn, 1) := by decide +kernel
theorem d_Rw_size_0 : decode c_Rw_size 0 = .ok (.aload_n 0, 1) := by decide +kernel
theorem d_Rw_size_1 : decode c_Rw_size 1 = .ok (.getfield 9, 3) := by decide +kernel
theorem d_Rw_size_4 : decode c_Rw_size 4 = .ok (.ireturn, 1) := by decide +kernel
theorem d_Rw_add_0 : decode c_Rw_add 0 = .ok (.aload_n 0, 1) := by decide +kernel
theorem d_Rw_add_1 : decode c_Rw_add 1 = .ok (.getfield 9, 3) := by decide +kernel
theorem d_Rw_add_4 : decode c_Rw_add 4 = .ok (.ifCond .lt 36, 3) := by decide +kernel
theorem d_Rw_add_7 : decode c_Rw_add 7 = .ok (.aload_n 0, 1) := by decide +kernel
theorem d_Rw_add_8 : decode c_Rw_add 8 = .ok (.getfield 9, 3) := by decide +kernel
theorem d_Rw_add_11 : decode c_Rw_add 11 = .ok (.aload_n 0, 1) := by decide +kernel
theorem d_Rw_add_12 : decode c_Rw_add 12 = .ok (.getfield 21, 3) := by decide +kernel
theorem d_Rw_add_15 : decode c_Rw_add 15 = .ok (.arraylength, 1) := by decide +kernel
theorem d_Rw_add_16 : decode c_Rw_add 16 = .ok (.if_icmp .ge 24, 3) := by decide +kernel
theorem d_Rw_add_19 : decode c_Rw_add 19 = .ok (.aload_n 0, 1) := by decide +kernel
theorem d_Rw_add_20 : decode c_Rw_add 20 = .ok (.getfield 21, 3) := by decide +kernel
theorem d_Rw_add_23 : decode c_Rw_add 23 = .ok (.aload_n 0, 1) := by decide +kernel
theorem d_Rw_add_24 : decode c_Rw_add 24 = .ok (.getfield 9, 3) := by decide +kernel
theorem d_Rw_add_27 : decode c_Rw_add 27 = .ok (.iload_n 1, 1) := by decide +kernel
theorem d_Rw_add_28 : decode c_Rw_add 28 = .ok (.i2b, 1) := by decide +kernel
theorem d_Rw_add_29 : decode c_Rw_add 29 = .ok (.bastore, 1) := by decide +kernel
theorem d_Rw_add_30 : decode c_Rw_add 30 = .ok (.aload_n 0, 1) := by decide +kernel
theorem d_Rw_add_31 : decode c_Rw_add 31 = .ok (.dup, 1) := by decide +kernel
theorem d_Rw_add_32 : decode c_Rw_add 32 = .ok (.getfield 9, 3) := by decide +kernel
theorem d_Rw_add_35 : decode c_Rw_add 35 = .ok (.iconst 1, 1) := by decide +kernel
theorem d_Rw_add_36 : decode c_Rw_add 36 = .ok (.iadd, 1) := by decide +kernel
theorem d_Rw_add_37 : decode c_Rw_add 37 = .ok (.putfield 9, 3) := by decide +kernel
theorem d_Rw_add_40 : decode c_Rw_add 40 = .ok (.return_, 1) := by decide +kernel
theorem d_At_resolve_0 : decode c_At_resolve 0 = .ok (.aload_n 0, 1) := by decide +kernel
theorem d_At_resolve_1 : decode c_At_resolve 1 = .ok (.invokevirtual 82, 3) := by decide +kernel
theorem d_At_resolve_4 : decode c_At_resolve 4 = .ok (.istore_n 1, 1) := by decide +kernel
theorem d_At_resolve_5 : decode c_At_resolve 5 = .ok (.aload_n 0, 1) := by decide +kernel
theorem d_At_resolve_6 : decode c_At_resolve 6 = .ok (.getfield 14, 3) := by decide +kernel
theorem d_At_resolve_9 : decode c_At_resolve 9 = .ok (.iconst 0, 1) := by decide +kernel
theorem d_At_resolve_10 : decode c_At_resolve 10 = .ok (.invokevirtual 85, 3) := by decide +kernel
theorem d_At_resolve_13 : decode c_At_resolve 13 = .ok (.iload_n 1, 1) := by decide +kernel
theorem d_At_resolve_14 : decode c_At_resolve 14 = .ok (.ireturn, 1) := by decide +kernel
theorem d_At_addressOnTape_0 : decode c_At_addressOnTape 0 = .ok (.aload_n 0, 1) := by decide +kernel
theorem d_At_addressOnTape_1 : decode c_At_addressOnTape 1 = .ok (.getfield 14, 3) := by decide +kernel
theorem d_At_addressOnTape_4 : decode c_At_addressOnTape 4 = .ok (.invokestatic 169, 3) := by decide +kernel
theorem d_At_addressOnTape_7 : decode c_At_addressOnTape 7 = .ok (.istore_n 1, 1) := by decide +kernel
theorem d_At_addressOnTape_8 : decode c_At_addressOnTape 8 = .ok (.iload_n 1, 1) := by decide +kernel
theorem d_At_addressOnTape_9 : decode c_At_addressOnTape 9 = .ok (.iconst (-1), 1) := by decide +kernel
theorem d_At_addressOnTape_10 : decode c_At_addressOnTape 10 = .ok (.if_icmp .eq 8, 3) := by decide +kernel
theorem d_At_addressOnTape_13 : decode c_At_addressOnTape 13 = .ok (.bipush (-10), 2) := by decide +kernel
theorem d_At_addressOnTape_15 : decode c_At_addressOnTape 15 = .ok (.iload_n 1, 1) := by decide +kernel
theorem d_At_addressOnTape_16 : decode c_At_addressOnTape 16 = .ok (.isub, 1) := by decide +kernel
theorem d_At_addressOnTape_17 : decode c_At_addressOnTape 17 = .ok (.ireturn, 1) := by decide +kernel
theorem d_At_addressOnTape_18 : decode c_At_addressOnTape 18 = .ok (.aload_n 0, 1) := by decide +kernel
theorem d_At_addressOnTape_19 : decode c_At_addressOnTape 19 = .ok (.getfield 43, 3) := by decide +kernel
theorem d_At_addressOnTape_22 : decode c_At_addressOnTape 22 = .ok (.aload_n 0, 1) := by decide +kernel
theorem d_At_addressOnTape_23 : decode c_At_addressOnTape 23 = .ok (.getfield 14, 3) := by decide +kernel
theorem d_At_addressOnTape_26 : decode c_At_addressOnTape 26 = .ok (.invokevirtual 112, 3) := by decide +kernel
theorem d_At_addressOnTape_29 : decode c_At_addressOnTape 29 = .ok (.aload_n 0, 1) := by decide +kernel
theorem d_At_addressOnTape_30 : decode c_At_addressOnTape 30 = .ok (.aload_n 0, 1) := by decide +kernel
theorem d_At_addressOnTape_31 : decode c_At_addressOnTape 31 = .ok (.getfield 64, 3) := by decide +kernel
theorem d_At_addressOnTape_34 : decode c_At_addressOnTape 34 = .ok (.invokevirtual 88, 3) := by decide +kernel
theorem d_At_addressOnTape_37 : decode c_At_addressOnTape 37 = .ok (.astore_n 2, 1) := by decide +kernel
theorem d_At_addressOnTape_38 : decode c_At_addressOnTape 38 = .ok (.aload_n 2, 1) := by decide +kernel
theorem d_At_addressOnTape_39 : decode c_At_addressOnTape 39 = .ok (.ifnonnull 17, 3) := by decide +kernel
theorem d_At_addressOnTape_42 : decode c_At_addressOnTape 42 = .ok (.aload_n 0, 1) := by decide +kernel
theorem d_At_addressOnTape_43 : decode c_At_addressOnTape 43 = .ok (.getfield 43, 3) := by decide +kernel
theorem d_At_addressOnTape_46 : decode c_At_addressOnTape 46 = .ok (.iconst 0, 1) := by decide +kernel
theorem d_At_addressOnTape_47 : decode c_At_addressOnTape 47 = .ok (.invokevirtual 116, 3) := by decide +kernel
theorem d_At_addressOnTape_50 : decode c_At_addressOnTape 50 = .ok (.ifCond .ne 6, 3) := by decide +kernel
theorem d_At_addressOnTape_53 : decode c_At_addressOnTape 53 = .ok (.bipush (-2), 2) := by decide +kernel
theorem d_At_addressOnTape_55 : decode c_At_addressOnTape 55 = .ok (.ireturn, 1) := by decide +kernel
theorem d_At_addressOnTape_56 : decode c_At_addressOnTape 56 = .ok (.aload_n 0, 1) := by decide +kernel
theorem d_At_addressOnTape_57 : decode c_At_addressOnTape 57 = .ok (.getfield 36, 3) := by decide +kernel
theorem d_At_addressOnTape_60 : decode c_At_addressOnTape 60 = .ok (.iconst 0, 1) := by decide +kernel
theorem d_At_addressOnTape_61 : decode c_At_addressOnTape 61 = .ok (.iconst 0, 1) := by decide +kernel
theorem d_At_addressOnTape_62 : decode c_At_addressOnTape 62 = .ok (.iconst 0, 1) := by decide +kernel
theorem d_At_addressOnTape_63 : decode c_At_addressOnTape 63 = .ok (.invokevirtual 92, 3) := by decide +kernel
theorem d_At_addressOnTape_66 : decode c_At_addressOnTape 66 = .ok (.aload_n 2, 1) := by decide +kernel
theorem d_At_addressOnTape_67 : decode c_At_addressOnTape 67 = .ok (.ifnonnull 28, 3) := by decide +kernel
theorem d_At_addressOnTape_70 : decode c_At_addressOnTape 70 = .ok (.aload_n 0, 1) := by decide +kernel
theorem d_At_addressOnTape_71 : decode c_At_addressOnTape 71 = .ok (.getfield 36, 3) := by decide +kernel
theorem d_At_addressOnTape_74 : decode c_At_addressOnTape 74 = .ok (.getfield 109, 3) := by decide +kernel
theorem d_At_addressOnTape_77 : decode c_At_addressOnTape 77 = .ok (.aload_n 0, 1) := by decide +kernel
theorem d_At_addressOnTape_78 : decode c_At_addressOnTape 78 = .ok (.getfield 14, 3) := by decide +kernel
theorem d_At_addressOnTape_81 : decode c_At_addressOnTape 81 = .ok (.iconst 0, 1) := by decide +kernel
theorem d_At_addressOnTape_82 : decode c_At_addressOnTape 82 = .ok (.aload_n 0, 1) := by decide +kernel
theorem d_At_addressOnTape_83 : decode c_At_addressOnTape 83 = .ok (.getfield 14, 3) := by decide +kernel
theorem d_At_addressOnTape_86 : decode c_At_addressOnTape 86 = .ok (.invokevirtual 75, 3) := by decide +kernel
theorem d_At_addressOnTape_89 : decode c_At_addressOnTape 89 = .ok (.invokevirtual 173, 3) := by decide +kernel
theorem d_At_addressOnTape_92 : decode c_At_addressOnTape 92 = .ok (.goto 36, 3) := by decide +kernel
theorem d_At_addressOnTape_95 : decode c_At_addressOnTape 95 = .ok (.aload_n 0, 1) := by decide +kernel
theorem d_At_addressOnTape_96 : decode c_At_addressOnTape 96 = .ok (.getfield 47, 3) := by decide +kernel
theorem d_At_addressOnTape_99 : decode c_At_addressOnTape 99 = .ok (.aload_n 2, 1) := by decide +kernel
theorem d_At_addressOnTape_100 : decode c_At_addressOnTape 100 = .ok (.getfield 109, 3) := by decide +kernel
theorem d_At_addressOnTape_103 : decode c_At_addressOnTape 103 = .ok (.invokevirtual 112, 3) := by decide +kernel
theorem d_At_addressOnTape_106 : decode c_At_addressOnTape 106 = .ok (.aload_n 0, 1) := by decide +kernel
theorem d_At_addressOnTape_107 : decode c_At_addressOnTape 107 = .ok (.getfield 53, 3) := by decide +kernel
theorem d_At_addressOnTape_110 : decode c_At_addressOnTape 110 = .ok (.aload_n 0, 1) := by decide +kernel
theorem d_At_addressOnTape_111 : decode c_At_addressOnTape 111 = .ok (.getfield 36, 3) := by decide +kernel
theorem d_At_addressOnTape_114 : decode c_At_addressOnTape 114 = .ok (.getfield 109, 3) := by decide +kernel
theorem d_At_addressOnTape_117 : decode c_At_addressOnTape 117 = .ok (.aload_n 0, 1) := by decide +kernel
theorem d_At_addressOnTape_118 : decode c_At_addressOnTape 118 = .ok (.getfield 43, 3) := by decide +kernel
theorem d_At_addressOnTape_121 : decode c_At_addressOnTape 121 = .ok (.aload_n 0, 1) := by decide +kernel
theorem d_At_addressOnTape_122 : decode c_At_addressOnTape 122 = .ok (.getfield 47, 3) := by decide +kernel
theorem d_At_addressOnTape_125 : decode c_At_addressOnTape 125 = .ok (.invokevirtual 177, 3) := by decide +kernel
theorem d_At_addressOnTape_128 : decode c_At_addressOnTape 128 = .ok (.aload_n 0, 1) := by decide +kernel
theorem d_At_addressOnTape_129 : decode c_At_addressOnTape 129 = .ok (.getfield 36, 3) := by decide +kernel
theorem d_At_addressOnTape_132 : decode c_At_addressOnTape 132 = .ok (.getfield 109, 3) := by decide +kernel
theorem d_At_addressOnTape_135 : decode c_At_addressOnTape 135 = .ok (.invokevirtual 75, 3) := by decide +kernel
theorem d_At_addressOnTape_138 : decode c_At_addressOnTape 138 = .ok (.bipush 100, 2) := by decide +kernel
theorem d_At_addressOnTape_140 : decode c_At_addressOnTape 140 = .ok (.if_icmp .le 8, 3) := by decide +kernel
theorem d_At_addressOnTape_143 : decode c_At_addressOnTape 143 = .ok (.bipush (-3), 2) := by decide +kernel
theorem d_At_addressOnTape_145 : decode c_At_addressOnTape 145 = .ok (.goto 7, 3) := by decide +kernel
theorem d_At_addressOnTape_148 : decode c_At_addressOnTape 148 = .ok (.aload_n 0, 1) := by decide +kernel
theorem d_At_addressOnTape_149 : decode c_At_addressOnTape 149 = .ok (.invokevirtual 96, 3) := by decide +kernel
theorem d_At_addressOnTape_152 : decode c_At_addressOnTape 152 = .ok (.ireturn, 1) := by decide +kernel
theorem d_At_wrongInReference_0 : decode c_At_wrongInReference 0 = .ok (.iconst 0, 1) := by decide +kernel
theorem d_At_wrongInReference_1 : decode c_At_wrongInReference 1 = .ok (.istore_n 1, 1) := by decide +kernel
theorem d_At_wrongInReference_2 : decode c_At_wrongInReference 2 = .ok (.iload_n 1, 1) := by decide +kernel
theorem d_At_wrongInReference_3 : decode c_At_wrongInReference 3 = .ok (.aload_n 0, 1) := by decide +kernel
theorem d_At_wrongInReference_4 : decode c_At_wrongInReference 4 = .ok (.invokevirtual 75, 3) := by decide +kernel
theorem d_At_wrongInReference_7 : decode c_At_wrongInReference 7 = .ok (.if_icmp .ge 60, 3) := by decide +kernel
theorem d_At_wrongInReference_10 : decode c_At_wrongInReference 10 = .ok (.aload_n 0, 1) := by decide +kernel
theorem d_At_wrongInReference_11 : decode c_At_wrongInReference 11 = .ok (.iload_n 1, 1) := by decide +kernel
theorem d_At_wrongInReference_12 : decode c_At_wrongInReference 12 = .ok (.invokevirtual 162, 3) := by decide +kernel
theorem d_At_wrongInReference_15 : decode c_At_wrongInReference 15 = .ok (.istore_n 2, 1) := by decide +kernel
theorem d_At_wrongInReference_16 : decode c_At_wrongInReference 16 = .ok (.iload_n 2, 1) := by decide +kernel
theorem d_At_wrongInReference_17 : decode c_At_wrongInReference 17 = .ok (.invokestatic 267, 3) := by decide +kernel
theorem d_At_wrongInReference_20 : decode c_At_wrongInReference 20 = .ok (.ifCond .ne 5, 3) := by decide +kernel
theorem d_At_wrongInReference_23 : decode c_At_wrongInReference 23 = .ok (.iload_n 1, 1) := by decide +kernel
theorem d_At_wrongInReference_24 : decode c_At_wrongInReference 24 = .ok (.ireturn, 1) := by decide +kernel
theorem d_At_wrongInReference_25 : decode c_At_wrongInReference 25 = .ok (.iload_n 2, 1) := by decide +kernel
theorem d_At_wrongInReference_26 : decode c_At_wrongInReference 26 = .ok (.bipush 37, 2) := by decide +kernel
theorem d_At_wrongInReference_28 : decode c_At_wrongInReference 28 = .ok (.if_icmp .ne 33, 3) := by decide +kernel
theorem d_At_wrongInReference_31 : decode c_At_wrongInReference 31 = .ok (.aload_n 0, 1) := by decide +kernel
theorem d_At_wrongInReference_32 : decode c_At_wrongInReference 32 = .ok (.iload_n 1, 1) := by decide +kernel
theorem d_At_wrongInReference_33 : decode c_At_wrongInReference 33 = .ok (.iconst 1, 1) := by decide +kernel
theorem d_At_wrongInReference_34 : decode c_At_wrongInReference 34 = .ok (.iadd, 1) := by decide +kernel
theorem d_At_wrongInReference_35 : decode c_At_wrongInReference 35 = .ok (.invokevirtual 162, 3) := by decide +kernel
theorem d_At_wrongInReference_38 : decode c_At_wrongInReference 38 = .ok (.invokestatic 270, 3) := by decide +kernel
theorem d_At_wrongInReference_41 : decode c_At_wrongInReference 41 = .ok (.iconst (-1), 1) := by decide +kernel
theorem d_At_wrongInReference_42 : decode c_At_wrongInReference 42 = .ok (.if_icmp .eq 17, 3) := by decide +kernel
theorem d_At_wrongInReference_45 : decode c_At_wrongInReference 45 = .ok (.aload_n 0, 1) := by decide +kernel
theorem d_At_wrongInReference_46 : decode c_At_wrongInReference 46 = .ok (.iload_n 1, 1) := by decide +kernel
theorem d_At_wrongInReference_47 : decode c_At_wrongInReference 47 = .ok (.iconst 2, 1) := by decide +kernel
theorem d_At_wrongInReference_48 : decode c_At_wrongInReference 48 = .ok (.iadd, 1) := by decide +kernel
theorem d_At_wrongInReference_49 : decode c_At_wrongInReference 49 = .ok (.invokevirtual 162, 3) := by decide +kernel
theorem d_At_wrongInReference_52 : decode c_At_wrongInReference 52 = .ok (.invokestatic 270, 3) := by decide +kernel
theorem d_At_wrongInReference_55 : decode c_At_wrongInReference 55 = .ok (.iconst (-1), 1) := by decide +kernel
theorem d_At_wrongInReference_56 : decode c_At_wrongInReference 56 = .ok (.if_icmp .ne 5, 3) := by decide +kernel
theorem d_At_wrongInReference_59 : decode c_At_wrongInReference 59 = .ok (.iload_n 1, 1) := by decide +kernel
theorem d_At_wrongInReference_60 : decode c_At_wrongInReference 60 = .ok (.ireturn, 1) := by decide +kernel
theorem d_At_wrongInReference_61 : decode c_At_wrongInReference 61 = .ok (.iinc 1 1, 3) := by decide +kernel
theorem d_At_wrongInReference_64 : decode c_At_wrongInReference 64 = .ok (.goto (-62), 3) := by decide +kernel
theorem d_At_wrongInReference_67 : decode c_At_wrongInReference 67 = .ok (.iconst (-1), 1) := by decide +kernel
theorem d_At_wrongInReference_68 : decode c_At_wrongInReference 68 = .ok (.ireturn, 1) := by decide +kernel
theorem d_Rw_byteAt_0 : decode c_Rw_byteAt 0 = .ok (.iload_n 1, 1) := by decide +kernel
theorem d_Rw_byteAt_1 : decode c_Rw_byteAt 1 = .ok (.ifCond .lt 29, 3) := by decide +kernel
theorem d_Rw_byteAt_4 : decode c_Rw_byteAt 4 = .ok (.iload_n 1, 1) := by decide +kernel
theorem d_Rw_byteAt_5 : decode c_Rw_byteAt 5 = .ok (.aload_n 0, 1) := by decide +kernel
theorem d_Rw_byteAt_6 : decode c_Rw_byteAt 6 = .ok (.getfield 9, 3) := by decide +kernel
theorem d_Rw_byteAt_9 : decode c_Rw_byteAt 9 = .ok (.if_icmp .ge 21, 3) := by decide +kernel
theorem d_Rw_byteAt_12 : decode c_Rw_byteAt 12 = .ok (.iload_n 1, 1) := by decide +kernel
theorem d_Rw_byteAt_13 : decode c_Rw_byteAt 13 = .ok (.aload_n 0, 1) := by decide +kernel
theorem d_Rw_byteAt_14 : decode c_Rw_byteAt 14 = .ok (.getfield 21, 3) := by decide +kernel
theorem d_Rw_byteAt_17 : decode c_Rw_byteAt 17 = .ok (.arraylength, 1) := by decide +kernel
theorem d_Rw_byteAt_18 : decode c_Rw_byteAt 18 = .ok (.if_icmp .ge 12, 3) := by decide +kernel
theorem d_Rw_byteAt_21 : decode c_Rw_byteAt 21 = .ok (.aload_n 0, 1) := by decide +kernel
theorem d_Rw_byteAt_22 : decode c_Rw_byteAt 22 = .ok (.getfield 21, 3) := by decide +kernel
theorem d_Rw_byteAt_25 : decode c_Rw_byteAt 25 = .ok (.iload_n 1, 1) := by decide +kernel
theorem d_Rw_byteAt_26 : decode c_Rw_byteAt 26 = .ok (.baload, 1) := by decide +kernel
theorem d_Rw_byteAt_27 : decode c_Rw_byteAt 27 = .ok (.goto 4, 3) := by decide +kernel
theorem d_Rw_byteAt_30 : decode c_Rw_byteAt 30 = .ok (.iconst (-1), 1) := by decide +kernel
theorem d_Rw_byteAt_31 : decode c_Rw_byteAt 31 = .ok (.ireturn, 1) := by decide +kernel
theorem d_At_isReferenceByte_0 : decode c_At_isReferenceByte 0 = .ok (.iload_n 0, 1) := by decide +kernel
theorem d_At_isReferenceByte_1 : decode c_At_isReferenceByte 1 = .ok (.bipush 33, 2) := by decide +kernel
theorem d_At_isReferenceByte_3 : decode c_At_isReferenceByte 3 = .ok (.if_icmp .lt 23, 3) := by decide +kernel
theorem d_At_isReferenceByte_6 : decode c_At_isReferenceByte 6 = .ok (.iload_n 0, 1) := by decide +kernel
theorem d_At_isReferenceByte_7 : decode c_At_isReferenceByte 7 = .ok (.bipush 126, 2) := by decide +kernel
theorem d_At_isReferenceByte_9 : decode c_At_isReferenceByte 9 = .ok (.if_icmp .gt 17, 3) := by decide +kernel
theorem d_At_isReferenceByte_12 : decode c_At_isReferenceByte 12 = .ok (.ldc 248, 2) := by decide +kernel
theorem d_At_isReferenceByte_14 : decode c_At_isReferenceByte 14 = .ok (.iload_n 0, 1) := by decide +kernel
theorem d_At_isReferenceByte_15 : decode c_At_isReferenceByte 15 = .ok (.i2c, 1) := by decide +kernel
theorem d_At_isReferenceByte_16 : decode c_At_isReferenceByte 16 = .ok (.invokevirtual 250, 3) := by decide +kernel
theorem d_At_isReferenceByte_19 : decode c_At_isReferenceByte 19 = .ok (.ifCond .ge 7, 3) := by decide +kernel
theorem d_At_isReferenceByte_22 : decode c_At_isReferenceByte 22 = .ok (.iconst 1, 1) := by decide +kernel
theorem d_At_isReferenceByte_23 : decode c_At_isReferenceByte 23 = .ok (.goto 4, 3) := by decide +kernel
theorem d_At_isReferenceByte_26 : decode c_At_isReferenceByte 26 = .ok (.iconst 0, 1) := by decide +kernel
theorem d_At_isReferenceByte_27 : decode c_At_isReferenceByte 27 = .ok (.ireturn, 1) := by decide +kernel
theorem d_Js_indexOf1_0 : decode c_Js_indexOf1 0 = .ok (.aload_n 0, 1) := by decide +kernel
theorem d_Js_indexOf1_1 : decode c_Js_indexOf1 1 = .ok (.iload_n 1, 1) := by decide +kernel
theorem d_Js_indexOf1_2 : decode c_Js_indexOf1 2 = .ok (.iconst 0, 1) := by decide +kernel
theorem d_Js_indexOf1_3 : decode c_Js_indexOf1 3 = .ok (.invokevirtual 633, 3) := by decide +kernel
theorem d_Js_indexOf1_6 : decode c_Js_indexOf1 6 = .ok (.ireturn, 1) := by decide +kernel
theorem d_Js_indexOf2_0 : decode c_Js_indexOf2 0 = .ok (.aload_n 0, 1) := by decide +kernel
theorem d_Js_indexOf2_1 : decode c_Js_indexOf2 1 = .ok (.invokevirtual 492, 3) := by decide +kernel
theorem d_Js_indexOf2_4 : decode c_Js_indexOf2 4 = .ok (.ifCond .eq 19, 3) := by decide +kernel
theorem d_Js_indexOf2_7 : decode c_Js_indexOf2 7 = .ok (.aload_n 0, 1) := by decide +kernel
theorem d_Js_indexOf2_8 : decode c_Js_indexOf2 8 = .ok (.getfield 9, 3) := by decide +kernel
theorem d_Js_indexOf2_11 : decode c_Js_indexOf2 11 = .ok (.iload_n 1, 1) := by decide +kernel
theorem d_Js_indexOf2_12 : decode c_Js_indexOf2 12 = .ok (.iload_n 2, 1) := by decide +kernel
theorem d_Js_indexOf2_13 : decode c_Js_indexOf2 13 = .ok (.aload_n 0, 1) := by decide +kernel
theorem d_Js_indexOf2_14 : decode c_Js_indexOf2 14 = .ok (.invokevirtual 505, 3) := by decide +kernel
theorem d_Js_indexOf2_17 : decode c_Js_indexOf2 17 = .ok (.invokestatic 637, 3) := by decide +kernel
theorem d_Js_indexOf2_20 : decode c_Js_indexOf2 20 = .ok (.goto 16, 3) := by decide +kernel
theorem d_Js_indexOf2_23 : decode c_Js_indexOf2 23 = .ok (.aload_n 0, 1) := by decide +kernel
theorem d_Js_indexOf2_24 : decode c_Js_indexOf2 24 = .ok (.getfield 9, 3) := by decide +kernel
theorem d_Js_indexOf2_27 : decode c_Js_indexOf2 27 = .ok (.iload_n 1, 1) := by decide +kernel
theorem d_Js_indexOf2_28 : decode c_Js_indexOf2 28 = .ok (.iload_n 2, 1) := by decide +kernel
theorem d_Js_indexOf2_29 : decode c_Js_indexOf2 29 = .ok (.aload_n 0, 1) := by decide +kernel
theorem d_Js_indexOf2_30 : decode c_Js_indexOf2 30 = .ok (.invokevirtual 505, 3) := by decide +kernel
theorem d_Js_indexOf2_33 : decode c_Js_indexOf2 33 = .ok (.invokestatic 640, 3) := by decide +kernel
theorem d_Js_indexOf2_36 : decode c_Js_indexOf2 36 = .ok (.ireturn, 1) := by decide +kernel
theorem d_Js_isLatin1_0 : decode c_Js_isLatin1 0 = .ok (.getstatic 38, 3) := by decide +kernel
theorem d_Js_isLatin1_3 : decode c_Js_isLatin1 3 = .ok (.ifCond .eq 14, 3) := by decide +kernel
theorem d_Js_isLatin1_6 : decode c_Js_isLatin1 6 = .ok (.aload_n 0, 1) := by decide +kernel
theorem d_Js_isLatin1_7 : decode c_Js_isLatin1 7 = .ok (.getfield 15, 3) := by decide +kernel
theorem d_Js_isLatin1_10 : decode c_Js_isLatin1 10 = .ok (.ifCond .ne 7, 3) := by decide +kernel
theorem d_Js_isLatin1_13 : decode c_Js_isLatin1 13 = .ok (.iconst 1, 1) := by decide +kernel
theorem d_Js_isLatin1_14 : decode c_Js_isLatin1 14 = .ok (.goto 4, 3) := by decide +kernel
theorem d_Js_isLatin1_17 : decode c_Js_isLatin1 17 = .ok (.iconst 0, 1) := by decide +kernel
theorem d_Js_isLatin1_18 : decode c_Js_isLatin1 18 = .ok (.ireturn, 1) := by decide +kernel
theorem d_Js_length_0 : decode c_Js_length 0 = .ok (.aload_n 0, 1) := by decide +kernel
theorem d_Js_length_1 : decode c_Js_length 1 = .ok (.getfield 9, 3) := by decide +kernel
theorem d_Js_length_4 : decode c_Js_length 4 = .ok (.arraylength, 1) := by decide +kernel
theorem d_Js_length_5 : decode c_Js_length 5 = .ok (.aload_n 0, 1) := by decide +kernel
theorem d_Js_length_6 : decode c_Js_length 6 = .ok (.invokevirtual 335, 3) := by decide +kernel
theorem d_Js_length_9 : decode c_Js_length 9 = .ok (.ishr, 1) := by decide +kernel
theorem d_Js_length_10 : decode c_Js_length 10 = .ok (.ireturn, 1) := by decide +kernel
theorem d_Js_coder_0 : decode c_Js_coder 0 = .ok (.getstatic 38, 3) := by decide +kernel
theorem d_Js_coder_3 : decode c_Js_coder 3 = .ok (.ifCond .eq 10, 3) := by decide +kernel
theorem d_Js_coder_6 : decode c_Js_coder 6 = .ok (.aload_n 0, 1) := by decide +kernel
theorem d_Js_coder_7 : decode c_Js_coder 7 = .ok (.getfield 15, 3) := by decide +kernel
theorem d_Js_coder_10 : decode c_Js_coder 10 = .ok (.goto 4, 3) := by decide +kernel
theorem d_Js_coder_13 : decode c_Js_coder 13 = .ok (.iconst 1, 1) := by decide +kernel
theorem d_Js_coder_14 : decode c_Js_coder 14 = .ok (.ireturn, 1) := by decide +kernel
theorem d_Jl_indexOf_0 : decode c_Jl_indexOf 0 = .ok (.iload_n 1, 1) := by decide +kernel
theorem d_Jl_indexOf_1 : decode c_Jl_indexOf 1 = .ok (.invokestatic 88, 3) := by decide +kernel
theorem d_Jl_indexOf_4 : decode c_Jl_indexOf 4 = .ok (.ifCond .ne 5, 3) := by decide +kernel
theorem d_Jl_indexOf_7 : decode c_Jl_indexOf 7 = .ok (.iconst (-1), 1) := by decide +kernel
theorem d_Jl_indexOf_8 : decode c_Jl_indexOf 8 = .ok (.ireturn, 1) := by decide +kernel
theorem d_Jl_indexOf_9 : decode c_Jl_indexOf 9 = .ok (.iload_n 2, 1) := by decide +kernel
theorem d_Jl_indexOf_10 : decode c_Jl_indexOf 10 = .ok (.iconst 0, 1) := by decide +kernel
theorem d_Jl_indexOf_11 : decode c_Jl_indexOf 11 = .ok (.invokestatic 92, 3) := by decide +kernel
theorem d_Jl_indexOf_14 : decode c_Jl_indexOf 14 = .ok (.istore_n 2, 1) := by decide +kernel
theorem d_Jl_indexOf_15 : decode c_Jl_indexOf 15 = .ok (.iload_n 3, 1) := by decide +kernel
theorem d_Jl_indexOf_16 : decode c_Jl_indexOf 16 = .ok (.aload_n 0, 1) := by decide +kernel
theorem d_Jl_indexOf_17 : decode c_Jl_indexOf 17 = .ok (.arraylength, 1) := by decide +kernel
theorem d_Jl_indexOf_18 : decode c_Jl_indexOf 18 = .ok (.invokestatic 38, 3) := by decide +kernel
theorem d_Jl_indexOf_21 : decode c_Jl_indexOf 21 = .ok (.istore_n 3, 1) := by decide +kernel
theorem d_Jl_indexOf_22 : decode c_Jl_indexOf 22 = .ok (.iload_n 2, 1) := by decide +kernel
theorem d_Jl_indexOf_23 : decode c_Jl_indexOf 23 = .ok (.iload_n 3, 1) := by decide +kernel
theorem d_Jl_indexOf_24 : decode c_Jl_indexOf 24 = .ok (.if_icmp .lt 5, 3) := by decide +kernel
theorem d_Jl_indexOf_27 : decode c_Jl_indexOf 27 = .ok (.iconst (-1), 1) := by decide +kernel
theorem d_Jl_indexOf_28 : decode c_Jl_indexOf 28 = .ok (.ireturn, 1) := by decide +kernel
theorem d_Jl_indexOf_29 : decode c_Jl_indexOf 29 = .ok (.aload_n 0, 1) := by decide +kernel
theorem d_Jl_indexOf_30 : decode c_Jl_indexOf 30 = .ok (.iload_n 1, 1) := by decide +kernel
theorem d_Jl_indexOf_31 : decode c_Jl_indexOf 31 = .ok (.iload_n 2, 1) := by decide +kernel
theorem d_Jl_indexOf_32 : decode c_Jl_indexOf 32 = .ok (.iload_n 3, 1) := by decide +kernel
theorem d_Jl_indexOf_33 : decode c_Jl_indexOf 33 = .ok (.invokestatic 95, 3) := by decide +kernel
theorem d_Jl_indexOf_36 : decode c_Jl_indexOf 36 = .ok (.ireturn, 1) := by decide +kernel
theorem d_Jl_canEncode_0 : decode c_Jl_canEncode 0 = .ok (.iload_n 0, 1) := by decide +kernel
theorem d_Jl_canEncode_1 : decode c_Jl_canEncode 1 = .ok (.ifCond .lt 14, 3) := by decide +kernel
theorem d_Jl_canEncode_4 : decode c_Jl_canEncode 4 = .ok (.iload_n 0, 1) := by decide +kernel
theorem d_Jl_canEncode_5 : decode c_Jl_canEncode 5 = .ok (.sipush 255, 3) := by decide +kernel
theorem d_Jl_canEncode_8 : decode c_Jl_canEncode 8 = .ok (.if_icmp .gt 7, 3) := by decide +kernel
theorem d_Jl_canEncode_11 : decode c_Jl_canEncode 11 = .ok (.iconst 1, 1) := by decide +kernel
theorem d_Jl_canEncode_12 : decode c_Jl_canEncode 12 = .ok (.goto 4, 3) := by decide +kernel
theorem d_Jl_canEncode_15 : decode c_Jl_canEncode 15 = .ok (.iconst 0, 1) := by decide +kernel
theorem d_Jl_canEncode_16 : decode c_Jl_canEncode 16 = .ok (.ireturn, 1) := by decide +kernel
theorem d_Jl_indexOfChar_0 : decode c_Jl_indexOfChar 0 = .ok (.iload_n 1, 1) := by decide +kernel
theorem d_Jl_indexOfChar_1 : decode c_Jl_indexOfChar 1 = .ok (.i2b, 1) := by decide +kernel
theorem d_Jl_indexOfChar_2 : decode c_Jl_indexOfChar 2 = .ok (.istore 4, 2) := by decide +kernel
theorem d_Jl_indexOfChar_4 : decode c_Jl_indexOfChar 4 = .ok (.iload_n 2, 1) := by decide +kernel
theorem d_Jl_indexOfChar_5 : decode c_Jl_indexOfChar 5 = .ok (.istore 5, 2) := by decide +kernel
theorem d_Jl_indexOfChar_7 : decode c_Jl_indexOfChar 7 = .ok (.iload 5, 2) := by decide +kernel
theorem d_Jl_indexOfChar_9 : decode c_Jl_indexOfChar 9 = .ok (.iload_n 3, 1) := by decide +kernel
theorem d_Jl_indexOfChar_10 : decode c_Jl_indexOfChar 10 = .ok (.if_icmp .ge 21, 3) := by decide +kernel
theorem d_Jl_indexOfChar_13 : decode c_Jl_indexOfChar 13 = .ok (.aload_n 0, 1) := by decide +kernel
theorem d_Jl_indexOfChar_14 : decode c_Jl_indexOfChar 14 = .ok (.iload 5, 2) := by decide +kernel
theorem d_Jl_indexOfChar_16 : decode c_Jl_indexOfChar 16 = .ok (.baload, 1) := by decide +kernel
theorem d_Jl_indexOfChar_17 : decode c_Jl_indexOfChar 17 = .ok (.iload 4, 2) := by decide +kernel
theorem d_Jl_indexOfChar_19 : decode c_Jl_indexOfChar 19 = .ok (.if_icmp .ne 6, 3) := by decide +kernel
theorem d_Jl_indexOfChar_22 : decode c_Jl_indexOfChar 22 = .ok (.iload 5, 2) := by decide +kernel
theorem d_Jl_indexOfChar_24 : decode c_Jl_indexOfChar 24 = .ok (.ireturn, 1) := by decide +kernel
theorem d_Jl_indexOfChar_25 : decode c_Jl_indexOfChar 25 = .ok (.iinc 5 1, 3) := by decide +kernel
theorem d_Jl_indexOfChar_28 : decode c_Jl_indexOfChar 28 = .ok (.goto (-21), 3) := by decide +kernel
theorem d_Jl_indexOfChar_31 : decode c_Jl_indexOfChar 31 = .ok (.iconst (-1), 1) := by decide +kernel
theorem d_Jl_indexOfChar_32 : decode c_Jl_indexOfChar 32 = .ok (.ireturn, 1) := by decide +kernel
theorem d_Js_checkBoundsBeginEnd_0 : decode c_Js_checkBoundsBeginEnd 0 = .ok (.iload_n 0, 1) := by decide +kernel
theorem d_Js_checkBoundsBeginEnd_1 : decode c_Js_checkBoundsBeginEnd 1 = .ok (.iload_n 1, 1) := by decide +kernel
theorem d_Js_checkBoundsBeginEnd_2 : decode c_Js_checkBoundsBeginEnd 2 = .ok (.iload_n 2, 1) := by decide +kernel
theorem d_Js_checkBoundsBeginEnd_3 : decode c_Js_checkBoundsBeginEnd 3 = .ok (.getstatic 1053, 3) := by decide +kernel
theorem d_Js_checkBoundsBeginEnd_6 : decode c_Js_checkBoundsBeginEnd 6 = .ok (.invokestatic 1062, 3) := by decide +kernel
theorem d_Js_checkBoundsBeginEnd_9 : decode c_Js_checkBoundsBeginEnd 9 = .ok (.pop, 1) := by decide +kernel
theorem d_Js_checkBoundsBeginEnd_10 : decode c_Js_checkBoundsBeginEnd 10 = .ok (.return_, 1) := by decide +kernel
theorem d_Jp_checkFromToIndex_0 : decode c_Jp_checkFromToIndex 0 = .ok (.iload_n 0, 1) := by decide +kernel
theorem d_Jp_checkFromToIndex_1 : decode c_Jp_checkFromToIndex 1 = .ok (.ifCond .lt 13, 3) := by decide +kernel
theorem d_Jp_checkFromToIndex_4 : decode c_Jp_checkFromToIndex 4 = .ok (.iload_n 0, 1) := by decide +kernel
theorem d_Jp_checkFromToIndex_5 : decode c_Jp_checkFromToIndex 5 = .ok (.iload_n 1, 1) := by decide +kernel
theorem d_Jp_checkFromToIndex_6 : decode c_Jp_checkFromToIndex 6 = .ok (.if_icmp .gt 8, 3) := by decide +kernel
theorem d_Jp_checkFromToIndex_9 : decode c_Jp_checkFromToIndex 9 = .ok (.iload_n 1, 1) := by decide +kernel
theorem d_Jp_checkFromToIndex_10 : decode c_Jp_checkFromToIndex 10 = .ok (.iload_n 2, 1) := by decide +kernel
theorem d_Jp_checkFromToIndex_11 : decode c_Jp_checkFromToIndex 11 = .ok (.if_icmp .le 11, 3) := by decide +kernel
theorem d_Jp_checkFromToIndex_14 : decode c_Jp_checkFromToIndex 14 = .ok (.aload_n 3, 1) := by decide +kernel
theorem d_Jp_checkFromToIndex_15 : decode c_Jp_checkFromToIndex 15 = .ok (.iload_n 0, 1) := by decide +kernel
theorem d_Jp_checkFromToIndex_16 : decode c_Jp_checkFromToIndex 16 = .ok (.iload_n 1, 1) := by decide +kernel
theorem d_Jp_checkFromToIndex_17 : decode c_Jp_checkFromToIndex 17 = .ok (.iload_n 2, 1) := by decide +kernel
theorem d_Jp_checkFromToIndex_18 : decode c_Jp_checkFromToIndex 18 = .ok (.invokestatic 99, 3) := by decide +kernel
theorem d_Jp_checkFromToIndex_21 : decode c_Jp_checkFromToIndex 21 = .ok (.athrow, 1) := by decide +kernel
theorem d_Jp_checkFromToIndex_22 : decode c_Jp_checkFromToIndex 22 = .ok (.iload_n 0, 1) := by decide +kernel
theorem d_Jp_checkFromToIndex_23 : decode c_Jp_checkFromToIndex 23 = .ok (.ireturn, 1) := by decide +kernel
theorem d_At_hexValue_0 : decode c_At_hexValue 0 = .ok (.iload_n 0, 1) := by decide +kernel
theorem d_At_hexValue_1 : decode c_At_hexValue 1 = .ok (.invokestatic 264, 3) := by decide +kernel
theorem d_At_hexValue_4 : decode c_At_hexValue 4 = .ok (.ifCond .eq 8, 3) := by decide +kernel
theorem d_At_hexValue_7 : decode c_At_hexValue 7 = .ok (.iload_n 0, 1) := by decide +kernel
theorem d_At_hexValue_8 : decode c_At_hexValue 8 = .ok (.bipush 48, 2) := by decide +kernel
theorem d_At_hexValue_10 : decode c_At_hexValue 10 = .ok (.isub, 1) := by decide +kernel
theorem d_At_hexValue_11 : decode c_At_hexValue 11 = .ok (.ireturn, 1) := by decide +kernel
theorem d_At_hexValue_12 : decode c_At_hexValue 12 = .ok (.iload_n 0, 1) := by decide +kernel
theorem d_At_hexValue_13 : decode c_At_hexValue 13 = .ok (.bipush 97, 2) := by decide +kernel
theorem d_At_hexValue_15 : decode c_At_hexValue 15 = .ok (.if_icmp .lt 17, 3) := by decide +kernel
theorem d_At_hexValue_18 : decode c_At_hexValue 18 = .ok (.iload_n 0, 1) := by decide +kernel
theorem d_At_hexValue_19 : decode c_At_hexValue 19 = .ok (.bipush 102, 2) := by decide +kernel
theorem d_At_hexValue_21 : decode c_At_hexValue 21 = .ok (.if_icmp .gt 11, 3) := by decide +kernel
theorem d_At_hexValue_24 : decode c_At_hexValue 24 = .ok (.iload_n 0, 1) := by decide +kernel
theorem d_At_hexValue_25 : decode c_At_hexValue 25 = .ok (.bipush 97, 2) := by decide +kernel
theorem d_At_hexValue_27 : decode c_At_hexValue 27 = .ok (.isub, 1) := by decide +kernel
theorem d_At_hexValue_28 : decode c_At_hexValue 28 = .ok (.bipush 10, 2) := by decide +kernel
theorem d_At_hexValue_30 : decode c_At_hexValue 30 = .ok (.iadd, 1) := by decide +kernel
theorem d_At_hexValue_31 : decode c_At_hexValue 31 = .ok (.ireturn, 1) := by decide +kernel
theorem d_At_hexValue_32 : decode c_At_hexValue 32 = .ok (.iload_n 0, 1) := by decide +kernel
theorem d_At_hexValue_33 : decode c_At_hexValue 33 = .ok (.bipush 65, 2) := by decide +kernel
theorem d_At_hexValue_35 : decode c_At_hexValue 35 = .ok (.if_icmp .lt 19, 3) := by decide +kernel
theorem d_At_hexValue_38 : decode c_At_hexValue 38 = .ok (.iload_n 0, 1) := by decide +kernel
theorem d_At_hexValue_39 : decode c_At_hexValue 39 = .ok (.bipush 70, 2) := by decide +kernel
theorem d_At_hexValue_41 : decode c_At_hexValue 41 = .ok (.if_icmp .gt 13, 3) := by decide +kernel
theorem d_At_hexValue_44 : decode c_At_hexValue 44 = .ok (.iload_n 0, 1) := by decide +kernel
theorem d_At_hexValue_45 : decode c_At_hexValue 45 = .ok (.bipush 65, 2) := by decide +kernel
theorem d_At_hexValue_47 : decode c_At_hexValue 47 = .ok (.isub, 1) := by decide +kernel
theorem d_At_hexValue_48 : decode c_At_hexValue 48 = .ok (.bipush 10, 2) := by decide +kernel
theorem d_At_hexValue_50 : decode c_At_hexValue 50 = .ok (.iadd, 1) := by decide +kernel
theorem d_At_hexValue_51 : decode c_At_hexValue 51 = .ok (.goto 4, 3) := by decide +kernel
theorem d_At_hexValue_54 : decode c_At_hexValue 54 = .ok (.iconst (-1), 1) := by decide +kernel
theorem d_At_hexValue_55 : decode c_At_hexValue 55 = .ok (.ireturn, 1) := by decide +kernel
theorem d_At_isDigit_0 : decode c_At_isDigit 0 = .ok (.iload_n 0, 1) := by decide +kernel
theorem d_At_isDigit_1 : decode c_At_isDigit 1 = .ok (.bipush 48, 2) := by decide +kernel
theorem d_At_isDigit_3 : decode c_At_isDigit 3 = .ok (.if_icmp .lt 13, 3) := by decide +kernel
theorem d_At_isDigit_6 : decode c_At_isDigit 6 = .ok (.iload_n 0, 1) := by decide +kernel
theorem d_At_isDigit_7 : decode c_At_isDigit 7 = .ok (.bipush 57, 2) := by decide +kernel
theorem d_At_isDigit_9 : decode c_At_isDigit 9 = .ok (.if_icmp .gt 7, 3) := by decide +kernel
theorem d_At_isDigit_12 : decode c_At_isDigit 12 = .ok (.iconst 1, 1) := by decide +kernel
theorem d_At_isDigit_13 : decode c_At_isDigit 13 = .ok (.goto 4, 3) := by decide +kernel
theorem d_At_isDigit_16 : decode c_At_isDigit 16 = .ok (.iconst 0, 1) := by decide +kernel
theorem d_At_isDigit_17 : decode c_At_isDigit 17 = .ok (.ireturn, 1) := by decide +kernel
theorem d_Rf_read_0 : decode c_Rf_read 0 = .ok (.aload_n 0, 1) := by decide +kernel
theorem d_Rf_read_1 : decode c_Rf_read 1 = .ok (.aload_n 1, 1) := by decide +kernel
theorem d_Rf_read_2 : decode c_Rf_read 2 = .ok (.putfield 23, 3) := by decide +kernel
theorem d_Rf_read_5 : decode c_Rf_read 5 = .ok (.iconst 0, 1) := by decide +kernel
theorem d_Rf_read_6 : decode c_Rf_read 6 = .ok (.istore_n 2, 1) := by decide +kernel
theorem d_Rf_read_7 : decode c_Rf_read 7 = .ok (.iload_n 2, 1) := by decide +kernel
theorem d_Rf_read_8 : decode c_Rf_read 8 = .ok (.iconst 5, 1) := by decide +kernel
theorem d_Rf_read_9 : decode c_Rf_read 9 = .ok (.if_icmp .ge 16, 3) := by decide +kernel
theorem d_Rf_read_12 : decode c_Rf_read 12 = .ok (.aload_n 0, 1) := by decide +kernel
theorem d_Rf_read_13 : decode c_Rf_read 13 = .ok (.iload_n 2, 1) := by decide +kernel
theorem d_Rf_read_14 : decode c_Rf_read 14 = .ok (.iconst 0, 1) := by decide +kernel
theorem d_Rf_read_15 : decode c_Rf_read 15 = .ok (.iconst (-1), 1) := by decide +kernel
theorem d_Rf_read_16 : decode c_Rf_read 16 = .ok (.invokevirtual 27, 3) := by decide +kernel
theorem d_Rf_read_19 : decode c_Rf_read 19 = .ok (.iinc 2 1, 3) := by decide +kernel
theorem d_Rf_read_22 : decode c_Rf_read 22 = .ok (.goto (-15), 3) := by decide +kernel
theorem d_Rf_read_25 : decode c_Rf_read 25 = .ok (.aload_n 0, 1) := by decide +kernel
theorem d_Rf_read_26 : decode c_Rf_read 26 = .ok (.invokevirtual 31, 3) := by decide +kernel
theorem d_Rf_read_29 : decode c_Rf_read 29 = .ok (.istore_n 2, 1) := by decide +kernel
theorem d_Rf_read_30 : decode c_Rf_read 30 = .ok (.aload_n 0, 1) := by decide +kernel
theorem d_Rf_read_31 : decode c_Rf_read 31 = .ok (.iconst 0, 1) := by decide +kernel
theorem d_Rf_read_32 : decode c_Rf_read 32 = .ok (.iconst 0, 1) := by decide +kernel
theorem d_Rf_read_33 : decode c_Rf_read 33 = .ok (.iload_n 2, 1) := by decide +kernel
theorem d_Rf_read_34 : decode c_Rf_read 34 = .ok (.invokevirtual 27, 3) := by decide +kernel
theorem d_Rf_read_37 : decode c_Rf_read 37 = .ok (.iload_n 2, 1) := by decide +kernel
theorem d_Rf_read_38 : decode c_Rf_read 38 = .ok (.iconst (-1), 1) := by decide +kernel
theorem d_Rf_read_39 : decode c_Rf_read 39 = .ok (.if_icmp .ne 7, 3) := by decide +kernel
theorem d_Rf_read_42 : decode c_Rf_read 42 = .ok (.iconst 0, 1) := by decide +kernel
theorem d_Rf_read_43 : decode c_Rf_read 43 = .ok (.goto 6, 3) := by decide +kernel
theorem d_Rf_read_46 : decode c_Rf_read 46 = .ok (.iload_n 2, 1) := by decide +kernel
theorem d_Rf_read_47 : decode c_Rf_read 47 = .ok (.iconst 1, 1) := by decide +kernel
theorem d_Rf_read_48 : decode c_Rf_read 48 = .ok (.iadd, 1) := by decide +kernel
theorem d_Rf_read_49 : decode c_Rf_read 49 = .ok (.istore_n 3, 1) := by decide +kernel
theorem d_Rf_read_50 : decode c_Rf_read 50 = .ok (.aload_n 0, 1) := by decide +kernel
theorem d_Rf_read_51 : decode c_Rf_read 51 = .ok (.getfield 23, 3) := by decide +kernel
theorem d_Rf_read_54 : decode c_Rf_read 54 = .ok (.iload_n 3, 1) := by decide +kernel
theorem d_Rf_read_55 : decode c_Rf_read 55 = .ok (.ldc 35, 2) := by decide +kernel
theorem d_Rf_read_57 : decode c_Rf_read 57 = .ok (.invokevirtual 37, 3) := by decide +kernel
theorem d_Rf_read_60 : decode c_Rf_read 60 = .ok (.ifCond .eq 30, 3) := by decide +kernel
theorem d_Rf_read_63 : decode c_Rf_read 63 = .ok (.aload_n 0, 1) := by decide +kernel
theorem d_Rf_read_64 : decode c_Rf_read 64 = .ok (.getfield 23, 3) := by decide +kernel
theorem d_Rf_read_67 : decode c_Rf_read 67 = .ok (.iload_n 3, 1) := by decide +kernel
theorem d_Rf_read_68 : decode c_Rf_read 68 = .ok (.iconst 2, 1) := by decide +kernel
theorem d_Rf_read_69 : decode c_Rf_read 69 = .ok (.iadd, 1) := by decide +kernel
theorem d_Rf_read_70 : decode c_Rf_read 70 = .ok (.ldc 41, 2) := by decide +kernel
theorem d_Rf_read_72 : decode c_Rf_read 72 = .ok (.invokevirtual 43, 3) := by decide +kernel
theorem d_Rf_read_75 : decode c_Rf_read 75 = .ok (.istore 4, 2) := by decide +kernel
theorem d_Rf_read_77 : decode c_Rf_read 77 = .ok (.aload_n 0, 1) := by decide +kernel
theorem d_Rf_read_78 : decode c_Rf_read 78 = .ok (.iconst 1, 1) := by decide +kernel
theorem d_Rf_read_79 : decode c_Rf_read 79 = .ok (.iload_n 3, 1) := by decide +kernel
theorem d_Rf_read_80 : decode c_Rf_read 80 = .ok (.iconst 2, 1) := by decide +kernel
theorem d_Rf_read_81 : decode c_Rf_read 81 = .ok (.iadd, 1) := by decide +kernel
theorem d_Rf_read_82 : decode c_Rf_read 82 = .ok (.iload 4, 2) := by decide +kernel
theorem d_Rf_read_84 : decode c_Rf_read 84 = .ok (.invokevirtual 27, 3) := by decide +kernel
theorem d_Rf_read_87 : decode c_Rf_read 87 = .ok (.iload 4, 2) := by decide +kernel
theorem d_Rf_read_89 : decode c_Rf_read 89 = .ok (.istore_n 3, 1) := by decide +kernel
theorem d_Rf_read_90 : decode c_Rf_read 90 = .ok (.aload_n 0, 1) := by decide +kernel
theorem d_Rf_read_91 : decode c_Rf_read 91 = .ok (.getfield 23, 3) := by decide +kernel
theorem d_Rf_read_94 : decode c_Rf_read 94 = .ok (.iload_n 3, 1) := by decide +kernel
theorem d_Rf_read_95 : decode c_Rf_read 95 = .ok (.ldc 47, 2) := by decide +kernel
theorem d_Rf_read_97 : decode c_Rf_read 97 = .ok (.invokevirtual 43, 3) := by decide +kernel
theorem d_Rf_read_100 : decode c_Rf_read 100 = .ok (.istore 4, 2) := by decide +kernel
theorem d_Rf_read_102 : decode c_Rf_read 102 = .ok (.aload_n 0, 1) := by decide +kernel
theorem d_Rf_read_103 : decode c_Rf_read 103 = .ok (.iconst 2, 1) := by decide +kernel
theorem d_Rf_read_104 : decode c_Rf_read 104 = .ok (.iload_n 3, 1) := by decide +kernel
theorem d_Rf_read_105 : decode c_Rf_read 105 = .ok (.iload 4, 2) := by decide +kernel
theorem d_Rf_read_107 : decode c_Rf_read 107 = .ok (.invokevirtual 27, 3) := by decide +kernel
theorem d_Rf_read_110 : decode c_Rf_read 110 = .ok (.aload_n 0, 1) := by decide +kernel
theorem d_Rf_read_111 : decode c_Rf_read 111 = .ok (.getfield 23, 3) := by decide +kernel
theorem d_Rf_read_114 : decode c_Rf_read 114 = .ok (.iload 4, 2) := by decide +kernel
theorem d_Rf_read_116 : decode c_Rf_read 116 = .ok (.ldc 49, 2) := by decide +kernel
theorem d_Rf_read_118 : decode c_Rf_read 118 = .ok (.invokevirtual 43, 3) := by decide +kernel
theorem d_Rf_read_121 : decode c_Rf_read 121 = .ok (.istore 5, 2) := by decide +kernel
theorem d_Rf_read_123 : decode c_Rf_read 123 = .ok (.aload_n 0, 1) := by decide +kernel
theorem d_Rf_read_124 : decode c_Rf_read 124 = .ok (.getfield 23, 3) := by decide +kernel
theorem d_Rf_read_127 : decode c_Rf_read 127 = .ok (.iload 4, 2) := by decide +kernel
theorem d_Rf_read_129 : decode c_Rf_read 129 = .ok (.invokevirtual 51, 3) := by decide +kernel
theorem d_Rf_read_132 : decode c_Rf_read 132 = .ok (.bipush 63, 2) := by decide +kernel
theorem d_Rf_read_134 : decode c_Rf_read 134 = .ok (.if_icmp .ne 14, 3) := by decide +kernel
theorem d_Rf_read_137 : decode c_Rf_read 137 = .ok (.aload_n 0, 1) := by decide +kernel
theorem d_Rf_read_138 : decode c_Rf_read 138 = .ok (.iconst 3, 1) := by decide +kernel
theorem d_Rf_read_139 : decode c_Rf_read 139 = .ok (.iload 4, 2) := by decide +kernel
theorem d_Rf_read_141 : decode c_Rf_read 141 = .ok (.iconst 1, 1) := by decide +kernel
theorem d_Rf_read_142 : decode c_Rf_read 142 = .ok (.iadd, 1) := by decide +kernel
theorem d_Rf_read_143 : decode c_Rf_read 143 = .ok (.iload 5, 2) := by decide +kernel
theorem d_Rf_read_145 : decode c_Rf_read 145 = .ok (.invokevirtual 27, 3) := by decide +kernel
theorem d_Rf_read_148 : decode c_Rf_read 148 = .ok (.aload_n 0, 1) := by decide +kernel
theorem d_Rf_read_149 : decode c_Rf_read 149 = .ok (.getfield 23, 3) := by decide +kernel
theorem d_Rf_read_152 : decode c_Rf_read 152 = .ok (.iload 5, 2) := by decide +kernel
theorem d_Rf_read_154 : decode c_Rf_read 154 = .ok (.invokevirtual 51, 3) := by decide +kernel
theorem d_Rf_read_157 : decode c_Rf_read 157 = .ok (.bipush 35, 2) := by decide +kernel
theorem d_Rf_read_159 : decode c_Rf_read 159 = .ok (.if_icmp .ne 19, 3) := by decide +kernel
theorem d_Rf_read_162 : decode c_Rf_read 162 = .ok (.aload_n 0, 1) := by decide +kernel
theorem d_Rf_read_163 : decode c_Rf_read 163 = .ok (.iconst 4, 1) := by decide +kernel
theorem d_Rf_read_164 : decode c_Rf_read 164 = .ok (.iload 5, 2) := by decide +kernel
theorem d_Rf_read_166 : decode c_Rf_read 166 = .ok (.iconst 1, 1) := by decide +kernel
theorem d_Rf_read_167 : decode c_Rf_read 167 = .ok (.iadd, 1) := by decide +kernel
theorem d_Rf_read_168 : decode c_Rf_read 168 = .ok (.aload_n 0, 1) := by decide +kernel
theorem d_Rf_read_169 : decode c_Rf_read 169 = .ok (.getfield 23, 3) := by decide +kernel
theorem d_Rf_read_172 : decode c_Rf_read 172 = .ok (.invokevirtual 55, 3) := by decide +kernel
theorem d_Rf_read_175 : decode c_Rf_read 175 = .ok (.invokevirtual 27, 3) := by decide +kernel
theorem d_Rf_read_178 : decode c_Rf_read 178 = .ok (.return_, 1) := by decide +kernel
theorem d_Rf_note_0 : decode c_Rf_note 0 = .ok (.iload_n 1, 1) := by decide +kernel
theorem d_Rf_note_1 : decode c_Rf_note 1 = .ok (.ifCond .lt 35, 3) := by decide +kernel
theorem d_Rf_note_4 : decode c_Rf_note 4 = .ok (.iload_n 1, 1) := by decide +kernel
theorem d_Rf_note_5 : decode c_Rf_note 5 = .ok (.aload_n 0, 1) := by decide +kernel
theorem d_Rf_note_6 : decode c_Rf_note 6 = .ok (.getfield 9, 3) := by decide +kernel
theorem d_Rf_note_9 : decode c_Rf_note 9 = .ok (.arraylength, 1) := by decide +kernel
theorem d_Rf_note_10 : decode c_Rf_note 10 = .ok (.if_icmp .ge 26, 3) := by decide +kernel
theorem d_Rf_note_13 : decode c_Rf_note 13 = .ok (.iload_n 1, 1) := by decide +kernel
theorem d_Rf_note_14 : decode c_Rf_note 14 = .ok (.aload_n 0, 1) := by decide +kernel
theorem d_Rf_note_15 : decode c_Rf_note 15 = .ok (.getfield 15, 3) := by decide +kernel
theorem d_Rf_note_18 : decode c_Rf_note 18 = .ok (.arraylength, 1) := by decide +kernel
theorem d_Rf_note_19 : decode c_Rf_note 19 = .ok (.if_icmp .ge 17, 3) := by decide +kernel
theorem d_Rf_note_22 : decode c_Rf_note 22 = .ok (.aload_n 0, 1) := by decide +kernel
theorem d_Rf_note_23 : decode c_Rf_note 23 = .ok (.getfield 9, 3) := by decide +kernel
theorem d_Rf_note_26 : decode c_Rf_note 26 = .ok (.iload_n 1, 1) := by decide +kernel
theorem d_Rf_note_27 : decode c_Rf_note 27 = .ok (.iload_n 2, 1) := by decide +kernel
theorem d_Rf_note_28 : decode c_Rf_note 28 = .ok (.iastore, 1) := by decide +kernel
theorem d_Rf_note_29 : decode c_Rf_note 29 = .ok (.aload_n 0, 1) := by decide +kernel
theorem d_Rf_note_30 : decode c_Rf_note 30 = .ok (.getfield 15, 3) := by decide +kernel
theorem d_Rf_note_33 : decode c_Rf_note 33 = .ok (.iload_n 1, 1) := by decide +kernel
theorem d_Rf_note_34 : decode c_Rf_note 34 = .ok (.iload_n 3, 1) := by decide +kernel
theorem d_Rf_note_35 : decode c_Rf_note 35 = .ok (.iastore, 1) := by decide +kernel
theorem d_Rf_note_36 : decode c_Rf_note 36 = .ok (.return_, 1) := by decide +kernel
theorem d_Rf_colonOfScheme_0 : decode c_Rf_colonOfScheme 0 = .ok (.aload_n 0, 1) := by decide +kernel
theorem d_Rf_colonOfScheme_1 : decode c_Rf_colonOfScheme 1 = .ok (.getfield 23, 3) := by decide +kernel
theorem d_Rf_colonOfScheme_4 : decode c_Rf_colonOfScheme 4 = .ok (.iconst 0, 1) := by decide +kernel
theorem d_Rf_colonOfScheme_5 : decode c_Rf_colonOfScheme 5 = .ok (.invokevirtual 51, 3) := by decide +kernel
theorem d_Rf_colonOfScheme_8 : decode c_Rf_colonOfScheme 8 = .ok (.invokestatic 58, 3) := by decide +kernel
theorem d_Rf_colonOfScheme_11 : decode c_Rf_colonOfScheme 11 = .ok (.ifCond .ne 5, 3) := by decide +kernel
theorem d_Rf_colonOfScheme_14 : decode c_Rf_colonOfScheme 14 = .ok (.iconst (-1), 1) := by decide +kernel
theorem d_Rf_colonOfScheme_15 : decode c_Rf_colonOfScheme 15 = .ok (.ireturn, 1) := by decide +kernel
theorem d_Rf_colonOfScheme_16 : decode c_Rf_colonOfScheme 16 = .ok (.iconst 1, 1) := by decide +kernel
theorem d_Rf_colonOfScheme_17 : decode c_Rf_colonOfScheme 17 = .ok (.istore_n 1, 1) := by decide +kernel
theorem d_Rf_colonOfScheme_18 : decode c_Rf_colonOfScheme 18 = .ok (.iload_n 1, 1) := by decide +kernel
theorem d_Rf_colonOfScheme_19 : decode c_Rf_colonOfScheme 19 = .ok (.aload_n 0, 1) := by decide +kernel
theorem d_Rf_colonOfScheme_20 : decode c_Rf_colonOfScheme 20 = .ok (.getfield 23, 3) := by decide +kernel
theorem d_Rf_colonOfScheme_23 : decode c_Rf_colonOfScheme 23 = .ok (.invokevirtual 55, 3) := by decide +kernel
theorem d_Rf_colonOfScheme_26 : decode c_Rf_colonOfScheme 26 = .ok (.if_icmp .ge 53, 3) := by decide +kernel
theorem d_Rf_colonOfScheme_29 : decode c_Rf_colonOfScheme 29 = .ok (.aload_n 0, 1) := by decide +kernel
theorem d_Rf_colonOfScheme_30 : decode c_Rf_colonOfScheme 30 = .ok (.getfield 23, 3) := by decide +kernel
theorem d_Rf_colonOfScheme_33 : decode c_Rf_colonOfScheme 33 = .ok (.iload_n 1, 1) := by decide +kernel
theorem d_Rf_colonOfScheme_34 : decode c_Rf_colonOfScheme 34 = .ok (.invokevirtual 51, 3) := by decide +kernel
theorem d_Rf_colonOfScheme_37 : decode c_Rf_colonOfScheme 37 = .ok (.istore_n 2, 1) := by decide +kernel
theorem d_Rf_colonOfScheme_38 : decode c_Rf_colonOfScheme 38 = .ok (.iload_n 2, 1) := by decide +kernel
theorem d_Rf_colonOfScheme_39 : decode c_Rf_colonOfScheme 39 = .ok (.bipush 58, 2) := by decide +kernel
theorem d_Rf_colonOfScheme_41 : decode c_Rf_colonOfScheme 41 = .ok (.if_icmp .ne 5, 3) := by decide +kernel
theorem d_Rf_colonOfScheme_44 : decode c_Rf_colonOfScheme 44 = .ok (.iload_n 1, 1) := by decide +kernel
theorem d_Rf_colonOfScheme_45 : decode c_Rf_colonOfScheme 45 = .ok (.ireturn, 1) := by decide +kernel
theorem d_Rf_colonOfScheme_46 : decode c_Rf_colonOfScheme 46 = .ok (.iload_n 2, 1) := by decide +kernel
theorem d_Rf_colonOfScheme_47 : decode c_Rf_colonOfScheme 47 = .ok (.invokestatic 62, 3) := by decide +kernel
theorem d_Rf_colonOfScheme_50 : decode c_Rf_colonOfScheme 50 = .ok (.ifCond .ne 23, 3) := by decide +kernel
theorem d_Rf_colonOfScheme_53 : decode c_Rf_colonOfScheme 53 = .ok (.iload_n 2, 1) := by decide +kernel
theorem d_Rf_colonOfScheme_54 : decode c_Rf_colonOfScheme 54 = .ok (.bipush 43, 2) := by decide +kernel
theorem d_Rf_colonOfScheme_56 : decode c_Rf_colonOfScheme 56 = .ok (.if_icmp .eq 17, 3) := by decide +kernel
theorem d_Rf_colonOfScheme_59 : decode c_Rf_colonOfScheme 59 = .ok (.iload_n 2, 1) := by decide +kernel
theorem d_Rf_colonOfScheme_60 : decode c_Rf_colonOfScheme 60 = .ok (.bipush 45, 2) := by decide +kernel
theorem d_Rf_colonOfScheme_62 : decode c_Rf_colonOfScheme 62 = .ok (.if_icmp .eq 11, 3) := by decide +kernel
theorem d_Rf_colonOfScheme_65 : decode c_Rf_colonOfScheme 65 = .ok (.iload_n 2, 1) := by decide +kernel
theorem d_Rf_colonOfScheme_66 : decode c_Rf_colonOfScheme 66 = .ok (.bipush 46, 2) := by decide +kernel
theorem d_Rf_colonOfScheme_68 : decode c_Rf_colonOfScheme 68 = .ok (.if_icmp .eq 5, 3) := by decide +kernel
theorem d_Rf_colonOfScheme_71 : decode c_Rf_colonOfScheme 71 = .ok (.iconst (-1), 1) := by decide +kernel
theorem d_Rf_colonOfScheme_72 : decode c_Rf_colonOfScheme 72 = .ok (.ireturn, 1) := by decide +kernel
theorem d_Rf_colonOfScheme_73 : decode c_Rf_colonOfScheme 73 = .ok (.iinc 1 1, 3) := by decide +kernel
theorem d_Rf_colonOfScheme_76 : decode c_Rf_colonOfScheme 76 = .ok (.goto (-58), 3) := by decide +kernel
theorem d_Rf_colonOfScheme_79 : decode c_Rf_colonOfScheme 79 = .ok (.iconst (-1), 1) := by decide +kernel
theorem d_Rf_colonOfScheme_80 : decode c_Rf_colonOfScheme 80 = .ok (.ireturn, 1) := by decide +kernel
