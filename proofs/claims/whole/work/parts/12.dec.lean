theorem d_At_isLetter_0 : decode c_At_isLetter 0 = .ok (.iload_n 0, 1) := by decide +kernel
theorem d_At_isLetter_1 : decode c_At_isLetter 1 = .ok (.invokestatic 255, 3) := by decide +kernel
theorem d_At_isLetter_4 : decode c_At_isLetter 4 = .ok (.ifCond .ne 10, 3) := by decide +kernel
theorem d_At_isLetter_7 : decode c_At_isLetter 7 = .ok (.iload_n 0, 1) := by decide +kernel
theorem d_At_isLetter_8 : decode c_At_isLetter 8 = .ok (.invokestatic 258, 3) := by decide +kernel
theorem d_At_isLetter_11 : decode c_At_isLetter 11 = .ok (.ifCond .eq 7, 3) := by decide +kernel
theorem d_At_isLetter_14 : decode c_At_isLetter 14 = .ok (.iconst 1, 1) := by decide +kernel
theorem d_At_isLetter_15 : decode c_At_isLetter 15 = .ok (.goto 4, 3) := by decide +kernel
theorem d_At_isLetter_18 : decode c_At_isLetter 18 = .ok (.iconst 0, 1) := by decide +kernel
theorem d_At_isLetter_19 : decode c_At_isLetter 19 = .ok (.ireturn, 1) := by decide +kernel
theorem d_At_isSmallLetter_0 : decode c_At_isSmallLetter 0 = .ok (.iload_n 0, 1) := by decide +kernel
theorem d_At_isSmallLetter_1 : decode c_At_isSmallLetter 1 = .ok (.bipush 97, 2) := by decide +kernel
theorem d_At_isSmallLetter_3 : decode c_At_isSmallLetter 3 = .ok (.if_icmp .lt 13, 3) := by decide +kernel
theorem d_At_isSmallLetter_6 : decode c_At_isSmallLetter 6 = .ok (.iload_n 0, 1) := by decide +kernel
theorem d_At_isSmallLetter_7 : decode c_At_isSmallLetter 7 = .ok (.bipush 122, 2) := by decide +kernel
theorem d_At_isSmallLetter_9 : decode c_At_isSmallLetter 9 = .ok (.if_icmp .gt 7, 3) := by decide +kernel
theorem d_At_isSmallLetter_12 : decode c_At_isSmallLetter 12 = .ok (.iconst 1, 1) := by decide +kernel
theorem d_At_isSmallLetter_13 : decode c_At_isSmallLetter 13 = .ok (.goto 4, 3) := by decide +kernel
theorem d_At_isSmallLetter_16 : decode c_At_isSmallLetter 16 = .ok (.iconst 0, 1) := by decide +kernel
theorem d_At_isSmallLetter_17 : decode c_At_isSmallLetter 17 = .ok (.ireturn, 1) := by decide +kernel
theorem d_At_isGreatLetter_0 : decode c_At_isGreatLetter 0 = .ok (.iload_n 0, 1) := by decide +kernel
theorem d_At_isGreatLetter_1 : decode c_At_isGreatLetter 1 = .ok (.bipush 65, 2) := by decide +kernel
theorem d_At_isGreatLetter_3 : decode c_At_isGreatLetter 3 = .ok (.if_icmp .lt 13, 3) := by decide +kernel
theorem d_At_isGreatLetter_6 : decode c_At_isGreatLetter 6 = .ok (.iload_n 0, 1) := by decide +kernel
theorem d_At_isGreatLetter_7 : decode c_At_isGreatLetter 7 = .ok (.bipush 90, 2) := by decide +kernel
theorem d_At_isGreatLetter_9 : decode c_At_isGreatLetter 9 = .ok (.if_icmp .gt 7, 3) := by decide +kernel
theorem d_At_isGreatLetter_12 : decode c_At_isGreatLetter 12 = .ok (.iconst 1, 1) := by decide +kernel
theorem d_At_isGreatLetter_13 : decode c_At_isGreatLetter 13 = .ok (.goto 4, 3) := by decide +kernel
theorem d_At_isGreatLetter_16 : decode c_At_isGreatLetter 16 = .ok (.iconst 0, 1) := by decide +kernel
theorem d_At_isGreatLetter_17 : decode c_At_isGreatLetter 17 = .ok (.ireturn, 1) := by decide +kernel
theorem d_At_isLetterOrDigit_0 : decode c_At_isLetterOrDigit 0 = .ok (.iload_n 0, 1) := by decide +kernel
theorem d_At_isLetterOrDigit_1 : decode c_At_isLetterOrDigit 1 = .ok (.invokestatic 261, 3) := by decide +kernel
theorem d_At_isLetterOrDigit_4 : decode c_At_isLetterOrDigit 4 = .ok (.ifCond .ne 10, 3) := by decide +kernel
theorem d_At_isLetterOrDigit_7 : decode c_At_isLetterOrDigit 7 = .ok (.iload_n 0, 1) := by decide +kernel
theorem d_At_isLetterOrDigit_8 : decode c_At_isLetterOrDigit 8 = .ok (.invokestatic 264, 3) := by decide +kernel
theorem d_At_isLetterOrDigit_11 : decode c_At_isLetterOrDigit 11 = .ok (.ifCond .eq 7, 3) := by decide +kernel
theorem d_At_isLetterOrDigit_14 : decode c_At_isLetterOrDigit 14 = .ok (.iconst 1, 1) := by decide +kernel
theorem d_At_isLetterOrDigit_15 : decode c_At_isLetterOrDigit 15 = .ok (.goto 4, 3) := by decide +kernel
theorem d_At_isLetterOrDigit_18 : decode c_At_isLetterOrDigit 18 = .ok (.iconst 0, 1) := by decide +kernel
theorem d_At_isLetterOrDigit_19 : decode c_At_isLetterOrDigit 19 = .ok (.ireturn, 1) := by decide +kernel
theorem d_Rw_hasThere_0 : decode c_Rw_hasThere 0 = .ok (.iconst 0, 1) := by decide +kernel
theorem d_Rw_hasThere_1 : decode c_Rw_hasThere 1 = .ok (.istore_n 3, 1) := by decide +kernel
theorem d_Rw_hasThere_2 : decode c_Rw_hasThere 2 = .ok (.iload_n 3, 1) := by decide +kernel
theorem d_Rw_hasThere_3 : decode c_Rw_hasThere 3 = .ok (.aload_n 2, 1) := by decide +kernel
theorem d_Rw_hasThere_4 : decode c_Rw_hasThere 4 = .ok (.invokevirtual 36, 3) := by decide +kernel
theorem d_Rw_hasThere_7 : decode c_Rw_hasThere 7 = .ok (.if_icmp .ge 26, 3) := by decide +kernel
theorem d_Rw_hasThere_10 : decode c_Rw_hasThere 10 = .ok (.aload_n 0, 1) := by decide +kernel
theorem d_Rw_hasThere_11 : decode c_Rw_hasThere 11 = .ok (.iload_n 1, 1) := by decide +kernel
theorem d_Rw_hasThere_12 : decode c_Rw_hasThere 12 = .ok (.iload_n 3, 1) := by decide +kernel
theorem d_Rw_hasThere_13 : decode c_Rw_hasThere 13 = .ok (.iadd, 1) := by decide +kernel
theorem d_Rw_hasThere_14 : decode c_Rw_hasThere 14 = .ok (.invokevirtual 28, 3) := by decide +kernel
theorem d_Rw_hasThere_17 : decode c_Rw_hasThere 17 = .ok (.aload_n 2, 1) := by decide +kernel
theorem d_Rw_hasThere_18 : decode c_Rw_hasThere 18 = .ok (.iload_n 3, 1) := by decide +kernel
theorem d_Rw_hasThere_19 : decode c_Rw_hasThere 19 = .ok (.invokevirtual 41, 3) := by decide +kernel
theorem d_Rw_hasThere_22 : decode c_Rw_hasThere 22 = .ok (.if_icmp .eq 5, 3) := by decide +kernel
theorem d_Rw_hasThere_25 : decode c_Rw_hasThere 25 = .ok (.iconst 0, 1) := by decide +kernel
theorem d_Rw_hasThere_26 : decode c_Rw_hasThere 26 = .ok (.ireturn, 1) := by decide +kernel
theorem d_Rw_hasThere_27 : decode c_Rw_hasThere 27 = .ok (.iinc 3 1, 3) := by decide +kernel
theorem d_Rw_hasThere_30 : decode c_Rw_hasThere 30 = .ok (.goto (-28), 3) := by decide +kernel
theorem d_Rw_hasThere_33 : decode c_Rw_hasThere 33 = .ok (.iconst 1, 1) := by decide +kernel
theorem d_Rw_hasThere_34 : decode c_Rw_hasThere 34 = .ok (.ireturn, 1) := by decide +kernel
theorem d_Js_charAt_0 : decode c_Js_charAt 0 = .ok (.aload_n 0, 1) := by decide +kernel
theorem d_Js_charAt_1 : decode c_Js_charAt 1 = .ok (.invokevirtual 492, 3) := by decide +kernel
theorem d_Js_charAt_4 : decode c_Js_charAt 4 = .ok (.ifCond .eq 12, 3) := by decide +kernel
theorem d_Js_charAt_7 : decode c_Js_charAt 7 = .ok (.aload_n 0, 1) := by decide +kernel
theorem d_Js_charAt_8 : decode c_Js_charAt 8 = .ok (.getfield 9, 3) := by decide +kernel
theorem d_Js_charAt_11 : decode c_Js_charAt 11 = .ok (.iload_n 1, 1) := by decide +kernel
theorem d_Js_charAt_12 : decode c_Js_charAt 12 = .ok (.invokestatic 495, 3) := by decide +kernel
theorem d_Js_charAt_15 : decode c_Js_charAt 15 = .ok (.ireturn, 1) := by decide +kernel
theorem d_Js_charAt_16 : decode c_Js_charAt 16 = .ok (.aload_n 0, 1) := by decide +kernel
theorem d_Js_charAt_17 : decode c_Js_charAt 17 = .ok (.getfield 9, 3) := by decide +kernel
theorem d_Js_charAt_20 : decode c_Js_charAt 20 = .ok (.iload_n 1, 1) := by decide +kernel
theorem d_Js_charAt_21 : decode c_Js_charAt 21 = .ok (.invokestatic 498, 3) := by decide +kernel
theorem d_Js_charAt_24 : decode c_Js_charAt 24 = .ok (.ireturn, 1) := by decide +kernel
theorem d_Jl_charAt_0 : decode c_Jl_charAt 0 = .ok (.iload_n 1, 1) := by decide +kernel
theorem d_Jl_charAt_1 : decode c_Jl_charAt 1 = .ok (.aload_n 0, 1) := by decide +kernel
theorem d_Jl_charAt_2 : decode c_Jl_charAt 2 = .ok (.arraylength, 1) := by decide +kernel
theorem d_Jl_charAt_3 : decode c_Jl_charAt 3 = .ok (.invokestatic 9, 3) := by decide +kernel
theorem d_Jl_charAt_6 : decode c_Jl_charAt 6 = .ok (.aload_n 0, 1) := by decide +kernel
theorem d_Jl_charAt_7 : decode c_Jl_charAt 7 = .ok (.iload_n 1, 1) := by decide +kernel
theorem d_Jl_charAt_8 : decode c_Jl_charAt 8 = .ok (.baload, 1) := by decide +kernel
theorem d_Jl_charAt_9 : decode c_Jl_charAt 9 = .ok (.sipush 255, 3) := by decide +kernel
theorem d_Jl_charAt_12 : decode c_Jl_charAt 12 = .ok (.iand, 1) := by decide +kernel
theorem d_Jl_charAt_13 : decode c_Jl_charAt 13 = .ok (.i2c, 1) := by decide +kernel
theorem d_Jl_charAt_14 : decode c_Jl_charAt 14 = .ok (.ireturn, 1) := by decide +kernel
theorem d_Js_checkIndex_0 : decode c_Js_checkIndex 0 = .ok (.iload_n 0, 1) := by decide +kernel
theorem d_Js_checkIndex_1 : decode c_Js_checkIndex 1 = .ok (.iload_n 1, 1) := by decide +kernel
theorem d_Js_checkIndex_2 : decode c_Js_checkIndex 2 = .ok (.getstatic 1053, 3) := by decide +kernel
theorem d_Js_checkIndex_5 : decode c_Js_checkIndex 5 = .ok (.invokestatic 1059, 3) := by decide +kernel
theorem d_Js_checkIndex_8 : decode c_Js_checkIndex 8 = .ok (.pop, 1) := by decide +kernel
theorem d_Js_checkIndex_9 : decode c_Js_checkIndex 9 = .ok (.return_, 1) := by decide +kernel
theorem d_Jp_checkIndex_0 : decode c_Jp_checkIndex 0 = .ok (.iload_n 0, 1) := by decide +kernel
theorem d_Jp_checkIndex_1 : decode c_Jp_checkIndex 1 = .ok (.ifCond .lt 8, 3) := by decide +kernel
theorem d_Jp_checkIndex_4 : decode c_Jp_checkIndex 4 = .ok (.iload_n 0, 1) := by decide +kernel
theorem d_Jp_checkIndex_5 : decode c_Jp_checkIndex 5 = .ok (.iload_n 1, 1) := by decide +kernel
theorem d_Jp_checkIndex_6 : decode c_Jp_checkIndex 6 = .ok (.if_icmp .lt 10, 3) := by decide +kernel
theorem d_Jp_checkIndex_9 : decode c_Jp_checkIndex 9 = .ok (.aload_n 2, 1) := by decide +kernel
theorem d_Jp_checkIndex_10 : decode c_Jp_checkIndex 10 = .ok (.iload_n 0, 1) := by decide +kernel
theorem d_Jp_checkIndex_11 : decode c_Jp_checkIndex 11 = .ok (.iload_n 1, 1) := by decide +kernel
theorem d_Jp_checkIndex_12 : decode c_Jp_checkIndex 12 = .ok (.invokestatic 95, 3) := by decide +kernel
theorem d_Jp_checkIndex_15 : decode c_Jp_checkIndex 15 = .ok (.athrow, 1) := by decide +kernel
theorem d_Jp_checkIndex_16 : decode c_Jp_checkIndex 16 = .ok (.iload_n 0, 1) := by decide +kernel
theorem d_Jp_checkIndex_17 : decode c_Jp_checkIndex 17 = .ok (.ireturn, 1) := by decide +kernel
theorem d_Rw_nextOf_0 : decode c_Rw_nextOf 0 = .ok (.iload_n 1, 1) := by decide +kernel
theorem d_Rw_nextOf_1 : decode c_Rw_nextOf 1 = .ok (.iconst 0, 1) := by decide +kernel
theorem d_Rw_nextOf_2 : decode c_Rw_nextOf 2 = .ok (.invokestatic 15, 3) := by decide +kernel
theorem d_Rw_nextOf_5 : decode c_Rw_nextOf 5 = .ok (.istore_n 3, 1) := by decide +kernel
theorem d_Rw_nextOf_6 : decode c_Rw_nextOf 6 = .ok (.iload_n 3, 1) := by decide +kernel
theorem d_Rw_nextOf_7 : decode c_Rw_nextOf 7 = .ok (.aload_n 0, 1) := by decide +kernel
theorem d_Rw_nextOf_8 : decode c_Rw_nextOf 8 = .ok (.getfield 9, 3) := by decide +kernel
theorem d_Rw_nextOf_11 : decode c_Rw_nextOf 11 = .ok (.if_icmp .ge 24, 3) := by decide +kernel
theorem d_Rw_nextOf_14 : decode c_Rw_nextOf 14 = .ok (.aload_n 2, 1) := by decide +kernel
theorem d_Rw_nextOf_15 : decode c_Rw_nextOf 15 = .ok (.aload_n 0, 1) := by decide +kernel
theorem d_Rw_nextOf_16 : decode c_Rw_nextOf 16 = .ok (.iload_n 3, 1) := by decide +kernel
theorem d_Rw_nextOf_17 : decode c_Rw_nextOf 17 = .ok (.invokevirtual 28, 3) := by decide +kernel
theorem d_Rw_nextOf_20 : decode c_Rw_nextOf 20 = .ok (.i2c, 1) := by decide +kernel
theorem d_Rw_nextOf_21 : decode c_Rw_nextOf 21 = .ok (.invokevirtual 58, 3) := by decide +kernel
theorem d_Rw_nextOf_24 : decode c_Rw_nextOf 24 = .ok (.ifCond .lt 5, 3) := by decide +kernel
theorem d_Rw_nextOf_27 : decode c_Rw_nextOf 27 = .ok (.iload_n 3, 1) := by decide +kernel
theorem d_Rw_nextOf_28 : decode c_Rw_nextOf 28 = .ok (.ireturn, 1) := by decide +kernel
theorem d_Rw_nextOf_29 : decode c_Rw_nextOf 29 = .ok (.iinc 3 1, 3) := by decide +kernel
theorem d_Rw_nextOf_32 : decode c_Rw_nextOf 32 = .ok (.goto (-26), 3) := by decide +kernel
theorem d_Rw_nextOf_35 : decode c_Rw_nextOf 35 = .ok (.aload_n 0, 1) := by decide +kernel
theorem d_Rw_nextOf_36 : decode c_Rw_nextOf 36 = .ok (.getfield 9, 3) := by decide +kernel
theorem d_Rw_nextOf_39 : decode c_Rw_nextOf 39 = .ok (.ireturn, 1) := by decide +kernel
theorem d_At_addressAt_0 : decode c_At_addressAt 0 = .ok (.aload_n 0, 1) := by decide +kernel
theorem d_At_addressAt_1 : decode c_At_addressAt 1 = .ok (.iload_n 1, 1) := by decide +kernel
theorem d_At_addressAt_2 : decode c_At_addressAt 2 = .ok (.invokevirtual 122, 3) := by decide +kernel
theorem d_At_addressAt_5 : decode c_At_addressAt 5 = .ok (.astore_n 2, 1) := by decide +kernel
theorem d_At_addressAt_6 : decode c_At_addressAt 6 = .ok (.aload_n 2, 1) := by decide +kernel
theorem d_At_addressAt_7 : decode c_At_addressAt 7 = .ok (.ifnull 14, 3) := by decide +kernel
theorem d_At_addressAt_10 : decode c_At_addressAt 10 = .ok (.aload_n 2, 1) := by decide +kernel
theorem d_At_addressAt_11 : decode c_At_addressAt 11 = .ok (.getfield 125, 3) := by decide +kernel
theorem d_At_addressAt_14 : decode c_At_addressAt 14 = .ok (.ifCond .ne 7, 3) := by decide +kernel
theorem d_At_addressAt_17 : decode c_At_addressAt 17 = .ok (.aload_n 2, 1) := by decide +kernel
theorem d_At_addressAt_18 : decode c_At_addressAt 18 = .ok (.goto 4, 3) := by decide +kernel
theorem d_At_addressAt_21 : decode c_At_addressAt 21 = .ok (.aconst_null, 1) := by decide +kernel
theorem d_At_addressAt_22 : decode c_At_addressAt 22 = .ok (.areturn, 1) := by decide +kernel
theorem d_At_termAt_0 : decode c_At_termAt 0 = .ok (.iload_n 1, 1) := by decide +kernel
theorem d_At_termAt_1 : decode c_At_termAt 1 = .ok (.ifCond .lt 29, 3) := by decide +kernel
theorem d_At_termAt_4 : decode c_At_termAt 4 = .ok (.iload_n 1, 1) := by decide +kernel
theorem d_At_termAt_5 : decode c_At_termAt 5 = .ok (.aload_n 0, 1) := by decide +kernel
theorem d_At_termAt_6 : decode c_At_termAt 6 = .ok (.getfield 57, 3) := by decide +kernel
theorem d_At_termAt_9 : decode c_At_termAt 9 = .ok (.if_icmp .ge 21, 3) := by decide +kernel
theorem d_At_termAt_12 : decode c_At_termAt 12 = .ok (.iload_n 1, 1) := by decide +kernel
theorem d_At_termAt_13 : decode c_At_termAt 13 = .ok (.aload_n 0, 1) := by decide +kernel
theorem d_At_termAt_14 : decode c_At_termAt 14 = .ok (.getfield 23, 3) := by decide +kernel
theorem d_At_termAt_17 : decode c_At_termAt 17 = .ok (.arraylength, 1) := by decide +kernel
theorem d_At_termAt_18 : decode c_At_termAt 18 = .ok (.if_icmp .ge 12, 3) := by decide +kernel
theorem d_At_termAt_21 : decode c_At_termAt 21 = .ok (.aload_n 0, 1) := by decide +kernel
theorem d_At_termAt_22 : decode c_At_termAt 22 = .ok (.getfield 23, 3) := by decide +kernel
theorem d_At_termAt_25 : decode c_At_termAt 25 = .ok (.iload_n 1, 1) := by decide +kernel
theorem d_At_termAt_26 : decode c_At_termAt 26 = .ok (.aaload, 1) := by decide +kernel
theorem d_At_termAt_27 : decode c_At_termAt 27 = .ok (.goto 4, 3) := by decide +kernel
theorem d_At_termAt_30 : decode c_At_termAt 30 = .ok (.aconst_null, 1) := by decide +kernel
theorem d_At_termAt_31 : decode c_At_termAt 31 = .ok (.areturn, 1) := by decide +kernel
theorem d_Rf_has_0 : decode c_Rf_has 0 = .ok (.aload_n 0, 1) := by decide +kernel
theorem d_Rf_has_1 : decode c_Rf_has 1 = .ok (.iload_n 1, 1) := by decide +kernel
theorem d_Rf_has_2 : decode c_Rf_has 2 = .ok (.invokevirtual 65, 3) := by decide +kernel
theorem d_Rf_has_5 : decode c_Rf_has 5 = .ok (.iconst (-1), 1) := by decide +kernel
theorem d_Rf_has_6 : decode c_Rf_has 6 = .ok (.if_icmp .eq 7, 3) := by decide +kernel
theorem d_Rf_has_9 : decode c_Rf_has 9 = .ok (.iconst 1, 1) := by decide +kernel
theorem d_Rf_has_10 : decode c_Rf_has 10 = .ok (.goto 4, 3) := by decide +kernel
theorem d_Rf_has_13 : decode c_Rf_has 13 = .ok (.iconst 0, 1) := by decide +kernel
theorem d_Rf_has_14 : decode c_Rf_has 14 = .ok (.ireturn, 1) := by decide +kernel
theorem d_Rf_endOf_0 : decode c_Rf_endOf 0 = .ok (.iload_n 1, 1) := by decide +kernel
theorem d_Rf_endOf_1 : decode c_Rf_endOf 1 = .ok (.ifCond .lt 21, 3) := by decide +kernel
theorem d_Rf_endOf_4 : decode c_Rf_endOf 4 = .ok (.iload_n 1, 1) := by decide +kernel
theorem d_Rf_endOf_5 : decode c_Rf_endOf 5 = .ok (.aload_n 0, 1) := by decide +kernel
theorem d_Rf_endOf_6 : decode c_Rf_endOf 6 = .ok (.getfield 15, 3) := by decide +kernel
theorem d_Rf_endOf_9 : decode c_Rf_endOf 9 = .ok (.arraylength, 1) := by decide +kernel
theorem d_Rf_endOf_10 : decode c_Rf_endOf 10 = .ok (.if_icmp .ge 12, 3) := by decide +kernel
theorem d_Rf_endOf_13 : decode c_Rf_endOf 13 = .ok (.aload_n 0, 1) := by decide +kernel
theorem d_Rf_endOf_14 : decode c_Rf_endOf 14 = .ok (.getfield 15, 3) := by decide +kernel
theorem d_Rf_endOf_17 : decode c_Rf_endOf 17 = .ok (.iload_n 1, 1) := by decide +kernel
theorem d_Rf_endOf_18 : decode c_Rf_endOf 18 = .ok (.iaload, 1) := by decide +kernel
theorem d_Rf_endOf_19 : decode c_Rf_endOf 19 = .ok (.goto 4, 3) := by decide +kernel
theorem d_Rf_endOf_22 : decode c_Rf_endOf 22 = .ok (.iconst (-1), 1) := by decide +kernel
theorem d_Rf_endOf_23 : decode c_Rf_endOf 23 = .ok (.ireturn, 1) := by decide +kernel
theorem d_Tm_begin_0 : decode c_Tm_begin 0 = .ok (.aload_n 0, 1) := by decide +kernel
theorem d_Tm_begin_1 : decode c_Tm_begin 1 = .ok (.iload_n 1, 1) := by decide +kernel
theorem d_Tm_begin_2 : decode c_Tm_begin 2 = .ok (.putfield 9, 3) := by decide +kernel
theorem d_Tm_begin_5 : decode c_Tm_begin 5 = .ok (.aload_n 0, 1) := by decide +kernel
theorem d_Tm_begin_6 : decode c_Tm_begin 6 = .ok (.iload_n 2, 1) := by decide +kernel
theorem d_Tm_begin_7 : decode c_Tm_begin 7 = .ok (.putfield 15, 3) := by decide +kernel
theorem d_Tm_begin_10 : decode c_Tm_begin 10 = .ok (.aload_n 0, 1) := by decide +kernel
theorem d_Tm_begin_11 : decode c_Tm_begin 11 = .ok (.iload_n 3, 1) := by decide +kernel
theorem d_Tm_begin_12 : decode c_Tm_begin 12 = .ok (.putfield 18, 3) := by decide +kernel
theorem d_Tm_begin_15 : decode c_Tm_begin 15 = .ok (.aload_n 0, 1) := by decide +kernel
theorem d_Tm_begin_16 : decode c_Tm_begin 16 = .ok (.getfield 26, 3) := by decide +kernel
theorem d_Tm_begin_19 : decode c_Tm_begin 19 = .ok (.iconst 0, 1) := by decide +kernel
theorem d_Tm_begin_20 : decode c_Tm_begin 20 = .ok (.invokevirtual 33, 3) := by decide +kernel
theorem d_Tm_begin_23 : decode c_Tm_begin 23 = .ok (.aload_n 0, 1) := by decide +kernel
theorem d_Tm_begin_24 : decode c_Tm_begin 24 = .ok (.getfield 30, 3) := by decide +kernel
theorem d_Tm_begin_27 : decode c_Tm_begin 27 = .ok (.iconst 0, 1) := by decide +kernel
theorem d_Tm_begin_28 : decode c_Tm_begin 28 = .ok (.invokevirtual 33, 3) := by decide +kernel
theorem d_Tm_begin_31 : decode c_Tm_begin 31 = .ok (.return_, 1) := by decide +kernel
theorem d_Rw_cutTo_0 : decode c_Rw_cutTo 0 = .ok (.iload_n 1, 1) := by decide +kernel
theorem d_Rw_cutTo_1 : decode c_Rw_cutTo 1 = .ok (.ifCond .lt 16, 3) := by decide +kernel
theorem d_Rw_cutTo_4 : decode c_Rw_cutTo 4 = .ok (.iload_n 1, 1) := by decide +kernel
theorem d_Rw_cutTo_5 : decode c_Rw_cutTo 5 = .ok (.aload_n 0, 1) := by decide +kernel
theorem d_Rw_cutTo_6 : decode c_Rw_cutTo 6 = .ok (.getfield 9, 3) := by decide +kernel
theorem d_Rw_cutTo_9 : decode c_Rw_cutTo 9 = .ok (.if_icmp .ge 8, 3) := by decide +kernel
theorem d_Rw_cutTo_12 : decode c_Rw_cutTo 12 = .ok (.aload_n 0, 1) := by decide +kernel
theorem d_Rw_cutTo_13 : decode c_Rw_cutTo 13 = .ok (.iload_n 1, 1) := by decide +kernel
theorem d_Rw_cutTo_14 : decode c_Rw_cutTo 14 = .ok (.putfield 9, 3) := by decide +kernel
theorem d_Rw_cutTo_17 : decode c_Rw_cutTo 17 = .ok (.return_, 1) := by decide +kernel
theorem d_Rw_addRange_0 : decode c_Rw_addRange 0 = .ok (.iload_n 3, 1) := by decide +kernel
theorem d_Rw_addRange_1 : decode c_Rw_addRange 1 = .ok (.aload_n 1, 1) := by decide +kernel
theorem d_Rw_addRange_2 : decode c_Rw_addRange 2 = .ok (.getfield 9, 3) := by decide +kernel
theorem d_Rw_addRange_5 : decode c_Rw_addRange 5 = .ok (.invokestatic 25, 3) := by decide +kernel
theorem d_Rw_addRange_8 : decode c_Rw_addRange 8 = .ok (.istore 4, 2) := by decide +kernel
theorem d_Rw_addRange_10 : decode c_Rw_addRange 10 = .ok (.iload_n 2, 1) := by decide +kernel
theorem d_Rw_addRange_11 : decode c_Rw_addRange 11 = .ok (.iconst 0, 1) := by decide +kernel
theorem d_Rw_addRange_12 : decode c_Rw_addRange 12 = .ok (.invokestatic 15, 3) := by decide +kernel
theorem d_Rw_addRange_15 : decode c_Rw_addRange 15 = .ok (.istore 5, 2) := by decide +kernel
theorem d_Rw_addRange_17 : decode c_Rw_addRange 17 = .ok (.iload 5, 2) := by decide +kernel
theorem d_Rw_addRange_19 : decode c_Rw_addRange 19 = .ok (.iload 4, 2) := by decide +kernel
theorem d_Rw_addRange_21 : decode c_Rw_addRange 21 = .ok (.if_icmp .ge 19, 3) := by decide +kernel
theorem d_Rw_addRange_24 : decode c_Rw_addRange 24 = .ok (.aload_n 0, 1) := by decide +kernel
theorem d_Rw_addRange_25 : decode c_Rw_addRange 25 = .ok (.aload_n 1, 1) := by decide +kernel
theorem d_Rw_addRange_26 : decode c_Rw_addRange 26 = .ok (.iload 5, 2) := by decide +kernel
theorem d_Rw_addRange_28 : decode c_Rw_addRange 28 = .ok (.invokevirtual 28, 3) := by decide +kernel
theorem d_Rw_addRange_31 : decode c_Rw_addRange 31 = .ok (.invokevirtual 32, 3) := by decide +kernel
theorem d_Rw_addRange_34 : decode c_Rw_addRange 34 = .ok (.iinc 5 1, 3) := by decide +kernel
theorem d_Rw_addRange_37 : decode c_Rw_addRange 37 = .ok (.goto (-20), 3) := by decide +kernel
theorem d_Rw_addRange_40 : decode c_Rw_addRange 40 = .ok (.return_, 1) := by decide +kernel
theorem d_Rs_resolveTo_0 : decode c_Rs_resolveTo 0 = .ok (.aload_n 2, 1) := by decide +kernel
theorem d_Rs_resolveTo_1 : decode c_Rs_resolveTo 1 = .ok (.iconst 0, 1) := by decide +kernel
theorem d_Rs_resolveTo_2 : decode c_Rs_resolveTo 2 = .ok (.invokevirtual 20, 3) := by decide +kernel
theorem d_Rs_resolveTo_5 : decode c_Rs_resolveTo 5 = .ok (.istore 4, 2) := by decide +kernel
theorem d_Rs_resolveTo_7 : decode c_Rs_resolveTo 7 = .ok (.iload 4, 2) := by decide +kernel
theorem d_Rs_resolveTo_9 : decode c_Rs_resolveTo 9 = .ok (.ifCond .ne 11, 3) := by decide +kernel
theorem d_Rs_resolveTo_12 : decode c_Rs_resolveTo 12 = .ok (.aload_n 2, 1) := by decide +kernel
theorem d_Rs_resolveTo_13 : decode c_Rs_resolveTo 13 = .ok (.iconst 1, 1) := by decide +kernel
theorem d_Rs_resolveTo_14 : decode c_Rs_resolveTo 14 = .ok (.invokevirtual 20, 3) := by decide +kernel
theorem d_Rs_resolveTo_17 : decode c_Rs_resolveTo 17 = .ok (.ifCond .eq 7, 3) := by decide +kernel
theorem d_Rs_resolveTo_20 : decode c_Rs_resolveTo 20 = .ok (.iconst 1, 1) := by decide +kernel
theorem d_Rs_resolveTo_21 : decode c_Rs_resolveTo 21 = .ok (.goto 4, 3) := by decide +kernel
theorem d_Rs_resolveTo_24 : decode c_Rs_resolveTo 24 = .ok (.iconst 0, 1) := by decide +kernel
theorem d_Rs_resolveTo_25 : decode c_Rs_resolveTo 25 = .ok (.istore 5, 2) := by decide +kernel
theorem d_Rs_resolveTo_27 : decode c_Rs_resolveTo 27 = .ok (.iload 5, 2) := by decide +kernel
theorem d_Rs_resolveTo_29 : decode c_Rs_resolveTo 29 = .ok (.ifCond .ne 11, 3) := by decide +kernel
theorem d_Rs_resolveTo_32 : decode c_Rs_resolveTo 32 = .ok (.aload_n 2, 1) := by decide +kernel
theorem d_Rs_resolveTo_33 : decode c_Rs_resolveTo 33 = .ok (.iconst 2, 1) := by decide +kernel
theorem d_Rs_resolveTo_34 : decode c_Rs_resolveTo 34 = .ok (.invokevirtual 26, 3) := by decide +kernel
theorem d_Rs_resolveTo_37 : decode c_Rs_resolveTo 37 = .ok (.ifCond .le 7, 3) := by decide +kernel
theorem d_Rs_resolveTo_40 : decode c_Rs_resolveTo 40 = .ok (.iconst 1, 1) := by decide +kernel
theorem d_Rs_resolveTo_41 : decode c_Rs_resolveTo 41 = .ok (.goto 4, 3) := by decide +kernel
theorem d_Rs_resolveTo_44 : decode c_Rs_resolveTo 44 = .ok (.iconst 0, 1) := by decide +kernel
theorem d_Rs_resolveTo_45 : decode c_Rs_resolveTo 45 = .ok (.istore 6, 2) := by decide +kernel
theorem d_Rs_resolveTo_47 : decode c_Rs_resolveTo 47 = .ok (.iload 6, 2) := by decide +kernel
theorem d_Rs_resolveTo_49 : decode c_Rs_resolveTo 49 = .ok (.ifCond .ne 11, 3) := by decide +kernel
theorem d_Rs_resolveTo_52 : decode c_Rs_resolveTo 52 = .ok (.aload_n 2, 1) := by decide +kernel
theorem d_Rs_resolveTo_53 : decode c_Rs_resolveTo 53 = .ok (.iconst 3, 1) := by decide +kernel
theorem d_Rs_resolveTo_54 : decode c_Rs_resolveTo 54 = .ok (.invokevirtual 20, 3) := by decide +kernel
theorem d_Rs_resolveTo_57 : decode c_Rs_resolveTo 57 = .ok (.ifCond .eq 7, 3) := by decide +kernel
theorem d_Rs_resolveTo_60 : decode c_Rs_resolveTo 60 = .ok (.iconst 1, 1) := by decide +kernel
theorem d_Rs_resolveTo_61 : decode c_Rs_resolveTo 61 = .ok (.goto 4, 3) := by decide +kernel
theorem d_Rs_resolveTo_64 : decode c_Rs_resolveTo 64 = .ok (.iconst 0, 1) := by decide +kernel
theorem d_Rs_resolveTo_65 : decode c_Rs_resolveTo 65 = .ok (.istore 7, 2) := by decide +kernel
theorem d_Rs_resolveTo_67 : decode c_Rs_resolveTo 67 = .ok (.iload 4, 2) := by decide +kernel
theorem d_Rs_resolveTo_69 : decode c_Rs_resolveTo 69 = .ok (.ifCond .eq 7, 3) := by decide +kernel
theorem d_Rs_resolveTo_72 : decode c_Rs_resolveTo 72 = .ok (.aload_n 2, 1) := by decide +kernel
theorem d_Rs_resolveTo_73 : decode c_Rs_resolveTo 73 = .ok (.goto 4, 3) := by decide +kernel
theorem d_Rs_resolveTo_76 : decode c_Rs_resolveTo 76 = .ok (.aload_n 3, 1) := by decide +kernel
theorem d_Rs_resolveTo_77 : decode c_Rs_resolveTo 77 = .ok (.aload_n 1, 1) := by decide +kernel
theorem d_Rs_resolveTo_78 : decode c_Rs_resolveTo 78 = .ok (.iconst 0, 1) := by decide +kernel
theorem d_Rs_resolveTo_79 : decode c_Rs_resolveTo 79 = .ok (.invokevirtual 30, 3) := by decide +kernel
theorem d_Rs_resolveTo_82 : decode c_Rs_resolveTo 82 = .ok (.aload_n 1, 1) := by decide +kernel
theorem d_Rs_resolveTo_83 : decode c_Rs_resolveTo 83 = .ok (.bipush 58, 2) := by decide +kernel
theorem d_Rs_resolveTo_85 : decode c_Rs_resolveTo 85 = .ok (.invokevirtual 34, 3) := by decide +kernel
theorem d_Rs_resolveTo_88 : decode c_Rs_resolveTo 88 = .ok (.aload_n 1, 1) := by decide +kernel
theorem d_Rs_resolveTo_89 : decode c_Rs_resolveTo 89 = .ok (.ldc 37, 2) := by decide +kernel
theorem d_Rs_resolveTo_91 : decode c_Rs_resolveTo 91 = .ok (.iload 5, 2) := by decide +kernel
theorem d_Rs_resolveTo_93 : decode c_Rs_resolveTo 93 = .ok (.ifCond .eq 7, 3) := by decide +kernel
theorem d_Rs_resolveTo_96 : decode c_Rs_resolveTo 96 = .ok (.aload_n 2, 1) := by decide +kernel
theorem d_Rs_resolveTo_97 : decode c_Rs_resolveTo 97 = .ok (.goto 4, 3) := by decide +kernel
theorem d_Rs_resolveTo_100 : decode c_Rs_resolveTo 100 = .ok (.aload_n 3, 1) := by decide +kernel
theorem d_Rs_resolveTo_101 : decode c_Rs_resolveTo 101 = .ok (.iconst 1, 1) := by decide +kernel
theorem d_Rs_resolveTo_102 : decode c_Rs_resolveTo 102 = .ok (.invokestatic 39, 3) := by decide +kernel
theorem d_Rs_resolveTo_105 : decode c_Rs_resolveTo 105 = .ok (.iload 6, 2) := by decide +kernel
theorem d_Rs_resolveTo_107 : decode c_Rs_resolveTo 107 = .ok (.ifCond .eq 19, 3) := by decide +kernel
theorem d_Rs_resolveTo_110 : decode c_Rs_resolveTo 110 = .ok (.aload_n 0, 1) := by decide +kernel
theorem d_Rs_resolveTo_111 : decode c_Rs_resolveTo 111 = .ok (.aload_n 2, 1) := by decide +kernel
theorem d_Rs_resolveTo_112 : decode c_Rs_resolveTo 112 = .ok (.aload_n 3, 1) := by decide +kernel
theorem d_Rs_resolveTo_113 : decode c_Rs_resolveTo 113 = .ok (.iload 5, 2) := by decide +kernel
theorem d_Rs_resolveTo_115 : decode c_Rs_resolveTo 115 = .ok (.invokevirtual 43, 3) := by decide +kernel
theorem d_Rs_resolveTo_118 : decode c_Rs_resolveTo 118 = .ok (.aload_n 0, 1) := by decide +kernel
theorem d_Rs_resolveTo_119 : decode c_Rs_resolveTo 119 = .ok (.aload_n 1, 1) := by decide +kernel
theorem d_Rs_resolveTo_120 : decode c_Rs_resolveTo 120 = .ok (.invokevirtual 47, 3) := by decide +kernel
theorem d_Rs_resolveTo_123 : decode c_Rs_resolveTo 123 = .ok (.goto 9, 3) := by decide +kernel
theorem d_Rs_resolveTo_126 : decode c_Rs_resolveTo 126 = .ok (.aload_n 3, 1) := by decide +kernel
theorem d_Rs_resolveTo_127 : decode c_Rs_resolveTo 127 = .ok (.aload_n 1, 1) := by decide +kernel
theorem d_Rs_resolveTo_128 : decode c_Rs_resolveTo 128 = .ok (.iconst 2, 1) := by decide +kernel
theorem d_Rs_resolveTo_129 : decode c_Rs_resolveTo 129 = .ok (.invokevirtual 30, 3) := by decide +kernel
theorem d_Rs_resolveTo_132 : decode c_Rs_resolveTo 132 = .ok (.aload_n 1, 1) := by decide +kernel
theorem d_Rs_resolveTo_133 : decode c_Rs_resolveTo 133 = .ok (.ldc 51, 2) := by decide +kernel
theorem d_Rs_resolveTo_135 : decode c_Rs_resolveTo 135 = .ok (.iload 7, 2) := by decide +kernel
theorem d_Rs_resolveTo_137 : decode c_Rs_resolveTo 137 = .ok (.ifCond .eq 7, 3) := by decide +kernel
theorem d_Rs_resolveTo_140 : decode c_Rs_resolveTo 140 = .ok (.aload_n 2, 1) := by decide +kernel
theorem d_Rs_resolveTo_141 : decode c_Rs_resolveTo 141 = .ok (.goto 4, 3) := by decide +kernel
theorem d_Rs_resolveTo_144 : decode c_Rs_resolveTo 144 = .ok (.aload_n 3, 1) := by decide +kernel
theorem d_Rs_resolveTo_145 : decode c_Rs_resolveTo 145 = .ok (.iconst 3, 1) := by decide +kernel
theorem d_Rs_resolveTo_146 : decode c_Rs_resolveTo 146 = .ok (.invokestatic 39, 3) := by decide +kernel
theorem d_Rs_resolveTo_149 : decode c_Rs_resolveTo 149 = .ok (.aload_n 1, 1) := by decide +kernel
theorem d_Rs_resolveTo_150 : decode c_Rs_resolveTo 150 = .ok (.ldc 53, 2) := by decide +kernel
theorem d_Rs_resolveTo_152 : decode c_Rs_resolveTo 152 = .ok (.aload_n 2, 1) := by decide +kernel
theorem d_Rs_resolveTo_153 : decode c_Rs_resolveTo 153 = .ok (.iconst 4, 1) := by decide +kernel
theorem d_Rs_resolveTo_154 : decode c_Rs_resolveTo 154 = .ok (.invokestatic 39, 3) := by decide +kernel
theorem d_Rs_resolveTo_157 : decode c_Rs_resolveTo 157 = .ok (.return_, 1) := by decide +kernel
theorem d_Rf_lengthOf_0 : decode c_Rf_lengthOf 0 = .ok (.aload_n 0, 1) := by decide +kernel
theorem d_Rf_lengthOf_1 : decode c_Rf_lengthOf 1 = .ok (.iload_n 1, 1) := by decide +kernel
theorem d_Rf_lengthOf_2 : decode c_Rf_lengthOf 2 = .ok (.invokevirtual 68, 3) := by decide +kernel
theorem d_Rf_lengthOf_5 : decode c_Rf_lengthOf 5 = .ok (.ifCond .eq 17, 3) := by decide +kernel
theorem d_Rf_lengthOf_8 : decode c_Rf_lengthOf 8 = .ok (.aload_n 0, 1) := by decide +kernel
theorem d_Rf_lengthOf_9 : decode c_Rf_lengthOf 9 = .ok (.iload_n 1, 1) := by decide +kernel
theorem d_Rf_lengthOf_10 : decode c_Rf_lengthOf 10 = .ok (.invokevirtual 65, 3) := by decide +kernel
theorem d_Rf_lengthOf_13 : decode c_Rf_lengthOf 13 = .ok (.aload_n 0, 1) := by decide +kernel
theorem d_Rf_lengthOf_14 : decode c_Rf_lengthOf 14 = .ok (.iload_n 1, 1) := by decide +kernel
theorem d_Rf_lengthOf_15 : decode c_Rf_lengthOf 15 = .ok (.invokevirtual 71, 3) := by decide +kernel
theorem d_Rf_lengthOf_18 : decode c_Rf_lengthOf 18 = .ok (.isub, 1) := by decide +kernel
theorem d_Rf_lengthOf_19 : decode c_Rf_lengthOf 19 = .ok (.goto 4, 3) := by decide +kernel
theorem d_Rf_lengthOf_22 : decode c_Rf_lengthOf 22 = .ok (.iconst 0, 1) := by decide +kernel
theorem d_Rf_lengthOf_23 : decode c_Rf_lengthOf 23 = .ok (.ireturn, 1) := by decide +kernel
theorem d_Rf_beginOf_0 : decode c_Rf_beginOf 0 = .ok (.iload_n 1, 1) := by decide +kernel
theorem d_Rf_beginOf_1 : decode c_Rf_beginOf 1 = .ok (.ifCond .lt 21, 3) := by decide +kernel
theorem d_Rf_beginOf_4 : decode c_Rf_beginOf 4 = .ok (.iload_n 1, 1) := by decide +kernel
theorem d_Rf_beginOf_5 : decode c_Rf_beginOf 5 = .ok (.aload_n 0, 1) := by decide +kernel
theorem d_Rf_beginOf_6 : decode c_Rf_beginOf 6 = .ok (.getfield 9, 3) := by decide +kernel
theorem d_Rf_beginOf_9 : decode c_Rf_beginOf 9 = .ok (.arraylength, 1) := by decide +kernel
theorem d_Rf_beginOf_10 : decode c_Rf_beginOf 10 = .ok (.if_icmp .ge 12, 3) := by decide +kernel
theorem d_Rf_beginOf_13 : decode c_Rf_beginOf 13 = .ok (.aload_n 0, 1) := by decide +kernel
theorem d_Rf_beginOf_14 : decode c_Rf_beginOf 14 = .ok (.getfield 9, 3) := by decide +kernel
theorem d_Rf_beginOf_17 : decode c_Rf_beginOf 17 = .ok (.iload_n 1, 1) := by decide +kernel
theorem d_Rf_beginOf_18 : decode c_Rf_beginOf 18 = .ok (.iaload, 1) := by decide +kernel
theorem d_Rf_beginOf_19 : decode c_Rf_beginOf 19 = .ok (.goto 4, 3) := by decide +kernel
theorem d_Rf_beginOf_22 : decode c_Rf_beginOf 22 = .ok (.iconst 0, 1) := by decide +kernel
theorem d_Rf_beginOf_23 : decode c_Rf_beginOf 23 = .ok (.ireturn, 1) := by decide +kernel
theorem d_Rf_copyTo_0 : decode c_Rf_copyTo 0 = .ok (.aload_n 0, 1) := by decide +kernel
theorem d_Rf_copyTo_1 : decode c_Rf_copyTo 1 = .ok (.iload_n 2, 1) := by decide +kernel
theorem d_Rf_copyTo_2 : decode c_Rf_copyTo 2 = .ok (.invokevirtual 68, 3) := by decide +kernel
theorem d_Rf_copyTo_5 : decode c_Rf_copyTo 5 = .ok (.ifCond .eq 21, 3) := by decide +kernel
theorem d_Rf_copyTo_8 : decode c_Rf_copyTo 8 = .ok (.aload_n 1, 1) := by decide +kernel
theorem d_Rf_copyTo_9 : decode c_Rf_copyTo 9 = .ok (.aload_n 0, 1) := by decide +kernel
theorem d_Rf_copyTo_10 : decode c_Rf_copyTo 10 = .ok (.getfield 23, 3) := by decide +kernel
theorem d_Rf_copyTo_13 : decode c_Rf_copyTo 13 = .ok (.aload_n 0, 1) := by decide +kernel
theorem d_Rf_copyTo_14 : decode c_Rf_copyTo 14 = .ok (.iload_n 2, 1) := by decide +kernel
theorem d_Rf_copyTo_15 : decode c_Rf_copyTo 15 = .ok (.invokevirtual 71, 3) := by decide +kernel
theorem d_Rf_copyTo_18 : decode c_Rf_copyTo 18 = .ok (.aload_n 0, 1) := by decide +kernel
theorem d_Rf_copyTo_19 : decode c_Rf_copyTo 19 = .ok (.iload_n 2, 1) := by decide +kernel
theorem d_Rf_copyTo_20 : decode c_Rf_copyTo 20 = .ok (.invokevirtual 65, 3) := by decide +kernel
theorem d_Rf_copyTo_23 : decode c_Rf_copyTo 23 = .ok (.invokevirtual 77, 3) := by decide +kernel
theorem d_Rf_copyTo_26 : decode c_Rf_copyTo 26 = .ok (.return_, 1) := by decide +kernel
theorem d_Rs_addBehind_0 : decode c_Rs_addBehind 0 = .ok (.aload_n 2, 1) := by decide +kernel
theorem d_Rs_addBehind_1 : decode c_Rs_addBehind 1 = .ok (.iload_n 3, 1) := by decide +kernel
theorem d_Rs_addBehind_2 : decode c_Rs_addBehind 2 = .ok (.invokevirtual 20, 3) := by decide +kernel
theorem d_Rs_addBehind_5 : decode c_Rs_addBehind 5 = .ok (.ifCond .eq 14, 3) := by decide +kernel
theorem d_Rs_addBehind_8 : decode c_Rs_addBehind 8 = .ok (.aload_n 0, 1) := by decide +kernel
theorem d_Rs_addBehind_9 : decode c_Rs_addBehind 9 = .ok (.aload_n 1, 1) := by decide +kernel
theorem d_Rs_addBehind_10 : decode c_Rs_addBehind 10 = .ok (.invokevirtual 55, 3) := by decide +kernel
theorem d_Rs_addBehind_13 : decode c_Rs_addBehind 13 = .ok (.aload_n 2, 1) := by decide +kernel
theorem d_Rs_addBehind_14 : decode c_Rs_addBehind 14 = .ok (.aload_n 0, 1) := by decide +kernel
theorem d_Rs_addBehind_15 : decode c_Rs_addBehind 15 = .ok (.iload_n 3, 1) := by decide +kernel
theorem d_Rs_addBehind_16 : decode c_Rs_addBehind 16 = .ok (.invokevirtual 30, 3) := by decide +kernel
theorem d_Rs_addBehind_19 : decode c_Rs_addBehind 19 = .ok (.return_, 1) := by decide +kernel
theorem d_Rw_addText_0 : decode c_Rw_addText 0 = .ok (.iconst 0, 1) := by decide +kernel
theorem d_Rw_addText_1 : decode c_Rw_addText 1 = .ok (.istore_n 2, 1) := by decide +kernel
theorem d_Rw_addText_2 : decode c_Rw_addText 2 = .ok (.iload_n 2, 1) := by decide +kernel
theorem d_Rw_addText_3 : decode c_Rw_addText 3 = .ok (.aload_n 1, 1) := by decide +kernel
theorem d_Rw_addText_4 : decode c_Rw_addText 4 = .ok (.invokevirtual 36, 3) := by decide +kernel
theorem d_Rw_addText_7 : decode c_Rw_addText 7 = .ok (.if_icmp .ge 18, 3) := by decide +kernel
theorem d_Rw_addText_10 : decode c_Rw_addText 10 = .ok (.aload_n 0, 1) := by decide +kernel
theorem d_Rw_addText_11 : decode c_Rw_addText 11 = .ok (.aload_n 1, 1) := by decide +kernel
theorem d_Rw_addText_12 : decode c_Rw_addText 12 = .ok (.iload_n 2, 1) := by decide +kernel
theorem d_Rw_addText_13 : decode c_Rw_addText 13 = .ok (.invokevirtual 41, 3) := by decide +kernel
theorem d_Rw_addText_16 : decode c_Rw_addText 16 = .ok (.invokevirtual 32, 3) := by decide +kernel
theorem d_Rw_addText_19 : decode c_Rw_addText 19 = .ok (.iinc 2 1, 3) := by decide +kernel
theorem d_Rw_addText_22 : decode c_Rw_addText 22 = .ok (.goto (-20), 3) := by decide +kernel
theorem d_Rw_addText_25 : decode c_Rw_addText 25 = .ok (.return_, 1) := by decide +kernel
theorem d_Rs_gatherPath_0 : decode c_Rs_gatherPath 0 = .ok (.aload_n 0, 1) := by decide +kernel
theorem d_Rs_gatherPath_1 : decode c_Rs_gatherPath 1 = .ok (.getfield 14, 3) := by decide +kernel
theorem d_Rs_gatherPath_4 : decode c_Rs_gatherPath 4 = .ok (.iconst 0, 1) := by decide +kernel
theorem d_Rs_gatherPath_5 : decode c_Rs_gatherPath 5 = .ok (.invokevirtual 59, 3) := by decide +kernel
theorem d_Rs_gatherPath_8 : decode c_Rs_gatherPath 8 = .ok (.iload_n 3, 1) := by decide +kernel
theorem d_Rs_gatherPath_9 : decode c_Rs_gatherPath 9 = .ok (.ifCond .ne 46, 3) := by decide +kernel
theorem d_Rs_gatherPath_12 : decode c_Rs_gatherPath 12 = .ok (.aload_n 1, 1) := by decide +kernel
theorem d_Rs_gatherPath_13 : decode c_Rs_gatherPath 13 = .ok (.invokevirtual 62, 3) := by decide +kernel
theorem d_Rs_gatherPath_16 : decode c_Rs_gatherPath 16 = .ok (.ifCond .ne 39, 3) := by decide +kernel
theorem d_Rs_gatherPath_19 : decode c_Rs_gatherPath 19 = .ok (.aload_n 2, 1) := by decide +kernel
theorem d_Rs_gatherPath_20 : decode c_Rs_gatherPath 20 = .ok (.iconst 1, 1) := by decide +kernel
theorem d_Rs_gatherPath_21 : decode c_Rs_gatherPath 21 = .ok (.invokevirtual 20, 3) := by decide +kernel
theorem d_Rs_gatherPath_24 : decode c_Rs_gatherPath 24 = .ok (.ifCond .eq 23, 3) := by decide +kernel
theorem d_Rs_gatherPath_27 : decode c_Rs_gatherPath 27 = .ok (.aload_n 2, 1) := by decide +kernel
theorem d_Rs_gatherPath_28 : decode c_Rs_gatherPath 28 = .ok (.iconst 2, 1) := by decide +kernel
theorem d_Rs_gatherPath_29 : decode c_Rs_gatherPath 29 = .ok (.invokevirtual 26, 3) := by decide +kernel
theorem d_Rs_gatherPath_32 : decode c_Rs_gatherPath 32 = .ok (.ifCond .ne 15, 3) := by decide +kernel
theorem d_Rs_gatherPath_35 : decode c_Rs_gatherPath 35 = .ok (.aload_n 0, 1) := by decide +kernel
theorem d_Rs_gatherPath_36 : decode c_Rs_gatherPath 36 = .ok (.getfield 14, 3) := by decide +kernel
theorem d_Rs_gatherPath_39 : decode c_Rs_gatherPath 39 = .ok (.bipush 47, 2) := by decide +kernel
theorem d_Rs_gatherPath_41 : decode c_Rs_gatherPath 41 = .ok (.invokevirtual 34, 3) := by decide +kernel
theorem d_Rs_gatherPath_44 : decode c_Rs_gatherPath 44 = .ok (.goto 11, 3) := by decide +kernel
theorem d_Rs_gatherPath_47 : decode c_Rs_gatherPath 47 = .ok (.aload_n 2, 1) := by decide +kernel
theorem d_Rs_gatherPath_48 : decode c_Rs_gatherPath 48 = .ok (.aload_n 0, 1) := by decide +kernel
theorem d_Rs_gatherPath_49 : decode c_Rs_gatherPath 49 = .ok (.getfield 14, 3) := by decide +kernel
theorem d_Rs_gatherPath_52 : decode c_Rs_gatherPath 52 = .ok (.invokevirtual 66, 3) := by decide +kernel
theorem d_Rs_gatherPath_55 : decode c_Rs_gatherPath 55 = .ok (.aload_n 1, 1) := by decide +kernel
theorem d_Rs_gatherPath_56 : decode c_Rs_gatherPath 56 = .ok (.aload_n 0, 1) := by decide +kernel
theorem d_Rs_gatherPath_57 : decode c_Rs_gatherPath 57 = .ok (.getfield 14, 3) := by decide +kernel
theorem d_Rs_gatherPath_60 : decode c_Rs_gatherPath 60 = .ok (.iconst 2, 1) := by decide +kernel
theorem d_Rs_gatherPath_61 : decode c_Rs_gatherPath 61 = .ok (.invokevirtual 30, 3) := by decide +kernel
theorem d_Rs_gatherPath_64 : decode c_Rs_gatherPath 64 = .ok (.return_, 1) := by decide +kernel
theorem d_Rf_hasPathFromTop_0 : decode c_Rf_hasPathFromTop 0 = .ok (.aload_n 0, 1) := by decide +kernel
theorem d_Rf_hasPathFromTop_1 : decode c_Rf_hasPathFromTop 1 = .ok (.iconst 2, 1) := by decide +kernel
theorem d_Rf_hasPathFromTop_2 : decode c_Rf_hasPathFromTop 2 = .ok (.invokevirtual 74, 3) := by decide +kernel
theorem d_Rf_hasPathFromTop_5 : decode c_Rf_hasPathFromTop 5 = .ok (.ifCond .le 24, 3) := by decide +kernel
theorem d_Rf_hasPathFromTop_8 : decode c_Rf_hasPathFromTop 8 = .ok (.aload_n 0, 1) := by decide +kernel
theorem d_Rf_hasPathFromTop_9 : decode c_Rf_hasPathFromTop 9 = .ok (.getfield 23, 3) := by decide +kernel
theorem d_Rf_hasPathFromTop_12 : decode c_Rf_hasPathFromTop 12 = .ok (.aload_n 0, 1) := by decide +kernel
theorem d_Rf_hasPathFromTop_13 : decode c_Rf_hasPathFromTop 13 = .ok (.iconst 2, 1) := by decide +kernel
theorem d_Rf_hasPathFromTop_14 : decode c_Rf_hasPathFromTop 14 = .ok (.invokevirtual 71, 3) := by decide +kernel
theorem d_Rf_hasPathFromTop_17 : decode c_Rf_hasPathFromTop 17 = .ok (.invokevirtual 51, 3) := by decide +kernel
theorem d_Rf_hasPathFromTop_20 : decode c_Rf_hasPathFromTop 20 = .ok (.bipush 47, 2) := by decide +kernel
theorem d_Rf_hasPathFromTop_22 : decode c_Rf_hasPathFromTop 22 = .ok (.if_icmp .ne 7, 3) := by decide +kernel
theorem d_Rf_hasPathFromTop_25 : decode c_Rf_hasPathFromTop 25 = .ok (.iconst 1, 1) := by decide +kernel
theorem d_Rf_hasPathFromTop_26 : decode c_Rf_hasPathFromTop 26 = .ok (.goto 4, 3) := by decide +kernel
theorem d_Rf_hasPathFromTop_29 : decode c_Rf_hasPathFromTop 29 = .ok (.iconst 0, 1) := by decide +kernel
theorem d_Rf_hasPathFromTop_30 : decode c_Rf_hasPathFromTop 30 = .ok (.ireturn, 1) := by decide +kernel
theorem d_Rf_copyFolderTo_0 : decode c_Rf_copyFolderTo 0 = .ok (.aload_n 0, 1) := by decide +kernel
theorem d_Rf_copyFolderTo_1 : decode c_Rf_copyFolderTo 1 = .ok (.getfield 23, 3) := by decide +kernel
theorem d_Rf_copyFolderTo_4 : decode c_Rf_copyFolderTo 4 = .ok (.aload_n 0, 1) := by decide +kernel
theorem d_Rf_copyFolderTo_5 : decode c_Rf_copyFolderTo 5 = .ok (.iconst 2, 1) := by decide +kernel
theorem d_Rf_copyFolderTo_6 : decode c_Rf_copyFolderTo 6 = .ok (.invokevirtual 71, 3) := by decide +kernel
theorem d_Rf_copyFolderTo_9 : decode c_Rf_copyFolderTo 9 = .ok (.aload_n 0, 1) := by decide +kernel
theorem d_Rf_copyFolderTo_10 : decode c_Rf_copyFolderTo 10 = .ok (.iconst 2, 1) := by decide +kernel
theorem d_Rf_copyFolderTo_11 : decode c_Rf_copyFolderTo 11 = .ok (.invokevirtual 65, 3) := by decide +kernel
theorem d_Rf_copyFolderTo_14 : decode c_Rf_copyFolderTo 14 = .ok (.invokevirtual 81, 3) := by decide +kernel
theorem d_Rf_copyFolderTo_17 : decode c_Rf_copyFolderTo 17 = .ok (.istore_n 2, 1) := by decide +kernel
theorem d_Rf_copyFolderTo_18 : decode c_Rf_copyFolderTo 18 = .ok (.iload_n 2, 1) := by decide +kernel
theorem d_Rf_copyFolderTo_19 : decode c_Rf_copyFolderTo 19 = .ok (.iconst (-1), 1) := by decide +kernel
theorem d_Rf_copyFolderTo_20 : decode c_Rf_copyFolderTo 20 = .ok (.if_icmp .eq 19, 3) := by decide +kernel
theorem d_Rf_copyFolderTo_23 : decode c_Rf_copyFolderTo 23 = .ok (.aload_n 1, 1) := by decide +kernel
theorem d_Rf_copyFolderTo_24 : decode c_Rf_copyFolderTo 24 = .ok (.aload_n 0, 1) := by decide +kernel
theorem d_Rf_copyFolderTo_25 : decode c_Rf_copyFolderTo 25 = .ok (.getfield 23, 3) := by decide +kernel
theorem d_Rf_copyFolderTo_28 : decode c_Rf_copyFolderTo 28 = .ok (.aload_n 0, 1) := by decide +kernel
theorem d_Rf_copyFolderTo_29 : decode c_Rf_copyFolderTo 29 = .ok (.iconst 2, 1) := by decide +kernel
theorem d_Rf_copyFolderTo_30 : decode c_Rf_copyFolderTo 30 = .ok (.invokevirtual 71, 3) := by decide +kernel
theorem d_Rf_copyFolderTo_33 : decode c_Rf_copyFolderTo 33 = .ok (.iload_n 2, 1) := by decide +kernel
theorem d_Rf_copyFolderTo_34 : decode c_Rf_copyFolderTo 34 = .ok (.iconst 1, 1) := by decide +kernel
theorem d_Rf_copyFolderTo_35 : decode c_Rf_copyFolderTo 35 = .ok (.iadd, 1) := by decide +kernel
theorem d_Rf_copyFolderTo_36 : decode c_Rf_copyFolderTo 36 = .ok (.invokevirtual 77, 3) := by decide +kernel
theorem d_Rf_copyFolderTo_39 : decode c_Rf_copyFolderTo 39 = .ok (.return_, 1) := by decide +kernel
theorem d_Rw_lastSlash_0 : decode c_Rw_lastSlash 0 = .ok (.iload_n 2, 1) := by decide +kernel
theorem d_Rw_lastSlash_1 : decode c_Rw_lastSlash 1 = .ok (.aload_n 0, 1) := by decide +kernel
theorem d_Rw_lastSlash_2 : decode c_Rw_lastSlash 2 = .ok (.getfield 9, 3) := by decide +kernel
theorem d_Rw_lastSlash_5 : decode c_Rw_lastSlash 5 = .ok (.invokestatic 25, 3) := by decide +kernel
theorem d_Rw_lastSlash_8 : decode c_Rw_lastSlash 8 = .ok (.iconst 1, 1) := by decide +kernel
theorem d_Rw_lastSlash_9 : decode c_Rw_lastSlash 9 = .ok (.isub, 1) := by decide +kernel
theorem d_Rw_lastSlash_10 : decode c_Rw_lastSlash 10 = .ok (.istore_n 3, 1) := by decide +kernel
theorem d_Rw_lastSlash_11 : decode c_Rw_lastSlash 11 = .ok (.iload_n 3, 1) := by decide +kernel
theorem d_Rw_lastSlash_12 : decode c_Rw_lastSlash 12 = .ok (.iload_n 1, 1) := by decide +kernel
theorem d_Rw_lastSlash_13 : decode c_Rw_lastSlash 13 = .ok (.if_icmp .lt 25, 3) := by decide +kernel
theorem d_Rw_lastSlash_16 : decode c_Rw_lastSlash 16 = .ok (.iload_n 3, 1) := by decide +kernel
theorem d_Rw_lastSlash_17 : decode c_Rw_lastSlash 17 = .ok (.ifCond .lt 21, 3) := by decide +kernel
theorem d_Rw_lastSlash_20 : decode c_Rw_lastSlash 20 = .ok (.aload_n 0, 1) := by decide +kernel
theorem d_Rw_lastSlash_21 : decode c_Rw_lastSlash 21 = .ok (.iload_n 3, 1) := by decide +kernel
theorem d_Rw_lastSlash_22 : decode c_Rw_lastSlash 22 = .ok (.invokevirtual 28, 3) := by decide +kernel
theorem d_Rw_lastSlash_25 : decode c_Rw_lastSlash 25 = .ok (.bipush 47, 2) := by decide +kernel
theorem d_Rw_lastSlash_27 : decode c_Rw_lastSlash 27 = .ok (.if_icmp .ne 5, 3) := by decide +kernel
theorem d_Rw_lastSlash_30 : decode c_Rw_lastSlash 30 = .ok (.iload_n 3, 1) := by decide +kernel
theorem d_Rw_lastSlash_31 : decode c_Rw_lastSlash 31 = .ok (.ireturn, 1) := by decide +kernel
theorem d_Rw_lastSlash_32 : decode c_Rw_lastSlash 32 = .ok (.iinc 3 (-1), 3) := by decide +kernel
theorem d_Rw_lastSlash_35 : decode c_Rw_lastSlash 35 = .ok (.goto (-24), 3) := by decide +kernel
theorem d_Rw_lastSlash_38 : decode c_Rw_lastSlash 38 = .ok (.iconst (-1), 1) := by decide +kernel
theorem d_Rw_lastSlash_39 : decode c_Rw_lastSlash 39 = .ok (.ireturn, 1) := by decide +kernel
theorem d_Rs_addPlainPath_0 : decode c_Rs_addPlainPath 0 = .ok (.aload_n 1, 1) := by decide +kernel
theorem d_Rs_addPlainPath_1 : decode c_Rs_addPlainPath 1 = .ok (.invokevirtual 69, 3) := by decide +kernel
theorem d_Rs_addPlainPath_4 : decode c_Rs_addPlainPath 4 = .ok (.istore_n 2, 1) := by decide +kernel
theorem d_Rs_addPlainPath_5 : decode c_Rs_addPlainPath 5 = .ok (.iconst 0, 1) := by decide +kernel
theorem d_Rs_addPlainPath_6 : decode c_Rs_addPlainPath 6 = .ok (.istore_n 3, 1) := by decide +kernel
theorem d_Rs_addPlainPath_7 : decode c_Rs_addPlainPath 7 = .ok (.aload_n 0, 1) := by decide +kernel
theorem d_Rs_addPlainPath_8 : decode c_Rs_addPlainPath 8 = .ok (.getfield 14, 3) := by decide +kernel
theorem d_Rs_addPlainPath_11 : decode c_Rs_addPlainPath 11 = .ok (.invokevirtual 69, 3) := by decide +kernel
theorem d_Rs_addPlainPath_14 : decode c_Rs_addPlainPath 14 = .ok (.istore 4, 2) := by decide +kernel
theorem d_Rs_addPlainPath_16 : decode c_Rs_addPlainPath 16 = .ok (.iconst 0, 1) := by decide +kernel
theorem d_Rs_addPlainPath_17 : decode c_Rs_addPlainPath 17 = .ok (.istore 5, 2) := by decide +kernel
theorem d_Rs_addPlainPath_19 : decode c_Rs_addPlainPath 19 = .ok (.iload 5, 2) := by decide +kernel
theorem d_Rs_addPlainPath_21 : decode c_Rs_addPlainPath 21 = .ok (.iload 4, 2) := by decide +kernel
theorem d_Rs_addPlainPath_23 : decode c_Rs_addPlainPath 23 = .ok (.if_icmp .ge 223, 3) := by decide +kernel
theorem d_Rs_addPlainPath_26 : decode c_Rs_addPlainPath 26 = .ok (.iload_n 3, 1) := by decide +kernel
theorem d_Rs_addPlainPath_27 : decode c_Rs_addPlainPath 27 = .ok (.aload_n 0, 1) := by decide +kernel
theorem d_Rs_addPlainPath_28 : decode c_Rs_addPlainPath 28 = .ok (.getfield 14, 3) := by decide +kernel
theorem d_Rs_addPlainPath_31 : decode c_Rs_addPlainPath 31 = .ok (.invokevirtual 69, 3) := by decide +kernel
theorem d_Rs_addPlainPath_34 : decode c_Rs_addPlainPath 34 = .ok (.if_icmp .ge 212, 3) := by decide +kernel
theorem d_Rs_addPlainPath_37 : decode c_Rs_addPlainPath 37 = .ok (.aload_n 0, 1) := by decide +kernel
theorem d_Rs_addPlainPath_38 : decode c_Rs_addPlainPath 38 = .ok (.getfield 14, 3) := by decide +kernel
theorem d_Rs_addPlainPath_41 : decode c_Rs_addPlainPath 41 = .ok (.iload_n 3, 1) := by decide +kernel
theorem d_Rs_addPlainPath_42 : decode c_Rs_addPlainPath 42 = .ok (.ldc 73, 2) := by decide +kernel
theorem d_Rs_addPlainPath_44 : decode c_Rs_addPlainPath 44 = .ok (.invokevirtual 75, 3) := by decide +kernel
theorem d_Rs_addPlainPath_47 : decode c_Rs_addPlainPath 47 = .ok (.ifCond .eq 9, 3) := by decide +kernel
theorem d_Rs_addPlainPath_50 : decode c_Rs_addPlainPath 50 = .ok (.iinc 3 3, 3) := by decide +kernel
theorem d_Rs_addPlainPath_53 : decode c_Rs_addPlainPath 53 = .ok (.goto 187, 3) := by decide +kernel
theorem d_Rs_addPlainPath_56 : decode c_Rs_addPlainPath 56 = .ok (.aload_n 0, 1) := by decide +kernel
theorem d_Rs_addPlainPath_57 : decode c_Rs_addPlainPath 57 = .ok (.getfield 14, 3) := by decide +kernel
theorem d_Rs_addPlainPath_60 : decode c_Rs_addPlainPath 60 = .ok (.iload_n 3, 1) := by decide +kernel
theorem d_Rs_addPlainPath_61 : decode c_Rs_addPlainPath 61 = .ok (.ldc 79, 2) := by decide +kernel
theorem d_Rs_addPlainPath_63 : decode c_Rs_addPlainPath 63 = .ok (.invokevirtual 75, 3) := by decide +kernel
theorem d_Rs_addPlainPath_66 : decode c_Rs_addPlainPath 66 = .ok (.ifCond .ne 16, 3) := by decide +kernel
theorem d_Rs_addPlainPath_69 : decode c_Rs_addPlainPath 69 = .ok (.aload_n 0, 1) := by decide +kernel
theorem d_Rs_addPlainPath_70 : decode c_Rs_addPlainPath 70 = .ok (.getfield 14, 3) := by decide +kernel
theorem d_Rs_addPlainPath_73 : decode c_Rs_addPlainPath 73 = .ok (.iload_n 3, 1) := by decide +kernel
theorem d_Rs_addPlainPath_74 : decode c_Rs_addPlainPath 74 = .ok (.ldc 81, 2) := by decide +kernel
theorem d_Rs_addPlainPath_76 : decode c_Rs_addPlainPath 76 = .ok (.invokevirtual 75, 3) := by decide +kernel
theorem d_Rs_addPlainPath_79 : decode c_Rs_addPlainPath 79 = .ok (.ifCond .eq 9, 3) := by decide +kernel
theorem d_Rs_addPlainPath_82 : decode c_Rs_addPlainPath 82 = .ok (.iinc 3 2, 3) := by decide +kernel
theorem d_Rs_addPlainPath_85 : decode c_Rs_addPlainPath 85 = .ok (.goto 155, 3) := by decide +kernel
theorem d_Rs_addPlainPath_88 : decode c_Rs_addPlainPath 88 = .ok (.aload_n 0, 1) := by decide +kernel
theorem d_Rs_addPlainPath_89 : decode c_Rs_addPlainPath 89 = .ok (.getfield 14, 3) := by decide +kernel
theorem d_Rs_addPlainPath_92 : decode c_Rs_addPlainPath 92 = .ok (.iload_n 3, 1) := by decide +kernel
theorem d_Rs_addPlainPath_93 : decode c_Rs_addPlainPath 93 = .ok (.ldc 83, 2) := by decide +kernel
theorem d_Rs_addPlainPath_95 : decode c_Rs_addPlainPath 95 = .ok (.invokevirtual 85, 3) := by decide +kernel
theorem d_Rs_addPlainPath_98 : decode c_Rs_addPlainPath 98 = .ok (.ifCond .eq 19, 3) := by decide +kernel
theorem d_Rs_addPlainPath_101 : decode c_Rs_addPlainPath 101 = .ok (.iinc 3 1, 3) := by decide +kernel
theorem d_Rs_addPlainPath_104 : decode c_Rs_addPlainPath 104 = .ok (.aload_n 0, 1) := by decide +kernel
theorem d_Rs_addPlainPath_105 : decode c_Rs_addPlainPath 105 = .ok (.getfield 14, 3) := by decide +kernel
theorem d_Rs_addPlainPath_108 : decode c_Rs_addPlainPath 108 = .ok (.iload_n 3, 1) := by decide +kernel
theorem d_Rs_addPlainPath_109 : decode c_Rs_addPlainPath 109 = .ok (.bipush 47, 2) := by decide +kernel
theorem d_Rs_addPlainPath_111 : decode c_Rs_addPlainPath 111 = .ok (.invokevirtual 88, 3) := by decide +kernel
theorem d_Rs_addPlainPath_114 : decode c_Rs_addPlainPath 114 = .ok (.goto 126, 3) := by decide +kernel
theorem d_Rs_addPlainPath_117 : decode c_Rs_addPlainPath 117 = .ok (.aload_n 0, 1) := by decide +kernel
theorem d_Rs_addPlainPath_118 : decode c_Rs_addPlainPath 118 = .ok (.getfield 14, 3) := by decide +kernel
theorem d_Rs_addPlainPath_121 : decode c_Rs_addPlainPath 121 = .ok (.iload_n 3, 1) := by decide +kernel
theorem d_Rs_addPlainPath_122 : decode c_Rs_addPlainPath 122 = .ok (.ldc 92, 2) := by decide +kernel
theorem d_Rs_addPlainPath_124 : decode c_Rs_addPlainPath 124 = .ok (.invokevirtual 75, 3) := by decide +kernel
theorem d_Rs_addPlainPath_127 : decode c_Rs_addPlainPath 127 = .ok (.ifCond .eq 14, 3) := by decide +kernel
theorem d_Rs_addPlainPath_130 : decode c_Rs_addPlainPath 130 = .ok (.iinc 3 3, 3) := by decide +kernel
theorem d_Rs_addPlainPath_133 : decode c_Rs_addPlainPath 133 = .ok (.aload_n 1, 1) := by decide +kernel
theorem d_Rs_addPlainPath_134 : decode c_Rs_addPlainPath 134 = .ok (.iload_n 2, 1) := by decide +kernel
theorem d_Rs_addPlainPath_135 : decode c_Rs_addPlainPath 135 = .ok (.invokestatic 94, 3) := by decide +kernel
theorem d_Rs_addPlainPath_138 : decode c_Rs_addPlainPath 138 = .ok (.goto 102, 3) := by decide +kernel
theorem d_Rs_addPlainPath_141 : decode c_Rs_addPlainPath 141 = .ok (.aload_n 0, 1) := by decide +kernel
theorem d_Rs_addPlainPath_142 : decode c_Rs_addPlainPath 142 = .ok (.getfield 14, 3) := by decide +kernel
theorem d_Rs_addPlainPath_145 : decode c_Rs_addPlainPath 145 = .ok (.iload_n 3, 1) := by decide +kernel
theorem d_Rs_addPlainPath_146 : decode c_Rs_addPlainPath 146 = .ok (.ldc 97, 2) := by decide +kernel
theorem d_Rs_addPlainPath_148 : decode c_Rs_addPlainPath 148 = .ok (.invokevirtual 85, 3) := by decide +kernel
theorem d_Rs_addPlainPath_151 : decode c_Rs_addPlainPath 151 = .ok (.ifCond .eq 24, 3) := by decide +kernel
theorem d_Rs_addPlainPath_154 : decode c_Rs_addPlainPath 154 = .ok (.iinc 3 2, 3) := by decide +kernel
theorem d_Rs_addPlainPath_157 : decode c_Rs_addPlainPath 157 = .ok (.aload_n 0, 1) := by decide +kernel
theorem d_Rs_addPlainPath_158 : decode c_Rs_addPlainPath 158 = .ok (.getfield 14, 3) := by decide +kernel
theorem d_Rs_addPlainPath_161 : decode c_Rs_addPlainPath 161 = .ok (.iload_n 3, 1) := by decide +kernel
theorem d_Rs_addPlainPath_162 : decode c_Rs_addPlainPath 162 = .ok (.bipush 47, 2) := by decide +kernel
theorem d_Rs_addPlainPath_164 : decode c_Rs_addPlainPath 164 = .ok (.invokevirtual 88, 3) := by decide +kernel
theorem d_Rs_addPlainPath_167 : decode c_Rs_addPlainPath 167 = .ok (.aload_n 1, 1) := by decide +kernel
theorem d_Rs_addPlainPath_168 : decode c_Rs_addPlainPath 168 = .ok (.iload_n 2, 1) := by decide +kernel
theorem d_Rs_addPlainPath_169 : decode c_Rs_addPlainPath 169 = .ok (.invokestatic 94, 3) := by decide +kernel
theorem d_Rs_addPlainPath_172 : decode c_Rs_addPlainPath 172 = .ok (.goto 68, 3) := by decide +kernel
theorem d_Rs_addPlainPath_175 : decode c_Rs_addPlainPath 175 = .ok (.aload_n 0, 1) := by decide +kernel
theorem d_Rs_addPlainPath_176 : decode c_Rs_addPlainPath 176 = .ok (.getfield 14, 3) := by decide +kernel
theorem d_Rs_addPlainPath_179 : decode c_Rs_addPlainPath 179 = .ok (.iload_n 3, 1) := by decide +kernel
theorem d_Rs_addPlainPath_180 : decode c_Rs_addPlainPath 180 = .ok (.ldc 99, 2) := by decide +kernel
theorem d_Rs_addPlainPath_182 : decode c_Rs_addPlainPath 182 = .ok (.invokevirtual 85, 3) := by decide +kernel
theorem d_Rs_addPlainPath_185 : decode c_Rs_addPlainPath 185 = .ok (.ifCond .ne 16, 3) := by decide +kernel
theorem d_Rs_addPlainPath_188 : decode c_Rs_addPlainPath 188 = .ok (.aload_n 0, 1) := by decide +kernel
theorem d_Rs_addPlainPath_189 : decode c_Rs_addPlainPath 189 = .ok (.getfield 14, 3) := by decide +kernel
theorem d_Rs_addPlainPath_192 : decode c_Rs_addPlainPath 192 = .ok (.iload_n 3, 1) := by decide +kernel
theorem d_Rs_addPlainPath_193 : decode c_Rs_addPlainPath 193 = .ok (.ldc 101, 2) := by decide +kernel
theorem d_Rs_addPlainPath_195 : decode c_Rs_addPlainPath 195 = .ok (.invokevirtual 85, 3) := by decide +kernel
theorem d_Rs_addPlainPath_198 : decode c_Rs_addPlainPath 198 = .ok (.ifCond .eq 14, 3) := by decide +kernel
theorem d_Rs_addPlainPath_201 : decode c_Rs_addPlainPath 201 = .ok (.aload_n 0, 1) := by decide +kernel
theorem d_Rs_addPlainPath_202 : decode c_Rs_addPlainPath 202 = .ok (.getfield 14, 3) := by decide +kernel
theorem d_Rs_addPlainPath_205 : decode c_Rs_addPlainPath 205 = .ok (.invokevirtual 69, 3) := by decide +kernel
theorem d_Rs_addPlainPath_208 : decode c_Rs_addPlainPath 208 = .ok (.istore_n 3, 1) := by decide +kernel
theorem d_Rs_addPlainPath_209 : decode c_Rs_addPlainPath 209 = .ok (.goto 31, 3) := by decide +kernel
theorem d_Rs_addPlainPath_212 : decode c_Rs_addPlainPath 212 = .ok (.aload_n 0, 1) := by decide +kernel
theorem d_Rs_addPlainPath_213 : decode c_Rs_addPlainPath 213 = .ok (.getfield 14, 3) := by decide +kernel
theorem d_Rs_addPlainPath_216 : decode c_Rs_addPlainPath 216 = .ok (.iload_n 3, 1) := by decide +kernel
theorem d_Rs_addPlainPath_217 : decode c_Rs_addPlainPath 217 = .ok (.iconst 1, 1) := by decide +kernel
theorem d_Rs_addPlainPath_218 : decode c_Rs_addPlainPath 218 = .ok (.iadd, 1) := by decide +kernel
theorem d_Rs_addPlainPath_219 : decode c_Rs_addPlainPath 219 = .ok (.ldc 103, 2) := by decide +kernel
theorem d_Rs_addPlainPath_221 : decode c_Rs_addPlainPath 221 = .ok (.invokevirtual 105, 3) := by decide +kernel
theorem d_Rs_addPlainPath_224 : decode c_Rs_addPlainPath 224 = .ok (.istore 6, 2) := by decide +kernel
theorem d_Rs_addPlainPath_226 : decode c_Rs_addPlainPath 226 = .ok (.aload_n 1, 1) := by decide +kernel
theorem d_Rs_addPlainPath_227 : decode c_Rs_addPlainPath 227 = .ok (.aload_n 0, 1) := by decide +kernel
theorem d_Rs_addPlainPath_228 : decode c_Rs_addPlainPath 228 = .ok (.getfield 14, 3) := by decide +kernel
theorem d_Rs_addPlainPath_231 : decode c_Rs_addPlainPath 231 = .ok (.iload_n 3, 1) := by decide +kernel
theorem d_Rs_addPlainPath_232 : decode c_Rs_addPlainPath 232 = .ok (.iload 6, 2) := by decide +kernel
theorem d_Rs_addPlainPath_234 : decode c_Rs_addPlainPath 234 = .ok (.invokevirtual 109, 3) := by decide +kernel
theorem d_Rs_addPlainPath_237 : decode c_Rs_addPlainPath 237 = .ok (.iload 6, 2) := by decide +kernel
theorem d_Rs_addPlainPath_239 : decode c_Rs_addPlainPath 239 = .ok (.istore_n 3, 1) := by decide +kernel
theorem d_Rs_addPlainPath_240 : decode c_Rs_addPlainPath 240 = .ok (.iinc 5 1, 3) := by decide +kernel
theorem d_Rs_addPlainPath_243 : decode c_Rs_addPlainPath 243 = .ok (.goto (-224), 3) := by decide +kernel
theorem d_Rs_addPlainPath_246 : decode c_Rs_addPlainPath 246 = .ok (.return_, 1) := by decide +kernel
theorem d_Rw_isRest_0 : decode c_Rw_isRest 0 = .ok (.aload_n 0, 1) := by decide +kernel
theorem d_Rw_isRest_1 : decode c_Rw_isRest 1 = .ok (.getfield 9, 3) := by decide +kernel
theorem d_Rw_isRest_4 : decode c_Rw_isRest 4 = .ok (.iload_n 1, 1) := by decide +kernel
theorem d_Rw_isRest_5 : decode c_Rw_isRest 5 = .ok (.isub, 1) := by decide +kernel
theorem d_Rw_isRest_6 : decode c_Rw_isRest 6 = .ok (.aload_n 2, 1) := by decide +kernel
theorem d_Rw_isRest_7 : decode c_Rw_isRest 7 = .ok (.invokevirtual 36, 3) := by decide +kernel
theorem d_Rw_isRest_10 : decode c_Rw_isRest 10 = .ok (.if_icmp .ne 16, 3) := by decide +kernel
theorem d_Rw_isRest_13 : decode c_Rw_isRest 13 = .ok (.aload_n 0, 1) := by decide +kernel
theorem d_Rw_isRest_14 : decode c_Rw_isRest 14 = .ok (.iload_n 1, 1) := by decide +kernel
theorem d_Rw_isRest_15 : decode c_Rw_isRest 15 = .ok (.aload_n 2, 1) := by decide +kernel
theorem d_Rw_isRest_16 : decode c_Rw_isRest 16 = .ok (.invokevirtual 54, 3) := by decide +kernel
theorem d_Rw_isRest_19 : decode c_Rw_isRest 19 = .ok (.ifCond .eq 7, 3) := by decide +kernel
theorem d_Rw_isRest_22 : decode c_Rw_isRest 22 = .ok (.iconst 1, 1) := by decide +kernel
theorem d_Rw_isRest_23 : decode c_Rw_isRest 23 = .ok (.goto 4, 3) := by decide +kernel
theorem d_Rw_isRest_26 : decode c_Rw_isRest 26 = .ok (.iconst 0, 1) := by decide +kernel
theorem d_Rw_isRest_27 : decode c_Rw_isRest 27 = .ok (.ireturn, 1) := by decide +kernel
theorem d_Rw_set_0 : decode c_Rw_set 0 = .ok (.iload_n 1, 1) := by decide +kernel
theorem d_Rw_set_1 : decode c_Rw_set 1 = .ok (.ifCond .lt 28, 3) := by decide +kernel
theorem d_Rw_set_4 : decode c_Rw_set 4 = .ok (.iload_n 1, 1) := by decide +kernel
theorem d_Rw_set_5 : decode c_Rw_set 5 = .ok (.aload_n 0, 1) := by decide +kernel
theorem d_Rw_set_6 : decode c_Rw_set 6 = .ok (.getfield 9, 3) := by decide +kernel
theorem d_Rw_set_9 : decode c_Rw_set 9 = .ok (.if_icmp .ge 20, 3) := by decide +kernel
theorem d_Rw_set_12 : decode c_Rw_set 12 = .ok (.iload_n 1, 1) := by decide +kernel
theorem d_Rw_set_13 : decode c_Rw_set 13 = .ok (.aload_n 0, 1) := by decide +kernel
theorem d_Rw_set_14 : decode c_Rw_set 14 = .ok (.getfield 21, 3) := by decide +kernel
theorem d_Rw_set_17 : decode c_Rw_set 17 = .ok (.arraylength, 1) := by decide +kernel
theorem d_Rw_set_18 : decode c_Rw_set 18 = .ok (.if_icmp .ge 11, 3) := by decide +kernel
theorem d_Rw_set_21 : decode c_Rw_set 21 = .ok (.aload_n 0, 1) := by decide +kernel
theorem d_Rw_set_22 : decode c_Rw_set 22 = .ok (.getfield 21, 3) := by decide +kernel
theorem d_Rw_set_25 : decode c_Rw_set 25 = .ok (.iload_n 1, 1) := by decide +kernel
theorem d_Rw_set_26 : decode c_Rw_set 26 = .ok (.iload_n 2, 1) := by decide +kernel
theorem d_Rw_set_27 : decode c_Rw_set 27 = .ok (.i2b, 1) := by decide +kernel
theorem d_Rw_set_28 : decode c_Rw_set 28 = .ok (.bastore, 1) := by decide +kernel
theorem d_Rw_set_29 : decode c_Rw_set 29 = .ok (.return_, 1) := by decide +kernel
theorem d_Rs_dropLast_0 : decode c_Rs_dropLast 0 = .ok (.aload_n 0, 1) := by decide +kernel
theorem d_Rs_dropLast_1 : decode c_Rs_dropLast 1 = .ok (.iload_n 1, 1) := by decide +kernel
theorem d_Rs_dropLast_2 : decode c_Rs_dropLast 2 = .ok (.aload_n 0, 1) := by decide +kernel
theorem d_Rs_dropLast_3 : decode c_Rs_dropLast 3 = .ok (.invokevirtual 69, 3) := by decide +kernel
theorem d_Rs_dropLast_6 : decode c_Rs_dropLast 6 = .ok (.invokevirtual 113, 3) := by decide +kernel
theorem d_Rs_dropLast_9 : decode c_Rs_dropLast 9 = .ok (.istore_n 2, 1) := by decide +kernel
theorem d_Rs_dropLast_10 : decode c_Rs_dropLast 10 = .ok (.aload_n 0, 1) := by decide +kernel
theorem d_Rs_dropLast_11 : decode c_Rs_dropLast 11 = .ok (.iload_n 2, 1) := by decide +kernel
theorem d_Rs_dropLast_12 : decode c_Rs_dropLast 12 = .ok (.iconst (-1), 1) := by decide +kernel
theorem d_Rs_dropLast_13 : decode c_Rs_dropLast 13 = .ok (.if_icmp .ne 7, 3) := by decide +kernel
theorem d_Rs_dropLast_16 : decode c_Rs_dropLast 16 = .ok (.iload_n 1, 1) := by decide +kernel
theorem d_Rs_dropLast_17 : decode c_Rs_dropLast 17 = .ok (.goto 4, 3) := by decide +kernel
theorem d_Rs_dropLast_20 : decode c_Rs_dropLast 20 = .ok (.iload_n 2, 1) := by decide +kernel
theorem d_Rs_dropLast_21 : decode c_Rs_dropLast 21 = .ok (.invokevirtual 59, 3) := by decide +kernel
theorem d_Rs_dropLast_24 : decode c_Rs_dropLast 24 = .ok (.return_, 1) := by decide +kernel
theorem d_At_placeOfWanted_0 : decode c_At_placeOfWanted 0 = .ok (.iconst 0, 1) := by decide +kernel
theorem d_At_placeOfWanted_1 : decode c_At_placeOfWanted 1 = .ok (.istore_n 1, 1) := by decide +kernel
theorem d_At_placeOfWanted_2 : decode c_At_placeOfWanted 2 = .ok (.iload_n 1, 1) := by decide +kernel
theorem d_At_placeOfWanted_3 : decode c_At_placeOfWanted 3 = .ok (.aload_n 0, 1) := by decide +kernel
theorem d_At_placeOfWanted_4 : decode c_At_placeOfWanted 4 = .ok (.getfield 57, 3) := by decide +kernel
theorem d_At_placeOfWanted_7 : decode c_At_placeOfWanted 7 = .ok (.if_icmp .ge 32, 3) := by decide +kernel
theorem d_At_placeOfWanted_10 : decode c_At_placeOfWanted 10 = .ok (.aload_n 0, 1) := by decide +kernel
theorem d_At_placeOfWanted_11 : decode c_At_placeOfWanted 11 = .ok (.iload_n 1, 1) := by decide +kernel
theorem d_At_placeOfWanted_12 : decode c_At_placeOfWanted 12 = .ok (.invokevirtual 122, 3) := by decide +kernel
theorem d_At_placeOfWanted_15 : decode c_At_placeOfWanted 15 = .ok (.astore_n 2, 1) := by decide +kernel
theorem d_At_placeOfWanted_16 : decode c_At_placeOfWanted 16 = .ok (.aload_n 2, 1) := by decide +kernel
theorem d_At_placeOfWanted_17 : decode c_At_placeOfWanted 17 = .ok (.ifnull 16, 3) := by decide +kernel
theorem d_At_placeOfWanted_20 : decode c_At_placeOfWanted 20 = .ok (.aload_n 2, 1) := by decide +kernel
theorem d_At_placeOfWanted_21 : decode c_At_placeOfWanted 21 = .ok (.aload_n 0, 1) := by decide +kernel
theorem d_At_placeOfWanted_22 : decode c_At_placeOfWanted 22 = .ok (.getfield 36, 3) := by decide +kernel
theorem d_At_placeOfWanted_25 : decode c_At_placeOfWanted 25 = .ok (.invokevirtual 138, 3) := by decide +kernel
theorem d_At_placeOfWanted_28 : decode c_At_placeOfWanted 28 = .ok (.ifCond .ne 5, 3) := by decide +kernel
theorem d_At_placeOfWanted_31 : decode c_At_placeOfWanted 31 = .ok (.iload_n 1, 1) := by decide +kernel
theorem d_At_placeOfWanted_32 : decode c_At_placeOfWanted 32 = .ok (.ireturn, 1) := by decide +kernel
theorem d_At_placeOfWanted_33 : decode c_At_placeOfWanted 33 = .ok (.iinc 1 1, 3) := by decide +kernel
theorem d_At_placeOfWanted_36 : decode c_At_placeOfWanted 36 = .ok (.goto (-34), 3) := by decide +kernel
theorem d_At_placeOfWanted_39 : decode c_At_placeOfWanted 39 = .ok (.aload_n 0, 1) := by decide +kernel
theorem d_At_placeOfWanted_40 : decode c_At_placeOfWanted 40 = .ok (.getfield 57, 3) := by decide +kernel
theorem d_At_placeOfWanted_43 : decode c_At_placeOfWanted 43 = .ok (.ifCond .lt 15, 3) := by decide +kernel
theorem d_At_placeOfWanted_46 : decode c_At_placeOfWanted 46 = .ok (.aload_n 0, 1) := by decide +kernel
theorem d_At_placeOfWanted_47 : decode c_At_placeOfWanted 47 = .ok (.getfield 57, 3) := by decide +kernel
theorem d_At_placeOfWanted_50 : decode c_At_placeOfWanted 50 = .ok (.aload_n 0, 1) := by decide +kernel
theorem d_At_placeOfWanted_51 : decode c_At_placeOfWanted 51 = .ok (.getfield 23, 3) := by decide +kernel
theorem d_At_placeOfWanted_54 : decode c_At_placeOfWanted 54 = .ok (.arraylength, 1) := by decide +kernel
theorem d_At_placeOfWanted_55 : decode c_At_placeOfWanted 55 = .ok (.if_icmp .lt 6, 3) := by decide +kernel
theorem d_At_placeOfWanted_58 : decode c_At_placeOfWanted 58 = .ok (.bipush (-3), 2) := by decide +kernel
theorem d_At_placeOfWanted_60 : decode c_At_placeOfWanted 60 = .ok (.ireturn, 1) := by decide +kernel
theorem d_At_placeOfWanted_61 : decode c_At_placeOfWanted 61 = .ok (.aload_n 0, 1) := by decide +kernel
theorem d_At_placeOfWanted_62 : decode c_At_placeOfWanted 62 = .ok (.getfield 57, 3) := by decide +kernel
theorem d_At_placeOfWanted_65 : decode c_At_placeOfWanted 65 = .ok (.istore_n 1, 1) := by decide +kernel
theorem d_At_placeOfWanted_66 : decode c_At_placeOfWanted 66 = .ok (.aload_n 0, 1) := by decide +kernel
theorem d_At_placeOfWanted_67 : decode c_At_placeOfWanted 67 = .ok (.getfield 23, 3) := by decide +kernel
theorem d_At_placeOfWanted_70 : decode c_At_placeOfWanted 70 = .ok (.iload_n 1, 1) := by decide +kernel
theorem d_At_placeOfWanted_71 : decode c_At_placeOfWanted 71 = .ok (.aload_n 0, 1) := by decide +kernel
theorem d_At_placeOfWanted_72 : decode c_At_placeOfWanted 72 = .ok (.getfield 36, 3) := by decide +kernel
theorem d_At_placeOfWanted_75 : decode c_At_placeOfWanted 75 = .ok (.invokevirtual 165, 3) := by decide +kernel
theorem d_At_placeOfWanted_78 : decode c_At_placeOfWanted 78 = .ok (.aastore, 1) := by decide +kernel
theorem d_At_placeOfWanted_79 : decode c_At_placeOfWanted 79 = .ok (.aload_n 0, 1) := by decide +kernel
theorem d_At_placeOfWanted_80 : decode c_At_placeOfWanted 80 = .ok (.iload_n 1, 1) := by decide +kernel
theorem d_At_placeOfWanted_81 : decode c_At_placeOfWanted 81 = .ok (.iconst 1, 1) := by decide +kernel
theorem d_At_placeOfWanted_82 : decode c_At_placeOfWanted 82 = .ok (.iadd, 1) := by decide +kernel
theorem d_At_placeOfWanted_83 : decode c_At_placeOfWanted 83 = .ok (.putfield 57, 3) := by decide +kernel
theorem d_At_placeOfWanted_86 : decode c_At_placeOfWanted 86 = .ok (.iload_n 1, 1) := by decide +kernel
theorem d_At_placeOfWanted_87 : decode c_At_placeOfWanted 87 = .ok (.ireturn, 1) := by decide +kernel
