theorem dPD_init_0 : decode cPD_init 0 = .ok (.aload_n 0, 1) := by decide +kernel
theorem dPD_init_1 : decode cPD_init 1 = .ok (.invokespecial 3, 3) := by decide +kernel
theorem dPD_init_4 : decode cPD_init 4 = .ok (.aload_n 0, 1) := by decide +kernel
theorem dPD_init_5 : decode cPD_init 5 = .ok (.bipush 12, 2) := by decide +kernel
theorem dPD_init_7 : decode cPD_init 7 = .ok (.newarray .int, 2) := by decide +kernel
theorem dPD_init_9 : decode cPD_init 9 = .ok (.putfield 9, 3) := by decide +kernel
theorem dPD_init_12 : decode cPD_init 12 = .ok (.aload_n 0, 1) := by decide +kernel
theorem dPD_init_13 : decode cPD_init 13 = .ok (.bipush 36, 2) := by decide +kernel
theorem dPD_init_15 : decode cPD_init 15 = .ok (.newarray .int, 2) := by decide +kernel
theorem dPD_init_17 : decode cPD_init 17 = .ok (.putfield 15, 3) := by decide +kernel
theorem dPD_init_20 : decode cPD_init 20 = .ok (.aload_n 0, 1) := by decide +kernel
theorem dPD_init_21 : decode cPD_init 21 = .ok (.bipush 12, 2) := by decide +kernel
theorem dPD_init_23 : decode cPD_init 23 = .ok (.newarray .int, 2) := by decide +kernel
theorem dPD_init_25 : decode cPD_init 25 = .ok (.putfield 18, 3) := by decide +kernel
theorem dPD_init_28 : decode cPD_init 28 = .ok (.aload_n 0, 1) := by decide +kernel
theorem dPD_init_29 : decode cPD_init 29 = .ok (.iconst 0, 1) := by decide +kernel
theorem dPD_init_30 : decode cPD_init 30 = .ok (.putfield 21, 3) := by decide +kernel
theorem dPD_init_33 : decode cPD_init 33 = .ok (.return_, 1) := by decide +kernel
theorem dPD_size_0 : decode cPD_size 0 = .ok (.aload_n 0, 1) := by decide +kernel
theorem dPD_size_1 : decode cPD_size 1 = .ok (.getfield 21, 3) := by decide +kernel
theorem dPD_size_4 : decode cPD_size 4 = .ok (.ireturn, 1) := by decide +kernel
theorem dPD_append_0 : decode cPD_append 0 = .ok (.aload_n 0, 1) := by decide +kernel
theorem dPD_append_1 : decode cPD_append 1 = .ok (.getfield 21, 3) := by decide +kernel
theorem dPD_append_4 : decode cPD_append 4 = .ok (.bipush 12, 2) := by decide +kernel
theorem dPD_append_6 : decode cPD_append 6 = .ok (.if_icmp .lt 4, 3) := by decide +kernel
theorem dPD_append_9 : decode cPD_append 9 = .ok (.return_, 1) := by decide +kernel
theorem dPD_append_10 : decode cPD_append 10 = .ok (.aload_n 0, 1) := by decide +kernel
theorem dPD_append_11 : decode cPD_append 11 = .ok (.getfield 21, 3) := by decide +kernel
theorem dPD_append_14 : decode cPD_append 14 = .ok (.iconst 3, 1) := by decide +kernel
theorem dPD_append_15 : decode cPD_append 15 = .ok (.imul, 1) := by decide +kernel
theorem dPD_append_16 : decode cPD_append 16 = .ok (.istore 6, 2) := by decide +kernel
theorem dPD_append_18 : decode cPD_append 18 = .ok (.aload_n 0, 1) := by decide +kernel
theorem dPD_append_19 : decode cPD_append 19 = .ok (.getfield 9, 3) := by decide +kernel
theorem dPD_append_22 : decode cPD_append 22 = .ok (.aload_n 0, 1) := by decide +kernel
theorem dPD_append_23 : decode cPD_append 23 = .ok (.getfield 21, 3) := by decide +kernel
theorem dPD_append_26 : decode cPD_append 26 = .ok (.iload_n 1, 1) := by decide +kernel
theorem dPD_append_27 : decode cPD_append 27 = .ok (.iastore, 1) := by decide +kernel
theorem dPD_append_28 : decode cPD_append 28 = .ok (.aload_n 0, 1) := by decide +kernel
theorem dPD_append_29 : decode cPD_append 29 = .ok (.getfield 15, 3) := by decide +kernel
theorem dPD_append_32 : decode cPD_append 32 = .ok (.iload 6, 2) := by decide +kernel
theorem dPD_append_34 : decode cPD_append 34 = .ok (.iload_n 2, 1) := by decide +kernel
theorem dPD_append_35 : decode cPD_append 35 = .ok (.iastore, 1) := by decide +kernel
theorem dPD_append_36 : decode cPD_append 36 = .ok (.aload_n 0, 1) := by decide +kernel
theorem dPD_append_37 : decode cPD_append 37 = .ok (.getfield 15, 3) := by decide +kernel
theorem dPD_append_40 : decode cPD_append 40 = .ok (.iload 6, 2) := by decide +kernel
theorem dPD_append_42 : decode cPD_append 42 = .ok (.iconst 1, 1) := by decide +kernel
theorem dPD_append_43 : decode cPD_append 43 = .ok (.iadd, 1) := by decide +kernel
theorem dPD_append_44 : decode cPD_append 44 = .ok (.iload_n 3, 1) := by decide +kernel
theorem dPD_append_45 : decode cPD_append 45 = .ok (.iastore, 1) := by decide +kernel
theorem dPD_append_46 : decode cPD_append 46 = .ok (.aload_n 0, 1) := by decide +kernel
theorem dPD_append_47 : decode cPD_append 47 = .ok (.getfield 15, 3) := by decide +kernel
theorem dPD_append_50 : decode cPD_append 50 = .ok (.iload 6, 2) := by decide +kernel
theorem dPD_append_52 : decode cPD_append 52 = .ok (.iconst 2, 1) := by decide +kernel
theorem dPD_append_53 : decode cPD_append 53 = .ok (.iadd, 1) := by decide +kernel
theorem dPD_append_54 : decode cPD_append 54 = .ok (.iload 4, 2) := by decide +kernel
theorem dPD_append_56 : decode cPD_append 56 = .ok (.iastore, 1) := by decide +kernel
theorem dPD_append_57 : decode cPD_append 57 = .ok (.aload_n 0, 1) := by decide +kernel
theorem dPD_append_58 : decode cPD_append 58 = .ok (.getfield 18, 3) := by decide +kernel
theorem dPD_append_61 : decode cPD_append 61 = .ok (.aload_n 0, 1) := by decide +kernel
theorem dPD_append_62 : decode cPD_append 62 = .ok (.getfield 21, 3) := by decide +kernel
theorem dPD_append_65 : decode cPD_append 65 = .ok (.iload 5, 2) := by decide +kernel
theorem dPD_append_67 : decode cPD_append 67 = .ok (.iastore, 1) := by decide +kernel
theorem dPD_append_68 : decode cPD_append 68 = .ok (.aload_n 0, 1) := by decide +kernel
theorem dPD_append_69 : decode cPD_append 69 = .ok (.dup, 1) := by decide +kernel
theorem dPD_append_70 : decode cPD_append 70 = .ok (.getfield 21, 3) := by decide +kernel
theorem dPD_append_73 : decode cPD_append 73 = .ok (.iconst 1, 1) := by decide +kernel
theorem dPD_append_74 : decode cPD_append 74 = .ok (.iadd, 1) := by decide +kernel
theorem dPD_append_75 : decode cPD_append 75 = .ok (.putfield 21, 3) := by decide +kernel
theorem dPD_append_78 : decode cPD_append 78 = .ok (.return_, 1) := by decide +kernel
theorem dPD_addTo_0 : decode cPD_addTo 0 = .ok (.iconst 0, 1) := by decide +kernel
theorem dPD_addTo_1 : decode cPD_addTo 1 = .ok (.istore_n 3, 1) := by decide +kernel
theorem dPD_addTo_2 : decode cPD_addTo 2 = .ok (.iload_n 3, 1) := by decide +kernel
theorem dPD_addTo_3 : decode cPD_addTo 3 = .ok (.aload_n 0, 1) := by decide +kernel
theorem dPD_addTo_4 : decode cPD_addTo 4 = .ok (.getfield 21, 3) := by decide +kernel
theorem dPD_addTo_7 : decode cPD_addTo 7 = .ok (.if_icmp .ge 60, 3) := by decide +kernel
theorem dPD_addTo_10 : decode cPD_addTo 10 = .ok (.aload_n 0, 1) := by decide +kernel
theorem dPD_addTo_11 : decode cPD_addTo 11 = .ok (.getfield 9, 3) := by decide +kernel
theorem dPD_addTo_14 : decode cPD_addTo 14 = .ok (.iload_n 3, 1) := by decide +kernel
theorem dPD_addTo_15 : decode cPD_addTo 15 = .ok (.iaload, 1) := by decide +kernel
theorem dPD_addTo_16 : decode cPD_addTo 16 = .ok (.iload_n 2, 1) := by decide +kernel
theorem dPD_addTo_17 : decode cPD_addTo 17 = .ok (.if_icmp .ne 44, 3) := by decide +kernel
theorem dPD_addTo_20 : decode cPD_addTo 20 = .ok (.iload_n 3, 1) := by decide +kernel
theorem dPD_addTo_21 : decode cPD_addTo 21 = .ok (.iconst 3, 1) := by decide +kernel
theorem dPD_addTo_22 : decode cPD_addTo 22 = .ok (.imul, 1) := by decide +kernel
theorem dPD_addTo_23 : decode cPD_addTo 23 = .ok (.istore 4, 2) := by decide +kernel
theorem dPD_addTo_25 : decode cPD_addTo 25 = .ok (.aload_n 1, 1) := by decide +kernel
theorem dPD_addTo_26 : decode cPD_addTo 26 = .ok (.aload_n 0, 1) := by decide +kernel
theorem dPD_addTo_27 : decode cPD_addTo 27 = .ok (.getfield 15, 3) := by decide +kernel
theorem dPD_addTo_30 : decode cPD_addTo 30 = .ok (.iload 4, 2) := by decide +kernel
theorem dPD_addTo_32 : decode cPD_addTo 32 = .ok (.iaload, 1) := by decide +kernel
theorem dPD_addTo_33 : decode cPD_addTo 33 = .ok (.aload_n 0, 1) := by decide +kernel
theorem dPD_addTo_34 : decode cPD_addTo 34 = .ok (.getfield 15, 3) := by decide +kernel
theorem dPD_addTo_37 : decode cPD_addTo 37 = .ok (.iload 4, 2) := by decide +kernel
theorem dPD_addTo_39 : decode cPD_addTo 39 = .ok (.iconst 1, 1) := by decide +kernel
theorem dPD_addTo_40 : decode cPD_addTo 40 = .ok (.iadd, 1) := by decide +kernel
theorem dPD_addTo_41 : decode cPD_addTo 41 = .ok (.iaload, 1) := by decide +kernel
theorem dPD_addTo_42 : decode cPD_addTo 42 = .ok (.aload_n 0, 1) := by decide +kernel
theorem dPD_addTo_43 : decode cPD_addTo 43 = .ok (.getfield 15, 3) := by decide +kernel
theorem dPD_addTo_46 : decode cPD_addTo 46 = .ok (.iload 4, 2) := by decide +kernel
theorem dPD_addTo_48 : decode cPD_addTo 48 = .ok (.iconst 2, 1) := by decide +kernel
theorem dPD_addTo_49 : decode cPD_addTo 49 = .ok (.iadd, 1) := by decide +kernel
theorem dPD_addTo_50 : decode cPD_addTo 50 = .ok (.iaload, 1) := by decide +kernel
theorem dPD_addTo_51 : decode cPD_addTo 51 = .ok (.aload_n 0, 1) := by decide +kernel
theorem dPD_addTo_52 : decode cPD_addTo 52 = .ok (.getfield 18, 3) := by decide +kernel
theorem dPD_addTo_55 : decode cPD_addTo 55 = .ok (.iload_n 3, 1) := by decide +kernel
theorem dPD_addTo_56 : decode cPD_addTo 56 = .ok (.iaload, 1) := by decide +kernel
theorem dPD_addTo_57 : decode cPD_addTo 57 = .ok (.i2l, 1) := by decide +kernel
theorem dPD_addTo_58 : decode cPD_addTo 58 = .ok (.invokevirtual 25, 3) := by decide +kernel
theorem dPD_addTo_61 : decode cPD_addTo 61 = .ok (.iinc 3 1, 3) := by decide +kernel
theorem dPD_addTo_64 : decode cPD_addTo 64 = .ok (.goto (-62), 3) := by decide +kernel
theorem dPD_addTo_67 : decode cPD_addTo 67 = .ok (.return_, 1) := by decide +kernel
theorem dPD_clear_0 : decode cPD_clear 0 = .ok (.aload_n 0, 1) := by decide +kernel
theorem dPD_clear_1 : decode cPD_clear 1 = .ok (.iconst 0, 1) := by decide +kernel
theorem dPD_clear_2 : decode cPD_clear 2 = .ok (.putfield 21, 3) := by decide +kernel
theorem dPD_clear_5 : decode cPD_clear 5 = .ok (.return_, 1) := by decide +kernel
theorem dTR_init_0 : decode cTR_init 0 = .ok (.aload_n 0, 1) := by decide +kernel
theorem dTR_init_1 : decode cTR_init 1 = .ok (.invokespecial 1, 3) := by decide +kernel
theorem dTR_init_4 : decode cTR_init 4 = .ok (.aload_n 0, 1) := by decide +kernel
theorem dTR_init_5 : decode cTR_init 5 = .ok (.iload_n 1, 1) := by decide +kernel
theorem dTR_init_6 : decode cTR_init 6 = .ok (.putfield 7, 3) := by decide +kernel
theorem dTR_init_9 : decode cTR_init 9 = .ok (.return_, 1) := by decide +kernel
theorem dTR_fill_0 : decode cTR_fill 0 = .ok (.aload_n 2, 1) := by decide +kernel
theorem dTR_fill_1 : decode cTR_fill 1 = .ok (.aload_n 1, 1) := by decide +kernel
theorem dTR_fill_2 : decode cTR_fill 2 = .ok (.aload_n 0, 1) := by decide +kernel
theorem dTR_fill_3 : decode cTR_fill 3 = .ok (.getfield 7, 3) := by decide +kernel
theorem dTR_fill_6 : decode cTR_fill 6 = .ok (.aaload, 1) := by decide +kernel
theorem dTR_fill_7 : decode cTR_fill 7 = .ok (.invokevirtual 13, 3) := by decide +kernel
theorem dTR_fill_10 : decode cTR_fill 10 = .ok (.return_, 1) := by decide +kernel
theorem dCR_fill_0 : decode cCR_fill 0 = .ok (.aload_n 2, 1) := by decide +kernel
theorem dCR_fill_1 : decode cCR_fill 1 = .ok (.aload_n 1, 1) := by decide +kernel
theorem dCR_fill_2 : decode cCR_fill 2 = .ok (.aload_n 0, 1) := by decide +kernel
theorem dCR_fill_3 : decode cCR_fill 3 = .ok (.getfield 7, 3) := by decide +kernel
theorem dCR_fill_6 : decode cCR_fill 6 = .ok (.aaload, 1) := by decide +kernel
theorem dCR_fill_7 : decode cCR_fill 7 = .ok (.invokevirtual 19, 3) := by decide +kernel
theorem dCR_fill_10 : decode cCR_fill 10 = .ok (.aload_n 1, 1) := by decide +kernel
theorem dCR_fill_11 : decode cCR_fill 11 = .ok (.aload_n 0, 1) := by decide +kernel
theorem dCR_fill_12 : decode cCR_fill 12 = .ok (.getfield 13, 3) := by decide +kernel
theorem dCR_fill_15 : decode cCR_fill 15 = .ok (.aaload, 1) := by decide +kernel
theorem dCR_fill_16 : decode cCR_fill 16 = .ok (.astore_n 3, 1) := by decide +kernel
theorem dCR_fill_17 : decode cCR_fill 17 = .ok (.aload_n 0, 1) := by decide +kernel
theorem dCR_fill_18 : decode cCR_fill 18 = .ok (.getfield 16, 3) := by decide +kernel
theorem dCR_fill_21 : decode cCR_fill 21 = .ok (.ifCond .ne 7, 3) := by decide +kernel
theorem dCR_fill_24 : decode cCR_fill 24 = .ok (.lconst 1, 1) := by decide +kernel
theorem dCR_fill_25 : decode cCR_fill 25 = .ok (.goto 6, 3) := by decide +kernel
theorem dCR_fill_28 : decode cCR_fill 28 = .ok (.ldc2_w 25, 3) := by decide +kernel
theorem dCR_fill_31 : decode cCR_fill 31 = .ok (.lstore 4, 2) := by decide +kernel
theorem dCR_fill_33 : decode cCR_fill 33 = .ok (.iconst 0, 1) := by decide +kernel
theorem dCR_fill_34 : decode cCR_fill 34 = .ok (.istore 6, 2) := by decide +kernel
theorem dCR_fill_36 : decode cCR_fill 36 = .ok (.iload 6, 2) := by decide +kernel
theorem dCR_fill_38 : decode cCR_fill 38 = .ok (.aload_n 3, 1) := by decide +kernel
theorem dCR_fill_39 : decode cCR_fill 39 = .ok (.invokevirtual 27, 3) := by decide +kernel
theorem dCR_fill_42 : decode cCR_fill 42 = .ok (.if_icmp .ge 25, 3) := by decide +kernel
theorem dCR_fill_45 : decode cCR_fill 45 = .ok (.aload_n 2, 1) := by decide +kernel
theorem dCR_fill_46 : decode cCR_fill 46 = .ok (.aload_n 3, 1) := by decide +kernel
theorem dCR_fill_47 : decode cCR_fill 47 = .ok (.iload 6, 2) := by decide +kernel
theorem dCR_fill_49 : decode cCR_fill 49 = .ok (.lload 4, 2) := by decide +kernel
theorem dCR_fill_51 : decode cCR_fill 51 = .ok (.aload_n 3, 1) := by decide +kernel
theorem dCR_fill_52 : decode cCR_fill 52 = .ok (.iload 6, 2) := by decide +kernel
theorem dCR_fill_54 : decode cCR_fill 54 = .ok (.invokevirtual 31, 3) := by decide +kernel
theorem dCR_fill_57 : decode cCR_fill 57 = .ok (.lmul, 1) := by decide +kernel
theorem dCR_fill_58 : decode cCR_fill 58 = .ok (.invokevirtual 35, 3) := by decide +kernel
theorem dCR_fill_61 : decode cCR_fill 61 = .ok (.iinc 6 1, 3) := by decide +kernel
theorem dCR_fill_64 : decode cCR_fill 64 = .ok (.goto (-28), 3) := by decide +kernel
theorem dCR_fill_67 : decode cCR_fill 67 = .ok (.return_, 1) := by decide +kernel
theorem dCR_init_0 : decode cCR_init 0 = .ok (.aload_n 0, 1) := by decide +kernel
theorem dCR_init_1 : decode cCR_init 1 = .ok (.invokespecial 1, 3) := by decide +kernel
theorem dCR_init_4 : decode cCR_init 4 = .ok (.aload_n 0, 1) := by decide +kernel
theorem dCR_init_5 : decode cCR_init 5 = .ok (.iload_n 1, 1) := by decide +kernel
theorem dCR_init_6 : decode cCR_init 6 = .ok (.putfield 7, 3) := by decide +kernel
theorem dCR_init_9 : decode cCR_init 9 = .ok (.aload_n 0, 1) := by decide +kernel
theorem dCR_init_10 : decode cCR_init 10 = .ok (.iload_n 2, 1) := by decide +kernel
theorem dCR_init_11 : decode cCR_init 11 = .ok (.putfield 13, 3) := by decide +kernel
theorem dCR_init_14 : decode cCR_init 14 = .ok (.aload_n 0, 1) := by decide +kernel
theorem dCR_init_15 : decode cCR_init 15 = .ok (.iload_n 3, 1) := by decide +kernel
theorem dCR_init_16 : decode cCR_init 16 = .ok (.putfield 16, 3) := by decide +kernel
theorem dCR_init_19 : decode cCR_init 19 = .ok (.return_, 1) := by decide +kernel
theorem dDR_fill_0 : decode cDR_fill 0 = .ok (.aload_n 1, 1) := by decide +kernel
theorem dDR_fill_1 : decode cDR_fill 1 = .ok (.aload_n 0, 1) := by decide +kernel
theorem dDR_fill_2 : decode cDR_fill 2 = .ok (.getfield 7, 3) := by decide +kernel
theorem dDR_fill_5 : decode cDR_fill 5 = .ok (.aaload, 1) := by decide +kernel
theorem dDR_fill_6 : decode cDR_fill 6 = .ok (.astore_n 3, 1) := by decide +kernel
theorem dDR_fill_7 : decode cDR_fill 7 = .ok (.iconst 0, 1) := by decide +kernel
theorem dDR_fill_8 : decode cDR_fill 8 = .ok (.istore 4, 2) := by decide +kernel
theorem dDR_fill_10 : decode cDR_fill 10 = .ok (.iload 4, 2) := by decide +kernel
theorem dDR_fill_12 : decode cDR_fill 12 = .ok (.aload_n 3, 1) := by decide +kernel
theorem dDR_fill_13 : decode cDR_fill 13 = .ok (.invokevirtual 13, 3) := by decide +kernel
theorem dDR_fill_16 : decode cDR_fill 16 = .ok (.if_icmp .ge 28, 3) := by decide +kernel
theorem dDR_fill_19 : decode cDR_fill 19 = .ok (.aload_n 3, 1) := by decide +kernel
theorem dDR_fill_20 : decode cDR_fill 20 = .ok (.iload 4, 2) := by decide +kernel
theorem dDR_fill_22 : decode cDR_fill 22 = .ok (.invokevirtual 19, 3) := by decide +kernel
theorem dDR_fill_25 : decode cDR_fill 25 = .ok (.lconst 0, 1) := by decide +kernel
theorem dDR_fill_26 : decode cDR_fill 26 = .ok (.lcmp, 1) := by decide +kernel
theorem dDR_fill_27 : decode cDR_fill 27 = .ok (.ifCond .le 11, 3) := by decide +kernel
theorem dDR_fill_30 : decode cDR_fill 30 = .ok (.aload_n 2, 1) := by decide +kernel
theorem dDR_fill_31 : decode cDR_fill 31 = .ok (.aload_n 3, 1) := by decide +kernel
theorem dDR_fill_32 : decode cDR_fill 32 = .ok (.iload 4, 2) := by decide +kernel
theorem dDR_fill_34 : decode cDR_fill 34 = .ok (.lconst 1, 1) := by decide +kernel
theorem dDR_fill_35 : decode cDR_fill 35 = .ok (.invokevirtual 23, 3) := by decide +kernel
theorem dDR_fill_38 : decode cDR_fill 38 = .ok (.iinc 4 1, 3) := by decide +kernel
theorem dDR_fill_41 : decode cDR_fill 41 = .ok (.goto (-31), 3) := by decide +kernel
theorem dDR_fill_44 : decode cDR_fill 44 = .ok (.return_, 1) := by decide +kernel
theorem dDR_init_0 : decode cDR_init 0 = .ok (.aload_n 0, 1) := by decide +kernel
theorem dDR_init_1 : decode cDR_init 1 = .ok (.invokespecial 1, 3) := by decide +kernel
theorem dDR_init_4 : decode cDR_init 4 = .ok (.aload_n 0, 1) := by decide +kernel
theorem dDR_init_5 : decode cDR_init 5 = .ok (.iload_n 1, 1) := by decide +kernel
theorem dDR_init_6 : decode cDR_init 6 = .ok (.putfield 7, 3) := by decide +kernel
theorem dDR_init_9 : decode cDR_init 9 = .ok (.return_, 1) := by decide +kernel
theorem dFR_fill_0 : decode cFR_fill 0 = .ok (.aload_n 1, 1) := by decide +kernel
theorem dFR_fill_1 : decode cFR_fill 1 = .ok (.aload_n 0, 1) := by decide +kernel
theorem dFR_fill_2 : decode cFR_fill 2 = .ok (.getfield 7, 3) := by decide +kernel
theorem dFR_fill_5 : decode cFR_fill 5 = .ok (.aaload, 1) := by decide +kernel
theorem dFR_fill_6 : decode cFR_fill 6 = .ok (.astore_n 3, 1) := by decide +kernel
theorem dFR_fill_7 : decode cFR_fill 7 = .ok (.iconst 0, 1) := by decide +kernel
theorem dFR_fill_8 : decode cFR_fill 8 = .ok (.istore 4, 2) := by decide +kernel
theorem dFR_fill_10 : decode cFR_fill 10 = .ok (.iload 4, 2) := by decide +kernel
theorem dFR_fill_12 : decode cFR_fill 12 = .ok (.aload_n 3, 1) := by decide +kernel
theorem dFR_fill_13 : decode cFR_fill 13 = .ok (.invokevirtual 22, 3) := by decide +kernel
theorem dFR_fill_16 : decode cFR_fill 16 = .ok (.if_icmp .ge 39, 3) := by decide +kernel
theorem dFR_fill_19 : decode cFR_fill 19 = .ok (.aload_n 0, 1) := by decide +kernel
theorem dFR_fill_20 : decode cFR_fill 20 = .ok (.aload_n 3, 1) := by decide +kernel
theorem dFR_fill_21 : decode cFR_fill 21 = .ok (.iload 4, 2) := by decide +kernel
theorem dFR_fill_23 : decode cFR_fill 23 = .ok (.aload_n 0, 1) := by decide +kernel
theorem dFR_fill_24 : decode cFR_fill 24 = .ok (.getfield 13, 3) := by decide +kernel
theorem dFR_fill_27 : decode cFR_fill 27 = .ok (.invokevirtual 28, 3) := by decide +kernel
theorem dFR_fill_30 : decode cFR_fill 30 = .ok (.invokevirtual 32, 3) := by decide +kernel
theorem dFR_fill_33 : decode cFR_fill 33 = .ok (.ifCond .eq 16, 3) := by decide +kernel
theorem dFR_fill_36 : decode cFR_fill 36 = .ok (.aload_n 2, 1) := by decide +kernel
theorem dFR_fill_37 : decode cFR_fill 37 = .ok (.aload_n 3, 1) := by decide +kernel
theorem dFR_fill_38 : decode cFR_fill 38 = .ok (.iload 4, 2) := by decide +kernel
theorem dFR_fill_40 : decode cFR_fill 40 = .ok (.aload_n 3, 1) := by decide +kernel
theorem dFR_fill_41 : decode cFR_fill 41 = .ok (.iload 4, 2) := by decide +kernel
theorem dFR_fill_43 : decode cFR_fill 43 = .ok (.invokevirtual 36, 3) := by decide +kernel
theorem dFR_fill_46 : decode cFR_fill 46 = .ok (.invokevirtual 40, 3) := by decide +kernel
theorem dFR_fill_49 : decode cFR_fill 49 = .ok (.iinc 4 1, 3) := by decide +kernel
theorem dFR_fill_52 : decode cFR_fill 52 = .ok (.goto (-42), 3) := by decide +kernel
theorem dFR_fill_55 : decode cFR_fill 55 = .ok (.return_, 1) := by decide +kernel
theorem dFR_lets_0 : decode cFR_lets 0 = .ok (.aload_n 0, 1) := by decide +kernel
theorem dFR_lets_1 : decode cFR_lets 1 = .ok (.getfield 16, 3) := by decide +kernel
theorem dFR_lets_4 : decode cFR_lets 4 = .ok (.tableswitch 70 0 2 #[28, 42, 56], 28) := by decide +kernel
theorem dFR_lets_32 : decode cFR_lets 32 = .ok (.iload_n 1, 1) := by decide +kernel
theorem dFR_lets_33 : decode cFR_lets 33 = .ok (.aload_n 0, 1) := by decide +kernel
theorem dFR_lets_34 : decode cFR_lets 34 = .ok (.getfield 19, 3) := by decide +kernel
theorem dFR_lets_37 : decode cFR_lets 37 = .ok (.if_icmp .ne 7, 3) := by decide +kernel
theorem dFR_lets_40 : decode cFR_lets 40 = .ok (.iconst 1, 1) := by decide +kernel
theorem dFR_lets_41 : decode cFR_lets 41 = .ok (.goto 4, 3) := by decide +kernel
theorem dFR_lets_44 : decode cFR_lets 44 = .ok (.iconst 0, 1) := by decide +kernel
theorem dFR_lets_45 : decode cFR_lets 45 = .ok (.ireturn, 1) := by decide +kernel
theorem dFR_lets_46 : decode cFR_lets 46 = .ok (.iload_n 1, 1) := by decide +kernel
theorem dFR_lets_47 : decode cFR_lets 47 = .ok (.aload_n 0, 1) := by decide +kernel
theorem dFR_lets_48 : decode cFR_lets 48 = .ok (.getfield 19, 3) := by decide +kernel
theorem dFR_lets_51 : decode cFR_lets 51 = .ok (.if_icmp .ge 7, 3) := by decide +kernel
theorem dFR_lets_54 : decode cFR_lets 54 = .ok (.iconst 1, 1) := by decide +kernel
theorem dFR_lets_55 : decode cFR_lets 55 = .ok (.goto 4, 3) := by decide +kernel
theorem dFR_lets_58 : decode cFR_lets 58 = .ok (.iconst 0, 1) := by decide +kernel
theorem dFR_lets_59 : decode cFR_lets 59 = .ok (.ireturn, 1) := by decide +kernel
theorem dFR_lets_60 : decode cFR_lets 60 = .ok (.iload_n 1, 1) := by decide +kernel
theorem dFR_lets_61 : decode cFR_lets 61 = .ok (.aload_n 0, 1) := by decide +kernel
theorem dFR_lets_62 : decode cFR_lets 62 = .ok (.getfield 19, 3) := by decide +kernel
theorem dFR_lets_65 : decode cFR_lets 65 = .ok (.if_icmp .le 7, 3) := by decide +kernel
theorem dFR_lets_68 : decode cFR_lets 68 = .ok (.iconst 1, 1) := by decide +kernel
theorem dFR_lets_69 : decode cFR_lets 69 = .ok (.goto 4, 3) := by decide +kernel
theorem dFR_lets_72 : decode cFR_lets 72 = .ok (.iconst 0, 1) := by decide +kernel
theorem dFR_lets_73 : decode cFR_lets 73 = .ok (.ireturn, 1) := by decide +kernel
theorem dFR_lets_74 : decode cFR_lets 74 = .ok (.iload_n 1, 1) := by decide +kernel
theorem dFR_lets_75 : decode cFR_lets 75 = .ok (.aload_n 0, 1) := by decide +kernel
theorem dFR_lets_76 : decode cFR_lets 76 = .ok (.getfield 19, 3) := by decide +kernel
theorem dFR_lets_79 : decode cFR_lets 79 = .ok (.if_icmp .eq 7, 3) := by decide +kernel
theorem dFR_lets_82 : decode cFR_lets 82 = .ok (.iconst 1, 1) := by decide +kernel
theorem dFR_lets_83 : decode cFR_lets 83 = .ok (.goto 4, 3) := by decide +kernel
theorem dFR_lets_86 : decode cFR_lets 86 = .ok (.iconst 0, 1) := by decide +kernel
theorem dFR_lets_87 : decode cFR_lets 87 = .ok (.ireturn, 1) := by decide +kernel
theorem dFR_init_0 : decode cFR_init 0 = .ok (.aload_n 0, 1) := by decide +kernel
theorem dFR_init_1 : decode cFR_init 1 = .ok (.invokespecial 1, 3) := by decide +kernel
theorem dFR_init_4 : decode cFR_init 4 = .ok (.aload_n 0, 1) := by decide +kernel
theorem dFR_init_5 : decode cFR_init 5 = .ok (.iload_n 1, 1) := by decide +kernel
theorem dFR_init_6 : decode cFR_init 6 = .ok (.putfield 7, 3) := by decide +kernel
theorem dFR_init_9 : decode cFR_init 9 = .ok (.aload_n 0, 1) := by decide +kernel
theorem dFR_init_10 : decode cFR_init 10 = .ok (.iload_n 2, 1) := by decide +kernel
theorem dFR_init_11 : decode cFR_init 11 = .ok (.putfield 13, 3) := by decide +kernel
theorem dFR_init_14 : decode cFR_init 14 = .ok (.aload_n 0, 1) := by decide +kernel
theorem dFR_init_15 : decode cFR_init 15 = .ok (.iload_n 3, 1) := by decide +kernel
theorem dFR_init_16 : decode cFR_init 16 = .ok (.putfield 16, 3) := by decide +kernel
theorem dFR_init_19 : decode cFR_init 19 = .ok (.aload_n 0, 1) := by decide +kernel
theorem dFR_init_20 : decode cFR_init 20 = .ok (.iload 4, 2) := by decide +kernel
theorem dFR_init_22 : decode cFR_init 22 = .ok (.putfield 19, 3) := by decide +kernel
theorem dFR_init_25 : decode cFR_init 25 = .ok (.return_, 1) := by decide +kernel
theorem dMR_fill_0 : decode cMR_fill 0 = .ok (.aload_n 1, 1) := by decide +kernel
theorem dMR_fill_1 : decode cMR_fill 1 = .ok (.aload_n 0, 1) := by decide +kernel
theorem dMR_fill_2 : decode cMR_fill 2 = .ok (.getfield 7, 3) := by decide +kernel
theorem dMR_fill_5 : decode cMR_fill 5 = .ok (.aaload, 1) := by decide +kernel
theorem dMR_fill_6 : decode cMR_fill 6 = .ok (.astore_n 3, 1) := by decide +kernel
theorem dMR_fill_7 : decode cMR_fill 7 = .ok (.iconst 0, 1) := by decide +kernel
theorem dMR_fill_8 : decode cMR_fill 8 = .ok (.istore 4, 2) := by decide +kernel
theorem dMR_fill_10 : decode cMR_fill 10 = .ok (.iload 4, 2) := by decide +kernel
theorem dMR_fill_12 : decode cMR_fill 12 = .ok (.aload_n 3, 1) := by decide +kernel
theorem dMR_fill_13 : decode cMR_fill 13 = .ok (.invokevirtual 22, 3) := by decide +kernel
theorem dMR_fill_16 : decode cMR_fill 16 = .ok (.if_icmp .ge 49, 3) := by decide +kernel
theorem dMR_fill_19 : decode cMR_fill 19 = .ok (.aload_n 2, 1) := by decide +kernel
theorem dMR_fill_20 : decode cMR_fill 20 = .ok (.aload_n 3, 1) := by decide +kernel
theorem dMR_fill_21 : decode cMR_fill 21 = .ok (.iload 4, 2) := by decide +kernel
theorem dMR_fill_23 : decode cMR_fill 23 = .ok (.aload_n 0, 1) := by decide +kernel
theorem dMR_fill_24 : decode cMR_fill 24 = .ok (.getfield 13, 3) := by decide +kernel
theorem dMR_fill_27 : decode cMR_fill 27 = .ok (.invokestatic 28, 3) := by decide +kernel
theorem dMR_fill_30 : decode cMR_fill 30 = .ok (.aload_n 3, 1) := by decide +kernel
theorem dMR_fill_31 : decode cMR_fill 31 = .ok (.iload 4, 2) := by decide +kernel
theorem dMR_fill_33 : decode cMR_fill 33 = .ok (.aload_n 0, 1) := by decide +kernel
theorem dMR_fill_34 : decode cMR_fill 34 = .ok (.getfield 16, 3) := by decide +kernel
theorem dMR_fill_37 : decode cMR_fill 37 = .ok (.invokestatic 28, 3) := by decide +kernel
theorem dMR_fill_40 : decode cMR_fill 40 = .ok (.aload_n 3, 1) := by decide +kernel
theorem dMR_fill_41 : decode cMR_fill 41 = .ok (.iload 4, 2) := by decide +kernel
theorem dMR_fill_43 : decode cMR_fill 43 = .ok (.aload_n 0, 1) := by decide +kernel
theorem dMR_fill_44 : decode cMR_fill 44 = .ok (.getfield 19, 3) := by decide +kernel
theorem dMR_fill_47 : decode cMR_fill 47 = .ok (.invokestatic 28, 3) := by decide +kernel
theorem dMR_fill_50 : decode cMR_fill 50 = .ok (.aload_n 3, 1) := by decide +kernel
theorem dMR_fill_51 : decode cMR_fill 51 = .ok (.iload 4, 2) := by decide +kernel
theorem dMR_fill_53 : decode cMR_fill 53 = .ok (.invokevirtual 32, 3) := by decide +kernel
theorem dMR_fill_56 : decode cMR_fill 56 = .ok (.invokevirtual 36, 3) := by decide +kernel
theorem dMR_fill_59 : decode cMR_fill 59 = .ok (.iinc 4 1, 3) := by decide +kernel
theorem dMR_fill_62 : decode cMR_fill 62 = .ok (.goto (-52), 3) := by decide +kernel
theorem dMR_fill_65 : decode cMR_fill 65 = .ok (.return_, 1) := by decide +kernel
theorem dMR_coded_0 : decode cMR_coded 0 = .ok (.iload_n 2, 1) := by decide +kernel
theorem dMR_coded_1 : decode cMR_coded 1 = .ok (.tableswitch 57 3 5 #[27, 29, 43], 27) := by decide +kernel
theorem dMR_coded_28 : decode cMR_coded 28 = .ok (.iconst 0, 1) := by decide +kernel
theorem dMR_coded_29 : decode cMR_coded 29 = .ok (.ireturn, 1) := by decide +kernel
theorem dMR_coded_30 : decode cMR_coded 30 = .ok (.aload_n 0, 1) := by decide +kernel
theorem dMR_coded_31 : decode cMR_coded 31 = .ok (.iload_n 1, 1) := by decide +kernel
theorem dMR_coded_32 : decode cMR_coded 32 = .ok (.iconst 0, 1) := by decide +kernel
theorem dMR_coded_33 : decode cMR_coded 33 = .ok (.invokevirtual 40, 3) := by decide +kernel
theorem dMR_coded_36 : decode cMR_coded 36 = .ok (.aload_n 0, 1) := by decide +kernel
theorem dMR_coded_37 : decode cMR_coded 37 = .ok (.iload_n 1, 1) := by decide +kernel
theorem dMR_coded_38 : decode cMR_coded 38 = .ok (.iconst 1, 1) := by decide +kernel
theorem dMR_coded_39 : decode cMR_coded 39 = .ok (.invokevirtual 40, 3) := by decide +kernel
theorem dMR_coded_42 : decode cMR_coded 42 = .ok (.iadd, 1) := by decide +kernel
theorem dMR_coded_43 : decode cMR_coded 43 = .ok (.ireturn, 1) := by decide +kernel
theorem dMR_coded_44 : decode cMR_coded 44 = .ok (.aload_n 0, 1) := by decide +kernel
theorem dMR_coded_45 : decode cMR_coded 45 = .ok (.iload_n 1, 1) := by decide +kernel
theorem dMR_coded_46 : decode cMR_coded 46 = .ok (.iconst 0, 1) := by decide +kernel
theorem dMR_coded_47 : decode cMR_coded 47 = .ok (.invokevirtual 40, 3) := by decide +kernel
theorem dMR_coded_50 : decode cMR_coded 50 = .ok (.aload_n 0, 1) := by decide +kernel
theorem dMR_coded_51 : decode cMR_coded 51 = .ok (.iload_n 1, 1) := by decide +kernel
theorem dMR_coded_52 : decode cMR_coded 52 = .ok (.iconst 1, 1) := by decide +kernel
theorem dMR_coded_53 : decode cMR_coded 53 = .ok (.invokevirtual 40, 3) := by decide +kernel
theorem dMR_coded_56 : decode cMR_coded 56 = .ok (.isub, 1) := by decide +kernel
theorem dMR_coded_57 : decode cMR_coded 57 = .ok (.ireturn, 1) := by decide +kernel
theorem dMR_coded_58 : decode cMR_coded 58 = .ok (.aload_n 0, 1) := by decide +kernel
theorem dMR_coded_59 : decode cMR_coded 59 = .ok (.iload_n 1, 1) := by decide +kernel
theorem dMR_coded_60 : decode cMR_coded 60 = .ok (.iload_n 2, 1) := by decide +kernel
theorem dMR_coded_61 : decode cMR_coded 61 = .ok (.invokevirtual 40, 3) := by decide +kernel
theorem dMR_coded_64 : decode cMR_coded 64 = .ok (.ireturn, 1) := by decide +kernel
theorem dMR_init_0 : decode cMR_init 0 = .ok (.aload_n 0, 1) := by decide +kernel
theorem dMR_init_1 : decode cMR_init 1 = .ok (.invokespecial 1, 3) := by decide +kernel
theorem dMR_init_4 : decode cMR_init 4 = .ok (.aload_n 0, 1) := by decide +kernel
theorem dMR_init_5 : decode cMR_init 5 = .ok (.iload_n 1, 1) := by decide +kernel
theorem dMR_init_6 : decode cMR_init 6 = .ok (.putfield 7, 3) := by decide +kernel
theorem dMR_init_9 : decode cMR_init 9 = .ok (.aload_n 0, 1) := by decide +kernel
theorem dMR_init_10 : decode cMR_init 10 = .ok (.iload_n 2, 1) := by decide +kernel
theorem dMR_init_11 : decode cMR_init 11 = .ok (.putfield 13, 3) := by decide +kernel
theorem dMR_init_14 : decode cMR_init 14 = .ok (.aload_n 0, 1) := by decide +kernel
theorem dMR_init_15 : decode cMR_init 15 = .ok (.iload_n 3, 1) := by decide +kernel
theorem dMR_init_16 : decode cMR_init 16 = .ok (.putfield 16, 3) := by decide +kernel
theorem dMR_init_19 : decode cMR_init 19 = .ok (.aload_n 0, 1) := by decide +kernel
theorem dMR_init_20 : decode cMR_init 20 = .ok (.iload 4, 2) := by decide +kernel
theorem dMR_init_22 : decode cMR_init 22 = .ok (.putfield 19, 3) := by decide +kernel
theorem dMR_init_25 : decode cMR_init 25 = .ok (.return_, 1) := by decide +kernel
theorem dRC_init_0 : decode cRC_init 0 = .ok (.aload_n 0, 1) := by decide +kernel
theorem dRC_init_1 : decode cRC_init 1 = .ok (.invokespecial 1, 3) := by decide +kernel
theorem dRC_init_4 : decode cRC_init 4 = .ok (.return_, 1) := by decide +kernel
