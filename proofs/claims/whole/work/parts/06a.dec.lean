theorem dRW_init_0 : decode cRW_init 0 = .ok (.aload_n 0, 1) := by decide +kernel
theorem dRW_init_1 : decode cRW_init 1 = .ok (.invokespecial 3, 3) := by decide +kernel
theorem dRW_init_4 : decode cRW_init 4 = .ok (.aload_n 0, 1) := by decide +kernel
theorem dRW_init_5 : decode cRW_init 5 = .ok (.iload_n 1, 1) := by decide +kernel
theorem dRW_init_6 : decode cRW_init 6 = .ok (.iconst 3, 1) := by decide +kernel
theorem dRW_init_7 : decode cRW_init 7 = .ok (.imul, 1) := by decide +kernel
theorem dRW_init_8 : decode cRW_init 8 = .ok (.newarray .int, 2) := by decide +kernel
theorem dRW_init_10 : decode cRW_init 10 = .ok (.putfield 9, 3) := by decide +kernel
theorem dRW_init_13 : decode cRW_init 13 = .ok (.aload_n 0, 1) := by decide +kernel
theorem dRW_init_14 : decode cRW_init 14 = .ok (.iload_n 1, 1) := by decide +kernel
theorem dRW_init_15 : decode cRW_init 15 = .ok (.newarray .long, 2) := by decide +kernel
theorem dRW_init_17 : decode cRW_init 17 = .ok (.putfield 15, 3) := by decide +kernel
theorem dRW_init_20 : decode cRW_init 20 = .ok (.aload_n 0, 1) := by decide +kernel
theorem dRW_init_21 : decode cRW_init 21 = .ok (.iconst 0, 1) := by decide +kernel
theorem dRW_init_22 : decode cRW_init 22 = .ok (.putfield 19, 3) := by decide +kernel
theorem dRW_init_25 : decode cRW_init 25 = .ok (.return_, 1) := by decide +kernel
theorem dRW_clear_0 : decode cRW_clear 0 = .ok (.aload_n 0, 1) := by decide +kernel
theorem dRW_clear_1 : decode cRW_clear 1 = .ok (.iconst 0, 1) := by decide +kernel
theorem dRW_clear_2 : decode cRW_clear 2 = .ok (.putfield 19, 3) := by decide +kernel
theorem dRW_clear_5 : decode cRW_clear 5 = .ok (.return_, 1) := by decide +kernel
theorem dRW_copyFrom_0 : decode cRW_copyFrom 0 = .ok (.aload_n 0, 1) := by decide +kernel
theorem dRW_copyFrom_1 : decode cRW_copyFrom 1 = .ok (.aload_n 1, 1) := by decide +kernel
theorem dRW_copyFrom_2 : decode cRW_copyFrom 2 = .ok (.getfield 19, 3) := by decide +kernel
theorem dRW_copyFrom_5 : decode cRW_copyFrom 5 = .ok (.aload_n 0, 1) := by decide +kernel
theorem dRW_copyFrom_6 : decode cRW_copyFrom 6 = .ok (.getfield 15, 3) := by decide +kernel
theorem dRW_copyFrom_9 : decode cRW_copyFrom 9 = .ok (.arraylength, 1) := by decide +kernel
theorem dRW_copyFrom_10 : decode cRW_copyFrom 10 = .ok (.invokestatic 43, 3) := by decide +kernel
theorem dRW_copyFrom_13 : decode cRW_copyFrom 13 = .ok (.putfield 19, 3) := by decide +kernel
theorem dRW_copyFrom_16 : decode cRW_copyFrom 16 = .ok (.aload_n 1, 1) := by decide +kernel
theorem dRW_copyFrom_17 : decode cRW_copyFrom 17 = .ok (.getfield 9, 3) := by decide +kernel
theorem dRW_copyFrom_20 : decode cRW_copyFrom 20 = .ok (.iconst 0, 1) := by decide +kernel
theorem dRW_copyFrom_21 : decode cRW_copyFrom 21 = .ok (.aload_n 0, 1) := by decide +kernel
theorem dRW_copyFrom_22 : decode cRW_copyFrom 22 = .ok (.getfield 9, 3) := by decide +kernel
theorem dRW_copyFrom_25 : decode cRW_copyFrom 25 = .ok (.iconst 0, 1) := by decide +kernel
theorem dRW_copyFrom_26 : decode cRW_copyFrom 26 = .ok (.aload_n 0, 1) := by decide +kernel
theorem dRW_copyFrom_27 : decode cRW_copyFrom 27 = .ok (.getfield 19, 3) := by decide +kernel
theorem dRW_copyFrom_30 : decode cRW_copyFrom 30 = .ok (.iconst 3, 1) := by decide +kernel
theorem dRW_copyFrom_31 : decode cRW_copyFrom 31 = .ok (.imul, 1) := by decide +kernel
theorem dRW_copyFrom_32 : decode cRW_copyFrom 32 = .ok (.invokestatic 48, 3) := by decide +kernel
theorem dRW_copyFrom_35 : decode cRW_copyFrom 35 = .ok (.aload_n 1, 1) := by decide +kernel
theorem dRW_copyFrom_36 : decode cRW_copyFrom 36 = .ok (.getfield 15, 3) := by decide +kernel
theorem dRW_copyFrom_39 : decode cRW_copyFrom 39 = .ok (.iconst 0, 1) := by decide +kernel
theorem dRW_copyFrom_40 : decode cRW_copyFrom 40 = .ok (.aload_n 0, 1) := by decide +kernel
theorem dRW_copyFrom_41 : decode cRW_copyFrom 41 = .ok (.getfield 15, 3) := by decide +kernel
theorem dRW_copyFrom_44 : decode cRW_copyFrom 44 = .ok (.iconst 0, 1) := by decide +kernel
theorem dRW_copyFrom_45 : decode cRW_copyFrom 45 = .ok (.aload_n 0, 1) := by decide +kernel
theorem dRW_copyFrom_46 : decode cRW_copyFrom 46 = .ok (.getfield 19, 3) := by decide +kernel
theorem dRW_copyFrom_49 : decode cRW_copyFrom 49 = .ok (.invokestatic 48, 3) := by decide +kernel
theorem dRW_copyFrom_52 : decode cRW_copyFrom 52 = .ok (.return_, 1) := by decide +kernel
theorem dRW_size_0 : decode cRW_size 0 = .ok (.aload_n 0, 1) := by decide +kernel
theorem dRW_size_1 : decode cRW_size 1 = .ok (.getfield 19, 3) := by decide +kernel
theorem dRW_size_4 : decode cRW_size 4 = .ok (.ireturn, 1) := by decide +kernel
theorem dRW_weightAt_0 : decode cRW_weightAt 0 = .ok (.aload_n 0, 1) := by decide +kernel
theorem dRW_weightAt_1 : decode cRW_weightAt 1 = .ok (.getfield 15, 3) := by decide +kernel
theorem dRW_weightAt_4 : decode cRW_weightAt 4 = .ok (.iload_n 1, 1) := by decide +kernel
theorem dRW_weightAt_5 : decode cRW_weightAt 5 = .ok (.laload, 1) := by decide +kernel
theorem dRW_weightAt_6 : decode cRW_weightAt 6 = .ok (.lreturn, 1) := by decide +kernel
theorem dRW_addRow_0 : decode cRW_addRow 0 = .ok (.aload_n 0, 1) := by decide +kernel
theorem dRW_addRow_1 : decode cRW_addRow 1 = .ok (.aload_n 1, 1) := by decide +kernel
theorem dRW_addRow_2 : decode cRW_addRow 2 = .ok (.iload_n 2, 1) := by decide +kernel
theorem dRW_addRow_3 : decode cRW_addRow 3 = .ok (.iconst 0, 1) := by decide +kernel
theorem dRW_addRow_4 : decode cRW_addRow 4 = .ok (.invokevirtual 35, 3) := by decide +kernel
theorem dRW_addRow_7 : decode cRW_addRow 7 = .ok (.aload_n 1, 1) := by decide +kernel
theorem dRW_addRow_8 : decode cRW_addRow 8 = .ok (.iload_n 2, 1) := by decide +kernel
theorem dRW_addRow_9 : decode cRW_addRow 9 = .ok (.iconst 1, 1) := by decide +kernel
theorem dRW_addRow_10 : decode cRW_addRow 10 = .ok (.invokevirtual 35, 3) := by decide +kernel
theorem dRW_addRow_13 : decode cRW_addRow 13 = .ok (.aload_n 1, 1) := by decide +kernel
theorem dRW_addRow_14 : decode cRW_addRow 14 = .ok (.iload_n 2, 1) := by decide +kernel
theorem dRW_addRow_15 : decode cRW_addRow 15 = .ok (.iconst 2, 1) := by decide +kernel
theorem dRW_addRow_16 : decode cRW_addRow 16 = .ok (.invokevirtual 35, 3) := by decide +kernel
theorem dRW_addRow_19 : decode cRW_addRow 19 = .ok (.lload_n 3, 1) := by decide +kernel
theorem dRW_addRow_20 : decode cRW_addRow 20 = .ok (.invokevirtual 39, 3) := by decide +kernel
theorem dRW_addRow_23 : decode cRW_addRow 23 = .ok (.return_, 1) := by decide +kernel
theorem dRW_valueAt_0 : decode cRW_valueAt 0 = .ok (.aload_n 0, 1) := by decide +kernel
theorem dRW_valueAt_1 : decode cRW_valueAt 1 = .ok (.getfield 9, 3) := by decide +kernel
theorem dRW_valueAt_4 : decode cRW_valueAt 4 = .ok (.iload_n 1, 1) := by decide +kernel
theorem dRW_valueAt_5 : decode cRW_valueAt 5 = .ok (.iconst 3, 1) := by decide +kernel
theorem dRW_valueAt_6 : decode cRW_valueAt 6 = .ok (.imul, 1) := by decide +kernel
theorem dRW_valueAt_7 : decode cRW_valueAt 7 = .ok (.iload_n 2, 1) := by decide +kernel
theorem dRW_valueAt_8 : decode cRW_valueAt 8 = .ok (.iadd, 1) := by decide +kernel
theorem dRW_valueAt_9 : decode cRW_valueAt 9 = .ok (.iaload, 1) := by decide +kernel
theorem dRW_valueAt_10 : decode cRW_valueAt 10 = .ok (.ireturn, 1) := by decide +kernel
theorem dRW_addWeight_0 : decode cRW_addWeight 0 = .ok (.aload_n 0, 1) := by decide +kernel
theorem dRW_addWeight_1 : decode cRW_addWeight 1 = .ok (.iload_n 1, 1) := by decide +kernel
theorem dRW_addWeight_2 : decode cRW_addWeight 2 = .ok (.iload_n 2, 1) := by decide +kernel
theorem dRW_addWeight_3 : decode cRW_addWeight 3 = .ok (.iload_n 3, 1) := by decide +kernel
theorem dRW_addWeight_4 : decode cRW_addWeight 4 = .ok (.invokevirtual 23, 3) := by decide +kernel
theorem dRW_addWeight_7 : decode cRW_addWeight 7 = .ok (.istore 6, 2) := by decide +kernel
theorem dRW_addWeight_9 : decode cRW_addWeight 9 = .ok (.aload_n 0, 1) := by decide +kernel
theorem dRW_addWeight_10 : decode cRW_addWeight 10 = .ok (.iload 6, 2) := by decide +kernel
theorem dRW_addWeight_12 : decode cRW_addWeight 12 = .ok (.iload_n 1, 1) := by decide +kernel
theorem dRW_addWeight_13 : decode cRW_addWeight 13 = .ok (.iload_n 2, 1) := by decide +kernel
theorem dRW_addWeight_14 : decode cRW_addWeight 14 = .ok (.iload_n 3, 1) := by decide +kernel
theorem dRW_addWeight_15 : decode cRW_addWeight 15 = .ok (.invokevirtual 27, 3) := by decide +kernel
theorem dRW_addWeight_18 : decode cRW_addWeight 18 = .ok (.ifCond .eq 18, 3) := by decide +kernel
theorem dRW_addWeight_21 : decode cRW_addWeight 21 = .ok (.aload_n 0, 1) := by decide +kernel
theorem dRW_addWeight_22 : decode cRW_addWeight 22 = .ok (.getfield 15, 3) := by decide +kernel
theorem dRW_addWeight_25 : decode cRW_addWeight 25 = .ok (.iload 6, 2) := by decide +kernel
theorem dRW_addWeight_27 : decode cRW_addWeight 27 = .ok (.dup2, 1) := by decide +kernel
theorem dRW_addWeight_28 : decode cRW_addWeight 28 = .ok (.laload, 1) := by decide +kernel
theorem dRW_addWeight_29 : decode cRW_addWeight 29 = .ok (.lload 4, 2) := by decide +kernel
theorem dRW_addWeight_31 : decode cRW_addWeight 31 = .ok (.ladd, 1) := by decide +kernel
theorem dRW_addWeight_32 : decode cRW_addWeight 32 = .ok (.lastore, 1) := by decide +kernel
theorem dRW_addWeight_33 : decode cRW_addWeight 33 = .ok (.goto 26, 3) := by decide +kernel
theorem dRW_addWeight_36 : decode cRW_addWeight 36 = .ok (.aload_n 0, 1) := by decide +kernel
theorem dRW_addWeight_37 : decode cRW_addWeight 37 = .ok (.getfield 19, 3) := by decide +kernel
theorem dRW_addWeight_40 : decode cRW_addWeight 40 = .ok (.aload_n 0, 1) := by decide +kernel
theorem dRW_addWeight_41 : decode cRW_addWeight 41 = .ok (.getfield 15, 3) := by decide +kernel
theorem dRW_addWeight_44 : decode cRW_addWeight 44 = .ok (.arraylength, 1) := by decide +kernel
theorem dRW_addWeight_45 : decode cRW_addWeight 45 = .ok (.if_icmp .ge 14, 3) := by decide +kernel
theorem dRW_addWeight_48 : decode cRW_addWeight 48 = .ok (.aload_n 0, 1) := by decide +kernel
theorem dRW_addWeight_49 : decode cRW_addWeight 49 = .ok (.iload 6, 2) := by decide +kernel
theorem dRW_addWeight_51 : decode cRW_addWeight 51 = .ok (.iload_n 1, 1) := by decide +kernel
theorem dRW_addWeight_52 : decode cRW_addWeight 52 = .ok (.iload_n 2, 1) := by decide +kernel
theorem dRW_addWeight_53 : decode cRW_addWeight 53 = .ok (.iload_n 3, 1) := by decide +kernel
theorem dRW_addWeight_54 : decode cRW_addWeight 54 = .ok (.lload 4, 2) := by decide +kernel
theorem dRW_addWeight_56 : decode cRW_addWeight 56 = .ok (.invokevirtual 31, 3) := by decide +kernel
theorem dRW_addWeight_59 : decode cRW_addWeight 59 = .ok (.return_, 1) := by decide +kernel
theorem dRW_placeOf_0 : decode cRW_placeOf 0 = .ok (.iconst 0, 1) := by decide +kernel
theorem dRW_placeOf_1 : decode cRW_placeOf 1 = .ok (.istore 4, 2) := by decide +kernel
theorem dRW_placeOf_3 : decode cRW_placeOf 3 = .ok (.aload_n 0, 1) := by decide +kernel
theorem dRW_placeOf_4 : decode cRW_placeOf 4 = .ok (.getfield 19, 3) := by decide +kernel
theorem dRW_placeOf_7 : decode cRW_placeOf 7 = .ok (.istore 5, 2) := by decide +kernel
theorem dRW_placeOf_9 : decode cRW_placeOf 9 = .ok (.iload 4, 2) := by decide +kernel
theorem dRW_placeOf_11 : decode cRW_placeOf 11 = .ok (.iload 5, 2) := by decide +kernel
theorem dRW_placeOf_13 : decode cRW_placeOf 13 = .ok (.if_icmp .ge 40, 3) := by decide +kernel
theorem dRW_placeOf_16 : decode cRW_placeOf 16 = .ok (.iload 4, 2) := by decide +kernel
theorem dRW_placeOf_18 : decode cRW_placeOf 18 = .ok (.iload 5, 2) := by decide +kernel
theorem dRW_placeOf_20 : decode cRW_placeOf 20 = .ok (.iadd, 1) := by decide +kernel
theorem dRW_placeOf_21 : decode cRW_placeOf 21 = .ok (.iconst 2, 1) := by decide +kernel
theorem dRW_placeOf_22 : decode cRW_placeOf 22 = .ok (.idiv, 1) := by decide +kernel
theorem dRW_placeOf_23 : decode cRW_placeOf 23 = .ok (.istore 6, 2) := by decide +kernel
theorem dRW_placeOf_25 : decode cRW_placeOf 25 = .ok (.aload_n 0, 1) := by decide +kernel
theorem dRW_placeOf_26 : decode cRW_placeOf 26 = .ok (.iload 6, 2) := by decide +kernel
theorem dRW_placeOf_28 : decode cRW_placeOf 28 = .ok (.iload_n 1, 1) := by decide +kernel
theorem dRW_placeOf_29 : decode cRW_placeOf 29 = .ok (.iload_n 2, 1) := by decide +kernel
theorem dRW_placeOf_30 : decode cRW_placeOf 30 = .ok (.iload_n 3, 1) := by decide +kernel
theorem dRW_placeOf_31 : decode cRW_placeOf 31 = .ok (.invokevirtual 62, 3) := by decide +kernel
theorem dRW_placeOf_34 : decode cRW_placeOf 34 = .ok (.ifCond .ge 12, 3) := by decide +kernel
theorem dRW_placeOf_37 : decode cRW_placeOf 37 = .ok (.iload 6, 2) := by decide +kernel
theorem dRW_placeOf_39 : decode cRW_placeOf 39 = .ok (.iconst 1, 1) := by decide +kernel
theorem dRW_placeOf_40 : decode cRW_placeOf 40 = .ok (.iadd, 1) := by decide +kernel
theorem dRW_placeOf_41 : decode cRW_placeOf 41 = .ok (.istore 4, 2) := by decide +kernel
theorem dRW_placeOf_43 : decode cRW_placeOf 43 = .ok (.goto 7, 3) := by decide +kernel
theorem dRW_placeOf_46 : decode cRW_placeOf 46 = .ok (.iload 6, 2) := by decide +kernel
theorem dRW_placeOf_48 : decode cRW_placeOf 48 = .ok (.istore 5, 2) := by decide +kernel
theorem dRW_placeOf_50 : decode cRW_placeOf 50 = .ok (.goto (-41), 3) := by decide +kernel
theorem dRW_placeOf_53 : decode cRW_placeOf 53 = .ok (.iload 4, 2) := by decide +kernel
theorem dRW_placeOf_55 : decode cRW_placeOf 55 = .ok (.ireturn, 1) := by decide +kernel
theorem dRW_compareAt_0 : decode cRW_compareAt 0 = .ok (.iload_n 1, 1) := by decide +kernel
theorem dRW_compareAt_1 : decode cRW_compareAt 1 = .ok (.iconst 3, 1) := by decide +kernel
theorem dRW_compareAt_2 : decode cRW_compareAt 2 = .ok (.imul, 1) := by decide +kernel
theorem dRW_compareAt_3 : decode cRW_compareAt 3 = .ok (.istore 5, 2) := by decide +kernel
theorem dRW_compareAt_5 : decode cRW_compareAt 5 = .ok (.aload_n 0, 1) := by decide +kernel
theorem dRW_compareAt_6 : decode cRW_compareAt 6 = .ok (.getfield 9, 3) := by decide +kernel
theorem dRW_compareAt_9 : decode cRW_compareAt 9 = .ok (.iload 5, 2) := by decide +kernel
theorem dRW_compareAt_11 : decode cRW_compareAt 11 = .ok (.iaload, 1) := by decide +kernel
theorem dRW_compareAt_12 : decode cRW_compareAt 12 = .ok (.iload_n 2, 1) := by decide +kernel
theorem dRW_compareAt_13 : decode cRW_compareAt 13 = .ok (.if_icmp .eq 20, 3) := by decide +kernel
theorem dRW_compareAt_16 : decode cRW_compareAt 16 = .ok (.aload_n 0, 1) := by decide +kernel
theorem dRW_compareAt_17 : decode cRW_compareAt 17 = .ok (.getfield 9, 3) := by decide +kernel
theorem dRW_compareAt_20 : decode cRW_compareAt 20 = .ok (.iload 5, 2) := by decide +kernel
theorem dRW_compareAt_22 : decode cRW_compareAt 22 = .ok (.iaload, 1) := by decide +kernel
theorem dRW_compareAt_23 : decode cRW_compareAt 23 = .ok (.iload_n 2, 1) := by decide +kernel
theorem dRW_compareAt_24 : decode cRW_compareAt 24 = .ok (.if_icmp .ge 7, 3) := by decide +kernel
theorem dRW_compareAt_27 : decode cRW_compareAt 27 = .ok (.iconst (-1), 1) := by decide +kernel
theorem dRW_compareAt_28 : decode cRW_compareAt 28 = .ok (.goto 4, 3) := by decide +kernel
theorem dRW_compareAt_31 : decode cRW_compareAt 31 = .ok (.iconst 1, 1) := by decide +kernel
theorem dRW_compareAt_32 : decode cRW_compareAt 32 = .ok (.ireturn, 1) := by decide +kernel
theorem dRW_compareAt_33 : decode cRW_compareAt 33 = .ok (.aload_n 0, 1) := by decide +kernel
theorem dRW_compareAt_34 : decode cRW_compareAt 34 = .ok (.getfield 9, 3) := by decide +kernel
theorem dRW_compareAt_37 : decode cRW_compareAt 37 = .ok (.iload 5, 2) := by decide +kernel
theorem dRW_compareAt_39 : decode cRW_compareAt 39 = .ok (.iconst 1, 1) := by decide +kernel
theorem dRW_compareAt_40 : decode cRW_compareAt 40 = .ok (.iadd, 1) := by decide +kernel
theorem dRW_compareAt_41 : decode cRW_compareAt 41 = .ok (.iaload, 1) := by decide +kernel
theorem dRW_compareAt_42 : decode cRW_compareAt 42 = .ok (.iload_n 3, 1) := by decide +kernel
theorem dRW_compareAt_43 : decode cRW_compareAt 43 = .ok (.if_icmp .eq 22, 3) := by decide +kernel
theorem dRW_compareAt_46 : decode cRW_compareAt 46 = .ok (.aload_n 0, 1) := by decide +kernel
theorem dRW_compareAt_47 : decode cRW_compareAt 47 = .ok (.getfield 9, 3) := by decide +kernel
theorem dRW_compareAt_50 : decode cRW_compareAt 50 = .ok (.iload 5, 2) := by decide +kernel
theorem dRW_compareAt_52 : decode cRW_compareAt 52 = .ok (.iconst 1, 1) := by decide +kernel
theorem dRW_compareAt_53 : decode cRW_compareAt 53 = .ok (.iadd, 1) := by decide +kernel
theorem dRW_compareAt_54 : decode cRW_compareAt 54 = .ok (.iaload, 1) := by decide +kernel
theorem dRW_compareAt_55 : decode cRW_compareAt 55 = .ok (.iload_n 3, 1) := by decide +kernel
theorem dRW_compareAt_56 : decode cRW_compareAt 56 = .ok (.if_icmp .ge 7, 3) := by decide +kernel
theorem dRW_compareAt_59 : decode cRW_compareAt 59 = .ok (.iconst (-1), 1) := by decide +kernel
theorem dRW_compareAt_60 : decode cRW_compareAt 60 = .ok (.goto 4, 3) := by decide +kernel
theorem dRW_compareAt_63 : decode cRW_compareAt 63 = .ok (.iconst 1, 1) := by decide +kernel
theorem dRW_compareAt_64 : decode cRW_compareAt 64 = .ok (.ireturn, 1) := by decide +kernel
theorem dRW_compareAt_65 : decode cRW_compareAt 65 = .ok (.aload_n 0, 1) := by decide +kernel
theorem dRW_compareAt_66 : decode cRW_compareAt 66 = .ok (.getfield 9, 3) := by decide +kernel
theorem dRW_compareAt_69 : decode cRW_compareAt 69 = .ok (.iload 5, 2) := by decide +kernel
theorem dRW_compareAt_71 : decode cRW_compareAt 71 = .ok (.iconst 2, 1) := by decide +kernel
theorem dRW_compareAt_72 : decode cRW_compareAt 72 = .ok (.iadd, 1) := by decide +kernel
theorem dRW_compareAt_73 : decode cRW_compareAt 73 = .ok (.iaload, 1) := by decide +kernel
theorem dRW_compareAt_74 : decode cRW_compareAt 74 = .ok (.iload 4, 2) := by decide +kernel
theorem dRW_compareAt_76 : decode cRW_compareAt 76 = .ok (.if_icmp .eq 23, 3) := by decide +kernel
theorem dRW_compareAt_79 : decode cRW_compareAt 79 = .ok (.aload_n 0, 1) := by decide +kernel
theorem dRW_compareAt_80 : decode cRW_compareAt 80 = .ok (.getfield 9, 3) := by decide +kernel
theorem dRW_compareAt_83 : decode cRW_compareAt 83 = .ok (.iload 5, 2) := by decide +kernel
theorem dRW_compareAt_85 : decode cRW_compareAt 85 = .ok (.iconst 2, 1) := by decide +kernel
theorem dRW_compareAt_86 : decode cRW_compareAt 86 = .ok (.iadd, 1) := by decide +kernel
theorem dRW_compareAt_87 : decode cRW_compareAt 87 = .ok (.iaload, 1) := by decide +kernel
theorem dRW_compareAt_88 : decode cRW_compareAt 88 = .ok (.iload 4, 2) := by decide +kernel
theorem dRW_compareAt_90 : decode cRW_compareAt 90 = .ok (.if_icmp .ge 7, 3) := by decide +kernel
theorem dRW_compareAt_93 : decode cRW_compareAt 93 = .ok (.iconst (-1), 1) := by decide +kernel
theorem dRW_compareAt_94 : decode cRW_compareAt 94 = .ok (.goto 4, 3) := by decide +kernel
theorem dRW_compareAt_97 : decode cRW_compareAt 97 = .ok (.iconst 1, 1) := by decide +kernel
theorem dRW_compareAt_98 : decode cRW_compareAt 98 = .ok (.ireturn, 1) := by decide +kernel
theorem dRW_compareAt_99 : decode cRW_compareAt 99 = .ok (.iconst 0, 1) := by decide +kernel
theorem dRW_compareAt_100 : decode cRW_compareAt 100 = .ok (.ireturn, 1) := by decide +kernel
theorem dRW_isAt_0 : decode cRW_isAt 0 = .ok (.iload_n 1, 1) := by decide +kernel
theorem dRW_isAt_1 : decode cRW_isAt 1 = .ok (.aload_n 0, 1) := by decide +kernel
theorem dRW_isAt_2 : decode cRW_isAt 2 = .ok (.getfield 19, 3) := by decide +kernel
theorem dRW_isAt_5 : decode cRW_isAt 5 = .ok (.if_icmp .ge 19, 3) := by decide +kernel
theorem dRW_isAt_8 : decode cRW_isAt 8 = .ok (.aload_n 0, 1) := by decide +kernel
theorem dRW_isAt_9 : decode cRW_isAt 9 = .ok (.iload_n 1, 1) := by decide +kernel
theorem dRW_isAt_10 : decode cRW_isAt 10 = .ok (.iload_n 2, 1) := by decide +kernel
theorem dRW_isAt_11 : decode cRW_isAt 11 = .ok (.iload_n 3, 1) := by decide +kernel
theorem dRW_isAt_12 : decode cRW_isAt 12 = .ok (.iload 4, 2) := by decide +kernel
theorem dRW_isAt_14 : decode cRW_isAt 14 = .ok (.invokevirtual 62, 3) := by decide +kernel
theorem dRW_isAt_17 : decode cRW_isAt 17 = .ok (.ifCond .ne 7, 3) := by decide +kernel
theorem dRW_isAt_20 : decode cRW_isAt 20 = .ok (.iconst 1, 1) := by decide +kernel
theorem dRW_isAt_21 : decode cRW_isAt 21 = .ok (.goto 4, 3) := by decide +kernel
theorem dRW_isAt_24 : decode cRW_isAt 24 = .ok (.iconst 0, 1) := by decide +kernel
theorem dRW_isAt_25 : decode cRW_isAt 25 = .ok (.ireturn, 1) := by decide +kernel
theorem dRW_insertAt_0 : decode cRW_insertAt 0 = .ok (.iload_n 1, 1) := by decide +kernel
theorem dRW_insertAt_1 : decode cRW_insertAt 1 = .ok (.iconst 3, 1) := by decide +kernel
theorem dRW_insertAt_2 : decode cRW_insertAt 2 = .ok (.imul, 1) := by decide +kernel
theorem dRW_insertAt_3 : decode cRW_insertAt 3 = .ok (.istore 7, 2) := by decide +kernel
theorem dRW_insertAt_5 : decode cRW_insertAt 5 = .ok (.aload_n 0, 1) := by decide +kernel
theorem dRW_insertAt_6 : decode cRW_insertAt 6 = .ok (.getfield 9, 3) := by decide +kernel
theorem dRW_insertAt_9 : decode cRW_insertAt 9 = .ok (.iload 7, 2) := by decide +kernel
theorem dRW_insertAt_11 : decode cRW_insertAt 11 = .ok (.aload_n 0, 1) := by decide +kernel
theorem dRW_insertAt_12 : decode cRW_insertAt 12 = .ok (.getfield 9, 3) := by decide +kernel
theorem dRW_insertAt_15 : decode cRW_insertAt 15 = .ok (.iload 7, 2) := by decide +kernel
theorem dRW_insertAt_17 : decode cRW_insertAt 17 = .ok (.iconst 3, 1) := by decide +kernel
theorem dRW_insertAt_18 : decode cRW_insertAt 18 = .ok (.iadd, 1) := by decide +kernel
theorem dRW_insertAt_19 : decode cRW_insertAt 19 = .ok (.aload_n 0, 1) := by decide +kernel
theorem dRW_insertAt_20 : decode cRW_insertAt 20 = .ok (.getfield 19, 3) := by decide +kernel
theorem dRW_insertAt_23 : decode cRW_insertAt 23 = .ok (.iload_n 1, 1) := by decide +kernel
theorem dRW_insertAt_24 : decode cRW_insertAt 24 = .ok (.isub, 1) := by decide +kernel
theorem dRW_insertAt_25 : decode cRW_insertAt 25 = .ok (.iconst 3, 1) := by decide +kernel
theorem dRW_insertAt_26 : decode cRW_insertAt 26 = .ok (.imul, 1) := by decide +kernel
theorem dRW_insertAt_27 : decode cRW_insertAt 27 = .ok (.invokestatic 48, 3) := by decide +kernel
theorem dRW_insertAt_30 : decode cRW_insertAt 30 = .ok (.aload_n 0, 1) := by decide +kernel
theorem dRW_insertAt_31 : decode cRW_insertAt 31 = .ok (.getfield 15, 3) := by decide +kernel
theorem dRW_insertAt_34 : decode cRW_insertAt 34 = .ok (.iload_n 1, 1) := by decide +kernel
theorem dRW_insertAt_35 : decode cRW_insertAt 35 = .ok (.aload_n 0, 1) := by decide +kernel
theorem dRW_insertAt_36 : decode cRW_insertAt 36 = .ok (.getfield 15, 3) := by decide +kernel
theorem dRW_insertAt_39 : decode cRW_insertAt 39 = .ok (.iload_n 1, 1) := by decide +kernel
theorem dRW_insertAt_40 : decode cRW_insertAt 40 = .ok (.iconst 1, 1) := by decide +kernel
theorem dRW_insertAt_41 : decode cRW_insertAt 41 = .ok (.iadd, 1) := by decide +kernel
theorem dRW_insertAt_42 : decode cRW_insertAt 42 = .ok (.aload_n 0, 1) := by decide +kernel
theorem dRW_insertAt_43 : decode cRW_insertAt 43 = .ok (.getfield 19, 3) := by decide +kernel
theorem dRW_insertAt_46 : decode cRW_insertAt 46 = .ok (.iload_n 1, 1) := by decide +kernel
theorem dRW_insertAt_47 : decode cRW_insertAt 47 = .ok (.isub, 1) := by decide +kernel
theorem dRW_insertAt_48 : decode cRW_insertAt 48 = .ok (.invokestatic 48, 3) := by decide +kernel
theorem dRW_insertAt_51 : decode cRW_insertAt 51 = .ok (.aload_n 0, 1) := by decide +kernel
theorem dRW_insertAt_52 : decode cRW_insertAt 52 = .ok (.getfield 9, 3) := by decide +kernel
theorem dRW_insertAt_55 : decode cRW_insertAt 55 = .ok (.iload 7, 2) := by decide +kernel
theorem dRW_insertAt_57 : decode cRW_insertAt 57 = .ok (.iload_n 2, 1) := by decide +kernel
theorem dRW_insertAt_58 : decode cRW_insertAt 58 = .ok (.iastore, 1) := by decide +kernel
theorem dRW_insertAt_59 : decode cRW_insertAt 59 = .ok (.aload_n 0, 1) := by decide +kernel
theorem dRW_insertAt_60 : decode cRW_insertAt 60 = .ok (.getfield 9, 3) := by decide +kernel
theorem dRW_insertAt_63 : decode cRW_insertAt 63 = .ok (.iload 7, 2) := by decide +kernel
theorem dRW_insertAt_65 : decode cRW_insertAt 65 = .ok (.iconst 1, 1) := by decide +kernel
theorem dRW_insertAt_66 : decode cRW_insertAt 66 = .ok (.iadd, 1) := by decide +kernel
theorem dRW_insertAt_67 : decode cRW_insertAt 67 = .ok (.iload_n 3, 1) := by decide +kernel
theorem dRW_insertAt_68 : decode cRW_insertAt 68 = .ok (.iastore, 1) := by decide +kernel
theorem dRW_insertAt_69 : decode cRW_insertAt 69 = .ok (.aload_n 0, 1) := by decide +kernel
theorem dRW_insertAt_70 : decode cRW_insertAt 70 = .ok (.getfield 9, 3) := by decide +kernel
theorem dRW_insertAt_73 : decode cRW_insertAt 73 = .ok (.iload 7, 2) := by decide +kernel
theorem dRW_insertAt_75 : decode cRW_insertAt 75 = .ok (.iconst 2, 1) := by decide +kernel
theorem dRW_insertAt_76 : decode cRW_insertAt 76 = .ok (.iadd, 1) := by decide +kernel
theorem dRW_insertAt_77 : decode cRW_insertAt 77 = .ok (.iload 4, 2) := by decide +kernel
theorem dRW_insertAt_79 : decode cRW_insertAt 79 = .ok (.iastore, 1) := by decide +kernel
theorem dRW_insertAt_80 : decode cRW_insertAt 80 = .ok (.aload_n 0, 1) := by decide +kernel
theorem dRW_insertAt_81 : decode cRW_insertAt 81 = .ok (.getfield 15, 3) := by decide +kernel
theorem dRW_insertAt_84 : decode cRW_insertAt 84 = .ok (.iload_n 1, 1) := by decide +kernel
theorem dRW_insertAt_85 : decode cRW_insertAt 85 = .ok (.lload 5, 2) := by decide +kernel
theorem dRW_insertAt_87 : decode cRW_insertAt 87 = .ok (.lastore, 1) := by decide +kernel
theorem dRW_insertAt_88 : decode cRW_insertAt 88 = .ok (.aload_n 0, 1) := by decide +kernel
theorem dRW_insertAt_89 : decode cRW_insertAt 89 = .ok (.dup, 1) := by decide +kernel
theorem dRW_insertAt_90 : decode cRW_insertAt 90 = .ok (.getfield 19, 3) := by decide +kernel
theorem dRW_insertAt_93 : decode cRW_insertAt 93 = .ok (.iconst 1, 1) := by decide +kernel
theorem dRW_insertAt_94 : decode cRW_insertAt 94 = .ok (.iadd, 1) := by decide +kernel
theorem dRW_insertAt_95 : decode cRW_insertAt 95 = .ok (.putfield 19, 3) := by decide +kernel
theorem dRW_insertAt_98 : decode cRW_insertAt 98 = .ok (.return_, 1) := by decide +kernel
theorem dRW_dropZeros_0 : decode cRW_dropZeros 0 = .ok (.iconst 0, 1) := by decide +kernel
theorem dRW_dropZeros_1 : decode cRW_dropZeros 1 = .ok (.istore_n 1, 1) := by decide +kernel
theorem dRW_dropZeros_2 : decode cRW_dropZeros 2 = .ok (.iconst 0, 1) := by decide +kernel
theorem dRW_dropZeros_3 : decode cRW_dropZeros 3 = .ok (.istore_n 2, 1) := by decide +kernel
theorem dRW_dropZeros_4 : decode cRW_dropZeros 4 = .ok (.iload_n 2, 1) := by decide +kernel
theorem dRW_dropZeros_5 : decode cRW_dropZeros 5 = .ok (.aload_n 0, 1) := by decide +kernel
theorem dRW_dropZeros_6 : decode cRW_dropZeros 6 = .ok (.getfield 19, 3) := by decide +kernel
theorem dRW_dropZeros_9 : decode cRW_dropZeros 9 = .ok (.if_icmp .ge 53, 3) := by decide +kernel
theorem dRW_dropZeros_12 : decode cRW_dropZeros 12 = .ok (.aload_n 0, 1) := by decide +kernel
theorem dRW_dropZeros_13 : decode cRW_dropZeros 13 = .ok (.getfield 15, 3) := by decide +kernel
theorem dRW_dropZeros_16 : decode cRW_dropZeros 16 = .ok (.iload_n 2, 1) := by decide +kernel
theorem dRW_dropZeros_17 : decode cRW_dropZeros 17 = .ok (.laload, 1) := by decide +kernel
theorem dRW_dropZeros_18 : decode cRW_dropZeros 18 = .ok (.lconst 0, 1) := by decide +kernel
theorem dRW_dropZeros_19 : decode cRW_dropZeros 19 = .ok (.lcmp, 1) := by decide +kernel
theorem dRW_dropZeros_20 : decode cRW_dropZeros 20 = .ok (.ifCond .eq 36, 3) := by decide +kernel
theorem dRW_dropZeros_23 : decode cRW_dropZeros 23 = .ok (.aload_n 0, 1) := by decide +kernel
theorem dRW_dropZeros_24 : decode cRW_dropZeros 24 = .ok (.getfield 9, 3) := by decide +kernel
theorem dRW_dropZeros_27 : decode cRW_dropZeros 27 = .ok (.iload_n 2, 1) := by decide +kernel
theorem dRW_dropZeros_28 : decode cRW_dropZeros 28 = .ok (.iconst 3, 1) := by decide +kernel
theorem dRW_dropZeros_29 : decode cRW_dropZeros 29 = .ok (.imul, 1) := by decide +kernel
theorem dRW_dropZeros_30 : decode cRW_dropZeros 30 = .ok (.aload_n 0, 1) := by decide +kernel
theorem dRW_dropZeros_31 : decode cRW_dropZeros 31 = .ok (.getfield 9, 3) := by decide +kernel
theorem dRW_dropZeros_34 : decode cRW_dropZeros 34 = .ok (.iload_n 1, 1) := by decide +kernel
theorem dRW_dropZeros_35 : decode cRW_dropZeros 35 = .ok (.iconst 3, 1) := by decide +kernel
theorem dRW_dropZeros_36 : decode cRW_dropZeros 36 = .ok (.imul, 1) := by decide +kernel
theorem dRW_dropZeros_37 : decode cRW_dropZeros 37 = .ok (.iconst 3, 1) := by decide +kernel
theorem dRW_dropZeros_38 : decode cRW_dropZeros 38 = .ok (.invokestatic 48, 3) := by decide +kernel
theorem dRW_dropZeros_41 : decode cRW_dropZeros 41 = .ok (.aload_n 0, 1) := by decide +kernel
theorem dRW_dropZeros_42 : decode cRW_dropZeros 42 = .ok (.getfield 15, 3) := by decide +kernel
theorem dRW_dropZeros_45 : decode cRW_dropZeros 45 = .ok (.iload_n 1, 1) := by decide +kernel
theorem dRW_dropZeros_46 : decode cRW_dropZeros 46 = .ok (.aload_n 0, 1) := by decide +kernel
theorem dRW_dropZeros_47 : decode cRW_dropZeros 47 = .ok (.getfield 15, 3) := by decide +kernel
theorem dRW_dropZeros_50 : decode cRW_dropZeros 50 = .ok (.iload_n 2, 1) := by decide +kernel
theorem dRW_dropZeros_51 : decode cRW_dropZeros 51 = .ok (.laload, 1) := by decide +kernel
theorem dRW_dropZeros_52 : decode cRW_dropZeros 52 = .ok (.lastore, 1) := by decide +kernel
theorem dRW_dropZeros_53 : decode cRW_dropZeros 53 = .ok (.iinc 1 1, 3) := by decide +kernel
theorem dRW_dropZeros_56 : decode cRW_dropZeros 56 = .ok (.iinc 2 1, 3) := by decide +kernel
theorem dRW_dropZeros_59 : decode cRW_dropZeros 59 = .ok (.goto (-55), 3) := by decide +kernel
theorem dRW_dropZeros_62 : decode cRW_dropZeros 62 = .ok (.aload_n 0, 1) := by decide +kernel
theorem dRW_dropZeros_63 : decode cRW_dropZeros 63 = .ok (.iload_n 1, 1) := by decide +kernel
theorem dRW_dropZeros_64 : decode cRW_dropZeros 64 = .ok (.putfield 19, 3) := by decide +kernel
theorem dRW_dropZeros_67 : decode cRW_dropZeros 67 = .ok (.return_, 1) := by decide +kernel
theorem dRW_canHold_0 : decode cRW_canHold 0 = .ok (.aload_n 1, 1) := by decide +kernel
theorem dRW_canHold_1 : decode cRW_canHold 1 = .ok (.getfield 19, 3) := by decide +kernel
theorem dRW_canHold_4 : decode cRW_canHold 4 = .ok (.aload_n 0, 1) := by decide +kernel
theorem dRW_canHold_5 : decode cRW_canHold 5 = .ok (.getfield 15, 3) := by decide +kernel
theorem dRW_canHold_8 : decode cRW_canHold 8 = .ok (.arraylength, 1) := by decide +kernel
theorem dRW_canHold_9 : decode cRW_canHold 9 = .ok (.if_icmp .le 5, 3) := by decide +kernel
theorem dRW_canHold_12 : decode cRW_canHold 12 = .ok (.iconst 0, 1) := by decide +kernel
theorem dRW_canHold_13 : decode cRW_canHold 13 = .ok (.ireturn, 1) := by decide +kernel
theorem dRW_canHold_14 : decode cRW_canHold 14 = .ok (.iconst 0, 1) := by decide +kernel
theorem dRW_canHold_15 : decode cRW_canHold 15 = .ok (.istore_n 2, 1) := by decide +kernel
theorem dRW_canHold_16 : decode cRW_canHold 16 = .ok (.iload_n 2, 1) := by decide +kernel
theorem dRW_canHold_17 : decode cRW_canHold 17 = .ok (.aload_n 1, 1) := by decide +kernel
theorem dRW_canHold_18 : decode cRW_canHold 18 = .ok (.getfield 19, 3) := by decide +kernel
theorem dRW_canHold_21 : decode cRW_canHold 21 = .ok (.if_icmp .ge 37, 3) := by decide +kernel
theorem dRW_canHold_24 : decode cRW_canHold 24 = .ok (.aload_n 1, 1) := by decide +kernel
theorem dRW_canHold_25 : decode cRW_canHold 25 = .ok (.getfield 15, 3) := by decide +kernel
theorem dRW_canHold_28 : decode cRW_canHold 28 = .ok (.iload_n 2, 1) := by decide +kernel
theorem dRW_canHold_29 : decode cRW_canHold 29 = .ok (.laload, 1) := by decide +kernel
theorem dRW_canHold_30 : decode cRW_canHold 30 = .ok (.ldc2_w 54, 3) := by decide +kernel
theorem dRW_canHold_33 : decode cRW_canHold 33 = .ok (.lcmp, 1) := by decide +kernel
theorem dRW_canHold_34 : decode cRW_canHold 34 = .ok (.ifCond .gt 16, 3) := by decide +kernel
theorem dRW_canHold_37 : decode cRW_canHold 37 = .ok (.aload_n 1, 1) := by decide +kernel
theorem dRW_canHold_38 : decode cRW_canHold 38 = .ok (.getfield 15, 3) := by decide +kernel
theorem dRW_canHold_41 : decode cRW_canHold 41 = .ok (.iload_n 2, 1) := by decide +kernel
theorem dRW_canHold_42 : decode cRW_canHold 42 = .ok (.laload, 1) := by decide +kernel
theorem dRW_canHold_43 : decode cRW_canHold 43 = .ok (.ldc2_w 56, 3) := by decide +kernel
theorem dRW_canHold_46 : decode cRW_canHold 46 = .ok (.lcmp, 1) := by decide +kernel
theorem dRW_canHold_47 : decode cRW_canHold 47 = .ok (.ifCond .ge 5, 3) := by decide +kernel
theorem dRW_canHold_50 : decode cRW_canHold 50 = .ok (.iconst 0, 1) := by decide +kernel
theorem dRW_canHold_51 : decode cRW_canHold 51 = .ok (.ireturn, 1) := by decide +kernel
theorem dRW_canHold_52 : decode cRW_canHold 52 = .ok (.iinc 2 1, 3) := by decide +kernel
theorem dRW_canHold_55 : decode cRW_canHold 55 = .ok (.goto (-39), 3) := by decide +kernel
theorem dRW_canHold_58 : decode cRW_canHold 58 = .ok (.iconst 1, 1) := by decide +kernel
theorem dRW_canHold_59 : decode cRW_canHold 59 = .ok (.ireturn, 1) := by decide +kernel
theorem dRW_hasBelowZero_0 : decode cRW_hasBelowZero 0 = .ok (.iconst 0, 1) := by decide +kernel
theorem dRW_hasBelowZero_1 : decode cRW_hasBelowZero 1 = .ok (.istore_n 1, 1) := by decide +kernel
theorem dRW_hasBelowZero_2 : decode cRW_hasBelowZero 2 = .ok (.iload_n 1, 1) := by decide +kernel
theorem dRW_hasBelowZero_3 : decode cRW_hasBelowZero 3 = .ok (.aload_n 0, 1) := by decide +kernel
theorem dRW_hasBelowZero_4 : decode cRW_hasBelowZero 4 = .ok (.getfield 19, 3) := by decide +kernel
theorem dRW_hasBelowZero_7 : decode cRW_hasBelowZero 7 = .ok (.if_icmp .ge 22, 3) := by decide +kernel
theorem dRW_hasBelowZero_10 : decode cRW_hasBelowZero 10 = .ok (.aload_n 0, 1) := by decide +kernel
theorem dRW_hasBelowZero_11 : decode cRW_hasBelowZero 11 = .ok (.getfield 15, 3) := by decide +kernel
theorem dRW_hasBelowZero_14 : decode cRW_hasBelowZero 14 = .ok (.iload_n 1, 1) := by decide +kernel
theorem dRW_hasBelowZero_15 : decode cRW_hasBelowZero 15 = .ok (.laload, 1) := by decide +kernel
theorem dRW_hasBelowZero_16 : decode cRW_hasBelowZero 16 = .ok (.lconst 0, 1) := by decide +kernel
theorem dRW_hasBelowZero_17 : decode cRW_hasBelowZero 17 = .ok (.lcmp, 1) := by decide +kernel
theorem dRW_hasBelowZero_18 : decode cRW_hasBelowZero 18 = .ok (.ifCond .ge 5, 3) := by decide +kernel
theorem dRW_hasBelowZero_21 : decode cRW_hasBelowZero 21 = .ok (.iconst 1, 1) := by decide +kernel
theorem dRW_hasBelowZero_22 : decode cRW_hasBelowZero 22 = .ok (.ireturn, 1) := by decide +kernel
theorem dRW_hasBelowZero_23 : decode cRW_hasBelowZero 23 = .ok (.iinc 1 1, 3) := by decide +kernel
theorem dRW_hasBelowZero_26 : decode cRW_hasBelowZero 26 = .ok (.goto (-24), 3) := by decide +kernel
theorem dRW_hasBelowZero_29 : decode cRW_hasBelowZero 29 = .ok (.iconst 0, 1) := by decide +kernel
theorem dRW_hasBelowZero_30 : decode cRW_hasBelowZero 30 = .ok (.ireturn, 1) := by decide +kernel
theorem dRW_differencesFrom_0 : decode cRW_differencesFrom 0 = .ok (.iconst 0, 1) := by decide +kernel
theorem dRW_differencesFrom_1 : decode cRW_differencesFrom 1 = .ok (.istore_n 2, 1) := by decide +kernel
theorem dRW_differencesFrom_2 : decode cRW_differencesFrom 2 = .ok (.iconst 0, 1) := by decide +kernel
theorem dRW_differencesFrom_3 : decode cRW_differencesFrom 3 = .ok (.istore_n 3, 1) := by decide +kernel
theorem dRW_differencesFrom_4 : decode cRW_differencesFrom 4 = .ok (.iload_n 3, 1) := by decide +kernel
theorem dRW_differencesFrom_5 : decode cRW_differencesFrom 5 = .ok (.aload_n 0, 1) := by decide +kernel
theorem dRW_differencesFrom_6 : decode cRW_differencesFrom 6 = .ok (.getfield 19, 3) := by decide +kernel
theorem dRW_differencesFrom_9 : decode cRW_differencesFrom 9 = .ok (.if_icmp .ge 44, 3) := by decide +kernel
theorem dRW_differencesFrom_12 : decode cRW_differencesFrom 12 = .ok (.aload_n 1, 1) := by decide +kernel
theorem dRW_differencesFrom_13 : decode cRW_differencesFrom 13 = .ok (.aload_n 0, 1) := by decide +kernel
theorem dRW_differencesFrom_14 : decode cRW_differencesFrom 14 = .ok (.iload_n 3, 1) := by decide +kernel
theorem dRW_differencesFrom_15 : decode cRW_differencesFrom 15 = .ok (.iconst 0, 1) := by decide +kernel
theorem dRW_differencesFrom_16 : decode cRW_differencesFrom 16 = .ok (.invokevirtual 35, 3) := by decide +kernel
theorem dRW_differencesFrom_19 : decode cRW_differencesFrom 19 = .ok (.aload_n 0, 1) := by decide +kernel
theorem dRW_differencesFrom_20 : decode cRW_differencesFrom 20 = .ok (.iload_n 3, 1) := by decide +kernel
theorem dRW_differencesFrom_21 : decode cRW_differencesFrom 21 = .ok (.iconst 1, 1) := by decide +kernel
theorem dRW_differencesFrom_22 : decode cRW_differencesFrom 22 = .ok (.invokevirtual 35, 3) := by decide +kernel
theorem dRW_differencesFrom_25 : decode cRW_differencesFrom 25 = .ok (.aload_n 0, 1) := by decide +kernel
theorem dRW_differencesFrom_26 : decode cRW_differencesFrom 26 = .ok (.iload_n 3, 1) := by decide +kernel
theorem dRW_differencesFrom_27 : decode cRW_differencesFrom 27 = .ok (.iconst 2, 1) := by decide +kernel
theorem dRW_differencesFrom_28 : decode cRW_differencesFrom 28 = .ok (.invokevirtual 35, 3) := by decide +kernel
theorem dRW_differencesFrom_31 : decode cRW_differencesFrom 31 = .ok (.invokevirtual 58, 3) := by decide +kernel
theorem dRW_differencesFrom_34 : decode cRW_differencesFrom 34 = .ok (.aload_n 0, 1) := by decide +kernel
theorem dRW_differencesFrom_35 : decode cRW_differencesFrom 35 = .ok (.getfield 15, 3) := by decide +kernel
theorem dRW_differencesFrom_38 : decode cRW_differencesFrom 38 = .ok (.iload_n 3, 1) := by decide +kernel
theorem dRW_differencesFrom_39 : decode cRW_differencesFrom 39 = .ok (.laload, 1) := by decide +kernel
theorem dRW_differencesFrom_40 : decode cRW_differencesFrom 40 = .ok (.lcmp, 1) := by decide +kernel
theorem dRW_differencesFrom_41 : decode cRW_differencesFrom 41 = .ok (.ifCond .eq 6, 3) := by decide +kernel
theorem dRW_differencesFrom_44 : decode cRW_differencesFrom 44 = .ok (.iinc 2 1, 3) := by decide +kernel
theorem dRW_differencesFrom_47 : decode cRW_differencesFrom 47 = .ok (.iinc 3 1, 3) := by decide +kernel
theorem dRW_differencesFrom_50 : decode cRW_differencesFrom 50 = .ok (.goto (-46), 3) := by decide +kernel
theorem dRW_differencesFrom_53 : decode cRW_differencesFrom 53 = .ok (.iconst 0, 1) := by decide +kernel
theorem dRW_differencesFrom_54 : decode cRW_differencesFrom 54 = .ok (.istore_n 3, 1) := by decide +kernel
theorem dRW_differencesFrom_55 : decode cRW_differencesFrom 55 = .ok (.iload_n 3, 1) := by decide +kernel
theorem dRW_differencesFrom_56 : decode cRW_differencesFrom 56 = .ok (.aload_n 1, 1) := by decide +kernel
theorem dRW_differencesFrom_57 : decode cRW_differencesFrom 57 = .ok (.getfield 19, 3) := by decide +kernel
theorem dRW_differencesFrom_60 : decode cRW_differencesFrom 60 = .ok (.if_icmp .ge 39, 3) := by decide +kernel
theorem dRW_differencesFrom_63 : decode cRW_differencesFrom 63 = .ok (.aload_n 0, 1) := by decide +kernel
theorem dRW_differencesFrom_64 : decode cRW_differencesFrom 64 = .ok (.aload_n 1, 1) := by decide +kernel
theorem dRW_differencesFrom_65 : decode cRW_differencesFrom 65 = .ok (.iload_n 3, 1) := by decide +kernel
theorem dRW_differencesFrom_66 : decode cRW_differencesFrom 66 = .ok (.iconst 0, 1) := by decide +kernel
theorem dRW_differencesFrom_67 : decode cRW_differencesFrom 67 = .ok (.invokevirtual 35, 3) := by decide +kernel
theorem dRW_differencesFrom_70 : decode cRW_differencesFrom 70 = .ok (.aload_n 1, 1) := by decide +kernel
theorem dRW_differencesFrom_71 : decode cRW_differencesFrom 71 = .ok (.iload_n 3, 1) := by decide +kernel
theorem dRW_differencesFrom_72 : decode cRW_differencesFrom 72 = .ok (.iconst 1, 1) := by decide +kernel
theorem dRW_differencesFrom_73 : decode cRW_differencesFrom 73 = .ok (.invokevirtual 35, 3) := by decide +kernel
theorem dRW_differencesFrom_76 : decode cRW_differencesFrom 76 = .ok (.aload_n 1, 1) := by decide +kernel
theorem dRW_differencesFrom_77 : decode cRW_differencesFrom 77 = .ok (.iload_n 3, 1) := by decide +kernel
theorem dRW_differencesFrom_78 : decode cRW_differencesFrom 78 = .ok (.iconst 2, 1) := by decide +kernel
theorem dRW_differencesFrom_79 : decode cRW_differencesFrom 79 = .ok (.invokevirtual 35, 3) := by decide +kernel
theorem dRW_differencesFrom_82 : decode cRW_differencesFrom 82 = .ok (.invokevirtual 58, 3) := by decide +kernel
theorem dRW_differencesFrom_85 : decode cRW_differencesFrom 85 = .ok (.lconst 0, 1) := by decide +kernel
theorem dRW_differencesFrom_86 : decode cRW_differencesFrom 86 = .ok (.lcmp, 1) := by decide +kernel
theorem dRW_differencesFrom_87 : decode cRW_differencesFrom 87 = .ok (.ifCond .ne 6, 3) := by decide +kernel
theorem dRW_differencesFrom_90 : decode cRW_differencesFrom 90 = .ok (.iinc 2 1, 3) := by decide +kernel
theorem dRW_differencesFrom_93 : decode cRW_differencesFrom 93 = .ok (.iinc 3 1, 3) := by decide +kernel
theorem dRW_differencesFrom_96 : decode cRW_differencesFrom 96 = .ok (.goto (-41), 3) := by decide +kernel
theorem dRW_differencesFrom_99 : decode cRW_differencesFrom 99 = .ok (.iload_n 2, 1) := by decide +kernel
theorem dRW_differencesFrom_100 : decode cRW_differencesFrom 100 = .ok (.ireturn, 1) := by decide +kernel
theorem dRW_weightOf_0 : decode cRW_weightOf 0 = .ok (.aload_n 0, 1) := by decide +kernel
theorem dRW_weightOf_1 : decode cRW_weightOf 1 = .ok (.iload_n 1, 1) := by decide +kernel
theorem dRW_weightOf_2 : decode cRW_weightOf 2 = .ok (.iload_n 2, 1) := by decide +kernel
theorem dRW_weightOf_3 : decode cRW_weightOf 3 = .ok (.iload_n 3, 1) := by decide +kernel
theorem dRW_weightOf_4 : decode cRW_weightOf 4 = .ok (.invokevirtual 23, 3) := by decide +kernel
theorem dRW_weightOf_7 : decode cRW_weightOf 7 = .ok (.istore 4, 2) := by decide +kernel
theorem dRW_weightOf_9 : decode cRW_weightOf 9 = .ok (.aload_n 0, 1) := by decide +kernel
theorem dRW_weightOf_10 : decode cRW_weightOf 10 = .ok (.iload 4, 2) := by decide +kernel
theorem dRW_weightOf_12 : decode cRW_weightOf 12 = .ok (.iload_n 1, 1) := by decide +kernel
theorem dRW_weightOf_13 : decode cRW_weightOf 13 = .ok (.iload_n 2, 1) := by decide +kernel
theorem dRW_weightOf_14 : decode cRW_weightOf 14 = .ok (.iload_n 3, 1) := by decide +kernel
theorem dRW_weightOf_15 : decode cRW_weightOf 15 = .ok (.invokevirtual 27, 3) := by decide +kernel
theorem dRW_weightOf_18 : decode cRW_weightOf 18 = .ok (.ifCond .eq 13, 3) := by decide +kernel
theorem dRW_weightOf_21 : decode cRW_weightOf 21 = .ok (.aload_n 0, 1) := by decide +kernel
theorem dRW_weightOf_22 : decode cRW_weightOf 22 = .ok (.getfield 15, 3) := by decide +kernel
theorem dRW_weightOf_25 : decode cRW_weightOf 25 = .ok (.iload 4, 2) := by decide +kernel
theorem dRW_weightOf_27 : decode cRW_weightOf 27 = .ok (.laload, 1) := by decide +kernel
theorem dRW_weightOf_28 : decode cRW_weightOf 28 = .ok (.goto 4, 3) := by decide +kernel
theorem dRW_weightOf_31 : decode cRW_weightOf 31 = .ok (.lconst 0, 1) := by decide +kernel
theorem dRW_weightOf_32 : decode cRW_weightOf 32 = .ok (.lreturn, 1) := by decide +kernel
theorem dRW_sumOfWeights_0 : decode cRW_sumOfWeights 0 = .ok (.lconst 0, 1) := by decide +kernel
theorem dRW_sumOfWeights_1 : decode cRW_sumOfWeights 1 = .ok (.lstore_n 1, 1) := by decide +kernel
theorem dRW_sumOfWeights_2 : decode cRW_sumOfWeights 2 = .ok (.iconst 0, 1) := by decide +kernel
theorem dRW_sumOfWeights_3 : decode cRW_sumOfWeights 3 = .ok (.istore_n 3, 1) := by decide +kernel
theorem dRW_sumOfWeights_4 : decode cRW_sumOfWeights 4 = .ok (.iload_n 3, 1) := by decide +kernel
theorem dRW_sumOfWeights_5 : decode cRW_sumOfWeights 5 = .ok (.aload_n 0, 1) := by decide +kernel
theorem dRW_sumOfWeights_6 : decode cRW_sumOfWeights 6 = .ok (.getfield 19, 3) := by decide +kernel
theorem dRW_sumOfWeights_9 : decode cRW_sumOfWeights 9 = .ok (.if_icmp .ge 18, 3) := by decide +kernel
theorem dRW_sumOfWeights_12 : decode cRW_sumOfWeights 12 = .ok (.lload_n 1, 1) := by decide +kernel
theorem dRW_sumOfWeights_13 : decode cRW_sumOfWeights 13 = .ok (.aload_n 0, 1) := by decide +kernel
theorem dRW_sumOfWeights_14 : decode cRW_sumOfWeights 14 = .ok (.getfield 15, 3) := by decide +kernel
theorem dRW_sumOfWeights_17 : decode cRW_sumOfWeights 17 = .ok (.iload_n 3, 1) := by decide +kernel
theorem dRW_sumOfWeights_18 : decode cRW_sumOfWeights 18 = .ok (.laload, 1) := by decide +kernel
theorem dRW_sumOfWeights_19 : decode cRW_sumOfWeights 19 = .ok (.ladd, 1) := by decide +kernel
theorem dRW_sumOfWeights_20 : decode cRW_sumOfWeights 20 = .ok (.lstore_n 1, 1) := by decide +kernel
theorem dRW_sumOfWeights_21 : decode cRW_sumOfWeights 21 = .ok (.iinc 3 1, 3) := by decide +kernel
theorem dRW_sumOfWeights_24 : decode cRW_sumOfWeights 24 = .ok (.goto (-20), 3) := by decide +kernel
theorem dRW_sumOfWeights_27 : decode cRW_sumOfWeights 27 = .ok (.lload_n 1, 1) := by decide +kernel
theorem dRW_sumOfWeights_28 : decode cRW_sumOfWeights 28 = .ok (.lreturn, 1) := by decide +kernel
theorem dRW_weightedSum_0 : decode cRW_weightedSum 0 = .ok (.lconst 0, 1) := by decide +kernel
theorem dRW_weightedSum_1 : decode cRW_weightedSum 1 = .ok (.lstore_n 2, 1) := by decide +kernel
theorem dRW_weightedSum_2 : decode cRW_weightedSum 2 = .ok (.iconst 0, 1) := by decide +kernel
theorem dRW_weightedSum_3 : decode cRW_weightedSum 3 = .ok (.istore 4, 2) := by decide +kernel
theorem dRW_weightedSum_5 : decode cRW_weightedSum 5 = .ok (.iload 4, 2) := by decide +kernel
theorem dRW_weightedSum_7 : decode cRW_weightedSum 7 = .ok (.aload_n 0, 1) := by decide +kernel
theorem dRW_weightedSum_8 : decode cRW_weightedSum 8 = .ok (.getfield 19, 3) := by decide +kernel
theorem dRW_weightedSum_11 : decode cRW_weightedSum 11 = .ok (.if_icmp .ge 28, 3) := by decide +kernel
theorem dRW_weightedSum_14 : decode cRW_weightedSum 14 = .ok (.lload_n 2, 1) := by decide +kernel
theorem dRW_weightedSum_15 : decode cRW_weightedSum 15 = .ok (.aload_n 0, 1) := by decide +kernel
theorem dRW_weightedSum_16 : decode cRW_weightedSum 16 = .ok (.getfield 15, 3) := by decide +kernel
theorem dRW_weightedSum_19 : decode cRW_weightedSum 19 = .ok (.iload 4, 2) := by decide +kernel
theorem dRW_weightedSum_21 : decode cRW_weightedSum 21 = .ok (.laload, 1) := by decide +kernel
theorem dRW_weightedSum_22 : decode cRW_weightedSum 22 = .ok (.aload_n 0, 1) := by decide +kernel
theorem dRW_weightedSum_23 : decode cRW_weightedSum 23 = .ok (.iload 4, 2) := by decide +kernel
theorem dRW_weightedSum_25 : decode cRW_weightedSum 25 = .ok (.iload_n 1, 1) := by decide +kernel
theorem dRW_weightedSum_26 : decode cRW_weightedSum 26 = .ok (.invokevirtual 35, 3) := by decide +kernel
theorem dRW_weightedSum_29 : decode cRW_weightedSum 29 = .ok (.i2l, 1) := by decide +kernel
theorem dRW_weightedSum_30 : decode cRW_weightedSum 30 = .ok (.lmul, 1) := by decide +kernel
theorem dRW_weightedSum_31 : decode cRW_weightedSum 31 = .ok (.ladd, 1) := by decide +kernel
theorem dRW_weightedSum_32 : decode cRW_weightedSum 32 = .ok (.lstore_n 2, 1) := by decide +kernel
theorem dRW_weightedSum_33 : decode cRW_weightedSum 33 = .ok (.iinc 4 1, 3) := by decide +kernel
theorem dRW_weightedSum_36 : decode cRW_weightedSum 36 = .ok (.goto (-31), 3) := by decide +kernel
theorem dRW_weightedSum_39 : decode cRW_weightedSum 39 = .ok (.lload_n 2, 1) := by decide +kernel
theorem dRW_weightedSum_40 : decode cRW_weightedSum 40 = .ok (.lreturn, 1) := by decide +kernel
