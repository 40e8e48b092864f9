theorem dGR_fill_0 : decode cGR_fill 0 = .ok (.aload_n 1, 1) := by decide +kernel
theorem dGR_fill_1 : decode cGR_fill 1 = .ok (.aload_n 0, 1) := by decide +kernel
theorem dGR_fill_2 : decode cGR_fill 2 = .ok (.getfield 7, 3) := by decide +kernel
theorem dGR_fill_5 : decode cGR_fill 5 = .ok (.aaload, 1) := by decide +kernel
theorem dGR_fill_6 : decode cGR_fill 6 = .ok (.astore_n 3, 1) := by decide +kernel
theorem dGR_fill_7 : decode cGR_fill 7 = .ok (.iconst 0, 1) := by decide +kernel
theorem dGR_fill_8 : decode cGR_fill 8 = .ok (.istore 4, 2) := by decide +kernel
theorem dGR_fill_10 : decode cGR_fill 10 = .ok (.iload 4, 2) := by decide +kernel
theorem dGR_fill_12 : decode cGR_fill 12 = .ok (.aload_n 3, 1) := by decide +kernel
theorem dGR_fill_13 : decode cGR_fill 13 = .ok (.invokevirtual 22, 3) := by decide +kernel
theorem dGR_fill_16 : decode cGR_fill 16 = .ok (.if_icmp .ge 53, 3) := by decide +kernel
theorem dGR_fill_19 : decode cGR_fill 19 = .ok (.aload_n 3, 1) := by decide +kernel
theorem dGR_fill_20 : decode cGR_fill 20 = .ok (.iload 4, 2) := by decide +kernel
theorem dGR_fill_22 : decode cGR_fill 22 = .ok (.invokevirtual 28, 3) := by decide +kernel
theorem dGR_fill_25 : decode cGR_fill 25 = .ok (.lconst 0, 1) := by decide +kernel
theorem dGR_fill_26 : decode cGR_fill 26 = .ok (.lcmp, 1) := by decide +kernel
theorem dGR_fill_27 : decode cGR_fill 27 = .ok (.ifCond .le 36, 3) := by decide +kernel
theorem dGR_fill_30 : decode cGR_fill 30 = .ok (.aload_n 0, 1) := by decide +kernel
theorem dGR_fill_31 : decode cGR_fill 31 = .ok (.aload_n 3, 1) := by decide +kernel
theorem dGR_fill_32 : decode cGR_fill 32 = .ok (.iload 4, 2) := by decide +kernel
theorem dGR_fill_34 : decode cGR_fill 34 = .ok (.invokevirtual 32, 3) := by decide +kernel
theorem dGR_fill_37 : decode cGR_fill 37 = .ok (.ifCond .eq 26, 3) := by decide +kernel
theorem dGR_fill_40 : decode cGR_fill 40 = .ok (.aload_n 2, 1) := by decide +kernel
theorem dGR_fill_41 : decode cGR_fill 41 = .ok (.aload_n 3, 1) := by decide +kernel
theorem dGR_fill_42 : decode cGR_fill 42 = .ok (.iload 4, 2) := by decide +kernel
theorem dGR_fill_44 : decode cGR_fill 44 = .ok (.aload_n 0, 1) := by decide +kernel
theorem dGR_fill_45 : decode cGR_fill 45 = .ok (.getfield 13, 3) := by decide +kernel
theorem dGR_fill_48 : decode cGR_fill 48 = .ok (.invokevirtual 36, 3) := by decide +kernel
theorem dGR_fill_51 : decode cGR_fill 51 = .ok (.aload_n 0, 1) := by decide +kernel
theorem dGR_fill_52 : decode cGR_fill 52 = .ok (.aload_n 3, 1) := by decide +kernel
theorem dGR_fill_53 : decode cGR_fill 53 = .ok (.iload 4, 2) := by decide +kernel
theorem dGR_fill_55 : decode cGR_fill 55 = .ok (.invokevirtual 40, 3) := by decide +kernel
theorem dGR_fill_58 : decode cGR_fill 58 = .ok (.iconst 0, 1) := by decide +kernel
theorem dGR_fill_59 : decode cGR_fill 59 = .ok (.lconst 1, 1) := by decide +kernel
theorem dGR_fill_60 : decode cGR_fill 60 = .ok (.invokevirtual 44, 3) := by decide +kernel
theorem dGR_fill_63 : decode cGR_fill 63 = .ok (.iinc 4 1, 3) := by decide +kernel
theorem dGR_fill_66 : decode cGR_fill 66 = .ok (.goto (-56), 3) := by decide +kernel
theorem dGR_fill_69 : decode cGR_fill 69 = .ok (.return_, 1) := by decide +kernel
theorem dGR_isFirstOfItsKey_0 : decode cGR_isFirstOfItsKey 0 = .ok (.iconst 0, 1) := by decide +kernel
theorem dGR_isFirstOfItsKey_1 : decode cGR_isFirstOfItsKey 1 = .ok (.istore_n 3, 1) := by decide +kernel
theorem dGR_isFirstOfItsKey_2 : decode cGR_isFirstOfItsKey 2 = .ok (.iload_n 3, 1) := by decide +kernel
theorem dGR_isFirstOfItsKey_3 : decode cGR_isFirstOfItsKey 3 = .ok (.iload_n 2, 1) := by decide +kernel
theorem dGR_isFirstOfItsKey_4 : decode cGR_isFirstOfItsKey 4 = .ok (.if_icmp .ge 29, 3) := by decide +kernel
theorem dGR_isFirstOfItsKey_7 : decode cGR_isFirstOfItsKey 7 = .ok (.aload_n 0, 1) := by decide +kernel
theorem dGR_isFirstOfItsKey_8 : decode cGR_isFirstOfItsKey 8 = .ok (.aload_n 1, 1) := by decide +kernel
theorem dGR_isFirstOfItsKey_9 : decode cGR_isFirstOfItsKey 9 = .ok (.iload_n 3, 1) := by decide +kernel
theorem dGR_isFirstOfItsKey_10 : decode cGR_isFirstOfItsKey 10 = .ok (.aload_n 1, 1) := by decide +kernel
theorem dGR_isFirstOfItsKey_11 : decode cGR_isFirstOfItsKey 11 = .ok (.iload_n 2, 1) := by decide +kernel
theorem dGR_isFirstOfItsKey_12 : decode cGR_isFirstOfItsKey 12 = .ok (.aload_n 0, 1) := by decide +kernel
theorem dGR_isFirstOfItsKey_13 : decode cGR_isFirstOfItsKey 13 = .ok (.getfield 13, 3) := by decide +kernel
theorem dGR_isFirstOfItsKey_16 : decode cGR_isFirstOfItsKey 16 = .ok (.invokevirtual 36, 3) := by decide +kernel
theorem dGR_isFirstOfItsKey_19 : decode cGR_isFirstOfItsKey 19 = .ok (.invokevirtual 48, 3) := by decide +kernel
theorem dGR_isFirstOfItsKey_22 : decode cGR_isFirstOfItsKey 22 = .ok (.ifCond .eq 5, 3) := by decide +kernel
theorem dGR_isFirstOfItsKey_25 : decode cGR_isFirstOfItsKey 25 = .ok (.iconst 0, 1) := by decide +kernel
theorem dGR_isFirstOfItsKey_26 : decode cGR_isFirstOfItsKey 26 = .ok (.ireturn, 1) := by decide +kernel
theorem dGR_isFirstOfItsKey_27 : decode cGR_isFirstOfItsKey 27 = .ok (.iinc 3 1, 3) := by decide +kernel
theorem dGR_isFirstOfItsKey_30 : decode cGR_isFirstOfItsKey 30 = .ok (.goto (-28), 3) := by decide +kernel
theorem dGR_isFirstOfItsKey_33 : decode cGR_isFirstOfItsKey 33 = .ok (.iconst 1, 1) := by decide +kernel
theorem dGR_isFirstOfItsKey_34 : decode cGR_isFirstOfItsKey 34 = .ok (.ireturn, 1) := by decide +kernel
theorem dGR_isWith_0 : decode cGR_isWith 0 = .ok (.aload_n 1, 1) := by decide +kernel
theorem dGR_isWith_1 : decode cGR_isWith 1 = .ok (.iload_n 2, 1) := by decide +kernel
theorem dGR_isWith_2 : decode cGR_isWith 2 = .ok (.invokevirtual 28, 3) := by decide +kernel
theorem dGR_isWith_5 : decode cGR_isWith 5 = .ok (.lconst 0, 1) := by decide +kernel
theorem dGR_isWith_6 : decode cGR_isWith 6 = .ok (.lcmp, 1) := by decide +kernel
theorem dGR_isWith_7 : decode cGR_isWith 7 = .ok (.ifCond .le 20, 3) := by decide +kernel
theorem dGR_isWith_10 : decode cGR_isWith 10 = .ok (.aload_n 1, 1) := by decide +kernel
theorem dGR_isWith_11 : decode cGR_isWith 11 = .ok (.iload_n 2, 1) := by decide +kernel
theorem dGR_isWith_12 : decode cGR_isWith 12 = .ok (.aload_n 0, 1) := by decide +kernel
theorem dGR_isWith_13 : decode cGR_isWith 13 = .ok (.getfield 13, 3) := by decide +kernel
theorem dGR_isWith_16 : decode cGR_isWith 16 = .ok (.invokevirtual 36, 3) := by decide +kernel
theorem dGR_isWith_19 : decode cGR_isWith 19 = .ok (.iload_n 3, 1) := by decide +kernel
theorem dGR_isWith_20 : decode cGR_isWith 20 = .ok (.if_icmp .ne 7, 3) := by decide +kernel
theorem dGR_isWith_23 : decode cGR_isWith 23 = .ok (.iconst 1, 1) := by decide +kernel
theorem dGR_isWith_24 : decode cGR_isWith 24 = .ok (.goto 4, 3) := by decide +kernel
theorem dGR_isWith_27 : decode cGR_isWith 27 = .ok (.iconst 0, 1) := by decide +kernel
theorem dGR_isWith_28 : decode cGR_isWith 28 = .ok (.ireturn, 1) := by decide +kernel
theorem dGR_valueFrom_0 : decode cGR_valueFrom 0 = .ok (.aload_n 1, 1) := by decide +kernel
theorem dGR_valueFrom_1 : decode cGR_valueFrom 1 = .ok (.iload_n 2, 1) := by decide +kernel
theorem dGR_valueFrom_2 : decode cGR_valueFrom 2 = .ok (.aload_n 0, 1) := by decide +kernel
theorem dGR_valueFrom_3 : decode cGR_valueFrom 3 = .ok (.getfield 13, 3) := by decide +kernel
theorem dGR_valueFrom_6 : decode cGR_valueFrom 6 = .ok (.invokevirtual 36, 3) := by decide +kernel
theorem dGR_valueFrom_9 : decode cGR_valueFrom 9 = .ok (.istore_n 3, 1) := by decide +kernel
theorem dGR_valueFrom_10 : decode cGR_valueFrom 10 = .ok (.aload_n 0, 1) := by decide +kernel
theorem dGR_valueFrom_11 : decode cGR_valueFrom 11 = .ok (.aload_n 1, 1) := by decide +kernel
theorem dGR_valueFrom_12 : decode cGR_valueFrom 12 = .ok (.iload_n 2, 1) := by decide +kernel
theorem dGR_valueFrom_13 : decode cGR_valueFrom 13 = .ok (.invokevirtual 52, 3) := by decide +kernel
theorem dGR_valueFrom_16 : decode cGR_valueFrom 16 = .ok (.istore 4, 2) := by decide +kernel
theorem dGR_valueFrom_18 : decode cGR_valueFrom 18 = .ok (.iload_n 2, 1) := by decide +kernel
theorem dGR_valueFrom_19 : decode cGR_valueFrom 19 = .ok (.iconst 1, 1) := by decide +kernel
theorem dGR_valueFrom_20 : decode cGR_valueFrom 20 = .ok (.iadd, 1) := by decide +kernel
theorem dGR_valueFrom_21 : decode cGR_valueFrom 21 = .ok (.istore 5, 2) := by decide +kernel
theorem dGR_valueFrom_23 : decode cGR_valueFrom 23 = .ok (.iload 5, 2) := by decide +kernel
theorem dGR_valueFrom_25 : decode cGR_valueFrom 25 = .ok (.aload_n 1, 1) := by decide +kernel
theorem dGR_valueFrom_26 : decode cGR_valueFrom 26 = .ok (.invokevirtual 22, 3) := by decide +kernel
theorem dGR_valueFrom_29 : decode cGR_valueFrom 29 = .ok (.if_icmp .ge 35, 3) := by decide +kernel
theorem dGR_valueFrom_32 : decode cGR_valueFrom 32 = .ok (.aload_n 0, 1) := by decide +kernel
theorem dGR_valueFrom_33 : decode cGR_valueFrom 33 = .ok (.aload_n 1, 1) := by decide +kernel
theorem dGR_valueFrom_34 : decode cGR_valueFrom 34 = .ok (.iload 5, 2) := by decide +kernel
theorem dGR_valueFrom_36 : decode cGR_valueFrom 36 = .ok (.iload_n 3, 1) := by decide +kernel
theorem dGR_valueFrom_37 : decode cGR_valueFrom 37 = .ok (.invokevirtual 48, 3) := by decide +kernel
theorem dGR_valueFrom_40 : decode cGR_valueFrom 40 = .ok (.ifCond .eq 18, 3) := by decide +kernel
theorem dGR_valueFrom_43 : decode cGR_valueFrom 43 = .ok (.aload_n 0, 1) := by decide +kernel
theorem dGR_valueFrom_44 : decode cGR_valueFrom 44 = .ok (.iload 4, 2) := by decide +kernel
theorem dGR_valueFrom_46 : decode cGR_valueFrom 46 = .ok (.aload_n 0, 1) := by decide +kernel
theorem dGR_valueFrom_47 : decode cGR_valueFrom 47 = .ok (.aload_n 1, 1) := by decide +kernel
theorem dGR_valueFrom_48 : decode cGR_valueFrom 48 = .ok (.iload 5, 2) := by decide +kernel
theorem dGR_valueFrom_50 : decode cGR_valueFrom 50 = .ok (.invokevirtual 52, 3) := by decide +kernel
theorem dGR_valueFrom_53 : decode cGR_valueFrom 53 = .ok (.invokevirtual 55, 3) := by decide +kernel
theorem dGR_valueFrom_56 : decode cGR_valueFrom 56 = .ok (.istore 4, 2) := by decide +kernel
theorem dGR_valueFrom_58 : decode cGR_valueFrom 58 = .ok (.iinc 5 1, 3) := by decide +kernel
theorem dGR_valueFrom_61 : decode cGR_valueFrom 61 = .ok (.goto (-38), 3) := by decide +kernel
theorem dGR_valueFrom_64 : decode cGR_valueFrom 64 = .ok (.iload 4, 2) := by decide +kernel
theorem dGR_valueFrom_66 : decode cGR_valueFrom 66 = .ok (.ireturn, 1) := by decide +kernel
theorem dGR_startValue_0 : decode cGR_startValue 0 = .ok (.aload_n 0, 1) := by decide +kernel
theorem dGR_startValue_1 : decode cGR_startValue 1 = .ok (.getfield 19, 3) := by decide +kernel
theorem dGR_startValue_4 : decode cGR_startValue 4 = .ok (.lookupswitch 53 #[(0, 28), (1, 35)], 28) := by decide +kernel
theorem dGR_startValue_32 : decode cGR_startValue 32 = .ok (.aload_n 1, 1) := by decide +kernel
theorem dGR_startValue_33 : decode cGR_startValue 33 = .ok (.iload_n 2, 1) := by decide +kernel
theorem dGR_startValue_34 : decode cGR_startValue 34 = .ok (.invokevirtual 28, 3) := by decide +kernel
theorem dGR_startValue_37 : decode cGR_startValue 37 = .ok (.l2i, 1) := by decide +kernel
theorem dGR_startValue_38 : decode cGR_startValue 38 = .ok (.ireturn, 1) := by decide +kernel
theorem dGR_startValue_39 : decode cGR_startValue 39 = .ok (.aload_n 1, 1) := by decide +kernel
theorem dGR_startValue_40 : decode cGR_startValue 40 = .ok (.iload_n 2, 1) := by decide +kernel
theorem dGR_startValue_41 : decode cGR_startValue 41 = .ok (.invokevirtual 28, 3) := by decide +kernel
theorem dGR_startValue_44 : decode cGR_startValue 44 = .ok (.aload_n 1, 1) := by decide +kernel
theorem dGR_startValue_45 : decode cGR_startValue 45 = .ok (.iload_n 2, 1) := by decide +kernel
theorem dGR_startValue_46 : decode cGR_startValue 46 = .ok (.aload_n 0, 1) := by decide +kernel
theorem dGR_startValue_47 : decode cGR_startValue 47 = .ok (.getfield 16, 3) := by decide +kernel
theorem dGR_startValue_50 : decode cGR_startValue 50 = .ok (.invokevirtual 36, 3) := by decide +kernel
theorem dGR_startValue_53 : decode cGR_startValue 53 = .ok (.i2l, 1) := by decide +kernel
theorem dGR_startValue_54 : decode cGR_startValue 54 = .ok (.lmul, 1) := by decide +kernel
theorem dGR_startValue_55 : decode cGR_startValue 55 = .ok (.l2i, 1) := by decide +kernel
theorem dGR_startValue_56 : decode cGR_startValue 56 = .ok (.ireturn, 1) := by decide +kernel
theorem dGR_startValue_57 : decode cGR_startValue 57 = .ok (.aload_n 1, 1) := by decide +kernel
theorem dGR_startValue_58 : decode cGR_startValue 58 = .ok (.iload_n 2, 1) := by decide +kernel
theorem dGR_startValue_59 : decode cGR_startValue 59 = .ok (.aload_n 0, 1) := by decide +kernel
theorem dGR_startValue_60 : decode cGR_startValue 60 = .ok (.getfield 16, 3) := by decide +kernel
theorem dGR_startValue_63 : decode cGR_startValue 63 = .ok (.invokevirtual 36, 3) := by decide +kernel
theorem dGR_startValue_66 : decode cGR_startValue 66 = .ok (.ireturn, 1) := by decide +kernel
theorem dGR_joined_0 : decode cGR_joined 0 = .ok (.aload_n 0, 1) := by decide +kernel
theorem dGR_joined_1 : decode cGR_joined 1 = .ok (.getfield 19, 3) := by decide +kernel
theorem dGR_joined_4 : decode cGR_joined 4 = .ok (.lookupswitch 40 #[(2, 28), (3, 34)], 28) := by decide +kernel
theorem dGR_joined_32 : decode cGR_joined 32 = .ok (.iload_n 1, 1) := by decide +kernel
theorem dGR_joined_33 : decode cGR_joined 33 = .ok (.iload_n 2, 1) := by decide +kernel
theorem dGR_joined_34 : decode cGR_joined 34 = .ok (.invokestatic 58, 3) := by decide +kernel
theorem dGR_joined_37 : decode cGR_joined 37 = .ok (.ireturn, 1) := by decide +kernel
theorem dGR_joined_38 : decode cGR_joined 38 = .ok (.iload_n 1, 1) := by decide +kernel
theorem dGR_joined_39 : decode cGR_joined 39 = .ok (.iload_n 2, 1) := by decide +kernel
theorem dGR_joined_40 : decode cGR_joined 40 = .ok (.invokestatic 63, 3) := by decide +kernel
theorem dGR_joined_43 : decode cGR_joined 43 = .ok (.ireturn, 1) := by decide +kernel
theorem dGR_joined_44 : decode cGR_joined 44 = .ok (.iload_n 1, 1) := by decide +kernel
theorem dGR_joined_45 : decode cGR_joined 45 = .ok (.iload_n 2, 1) := by decide +kernel
theorem dGR_joined_46 : decode cGR_joined 46 = .ok (.iadd, 1) := by decide +kernel
theorem dGR_joined_47 : decode cGR_joined 47 = .ok (.ireturn, 1) := by decide +kernel
theorem dGR_init_0 : decode cGR_init 0 = .ok (.aload_n 0, 1) := by decide +kernel
theorem dGR_init_1 : decode cGR_init 1 = .ok (.invokespecial 1, 3) := by decide +kernel
theorem dGR_init_4 : decode cGR_init 4 = .ok (.aload_n 0, 1) := by decide +kernel
theorem dGR_init_5 : decode cGR_init 5 = .ok (.iload_n 1, 1) := by decide +kernel
theorem dGR_init_6 : decode cGR_init 6 = .ok (.putfield 7, 3) := by decide +kernel
theorem dGR_init_9 : decode cGR_init 9 = .ok (.aload_n 0, 1) := by decide +kernel
theorem dGR_init_10 : decode cGR_init 10 = .ok (.iload_n 2, 1) := by decide +kernel
theorem dGR_init_11 : decode cGR_init 11 = .ok (.putfield 13, 3) := by decide +kernel
theorem dGR_init_14 : decode cGR_init 14 = .ok (.aload_n 0, 1) := by decide +kernel
theorem dGR_init_15 : decode cGR_init 15 = .ok (.iload_n 3, 1) := by decide +kernel
theorem dGR_init_16 : decode cGR_init 16 = .ok (.putfield 16, 3) := by decide +kernel
theorem dGR_init_19 : decode cGR_init 19 = .ok (.aload_n 0, 1) := by decide +kernel
theorem dGR_init_20 : decode cGR_init 20 = .ok (.iload 4, 2) := by decide +kernel
theorem dGR_init_22 : decode cGR_init 22 = .ok (.putfield 19, 3) := by decide +kernel
theorem dGR_init_25 : decode cGR_init 25 = .ok (.return_, 1) := by decide +kernel
theorem dJR_fill_0 : decode cJR_fill 0 = .ok (.aload_n 1, 1) := by decide +kernel
theorem dJR_fill_1 : decode cJR_fill 1 = .ok (.aload_n 0, 1) := by decide +kernel
theorem dJR_fill_2 : decode cJR_fill 2 = .ok (.getfield 9, 3) := by decide +kernel
theorem dJR_fill_5 : decode cJR_fill 5 = .ok (.aaload, 1) := by decide +kernel
theorem dJR_fill_6 : decode cJR_fill 6 = .ok (.astore_n 3, 1) := by decide +kernel
theorem dJR_fill_7 : decode cJR_fill 7 = .ok (.aload_n 1, 1) := by decide +kernel
theorem dJR_fill_8 : decode cJR_fill 8 = .ok (.aload_n 0, 1) := by decide +kernel
theorem dJR_fill_9 : decode cJR_fill 9 = .ok (.getfield 15, 3) := by decide +kernel
theorem dJR_fill_12 : decode cJR_fill 12 = .ok (.aaload, 1) := by decide +kernel
theorem dJR_fill_13 : decode cJR_fill 13 = .ok (.astore 4, 2) := by decide +kernel
theorem dJR_fill_15 : decode cJR_fill 15 = .ok (.aload_n 0, 1) := by decide +kernel
theorem dJR_fill_16 : decode cJR_fill 16 = .ok (.getfield 24, 3) := by decide +kernel
theorem dJR_fill_19 : decode cJR_fill 19 = .ok (.bipush 36, 2) := by decide +kernel
theorem dJR_fill_21 : decode cJR_fill 21 = .ok (.idiv, 1) := by decide +kernel
theorem dJR_fill_22 : decode cJR_fill 22 = .ok (.istore 5, 2) := by decide +kernel
theorem dJR_fill_24 : decode cJR_fill 24 = .ok (.aload_n 0, 1) := by decide +kernel
theorem dJR_fill_25 : decode cJR_fill 25 = .ok (.getfield 24, 3) := by decide +kernel
theorem dJR_fill_28 : decode cJR_fill 28 = .ok (.bipush 6, 2) := by decide +kernel
theorem dJR_fill_30 : decode cJR_fill 30 = .ok (.idiv, 1) := by decide +kernel
theorem dJR_fill_31 : decode cJR_fill 31 = .ok (.bipush 6, 2) := by decide +kernel
theorem dJR_fill_33 : decode cJR_fill 33 = .ok (.irem, 1) := by decide +kernel
theorem dJR_fill_34 : decode cJR_fill 34 = .ok (.istore 6, 2) := by decide +kernel
theorem dJR_fill_36 : decode cJR_fill 36 = .ok (.aload_n 0, 1) := by decide +kernel
theorem dJR_fill_37 : decode cJR_fill 37 = .ok (.getfield 24, 3) := by decide +kernel
theorem dJR_fill_40 : decode cJR_fill 40 = .ok (.bipush 6, 2) := by decide +kernel
theorem dJR_fill_42 : decode cJR_fill 42 = .ok (.irem, 1) := by decide +kernel
theorem dJR_fill_43 : decode cJR_fill 43 = .ok (.istore 7, 2) := by decide +kernel
theorem dJR_fill_45 : decode cJR_fill 45 = .ok (.iconst 0, 1) := by decide +kernel
theorem dJR_fill_46 : decode cJR_fill 46 = .ok (.istore 8, 2) := by decide +kernel
theorem dJR_fill_48 : decode cJR_fill 48 = .ok (.iload 8, 2) := by decide +kernel
theorem dJR_fill_50 : decode cJR_fill 50 = .ok (.aload_n 3, 1) := by decide +kernel
theorem dJR_fill_51 : decode cJR_fill 51 = .ok (.invokevirtual 27, 3) := by decide +kernel
theorem dJR_fill_54 : decode cJR_fill 54 = .ok (.if_icmp .ge 106, 3) := by decide +kernel
theorem dJR_fill_57 : decode cJR_fill 57 = .ok (.iconst 0, 1) := by decide +kernel
theorem dJR_fill_58 : decode cJR_fill 58 = .ok (.istore 9, 2) := by decide +kernel
theorem dJR_fill_60 : decode cJR_fill 60 = .ok (.iload 9, 2) := by decide +kernel
theorem dJR_fill_62 : decode cJR_fill 62 = .ok (.aload 4, 2) := by decide +kernel
theorem dJR_fill_64 : decode cJR_fill 64 = .ok (.invokevirtual 27, 3) := by decide +kernel
theorem dJR_fill_67 : decode cJR_fill 67 = .ok (.if_icmp .ge 87, 3) := by decide +kernel
theorem dJR_fill_70 : decode cJR_fill 70 = .ok (.aload_n 3, 1) := by decide +kernel
theorem dJR_fill_71 : decode cJR_fill 71 = .ok (.iload 8, 2) := by decide +kernel
theorem dJR_fill_73 : decode cJR_fill 73 = .ok (.aload_n 0, 1) := by decide +kernel
theorem dJR_fill_74 : decode cJR_fill 74 = .ok (.getfield 18, 3) := by decide +kernel
theorem dJR_fill_77 : decode cJR_fill 77 = .ok (.invokevirtual 33, 3) := by decide +kernel
theorem dJR_fill_80 : decode cJR_fill 80 = .ok (.aload 4, 2) := by decide +kernel
theorem dJR_fill_82 : decode cJR_fill 82 = .ok (.iload 9, 2) := by decide +kernel
theorem dJR_fill_84 : decode cJR_fill 84 = .ok (.aload_n 0, 1) := by decide +kernel
theorem dJR_fill_85 : decode cJR_fill 85 = .ok (.getfield 21, 3) := by decide +kernel
theorem dJR_fill_88 : decode cJR_fill 88 = .ok (.invokevirtual 33, 3) := by decide +kernel
theorem dJR_fill_91 : decode cJR_fill 91 = .ok (.if_icmp .ne 57, 3) := by decide +kernel
theorem dJR_fill_94 : decode cJR_fill 94 = .ok (.aload_n 2, 1) := by decide +kernel
theorem dJR_fill_95 : decode cJR_fill 95 = .ok (.aload_n 3, 1) := by decide +kernel
theorem dJR_fill_96 : decode cJR_fill 96 = .ok (.iload 8, 2) := by decide +kernel
theorem dJR_fill_98 : decode cJR_fill 98 = .ok (.aload 4, 2) := by decide +kernel
theorem dJR_fill_100 : decode cJR_fill 100 = .ok (.iload 9, 2) := by decide +kernel
theorem dJR_fill_102 : decode cJR_fill 102 = .ok (.iload 5, 2) := by decide +kernel
theorem dJR_fill_104 : decode cJR_fill 104 = .ok (.invokestatic 37, 3) := by decide +kernel
theorem dJR_fill_107 : decode cJR_fill 107 = .ok (.aload_n 3, 1) := by decide +kernel
theorem dJR_fill_108 : decode cJR_fill 108 = .ok (.iload 8, 2) := by decide +kernel
theorem dJR_fill_110 : decode cJR_fill 110 = .ok (.aload 4, 2) := by decide +kernel
theorem dJR_fill_112 : decode cJR_fill 112 = .ok (.iload 9, 2) := by decide +kernel
theorem dJR_fill_114 : decode cJR_fill 114 = .ok (.iload 6, 2) := by decide +kernel
theorem dJR_fill_116 : decode cJR_fill 116 = .ok (.invokestatic 37, 3) := by decide +kernel
theorem dJR_fill_119 : decode cJR_fill 119 = .ok (.aload_n 3, 1) := by decide +kernel
theorem dJR_fill_120 : decode cJR_fill 120 = .ok (.iload 8, 2) := by decide +kernel
theorem dJR_fill_122 : decode cJR_fill 122 = .ok (.aload 4, 2) := by decide +kernel
theorem dJR_fill_124 : decode cJR_fill 124 = .ok (.iload 9, 2) := by decide +kernel
theorem dJR_fill_126 : decode cJR_fill 126 = .ok (.iload 7, 2) := by decide +kernel
theorem dJR_fill_128 : decode cJR_fill 128 = .ok (.invokestatic 37, 3) := by decide +kernel
theorem dJR_fill_131 : decode cJR_fill 131 = .ok (.aload_n 3, 1) := by decide +kernel
theorem dJR_fill_132 : decode cJR_fill 132 = .ok (.iload 8, 2) := by decide +kernel
theorem dJR_fill_134 : decode cJR_fill 134 = .ok (.invokevirtual 41, 3) := by decide +kernel
theorem dJR_fill_137 : decode cJR_fill 137 = .ok (.aload 4, 2) := by decide +kernel
theorem dJR_fill_139 : decode cJR_fill 139 = .ok (.iload 9, 2) := by decide +kernel
theorem dJR_fill_141 : decode cJR_fill 141 = .ok (.invokevirtual 41, 3) := by decide +kernel
theorem dJR_fill_144 : decode cJR_fill 144 = .ok (.lmul, 1) := by decide +kernel
theorem dJR_fill_145 : decode cJR_fill 145 = .ok (.invokevirtual 45, 3) := by decide +kernel
theorem dJR_fill_148 : decode cJR_fill 148 = .ok (.iinc 9 1, 3) := by decide +kernel
theorem dJR_fill_151 : decode cJR_fill 151 = .ok (.goto (-91), 3) := by decide +kernel
theorem dJR_fill_154 : decode cJR_fill 154 = .ok (.iinc 8 1, 3) := by decide +kernel
theorem dJR_fill_157 : decode cJR_fill 157 = .ok (.goto (-109), 3) := by decide +kernel
theorem dJR_fill_160 : decode cJR_fill 160 = .ok (.return_, 1) := by decide +kernel
theorem dJR_picked_0 : decode cJR_picked 0 = .ok (.iload 4, 2) := by decide +kernel
theorem dJR_picked_2 : decode cJR_picked 2 = .ok (.iconst 3, 1) := by decide +kernel
theorem dJR_picked_3 : decode cJR_picked 3 = .ok (.if_icmp .ge 13, 3) := by decide +kernel
theorem dJR_picked_6 : decode cJR_picked 6 = .ok (.aload_n 0, 1) := by decide +kernel
theorem dJR_picked_7 : decode cJR_picked 7 = .ok (.iload_n 1, 1) := by decide +kernel
theorem dJR_picked_8 : decode cJR_picked 8 = .ok (.iload 4, 2) := by decide +kernel
theorem dJR_picked_10 : decode cJR_picked 10 = .ok (.invokevirtual 33, 3) := by decide +kernel
theorem dJR_picked_13 : decode cJR_picked 13 = .ok (.goto 12, 3) := by decide +kernel
theorem dJR_picked_16 : decode cJR_picked 16 = .ok (.aload_n 2, 1) := by decide +kernel
theorem dJR_picked_17 : decode cJR_picked 17 = .ok (.iload_n 3, 1) := by decide +kernel
theorem dJR_picked_18 : decode cJR_picked 18 = .ok (.iload 4, 2) := by decide +kernel
theorem dJR_picked_20 : decode cJR_picked 20 = .ok (.iconst 3, 1) := by decide +kernel
theorem dJR_picked_21 : decode cJR_picked 21 = .ok (.isub, 1) := by decide +kernel
theorem dJR_picked_22 : decode cJR_picked 22 = .ok (.invokevirtual 33, 3) := by decide +kernel
theorem dJR_picked_25 : decode cJR_picked 25 = .ok (.ireturn, 1) := by decide +kernel
theorem dJR_init_0 : decode cJR_init 0 = .ok (.aload_n 0, 1) := by decide +kernel
theorem dJR_init_1 : decode cJR_init 1 = .ok (.invokespecial 3, 3) := by decide +kernel
theorem dJR_init_4 : decode cJR_init 4 = .ok (.aload_n 0, 1) := by decide +kernel
theorem dJR_init_5 : decode cJR_init 5 = .ok (.iload_n 1, 1) := by decide +kernel
theorem dJR_init_6 : decode cJR_init 6 = .ok (.putfield 9, 3) := by decide +kernel
theorem dJR_init_9 : decode cJR_init 9 = .ok (.aload_n 0, 1) := by decide +kernel
theorem dJR_init_10 : decode cJR_init 10 = .ok (.iload_n 2, 1) := by decide +kernel
theorem dJR_init_11 : decode cJR_init 11 = .ok (.putfield 15, 3) := by decide +kernel
theorem dJR_init_14 : decode cJR_init 14 = .ok (.aload_n 0, 1) := by decide +kernel
theorem dJR_init_15 : decode cJR_init 15 = .ok (.iload_n 3, 1) := by decide +kernel
theorem dJR_init_16 : decode cJR_init 16 = .ok (.putfield 18, 3) := by decide +kernel
theorem dJR_init_19 : decode cJR_init 19 = .ok (.aload_n 0, 1) := by decide +kernel
theorem dJR_init_20 : decode cJR_init 20 = .ok (.iload 4, 2) := by decide +kernel
theorem dJR_init_22 : decode cJR_init 22 = .ok (.putfield 21, 3) := by decide +kernel
theorem dJR_init_25 : decode cJR_init 25 = .ok (.aload_n 0, 1) := by decide +kernel
theorem dJR_init_26 : decode cJR_init 26 = .ok (.iload 5, 2) := by decide +kernel
theorem dJR_init_28 : decode cJR_init 28 = .ok (.putfield 24, 3) := by decide +kernel
theorem dJR_init_31 : decode cJR_init 31 = .ok (.return_, 1) := by decide +kernel
