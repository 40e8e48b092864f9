theorem dMD_init_0 : decode cMD_init 0 = .ok (.aload_n 0, 1) := by decide +kernel
theorem dMD_init_1 : decode cMD_init 1 = .ok (.invokespecial 1, 3) := by decide +kernel
theorem dMD_init_4 : decode cMD_init 4 = .ok (.aload_n 0, 1) := by decide +kernel
theorem dMD_init_5 : decode cMD_init 5 = .ok (.sipush 624, 3) := by decide +kernel
theorem dMD_init_8 : decode cMD_init 8 = .ok (.newarray .int, 2) := by decide +kernel
theorem dMD_init_10 : decode cMD_init 10 = .ok (.putfield 7, 3) := by decide +kernel
theorem dMD_init_13 : decode cMD_init 13 = .ok (.aload_n 0, 1) := by decide +kernel
theorem dMD_init_14 : decode cMD_init 14 = .ok (.sipush 624, 3) := by decide +kernel
theorem dMD_init_17 : decode cMD_init 17 = .ok (.newarray .int, 2) := by decide +kernel
theorem dMD_init_19 : decode cMD_init 19 = .ok (.putfield 13, 3) := by decide +kernel
theorem dMD_init_22 : decode cMD_init 22 = .ok (.aload_n 0, 1) := by decide +kernel
theorem dMD_init_23 : decode cMD_init 23 = .ok (.sipush 624, 3) := by decide +kernel
theorem dMD_init_26 : decode cMD_init 26 = .ok (.newarray .int, 2) := by decide +kernel
theorem dMD_init_28 : decode cMD_init 28 = .ok (.putfield 16, 3) := by decide +kernel
theorem dMD_init_31 : decode cMD_init 31 = .ok (.aload_n 0, 1) := by decide +kernel
theorem dMD_init_32 : decode cMD_init 32 = .ok (.sipush 624, 3) := by decide +kernel
theorem dMD_init_35 : decode cMD_init 35 = .ok (.newarray .long, 2) := by decide +kernel
theorem dMD_init_37 : decode cMD_init 37 = .ok (.putfield 19, 3) := by decide +kernel
theorem dMD_init_40 : decode cMD_init 40 = .ok (.aload_n 0, 1) := by decide +kernel
theorem dMD_init_41 : decode cMD_init 41 = .ok (.bipush 26, 2) := by decide +kernel
theorem dMD_init_43 : decode cMD_init 43 = .ok (.newarray .int, 2) := by decide +kernel
theorem dMD_init_45 : decode cMD_init 45 = .ok (.putfield 23, 3) := by decide +kernel
theorem dMD_init_48 : decode cMD_init 48 = .ok (.aload_n 0, 1) := by decide +kernel
theorem dMD_init_49 : decode cMD_init 49 = .ok (.sipush 600, 3) := by decide +kernel
theorem dMD_init_52 : decode cMD_init 52 = .ok (.newarray .int, 2) := by decide +kernel
theorem dMD_init_54 : decode cMD_init 54 = .ok (.putfield 26, 3) := by decide +kernel
theorem dMD_init_57 : decode cMD_init 57 = .ok (.aload_n 0, 1) := by decide +kernel
theorem dMD_init_58 : decode cMD_init 58 = .ok (.sipush 600, 3) := by decide +kernel
theorem dMD_init_61 : decode cMD_init 61 = .ok (.newarray .int, 2) := by decide +kernel
theorem dMD_init_63 : decode cMD_init 63 = .ok (.putfield 29, 3) := by decide +kernel
theorem dMD_init_66 : decode cMD_init 66 = .ok (.aload_n 0, 1) := by decide +kernel
theorem dMD_init_67 : decode cMD_init 67 = .ok (.sipush 600, 3) := by decide +kernel
theorem dMD_init_70 : decode cMD_init 70 = .ok (.newarray .int, 2) := by decide +kernel
theorem dMD_init_72 : decode cMD_init 72 = .ok (.putfield 32, 3) := by decide +kernel
theorem dMD_init_75 : decode cMD_init 75 = .ok (.aload_n 0, 1) := by decide +kernel
theorem dMD_init_76 : decode cMD_init 76 = .ok (.sipush 600, 3) := by decide +kernel
theorem dMD_init_79 : decode cMD_init 79 = .ok (.newarray .long, 2) := by decide +kernel
theorem dMD_init_81 : decode cMD_init 81 = .ok (.putfield 35, 3) := by decide +kernel
theorem dMD_init_84 : decode cMD_init 84 = .ok (.aload_n 0, 1) := by decide +kernel
theorem dMD_init_85 : decode cMD_init 85 = .ok (.bipush 10, 2) := by decide +kernel
theorem dMD_init_87 : decode cMD_init 87 = .ok (.newarray .int, 2) := by decide +kernel
theorem dMD_init_89 : decode cMD_init 89 = .ok (.putfield 38, 3) := by decide +kernel
theorem dMD_init_92 : decode cMD_init 92 = .ok (.aload_n 0, 1) := by decide +kernel
theorem dMD_init_93 : decode cMD_init 93 = .ok (.bipush 50, 2) := by decide +kernel
theorem dMD_init_95 : decode cMD_init 95 = .ok (.newarray .int, 2) := by decide +kernel
theorem dMD_init_97 : decode cMD_init 97 = .ok (.putfield 41, 3) := by decide +kernel
theorem dMD_init_100 : decode cMD_init 100 = .ok (.aload_n 0, 1) := by decide +kernel
theorem dMD_init_101 : decode cMD_init 101 = .ok (.bipush 10, 2) := by decide +kernel
theorem dMD_init_103 : decode cMD_init 103 = .ok (.newarray .int, 2) := by decide +kernel
theorem dMD_init_105 : decode cMD_init 105 = .ok (.putfield 44, 3) := by decide +kernel
theorem dMD_init_108 : decode cMD_init 108 = .ok (.aload_n 0, 1) := by decide +kernel
theorem dMD_init_109 : decode cMD_init 109 = .ok (.bipush 12, 2) := by decide +kernel
theorem dMD_init_111 : decode cMD_init 111 = .ok (.newarray .int, 2) := by decide +kernel
theorem dMD_init_113 : decode cMD_init 113 = .ok (.putfield 47, 3) := by decide +kernel
theorem dMD_init_116 : decode cMD_init 116 = .ok (.aload_n 0, 1) := by decide +kernel
theorem dMD_init_117 : decode cMD_init 117 = .ok (.bipush 12, 2) := by decide +kernel
theorem dMD_init_119 : decode cMD_init 119 = .ok (.newarray .int, 2) := by decide +kernel
theorem dMD_init_121 : decode cMD_init 121 = .ok (.putfield 50, 3) := by decide +kernel
theorem dMD_init_124 : decode cMD_init 124 = .ok (.aload_n 0, 1) := by decide +kernel
theorem dMD_init_125 : decode cMD_init 125 = .ok (.bipush 12, 2) := by decide +kernel
theorem dMD_init_127 : decode cMD_init 127 = .ok (.newarray .int, 2) := by decide +kernel
theorem dMD_init_129 : decode cMD_init 129 = .ok (.putfield 53, 3) := by decide +kernel
theorem dMD_init_132 : decode cMD_init 132 = .ok (.aload_n 0, 1) := by decide +kernel
theorem dMD_init_133 : decode cMD_init 133 = .ok (.bipush 12, 2) := by decide +kernel
theorem dMD_init_135 : decode cMD_init 135 = .ok (.newarray .int, 2) := by decide +kernel
theorem dMD_init_137 : decode cMD_init 137 = .ok (.putfield 56, 3) := by decide +kernel
theorem dMD_init_140 : decode cMD_init 140 = .ok (.aload_n 0, 1) := by decide +kernel
theorem dMD_init_141 : decode cMD_init 141 = .ok (.bipush 12, 2) := by decide +kernel
theorem dMD_init_143 : decode cMD_init 143 = .ok (.newarray .int, 2) := by decide +kernel
theorem dMD_init_145 : decode cMD_init 145 = .ok (.putfield 59, 3) := by decide +kernel
theorem dMD_init_148 : decode cMD_init 148 = .ok (.return_, 1) := by decide +kernel
theorem dMD_table_0 : decode cMD_table 0 = .ok (.aload_n 0, 1) := by decide +kernel
theorem dMD_table_1 : decode cMD_table 1 = .ok (.iload_n 1, 1) := by decide +kernel
theorem dMD_table_2 : decode cMD_table 2 = .ok (.iconst 3, 1) := by decide +kernel
theorem dMD_table_3 : decode cMD_table 3 = .ok (.invokevirtual 112, 3) := by decide +kernel
theorem dMD_table_6 : decode cMD_table 6 = .ok (.ifCond .eq 7, 3) := by decide +kernel
theorem dMD_table_9 : decode cMD_table 9 = .ok (.iconst (-1), 1) := by decide +kernel
theorem dMD_table_10 : decode cMD_table 10 = .ok (.goto 13, 3) := by decide +kernel
theorem dMD_table_13 : decode cMD_table 13 = .ok (.aload_n 0, 1) := by decide +kernel
theorem dMD_table_14 : decode cMD_table 14 = .ok (.iconst 0, 1) := by decide +kernel
theorem dMD_table_15 : decode cMD_table 15 = .ok (.iload_n 1, 1) := by decide +kernel
theorem dMD_table_16 : decode cMD_table 16 = .ok (.iconst 0, 1) := by decide +kernel
theorem dMD_table_17 : decode cMD_table 17 = .ok (.iconst 0, 1) := by decide +kernel
theorem dMD_table_18 : decode cMD_table 18 = .ok (.iconst 0, 1) := by decide +kernel
theorem dMD_table_19 : decode cMD_table 19 = .ok (.iconst 0, 1) := by decide +kernel
theorem dMD_table_20 : decode cMD_table 20 = .ok (.invokevirtual 115, 3) := by decide +kernel
theorem dMD_table_23 : decode cMD_table 23 = .ok (.ireturn, 1) := by decide +kernel
theorem dMD_out_0 : decode cMD_out 0 = .ok (.iload_n 1, 1) := by decide +kernel
theorem dMD_out_1 : decode cMD_out 1 = .ok (.ifCond .lt 8, 3) := by decide +kernel
theorem dMD_out_4 : decode cMD_out 4 = .ok (.iload_n 1, 1) := by decide +kernel
theorem dMD_out_5 : decode cMD_out 5 = .ok (.iload_n 2, 1) := by decide +kernel
theorem dMD_out_6 : decode cMD_out 6 = .ok (.if_icmp .lt 7, 3) := by decide +kernel
theorem dMD_out_9 : decode cMD_out 9 = .ok (.iconst 1, 1) := by decide +kernel
theorem dMD_out_10 : decode cMD_out 10 = .ok (.goto 4, 3) := by decide +kernel
theorem dMD_out_13 : decode cMD_out 13 = .ok (.iconst 0, 1) := by decide +kernel
theorem dMD_out_14 : decode cMD_out 14 = .ok (.ireturn, 1) := by decide +kernel
theorem dMD_make_0 : decode cMD_make 0 = .ok (.aload_n 0, 1) := by decide +kernel
theorem dMD_make_1 : decode cMD_make 1 = .ok (.getfield 106, 3) := by decide +kernel
theorem dMD_make_4 : decode cMD_make 4 = .ok (.bipush 10, 2) := by decide +kernel
theorem dMD_make_6 : decode cMD_make 6 = .ok (.if_icmp .ne 6, 3) := by decide +kernel
theorem dMD_make_9 : decode cMD_make 9 = .ok (.bipush (-2), 2) := by decide +kernel
theorem dMD_make_11 : decode cMD_make 11 = .ok (.ireturn, 1) := by decide +kernel
theorem dMD_make_12 : decode cMD_make 12 = .ok (.aload_n 0, 1) := by decide +kernel
theorem dMD_make_13 : decode cMD_make 13 = .ok (.getfield 38, 3) := by decide +kernel
theorem dMD_make_16 : decode cMD_make 16 = .ok (.aload_n 0, 1) := by decide +kernel
theorem dMD_make_17 : decode cMD_make 17 = .ok (.getfield 106, 3) := by decide +kernel
theorem dMD_make_20 : decode cMD_make 20 = .ok (.iload_n 1, 1) := by decide +kernel
theorem dMD_make_21 : decode cMD_make 21 = .ok (.iastore, 1) := by decide +kernel
theorem dMD_make_22 : decode cMD_make 22 = .ok (.aload_n 0, 1) := by decide +kernel
theorem dMD_make_23 : decode cMD_make 23 = .ok (.getfield 41, 3) := by decide +kernel
theorem dMD_make_26 : decode cMD_make 26 = .ok (.aload_n 0, 1) := by decide +kernel
theorem dMD_make_27 : decode cMD_make 27 = .ok (.getfield 106, 3) := by decide +kernel
theorem dMD_make_30 : decode cMD_make 30 = .ok (.iconst 5, 1) := by decide +kernel
theorem dMD_make_31 : decode cMD_make 31 = .ok (.imul, 1) := by decide +kernel
theorem dMD_make_32 : decode cMD_make 32 = .ok (.iload_n 2, 1) := by decide +kernel
theorem dMD_make_33 : decode cMD_make 33 = .ok (.iastore, 1) := by decide +kernel
theorem dMD_make_34 : decode cMD_make 34 = .ok (.aload_n 0, 1) := by decide +kernel
theorem dMD_make_35 : decode cMD_make 35 = .ok (.getfield 41, 3) := by decide +kernel
theorem dMD_make_38 : decode cMD_make 38 = .ok (.aload_n 0, 1) := by decide +kernel
theorem dMD_make_39 : decode cMD_make 39 = .ok (.getfield 106, 3) := by decide +kernel
theorem dMD_make_42 : decode cMD_make 42 = .ok (.iconst 5, 1) := by decide +kernel
theorem dMD_make_43 : decode cMD_make 43 = .ok (.imul, 1) := by decide +kernel
theorem dMD_make_44 : decode cMD_make 44 = .ok (.iconst 1, 1) := by decide +kernel
theorem dMD_make_45 : decode cMD_make 45 = .ok (.iadd, 1) := by decide +kernel
theorem dMD_make_46 : decode cMD_make 46 = .ok (.iload_n 3, 1) := by decide +kernel
theorem dMD_make_47 : decode cMD_make 47 = .ok (.iastore, 1) := by decide +kernel
theorem dMD_make_48 : decode cMD_make 48 = .ok (.aload_n 0, 1) := by decide +kernel
theorem dMD_make_49 : decode cMD_make 49 = .ok (.getfield 41, 3) := by decide +kernel
theorem dMD_make_52 : decode cMD_make 52 = .ok (.aload_n 0, 1) := by decide +kernel
theorem dMD_make_53 : decode cMD_make 53 = .ok (.getfield 106, 3) := by decide +kernel
theorem dMD_make_56 : decode cMD_make 56 = .ok (.iconst 5, 1) := by decide +kernel
theorem dMD_make_57 : decode cMD_make 57 = .ok (.imul, 1) := by decide +kernel
theorem dMD_make_58 : decode cMD_make 58 = .ok (.iconst 2, 1) := by decide +kernel
theorem dMD_make_59 : decode cMD_make 59 = .ok (.iadd, 1) := by decide +kernel
theorem dMD_make_60 : decode cMD_make 60 = .ok (.iload 4, 2) := by decide +kernel
theorem dMD_make_62 : decode cMD_make 62 = .ok (.iastore, 1) := by decide +kernel
theorem dMD_make_63 : decode cMD_make 63 = .ok (.aload_n 0, 1) := by decide +kernel
theorem dMD_make_64 : decode cMD_make 64 = .ok (.getfield 41, 3) := by decide +kernel
theorem dMD_make_67 : decode cMD_make 67 = .ok (.aload_n 0, 1) := by decide +kernel
theorem dMD_make_68 : decode cMD_make 68 = .ok (.getfield 106, 3) := by decide +kernel
theorem dMD_make_71 : decode cMD_make 71 = .ok (.iconst 5, 1) := by decide +kernel
theorem dMD_make_72 : decode cMD_make 72 = .ok (.imul, 1) := by decide +kernel
theorem dMD_make_73 : decode cMD_make 73 = .ok (.iconst 3, 1) := by decide +kernel
theorem dMD_make_74 : decode cMD_make 74 = .ok (.iadd, 1) := by decide +kernel
theorem dMD_make_75 : decode cMD_make 75 = .ok (.iload 5, 2) := by decide +kernel
theorem dMD_make_77 : decode cMD_make 77 = .ok (.iastore, 1) := by decide +kernel
theorem dMD_make_78 : decode cMD_make 78 = .ok (.aload_n 0, 1) := by decide +kernel
theorem dMD_make_79 : decode cMD_make 79 = .ok (.getfield 41, 3) := by decide +kernel
theorem dMD_make_82 : decode cMD_make 82 = .ok (.aload_n 0, 1) := by decide +kernel
theorem dMD_make_83 : decode cMD_make 83 = .ok (.getfield 106, 3) := by decide +kernel
theorem dMD_make_86 : decode cMD_make 86 = .ok (.iconst 5, 1) := by decide +kernel
theorem dMD_make_87 : decode cMD_make 87 = .ok (.imul, 1) := by decide +kernel
theorem dMD_make_88 : decode cMD_make 88 = .ok (.iconst 4, 1) := by decide +kernel
theorem dMD_make_89 : decode cMD_make 89 = .ok (.iadd, 1) := by decide +kernel
theorem dMD_make_90 : decode cMD_make 90 = .ok (.iload 6, 2) := by decide +kernel
theorem dMD_make_92 : decode cMD_make 92 = .ok (.iastore, 1) := by decide +kernel
theorem dMD_make_93 : decode cMD_make 93 = .ok (.aload_n 0, 1) := by decide +kernel
theorem dMD_make_94 : decode cMD_make 94 = .ok (.aload_n 0, 1) := by decide +kernel
theorem dMD_make_95 : decode cMD_make 95 = .ok (.getfield 106, 3) := by decide +kernel
theorem dMD_make_98 : decode cMD_make 98 = .ok (.iconst 0, 1) := by decide +kernel
theorem dMD_make_99 : decode cMD_make 99 = .ok (.invokevirtual 109, 3) := by decide +kernel
theorem dMD_make_102 : decode cMD_make 102 = .ok (.ifCond .ne 6, 3) := by decide +kernel
theorem dMD_make_105 : decode cMD_make 105 = .ok (.bipush (-2), 2) := by decide +kernel
theorem dMD_make_107 : decode cMD_make 107 = .ok (.ireturn, 1) := by decide +kernel
theorem dMD_make_108 : decode cMD_make 108 = .ok (.aload_n 0, 1) := by decide +kernel
theorem dMD_make_109 : decode cMD_make 109 = .ok (.getfield 44, 3) := by decide +kernel
theorem dMD_make_112 : decode cMD_make 112 = .ok (.aload_n 0, 1) := by decide +kernel
theorem dMD_make_113 : decode cMD_make 113 = .ok (.getfield 106, 3) := by decide +kernel
theorem dMD_make_116 : decode cMD_make 116 = .ok (.iconst 0, 1) := by decide +kernel
theorem dMD_make_117 : decode cMD_make 117 = .ok (.iastore, 1) := by decide +kernel
theorem dMD_make_118 : decode cMD_make 118 = .ok (.aload_n 0, 1) := by decide +kernel
theorem dMD_make_119 : decode cMD_make 119 = .ok (.dup, 1) := by decide +kernel
theorem dMD_make_120 : decode cMD_make 120 = .ok (.getfield 106, 3) := by decide +kernel
theorem dMD_make_123 : decode cMD_make 123 = .ok (.iconst 1, 1) := by decide +kernel
theorem dMD_make_124 : decode cMD_make 124 = .ok (.iadd, 1) := by decide +kernel
theorem dMD_make_125 : decode cMD_make 125 = .ok (.putfield 106, 3) := by decide +kernel
theorem dMD_make_128 : decode cMD_make 128 = .ok (.aload_n 0, 1) := by decide +kernel
theorem dMD_make_129 : decode cMD_make 129 = .ok (.getfield 106, 3) := by decide +kernel
theorem dMD_make_132 : decode cMD_make 132 = .ok (.iconst 1, 1) := by decide +kernel
theorem dMD_make_133 : decode cMD_make 133 = .ok (.isub, 1) := by decide +kernel
theorem dMD_make_134 : decode cMD_make 134 = .ok (.ireturn, 1) := by decide +kernel
theorem dMD_evaluate_0 : decode cMD_evaluate 0 = .ok (.aload_n 0, 1) := by decide +kernel
theorem dMD_evaluate_1 : decode cMD_evaluate 1 = .ok (.iconst 0, 1) := by decide +kernel
theorem dMD_evaluate_2 : decode cMD_evaluate 2 = .ok (.putfield 62, 3) := by decide +kernel
theorem dMD_evaluate_5 : decode cMD_evaluate 5 = .ok (.aload_n 0, 1) := by decide +kernel
theorem dMD_evaluate_6 : decode cMD_evaluate 6 = .ok (.getfield 41, 3) := by decide +kernel
theorem dMD_evaluate_9 : decode cMD_evaluate 9 = .ok (.iload_n 1, 1) := by decide +kernel
theorem dMD_evaluate_10 : decode cMD_evaluate 10 = .ok (.iconst 5, 1) := by decide +kernel
theorem dMD_evaluate_11 : decode cMD_evaluate 11 = .ok (.imul, 1) := by decide +kernel
theorem dMD_evaluate_12 : decode cMD_evaluate 12 = .ok (.iaload, 1) := by decide +kernel
theorem dMD_evaluate_13 : decode cMD_evaluate 13 = .ok (.istore_n 3, 1) := by decide +kernel
theorem dMD_evaluate_14 : decode cMD_evaluate 14 = .ok (.aload_n 0, 1) := by decide +kernel
theorem dMD_evaluate_15 : decode cMD_evaluate 15 = .ok (.getfield 38, 3) := by decide +kernel
theorem dMD_evaluate_18 : decode cMD_evaluate 18 = .ok (.iload_n 1, 1) := by decide +kernel
theorem dMD_evaluate_19 : decode cMD_evaluate 19 = .ok (.iaload, 1) := by decide +kernel
theorem dMD_evaluate_20 : decode cMD_evaluate 20 = .ok (.ifCond .ne 9, 3) := by decide +kernel
theorem dMD_evaluate_23 : decode cMD_evaluate 23 = .ok (.iload_n 2, 1) := by decide +kernel
theorem dMD_evaluate_24 : decode cMD_evaluate 24 = .ok (.iload_n 3, 1) := by decide +kernel
theorem dMD_evaluate_25 : decode cMD_evaluate 25 = .ok (.iadd, 1) := by decide +kernel
theorem dMD_evaluate_26 : decode cMD_evaluate 26 = .ok (.goto 8, 3) := by decide +kernel
theorem dMD_evaluate_29 : decode cMD_evaluate 29 = .ok (.iload_n 2, 1) := by decide +kernel
theorem dMD_evaluate_30 : decode cMD_evaluate 30 = .ok (.iconst 3, 1) := by decide +kernel
theorem dMD_evaluate_31 : decode cMD_evaluate 31 = .ok (.iadd, 1) := by decide +kernel
theorem dMD_evaluate_32 : decode cMD_evaluate 32 = .ok (.iload_n 3, 1) := by decide +kernel
theorem dMD_evaluate_33 : decode cMD_evaluate 33 = .ok (.iadd, 1) := by decide +kernel
theorem dMD_evaluate_34 : decode cMD_evaluate 34 = .ok (.istore 4, 2) := by decide +kernel
theorem dMD_evaluate_36 : decode cMD_evaluate 36 = .ok (.iload_n 2, 1) := by decide +kernel
theorem dMD_evaluate_37 : decode cMD_evaluate 37 = .ok (.iconst 3, 1) := by decide +kernel
theorem dMD_evaluate_38 : decode cMD_evaluate 38 = .ok (.iadd, 1) := by decide +kernel
theorem dMD_evaluate_39 : decode cMD_evaluate 39 = .ok (.aload_n 0, 1) := by decide +kernel
theorem dMD_evaluate_40 : decode cMD_evaluate 40 = .ok (.getfield 41, 3) := by decide +kernel
theorem dMD_evaluate_43 : decode cMD_evaluate 43 = .ok (.iload_n 1, 1) := by decide +kernel
theorem dMD_evaluate_44 : decode cMD_evaluate 44 = .ok (.iconst 5, 1) := by decide +kernel
theorem dMD_evaluate_45 : decode cMD_evaluate 45 = .ok (.imul, 1) := by decide +kernel
theorem dMD_evaluate_46 : decode cMD_evaluate 46 = .ok (.iconst 1, 1) := by decide +kernel
theorem dMD_evaluate_47 : decode cMD_evaluate 47 = .ok (.iadd, 1) := by decide +kernel
theorem dMD_evaluate_48 : decode cMD_evaluate 48 = .ok (.iaload, 1) := by decide +kernel
theorem dMD_evaluate_49 : decode cMD_evaluate 49 = .ok (.iadd, 1) := by decide +kernel
theorem dMD_evaluate_50 : decode cMD_evaluate 50 = .ok (.istore 5, 2) := by decide +kernel
theorem dMD_evaluate_52 : decode cMD_evaluate 52 = .ok (.iload 4, 2) := by decide +kernel
theorem dMD_evaluate_54 : decode cMD_evaluate 54 = .ok (.bipush 24, 2) := by decide +kernel
theorem dMD_evaluate_56 : decode cMD_evaluate 56 = .ok (.imul, 1) := by decide +kernel
theorem dMD_evaluate_57 : decode cMD_evaluate 57 = .ok (.istore 6, 2) := by decide +kernel
theorem dMD_evaluate_59 : decode cMD_evaluate 59 = .ok (.iload 6, 2) := by decide +kernel
theorem dMD_evaluate_61 : decode cMD_evaluate 61 = .ok (.iload 4, 2) := by decide +kernel
theorem dMD_evaluate_63 : decode cMD_evaluate 63 = .ok (.bipush 24, 2) := by decide +kernel
theorem dMD_evaluate_65 : decode cMD_evaluate 65 = .ok (.imul, 1) := by decide +kernel
theorem dMD_evaluate_66 : decode cMD_evaluate 66 = .ok (.aload_n 0, 1) := by decide +kernel
theorem dMD_evaluate_67 : decode cMD_evaluate 67 = .ok (.getfield 23, 3) := by decide +kernel
theorem dMD_evaluate_70 : decode cMD_evaluate 70 = .ok (.iload 4, 2) := by decide +kernel
theorem dMD_evaluate_72 : decode cMD_evaluate 72 = .ok (.iaload, 1) := by decide +kernel
theorem dMD_evaluate_73 : decode cMD_evaluate 73 = .ok (.iadd, 1) := by decide +kernel
theorem dMD_evaluate_74 : decode cMD_evaluate 74 = .ok (.if_icmp .ge 85, 3) := by decide +kernel
theorem dMD_evaluate_77 : decode cMD_evaluate 77 = .ok (.aload_n 0, 1) := by decide +kernel
theorem dMD_evaluate_78 : decode cMD_evaluate 78 = .ok (.getfield 38, 3) := by decide +kernel
theorem dMD_evaluate_81 : decode cMD_evaluate 81 = .ok (.iload_n 1, 1) := by decide +kernel
theorem dMD_evaluate_82 : decode cMD_evaluate 82 = .ok (.iaload, 1) := by decide +kernel
theorem dMD_evaluate_83 : decode cMD_evaluate 83 = .ok (.iconst 3, 1) := by decide +kernel
theorem dMD_evaluate_84 : decode cMD_evaluate 84 = .ok (.if_icmp .ne 15, 3) := by decide +kernel
theorem dMD_evaluate_87 : decode cMD_evaluate 87 = .ok (.aload_n 0, 1) := by decide +kernel
theorem dMD_evaluate_88 : decode cMD_evaluate 88 = .ok (.iload_n 1, 1) := by decide +kernel
theorem dMD_evaluate_89 : decode cMD_evaluate 89 = .ok (.iload 6, 2) := by decide +kernel
theorem dMD_evaluate_91 : decode cMD_evaluate 91 = .ok (.iload 5, 2) := by decide +kernel
theorem dMD_evaluate_93 : decode cMD_evaluate 93 = .ok (.invokevirtual 96, 3) := by decide +kernel
theorem dMD_evaluate_96 : decode cMD_evaluate 96 = .ok (.goto 57, 3) := by decide +kernel
theorem dMD_evaluate_99 : decode cMD_evaluate 99 = .ok (.aload_n 0, 1) := by decide +kernel
theorem dMD_evaluate_100 : decode cMD_evaluate 100 = .ok (.getfield 38, 3) := by decide +kernel
theorem dMD_evaluate_103 : decode cMD_evaluate 103 = .ok (.iload_n 1, 1) := by decide +kernel
theorem dMD_evaluate_104 : decode cMD_evaluate 104 = .ok (.iaload, 1) := by decide +kernel
theorem dMD_evaluate_105 : decode cMD_evaluate 105 = .ok (.iconst 4, 1) := by decide +kernel
theorem dMD_evaluate_106 : decode cMD_evaluate 106 = .ok (.if_icmp .ne 38, 3) := by decide +kernel
theorem dMD_evaluate_109 : decode cMD_evaluate 109 = .ok (.aload_n 0, 1) := by decide +kernel
theorem dMD_evaluate_110 : decode cMD_evaluate 110 = .ok (.aload_n 0, 1) := by decide +kernel
theorem dMD_evaluate_111 : decode cMD_evaluate 111 = .ok (.getfield 7, 3) := by decide +kernel
theorem dMD_evaluate_114 : decode cMD_evaluate 114 = .ok (.iload 6, 2) := by decide +kernel
theorem dMD_evaluate_116 : decode cMD_evaluate 116 = .ok (.iaload, 1) := by decide +kernel
theorem dMD_evaluate_117 : decode cMD_evaluate 117 = .ok (.aload_n 0, 1) := by decide +kernel
theorem dMD_evaluate_118 : decode cMD_evaluate 118 = .ok (.getfield 13, 3) := by decide +kernel
theorem dMD_evaluate_121 : decode cMD_evaluate 121 = .ok (.iload 6, 2) := by decide +kernel
theorem dMD_evaluate_123 : decode cMD_evaluate 123 = .ok (.iaload, 1) := by decide +kernel
theorem dMD_evaluate_124 : decode cMD_evaluate 124 = .ok (.aload_n 0, 1) := by decide +kernel
theorem dMD_evaluate_125 : decode cMD_evaluate 125 = .ok (.getfield 16, 3) := by decide +kernel
theorem dMD_evaluate_128 : decode cMD_evaluate 128 = .ok (.iload 6, 2) := by decide +kernel
theorem dMD_evaluate_130 : decode cMD_evaluate 130 = .ok (.iaload, 1) := by decide +kernel
theorem dMD_evaluate_131 : decode cMD_evaluate 131 = .ok (.aload_n 0, 1) := by decide +kernel
theorem dMD_evaluate_132 : decode cMD_evaluate 132 = .ok (.getfield 19, 3) := by decide +kernel
theorem dMD_evaluate_135 : decode cMD_evaluate 135 = .ok (.iload 6, 2) := by decide +kernel
theorem dMD_evaluate_137 : decode cMD_evaluate 137 = .ok (.laload, 1) := by decide +kernel
theorem dMD_evaluate_138 : decode cMD_evaluate 138 = .ok (.invokevirtual 82, 3) := by decide +kernel
theorem dMD_evaluate_141 : decode cMD_evaluate 141 = .ok (.goto 12, 3) := by decide +kernel
theorem dMD_evaluate_144 : decode cMD_evaluate 144 = .ok (.aload_n 0, 1) := by decide +kernel
theorem dMD_evaluate_145 : decode cMD_evaluate 145 = .ok (.iload_n 1, 1) := by decide +kernel
theorem dMD_evaluate_146 : decode cMD_evaluate 146 = .ok (.iload 6, 2) := by decide +kernel
theorem dMD_evaluate_148 : decode cMD_evaluate 148 = .ok (.iload 4, 2) := by decide +kernel
theorem dMD_evaluate_150 : decode cMD_evaluate 150 = .ok (.invokevirtual 100, 3) := by decide +kernel
theorem dMD_evaluate_153 : decode cMD_evaluate 153 = .ok (.iinc 6 1, 3) := by decide +kernel
theorem dMD_evaluate_156 : decode cMD_evaluate 156 = .ok (.goto (-97), 3) := by decide +kernel
theorem dMD_evaluate_159 : decode cMD_evaluate 159 = .ok (.aload_n 0, 1) := by decide +kernel
theorem dMD_evaluate_160 : decode cMD_evaluate 160 = .ok (.getfield 38, 3) := by decide +kernel
theorem dMD_evaluate_163 : decode cMD_evaluate 163 = .ok (.iload_n 1, 1) := by decide +kernel
theorem dMD_evaluate_164 : decode cMD_evaluate 164 = .ok (.iaload, 1) := by decide +kernel
theorem dMD_evaluate_165 : decode cMD_evaluate 165 = .ok (.iconst 4, 1) := by decide +kernel
theorem dMD_evaluate_166 : decode cMD_evaluate 166 = .ok (.if_icmp .ne 90, 3) := by decide +kernel
theorem dMD_evaluate_169 : decode cMD_evaluate 169 = .ok (.iload 5, 2) := by decide +kernel
theorem dMD_evaluate_171 : decode cMD_evaluate 171 = .ok (.bipush 24, 2) := by decide +kernel
theorem dMD_evaluate_173 : decode cMD_evaluate 173 = .ok (.imul, 1) := by decide +kernel
theorem dMD_evaluate_174 : decode cMD_evaluate 174 = .ok (.istore 6, 2) := by decide +kernel
theorem dMD_evaluate_176 : decode cMD_evaluate 176 = .ok (.iload 6, 2) := by decide +kernel
theorem dMD_evaluate_178 : decode cMD_evaluate 178 = .ok (.iload 5, 2) := by decide +kernel
theorem dMD_evaluate_180 : decode cMD_evaluate 180 = .ok (.bipush 24, 2) := by decide +kernel
theorem dMD_evaluate_182 : decode cMD_evaluate 182 = .ok (.imul, 1) := by decide +kernel
theorem dMD_evaluate_183 : decode cMD_evaluate 183 = .ok (.aload_n 0, 1) := by decide +kernel
theorem dMD_evaluate_184 : decode cMD_evaluate 184 = .ok (.getfield 23, 3) := by decide +kernel
theorem dMD_evaluate_187 : decode cMD_evaluate 187 = .ok (.iload 5, 2) := by decide +kernel
theorem dMD_evaluate_189 : decode cMD_evaluate 189 = .ok (.iaload, 1) := by decide +kernel
theorem dMD_evaluate_190 : decode cMD_evaluate 190 = .ok (.iadd, 1) := by decide +kernel
theorem dMD_evaluate_191 : decode cMD_evaluate 191 = .ok (.if_icmp .ge 65, 3) := by decide +kernel
theorem dMD_evaluate_194 : decode cMD_evaluate 194 = .ok (.aload_n 0, 1) := by decide +kernel
theorem dMD_evaluate_195 : decode cMD_evaluate 195 = .ok (.aload_n 0, 1) := by decide +kernel
theorem dMD_evaluate_196 : decode cMD_evaluate 196 = .ok (.getfield 7, 3) := by decide +kernel
theorem dMD_evaluate_199 : decode cMD_evaluate 199 = .ok (.iload 6, 2) := by decide +kernel
theorem dMD_evaluate_201 : decode cMD_evaluate 201 = .ok (.iaload, 1) := by decide +kernel
theorem dMD_evaluate_202 : decode cMD_evaluate 202 = .ok (.aload_n 0, 1) := by decide +kernel
theorem dMD_evaluate_203 : decode cMD_evaluate 203 = .ok (.getfield 13, 3) := by decide +kernel
theorem dMD_evaluate_206 : decode cMD_evaluate 206 = .ok (.iload 6, 2) := by decide +kernel
theorem dMD_evaluate_208 : decode cMD_evaluate 208 = .ok (.iaload, 1) := by decide +kernel
theorem dMD_evaluate_209 : decode cMD_evaluate 209 = .ok (.aload_n 0, 1) := by decide +kernel
theorem dMD_evaluate_210 : decode cMD_evaluate 210 = .ok (.getfield 16, 3) := by decide +kernel
theorem dMD_evaluate_213 : decode cMD_evaluate 213 = .ok (.iload 6, 2) := by decide +kernel
theorem dMD_evaluate_215 : decode cMD_evaluate 215 = .ok (.iaload, 1) := by decide +kernel
theorem dMD_evaluate_216 : decode cMD_evaluate 216 = .ok (.aload_n 0, 1) := by decide +kernel
theorem dMD_evaluate_217 : decode cMD_evaluate 217 = .ok (.getfield 41, 3) := by decide +kernel
theorem dMD_evaluate_220 : decode cMD_evaluate 220 = .ok (.iload_n 1, 1) := by decide +kernel
theorem dMD_evaluate_221 : decode cMD_evaluate 221 = .ok (.iconst 5, 1) := by decide +kernel
theorem dMD_evaluate_222 : decode cMD_evaluate 222 = .ok (.imul, 1) := by decide +kernel
theorem dMD_evaluate_223 : decode cMD_evaluate 223 = .ok (.iconst 2, 1) := by decide +kernel
theorem dMD_evaluate_224 : decode cMD_evaluate 224 = .ok (.iadd, 1) := by decide +kernel
theorem dMD_evaluate_225 : decode cMD_evaluate 225 = .ok (.iaload, 1) := by decide +kernel
theorem dMD_evaluate_226 : decode cMD_evaluate 226 = .ok (.ifCond .ne 13, 3) := by decide +kernel
theorem dMD_evaluate_229 : decode cMD_evaluate 229 = .ok (.aload_n 0, 1) := by decide +kernel
theorem dMD_evaluate_230 : decode cMD_evaluate 230 = .ok (.getfield 19, 3) := by decide +kernel
theorem dMD_evaluate_233 : decode cMD_evaluate 233 = .ok (.iload 6, 2) := by decide +kernel
theorem dMD_evaluate_235 : decode cMD_evaluate 235 = .ok (.laload, 1) := by decide +kernel
theorem dMD_evaluate_236 : decode cMD_evaluate 236 = .ok (.goto 11, 3) := by decide +kernel
theorem dMD_evaluate_239 : decode cMD_evaluate 239 = .ok (.aload_n 0, 1) := by decide +kernel
theorem dMD_evaluate_240 : decode cMD_evaluate 240 = .ok (.getfield 19, 3) := by decide +kernel
theorem dMD_evaluate_243 : decode cMD_evaluate 243 = .ok (.iload 6, 2) := by decide +kernel
theorem dMD_evaluate_245 : decode cMD_evaluate 245 = .ok (.laload, 1) := by decide +kernel
theorem dMD_evaluate_246 : decode cMD_evaluate 246 = .ok (.lneg, 1) := by decide +kernel
theorem dMD_evaluate_247 : decode cMD_evaluate 247 = .ok (.invokevirtual 82, 3) := by decide +kernel
theorem dMD_evaluate_250 : decode cMD_evaluate 250 = .ok (.iinc 6 1, 3) := by decide +kernel
theorem dMD_evaluate_253 : decode cMD_evaluate 253 = .ok (.goto (-77), 3) := by decide +kernel
theorem dMD_evaluate_256 : decode cMD_evaluate 256 = .ok (.aload_n 0, 1) := by decide +kernel
theorem dMD_evaluate_257 : decode cMD_evaluate 257 = .ok (.iload_n 2, 1) := by decide +kernel
theorem dMD_evaluate_258 : decode cMD_evaluate 258 = .ok (.iconst 3, 1) := by decide +kernel
theorem dMD_evaluate_259 : decode cMD_evaluate 259 = .ok (.iadd, 1) := by decide +kernel
theorem dMD_evaluate_260 : decode cMD_evaluate 260 = .ok (.iload_n 1, 1) := by decide +kernel
theorem dMD_evaluate_261 : decode cMD_evaluate 261 = .ok (.iadd, 1) := by decide +kernel
theorem dMD_evaluate_262 : decode cMD_evaluate 262 = .ok (.bipush 24, 2) := by decide +kernel
theorem dMD_evaluate_264 : decode cMD_evaluate 264 = .ok (.invokevirtual 103, 3) := by decide +kernel
theorem dMD_evaluate_267 : decode cMD_evaluate 267 = .ok (.ireturn, 1) := by decide +kernel
theorem dMD_joinOne_0 : decode cMD_joinOne 0 = .ok (.aload_n 0, 1) := by decide +kernel
theorem dMD_joinOne_1 : decode cMD_joinOne 1 = .ok (.getfield 41, 3) := by decide +kernel
theorem dMD_joinOne_4 : decode cMD_joinOne 4 = .ok (.iload_n 1, 1) := by decide +kernel
theorem dMD_joinOne_5 : decode cMD_joinOne 5 = .ok (.iconst 5, 1) := by decide +kernel
theorem dMD_joinOne_6 : decode cMD_joinOne 6 = .ok (.imul, 1) := by decide +kernel
theorem dMD_joinOne_7 : decode cMD_joinOne 7 = .ok (.iconst 4, 1) := by decide +kernel
theorem dMD_joinOne_8 : decode cMD_joinOne 8 = .ok (.iadd, 1) := by decide +kernel
theorem dMD_joinOne_9 : decode cMD_joinOne 9 = .ok (.iaload, 1) := by decide +kernel
theorem dMD_joinOne_10 : decode cMD_joinOne 10 = .ok (.istore 4, 2) := by decide +kernel
theorem dMD_joinOne_12 : decode cMD_joinOne 12 = .ok (.iload_n 3, 1) := by decide +kernel
theorem dMD_joinOne_13 : decode cMD_joinOne 13 = .ok (.bipush 24, 2) := by decide +kernel
theorem dMD_joinOne_15 : decode cMD_joinOne 15 = .ok (.imul, 1) := by decide +kernel
theorem dMD_joinOne_16 : decode cMD_joinOne 16 = .ok (.istore 5, 2) := by decide +kernel
theorem dMD_joinOne_18 : decode cMD_joinOne 18 = .ok (.iload 5, 2) := by decide +kernel
theorem dMD_joinOne_20 : decode cMD_joinOne 20 = .ok (.iload_n 3, 1) := by decide +kernel
theorem dMD_joinOne_21 : decode cMD_joinOne 21 = .ok (.bipush 24, 2) := by decide +kernel
theorem dMD_joinOne_23 : decode cMD_joinOne 23 = .ok (.imul, 1) := by decide +kernel
theorem dMD_joinOne_24 : decode cMD_joinOne 24 = .ok (.aload_n 0, 1) := by decide +kernel
theorem dMD_joinOne_25 : decode cMD_joinOne 25 = .ok (.getfield 23, 3) := by decide +kernel
theorem dMD_joinOne_28 : decode cMD_joinOne 28 = .ok (.iload_n 3, 1) := by decide +kernel
theorem dMD_joinOne_29 : decode cMD_joinOne 29 = .ok (.iaload, 1) := by decide +kernel
theorem dMD_joinOne_30 : decode cMD_joinOne 30 = .ok (.iadd, 1) := by decide +kernel
theorem dMD_joinOne_31 : decode cMD_joinOne 31 = .ok (.if_icmp .ge 112, 3) := by decide +kernel
theorem dMD_joinOne_34 : decode cMD_joinOne 34 = .ok (.aload_n 0, 1) := by decide +kernel
theorem dMD_joinOne_35 : decode cMD_joinOne 35 = .ok (.iload_n 2, 1) := by decide +kernel
theorem dMD_joinOne_36 : decode cMD_joinOne 36 = .ok (.aload_n 0, 1) := by decide +kernel
theorem dMD_joinOne_37 : decode cMD_joinOne 37 = .ok (.getfield 41, 3) := by decide +kernel
theorem dMD_joinOne_40 : decode cMD_joinOne 40 = .ok (.iload_n 1, 1) := by decide +kernel
theorem dMD_joinOne_41 : decode cMD_joinOne 41 = .ok (.iconst 5, 1) := by decide +kernel
theorem dMD_joinOne_42 : decode cMD_joinOne 42 = .ok (.imul, 1) := by decide +kernel
theorem dMD_joinOne_43 : decode cMD_joinOne 43 = .ok (.iconst 2, 1) := by decide +kernel
theorem dMD_joinOne_44 : decode cMD_joinOne 44 = .ok (.iadd, 1) := by decide +kernel
theorem dMD_joinOne_45 : decode cMD_joinOne 45 = .ok (.iaload, 1) := by decide +kernel
theorem dMD_joinOne_46 : decode cMD_joinOne 46 = .ok (.invokevirtual 74, 3) := by decide +kernel
theorem dMD_joinOne_49 : decode cMD_joinOne 49 = .ok (.aload_n 0, 1) := by decide +kernel
theorem dMD_joinOne_50 : decode cMD_joinOne 50 = .ok (.iload 5, 2) := by decide +kernel
theorem dMD_joinOne_52 : decode cMD_joinOne 52 = .ok (.aload_n 0, 1) := by decide +kernel
theorem dMD_joinOne_53 : decode cMD_joinOne 53 = .ok (.getfield 41, 3) := by decide +kernel
theorem dMD_joinOne_56 : decode cMD_joinOne 56 = .ok (.iload_n 1, 1) := by decide +kernel
theorem dMD_joinOne_57 : decode cMD_joinOne 57 = .ok (.iconst 5, 1) := by decide +kernel
theorem dMD_joinOne_58 : decode cMD_joinOne 58 = .ok (.imul, 1) := by decide +kernel
theorem dMD_joinOne_59 : decode cMD_joinOne 59 = .ok (.iconst 3, 1) := by decide +kernel
theorem dMD_joinOne_60 : decode cMD_joinOne 60 = .ok (.iadd, 1) := by decide +kernel
theorem dMD_joinOne_61 : decode cMD_joinOne 61 = .ok (.iaload, 1) := by decide +kernel
theorem dMD_joinOne_62 : decode cMD_joinOne 62 = .ok (.invokevirtual 74, 3) := by decide +kernel
theorem dMD_joinOne_65 : decode cMD_joinOne 65 = .ok (.if_icmp .ne 72, 3) := by decide +kernel
theorem dMD_joinOne_68 : decode cMD_joinOne 68 = .ok (.aload_n 0, 1) := by decide +kernel
theorem dMD_joinOne_69 : decode cMD_joinOne 69 = .ok (.iload_n 2, 1) := by decide +kernel
theorem dMD_joinOne_70 : decode cMD_joinOne 70 = .ok (.iload 5, 2) := by decide +kernel
theorem dMD_joinOne_72 : decode cMD_joinOne 72 = .ok (.iload 4, 2) := by decide +kernel
theorem dMD_joinOne_74 : decode cMD_joinOne 74 = .ok (.bipush 36, 2) := by decide +kernel
theorem dMD_joinOne_76 : decode cMD_joinOne 76 = .ok (.idiv, 1) := by decide +kernel
theorem dMD_joinOne_77 : decode cMD_joinOne 77 = .ok (.invokevirtual 78, 3) := by decide +kernel
theorem dMD_joinOne_80 : decode cMD_joinOne 80 = .ok (.istore 6, 2) := by decide +kernel
theorem dMD_joinOne_82 : decode cMD_joinOne 82 = .ok (.aload_n 0, 1) := by decide +kernel
theorem dMD_joinOne_83 : decode cMD_joinOne 83 = .ok (.iload_n 2, 1) := by decide +kernel
theorem dMD_joinOne_84 : decode cMD_joinOne 84 = .ok (.iload 5, 2) := by decide +kernel
theorem dMD_joinOne_86 : decode cMD_joinOne 86 = .ok (.iload 4, 2) := by decide +kernel
theorem dMD_joinOne_88 : decode cMD_joinOne 88 = .ok (.bipush 6, 2) := by decide +kernel
theorem dMD_joinOne_90 : decode cMD_joinOne 90 = .ok (.idiv, 1) := by decide +kernel
theorem dMD_joinOne_91 : decode cMD_joinOne 91 = .ok (.bipush 6, 2) := by decide +kernel
theorem dMD_joinOne_93 : decode cMD_joinOne 93 = .ok (.irem, 1) := by decide +kernel
theorem dMD_joinOne_94 : decode cMD_joinOne 94 = .ok (.invokevirtual 78, 3) := by decide +kernel
theorem dMD_joinOne_97 : decode cMD_joinOne 97 = .ok (.istore 7, 2) := by decide +kernel
theorem dMD_joinOne_99 : decode cMD_joinOne 99 = .ok (.aload_n 0, 1) := by decide +kernel
theorem dMD_joinOne_100 : decode cMD_joinOne 100 = .ok (.iload_n 2, 1) := by decide +kernel
theorem dMD_joinOne_101 : decode cMD_joinOne 101 = .ok (.iload 5, 2) := by decide +kernel
theorem dMD_joinOne_103 : decode cMD_joinOne 103 = .ok (.iload 4, 2) := by decide +kernel
theorem dMD_joinOne_105 : decode cMD_joinOne 105 = .ok (.bipush 6, 2) := by decide +kernel
theorem dMD_joinOne_107 : decode cMD_joinOne 107 = .ok (.irem, 1) := by decide +kernel
theorem dMD_joinOne_108 : decode cMD_joinOne 108 = .ok (.invokevirtual 78, 3) := by decide +kernel
theorem dMD_joinOne_111 : decode cMD_joinOne 111 = .ok (.istore 8, 2) := by decide +kernel
theorem dMD_joinOne_113 : decode cMD_joinOne 113 = .ok (.aload_n 0, 1) := by decide +kernel
theorem dMD_joinOne_114 : decode cMD_joinOne 114 = .ok (.iload 6, 2) := by decide +kernel
theorem dMD_joinOne_116 : decode cMD_joinOne 116 = .ok (.iload 7, 2) := by decide +kernel
theorem dMD_joinOne_118 : decode cMD_joinOne 118 = .ok (.iload 8, 2) := by decide +kernel
theorem dMD_joinOne_120 : decode cMD_joinOne 120 = .ok (.aload_n 0, 1) := by decide +kernel
theorem dMD_joinOne_121 : decode cMD_joinOne 121 = .ok (.getfield 19, 3) := by decide +kernel
theorem dMD_joinOne_124 : decode cMD_joinOne 124 = .ok (.iload_n 2, 1) := by decide +kernel
theorem dMD_joinOne_125 : decode cMD_joinOne 125 = .ok (.laload, 1) := by decide +kernel
theorem dMD_joinOne_126 : decode cMD_joinOne 126 = .ok (.aload_n 0, 1) := by decide +kernel
theorem dMD_joinOne_127 : decode cMD_joinOne 127 = .ok (.getfield 19, 3) := by decide +kernel
theorem dMD_joinOne_130 : decode cMD_joinOne 130 = .ok (.iload 5, 2) := by decide +kernel
theorem dMD_joinOne_132 : decode cMD_joinOne 132 = .ok (.laload, 1) := by decide +kernel
theorem dMD_joinOne_133 : decode cMD_joinOne 133 = .ok (.lmul, 1) := by decide +kernel
theorem dMD_joinOne_134 : decode cMD_joinOne 134 = .ok (.invokevirtual 82, 3) := by decide +kernel
theorem dMD_joinOne_137 : decode cMD_joinOne 137 = .ok (.iinc 5 1, 3) := by decide +kernel
theorem dMD_joinOne_140 : decode cMD_joinOne 140 = .ok (.goto (-122), 3) := by decide +kernel
theorem dMD_joinOne_143 : decode cMD_joinOne 143 = .ok (.return_, 1) := by decide +kernel
theorem dMD_column_0 : decode cMD_column 0 = .ok (.iload_n 2, 1) := by decide +kernel
theorem dMD_column_1 : decode cMD_column 1 = .ok (.ifCond .ne 12, 3) := by decide +kernel
theorem dMD_column_4 : decode cMD_column 4 = .ok (.aload_n 0, 1) := by decide +kernel
theorem dMD_column_5 : decode cMD_column 5 = .ok (.getfield 7, 3) := by decide +kernel
theorem dMD_column_8 : decode cMD_column 8 = .ok (.iload_n 1, 1) := by decide +kernel
theorem dMD_column_9 : decode cMD_column 9 = .ok (.iaload, 1) := by decide +kernel
theorem dMD_column_10 : decode cMD_column 10 = .ok (.goto 23, 3) := by decide +kernel
theorem dMD_column_13 : decode cMD_column 13 = .ok (.iload_n 2, 1) := by decide +kernel
theorem dMD_column_14 : decode cMD_column 14 = .ok (.iconst 1, 1) := by decide +kernel
theorem dMD_column_15 : decode cMD_column 15 = .ok (.if_icmp .ne 12, 3) := by decide +kernel
theorem dMD_column_18 : decode cMD_column 18 = .ok (.aload_n 0, 1) := by decide +kernel
theorem dMD_column_19 : decode cMD_column 19 = .ok (.getfield 13, 3) := by decide +kernel
theorem dMD_column_22 : decode cMD_column 22 = .ok (.iload_n 1, 1) := by decide +kernel
theorem dMD_column_23 : decode cMD_column 23 = .ok (.iaload, 1) := by decide +kernel
theorem dMD_column_24 : decode cMD_column 24 = .ok (.goto 9, 3) := by decide +kernel
theorem dMD_column_27 : decode cMD_column 27 = .ok (.aload_n 0, 1) := by decide +kernel
theorem dMD_column_28 : decode cMD_column 28 = .ok (.getfield 16, 3) := by decide +kernel
theorem dMD_column_31 : decode cMD_column 31 = .ok (.iload_n 1, 1) := by decide +kernel
theorem dMD_column_32 : decode cMD_column 32 = .ok (.iaload, 1) := by decide +kernel
theorem dMD_column_33 : decode cMD_column 33 = .ok (.ireturn, 1) := by decide +kernel
theorem dMD_picked_0 : decode cMD_picked 0 = .ok (.iload_n 3, 1) := by decide +kernel
theorem dMD_picked_1 : decode cMD_picked 1 = .ok (.iconst 3, 1) := by decide +kernel
theorem dMD_picked_2 : decode cMD_picked 2 = .ok (.if_icmp .ge 12, 3) := by decide +kernel
theorem dMD_picked_5 : decode cMD_picked 5 = .ok (.aload_n 0, 1) := by decide +kernel
theorem dMD_picked_6 : decode cMD_picked 6 = .ok (.iload_n 1, 1) := by decide +kernel
theorem dMD_picked_7 : decode cMD_picked 7 = .ok (.iload_n 3, 1) := by decide +kernel
theorem dMD_picked_8 : decode cMD_picked 8 = .ok (.invokevirtual 74, 3) := by decide +kernel
theorem dMD_picked_11 : decode cMD_picked 11 = .ok (.goto 11, 3) := by decide +kernel
theorem dMD_picked_14 : decode cMD_picked 14 = .ok (.aload_n 0, 1) := by decide +kernel
theorem dMD_picked_15 : decode cMD_picked 15 = .ok (.iload_n 2, 1) := by decide +kernel
theorem dMD_picked_16 : decode cMD_picked 16 = .ok (.iload_n 3, 1) := by decide +kernel
theorem dMD_picked_17 : decode cMD_picked 17 = .ok (.iconst 3, 1) := by decide +kernel
theorem dMD_picked_18 : decode cMD_picked 18 = .ok (.isub, 1) := by decide +kernel
theorem dMD_picked_19 : decode cMD_picked 19 = .ok (.invokevirtual 74, 3) := by decide +kernel
theorem dMD_picked_22 : decode cMD_picked 22 = .ok (.ireturn, 1) := by decide +kernel
theorem dMD_emit_0 : decode cMD_emit 0 = .ok (.iconst 0, 1) := by decide +kernel
theorem dMD_emit_1 : decode cMD_emit 1 = .ok (.istore 6, 2) := by decide +kernel
theorem dMD_emit_3 : decode cMD_emit 3 = .ok (.iload 6, 2) := by decide +kernel
theorem dMD_emit_5 : decode cMD_emit 5 = .ok (.aload_n 0, 1) := by decide +kernel
theorem dMD_emit_6 : decode cMD_emit 6 = .ok (.getfield 62, 3) := by decide +kernel
theorem dMD_emit_9 : decode cMD_emit 9 = .ok (.if_icmp .ge 55, 3) := by decide +kernel
theorem dMD_emit_12 : decode cMD_emit 12 = .ok (.aload_n 0, 1) := by decide +kernel
theorem dMD_emit_13 : decode cMD_emit 13 = .ok (.getfield 26, 3) := by decide +kernel
theorem dMD_emit_16 : decode cMD_emit 16 = .ok (.iload 6, 2) := by decide +kernel
theorem dMD_emit_18 : decode cMD_emit 18 = .ok (.iaload, 1) := by decide +kernel
theorem dMD_emit_19 : decode cMD_emit 19 = .ok (.iload_n 1, 1) := by decide +kernel
theorem dMD_emit_20 : decode cMD_emit 20 = .ok (.if_icmp .ne 38, 3) := by decide +kernel
theorem dMD_emit_23 : decode cMD_emit 23 = .ok (.aload_n 0, 1) := by decide +kernel
theorem dMD_emit_24 : decode cMD_emit 24 = .ok (.getfield 29, 3) := by decide +kernel
theorem dMD_emit_27 : decode cMD_emit 27 = .ok (.iload 6, 2) := by decide +kernel
theorem dMD_emit_29 : decode cMD_emit 29 = .ok (.iaload, 1) := by decide +kernel
theorem dMD_emit_30 : decode cMD_emit 30 = .ok (.iload_n 2, 1) := by decide +kernel
theorem dMD_emit_31 : decode cMD_emit 31 = .ok (.if_icmp .ne 27, 3) := by decide +kernel
theorem dMD_emit_34 : decode cMD_emit 34 = .ok (.aload_n 0, 1) := by decide +kernel
theorem dMD_emit_35 : decode cMD_emit 35 = .ok (.getfield 32, 3) := by decide +kernel
theorem dMD_emit_38 : decode cMD_emit 38 = .ok (.iload 6, 2) := by decide +kernel
theorem dMD_emit_40 : decode cMD_emit 40 = .ok (.iaload, 1) := by decide +kernel
theorem dMD_emit_41 : decode cMD_emit 41 = .ok (.iload_n 3, 1) := by decide +kernel
theorem dMD_emit_42 : decode cMD_emit 42 = .ok (.if_icmp .ne 16, 3) := by decide +kernel
theorem dMD_emit_45 : decode cMD_emit 45 = .ok (.aload_n 0, 1) := by decide +kernel
theorem dMD_emit_46 : decode cMD_emit 46 = .ok (.getfield 35, 3) := by decide +kernel
theorem dMD_emit_49 : decode cMD_emit 49 = .ok (.iload 6, 2) := by decide +kernel
theorem dMD_emit_51 : decode cMD_emit 51 = .ok (.dup2, 1) := by decide +kernel
theorem dMD_emit_52 : decode cMD_emit 52 = .ok (.laload, 1) := by decide +kernel
theorem dMD_emit_53 : decode cMD_emit 53 = .ok (.lload 4, 2) := by decide +kernel
theorem dMD_emit_55 : decode cMD_emit 55 = .ok (.ladd, 1) := by decide +kernel
theorem dMD_emit_56 : decode cMD_emit 56 = .ok (.lastore, 1) := by decide +kernel
theorem dMD_emit_57 : decode cMD_emit 57 = .ok (.return_, 1) := by decide +kernel
theorem dMD_emit_58 : decode cMD_emit 58 = .ok (.iinc 6 1, 3) := by decide +kernel
theorem dMD_emit_61 : decode cMD_emit 61 = .ok (.goto (-58), 3) := by decide +kernel
theorem dMD_emit_64 : decode cMD_emit 64 = .ok (.aload_n 0, 1) := by decide +kernel
theorem dMD_emit_65 : decode cMD_emit 65 = .ok (.getfield 26, 3) := by decide +kernel
theorem dMD_emit_68 : decode cMD_emit 68 = .ok (.aload_n 0, 1) := by decide +kernel
theorem dMD_emit_69 : decode cMD_emit 69 = .ok (.getfield 62, 3) := by decide +kernel
theorem dMD_emit_72 : decode cMD_emit 72 = .ok (.iload_n 1, 1) := by decide +kernel
theorem dMD_emit_73 : decode cMD_emit 73 = .ok (.iastore, 1) := by decide +kernel
theorem dMD_emit_74 : decode cMD_emit 74 = .ok (.aload_n 0, 1) := by decide +kernel
theorem dMD_emit_75 : decode cMD_emit 75 = .ok (.getfield 29, 3) := by decide +kernel
theorem dMD_emit_78 : decode cMD_emit 78 = .ok (.aload_n 0, 1) := by decide +kernel
theorem dMD_emit_79 : decode cMD_emit 79 = .ok (.getfield 62, 3) := by decide +kernel
theorem dMD_emit_82 : decode cMD_emit 82 = .ok (.iload_n 2, 1) := by decide +kernel
theorem dMD_emit_83 : decode cMD_emit 83 = .ok (.iastore, 1) := by decide +kernel
theorem dMD_emit_84 : decode cMD_emit 84 = .ok (.aload_n 0, 1) := by decide +kernel
theorem dMD_emit_85 : decode cMD_emit 85 = .ok (.getfield 32, 3) := by decide +kernel
theorem dMD_emit_88 : decode cMD_emit 88 = .ok (.aload_n 0, 1) := by decide +kernel
theorem dMD_emit_89 : decode cMD_emit 89 = .ok (.getfield 62, 3) := by decide +kernel
theorem dMD_emit_92 : decode cMD_emit 92 = .ok (.iload_n 3, 1) := by decide +kernel
theorem dMD_emit_93 : decode cMD_emit 93 = .ok (.iastore, 1) := by decide +kernel
theorem dMD_emit_94 : decode cMD_emit 94 = .ok (.aload_n 0, 1) := by decide +kernel
theorem dMD_emit_95 : decode cMD_emit 95 = .ok (.getfield 35, 3) := by decide +kernel
theorem dMD_emit_98 : decode cMD_emit 98 = .ok (.aload_n 0, 1) := by decide +kernel
theorem dMD_emit_99 : decode cMD_emit 99 = .ok (.getfield 62, 3) := by decide +kernel
theorem dMD_emit_102 : decode cMD_emit 102 = .ok (.lload 4, 2) := by decide +kernel
theorem dMD_emit_104 : decode cMD_emit 104 = .ok (.lastore, 1) := by decide +kernel
theorem dMD_emit_105 : decode cMD_emit 105 = .ok (.aload_n 0, 1) := by decide +kernel
theorem dMD_emit_106 : decode cMD_emit 106 = .ok (.dup, 1) := by decide +kernel
theorem dMD_emit_107 : decode cMD_emit 107 = .ok (.getfield 62, 3) := by decide +kernel
theorem dMD_emit_110 : decode cMD_emit 110 = .ok (.iconst 1, 1) := by decide +kernel
theorem dMD_emit_111 : decode cMD_emit 111 = .ok (.iadd, 1) := by decide +kernel
theorem dMD_emit_112 : decode cMD_emit 112 = .ok (.putfield 62, 3) := by decide +kernel
theorem dMD_emit_115 : decode cMD_emit 115 = .ok (.return_, 1) := by decide +kernel
theorem dMD_unary_0 : decode cMD_unary 0 = .ok (.aload_n 0, 1) := by decide +kernel
theorem dMD_unary_1 : decode cMD_unary 1 = .ok (.getfield 41, 3) := by decide +kernel
theorem dMD_unary_4 : decode cMD_unary 4 = .ok (.iload_n 1, 1) := by decide +kernel
theorem dMD_unary_5 : decode cMD_unary 5 = .ok (.iconst 5, 1) := by decide +kernel
theorem dMD_unary_6 : decode cMD_unary 6 = .ok (.imul, 1) := by decide +kernel
theorem dMD_unary_7 : decode cMD_unary 7 = .ok (.iconst 1, 1) := by decide +kernel
theorem dMD_unary_8 : decode cMD_unary 8 = .ok (.iadd, 1) := by decide +kernel
theorem dMD_unary_9 : decode cMD_unary 9 = .ok (.iaload, 1) := by decide +kernel
theorem dMD_unary_10 : decode cMD_unary 10 = .ok (.istore 4, 2) := by decide +kernel
theorem dMD_unary_12 : decode cMD_unary 12 = .ok (.aload_n 0, 1) := by decide +kernel
theorem dMD_unary_13 : decode cMD_unary 13 = .ok (.getfield 41, 3) := by decide +kernel
theorem dMD_unary_16 : decode cMD_unary 16 = .ok (.iload_n 1, 1) := by decide +kernel
theorem dMD_unary_17 : decode cMD_unary 17 = .ok (.iconst 5, 1) := by decide +kernel
theorem dMD_unary_18 : decode cMD_unary 18 = .ok (.imul, 1) := by decide +kernel
theorem dMD_unary_19 : decode cMD_unary 19 = .ok (.iconst 2, 1) := by decide +kernel
theorem dMD_unary_20 : decode cMD_unary 20 = .ok (.iadd, 1) := by decide +kernel
theorem dMD_unary_21 : decode cMD_unary 21 = .ok (.iaload, 1) := by decide +kernel
theorem dMD_unary_22 : decode cMD_unary 22 = .ok (.istore 5, 2) := by decide +kernel
theorem dMD_unary_24 : decode cMD_unary 24 = .ok (.aload_n 0, 1) := by decide +kernel
theorem dMD_unary_25 : decode cMD_unary 25 = .ok (.getfield 41, 3) := by decide +kernel
theorem dMD_unary_28 : decode cMD_unary 28 = .ok (.iload_n 1, 1) := by decide +kernel
theorem dMD_unary_29 : decode cMD_unary 29 = .ok (.iconst 5, 1) := by decide +kernel
theorem dMD_unary_30 : decode cMD_unary 30 = .ok (.imul, 1) := by decide +kernel
theorem dMD_unary_31 : decode cMD_unary 31 = .ok (.iconst 3, 1) := by decide +kernel
theorem dMD_unary_32 : decode cMD_unary 32 = .ok (.iadd, 1) := by decide +kernel
theorem dMD_unary_33 : decode cMD_unary 33 = .ok (.iaload, 1) := by decide +kernel
theorem dMD_unary_34 : decode cMD_unary 34 = .ok (.istore 6, 2) := by decide +kernel
theorem dMD_unary_36 : decode cMD_unary 36 = .ok (.aload_n 0, 1) := by decide +kernel
theorem dMD_unary_37 : decode cMD_unary 37 = .ok (.getfield 38, 3) := by decide +kernel
theorem dMD_unary_40 : decode cMD_unary 40 = .ok (.iload_n 1, 1) := by decide +kernel
theorem dMD_unary_41 : decode cMD_unary 41 = .ok (.iaload, 1) := by decide +kernel
theorem dMD_unary_42 : decode cMD_unary 42 = .ok (.ifCond .ne 31, 3) := by decide +kernel
theorem dMD_unary_45 : decode cMD_unary 45 = .ok (.aload_n 0, 1) := by decide +kernel
theorem dMD_unary_46 : decode cMD_unary 46 = .ok (.aload_n 0, 1) := by decide +kernel
theorem dMD_unary_47 : decode cMD_unary 47 = .ok (.getfield 7, 3) := by decide +kernel
theorem dMD_unary_50 : decode cMD_unary 50 = .ok (.iload_n 2, 1) := by decide +kernel
theorem dMD_unary_51 : decode cMD_unary 51 = .ok (.iaload, 1) := by decide +kernel
theorem dMD_unary_52 : decode cMD_unary 52 = .ok (.aload_n 0, 1) := by decide +kernel
theorem dMD_unary_53 : decode cMD_unary 53 = .ok (.getfield 13, 3) := by decide +kernel
theorem dMD_unary_56 : decode cMD_unary 56 = .ok (.iload_n 2, 1) := by decide +kernel
theorem dMD_unary_57 : decode cMD_unary 57 = .ok (.iaload, 1) := by decide +kernel
theorem dMD_unary_58 : decode cMD_unary 58 = .ok (.aload_n 0, 1) := by decide +kernel
theorem dMD_unary_59 : decode cMD_unary 59 = .ok (.getfield 16, 3) := by decide +kernel
theorem dMD_unary_62 : decode cMD_unary 62 = .ok (.iload_n 2, 1) := by decide +kernel
theorem dMD_unary_63 : decode cMD_unary 63 = .ok (.iaload, 1) := by decide +kernel
theorem dMD_unary_64 : decode cMD_unary 64 = .ok (.aload_n 0, 1) := by decide +kernel
theorem dMD_unary_65 : decode cMD_unary 65 = .ok (.getfield 19, 3) := by decide +kernel
theorem dMD_unary_68 : decode cMD_unary 68 = .ok (.iload_n 2, 1) := by decide +kernel
theorem dMD_unary_69 : decode cMD_unary 69 = .ok (.laload, 1) := by decide +kernel
theorem dMD_unary_70 : decode cMD_unary 70 = .ok (.invokevirtual 82, 3) := by decide +kernel
theorem dMD_unary_73 : decode cMD_unary 73 = .ok (.aload_n 0, 1) := by decide +kernel
theorem dMD_unary_74 : decode cMD_unary 74 = .ok (.getfield 38, 3) := by decide +kernel
theorem dMD_unary_77 : decode cMD_unary 77 = .ok (.iload_n 1, 1) := by decide +kernel
theorem dMD_unary_78 : decode cMD_unary 78 = .ok (.iaload, 1) := by decide +kernel
theorem dMD_unary_79 : decode cMD_unary 79 = .ok (.iconst 1, 1) := by decide +kernel
theorem dMD_unary_80 : decode cMD_unary 80 = .ok (.if_icmp .ne 49, 3) := by decide +kernel
theorem dMD_unary_83 : decode cMD_unary 83 = .ok (.aload_n 0, 1) := by decide +kernel
theorem dMD_unary_84 : decode cMD_unary 84 = .ok (.aload_n 0, 1) := by decide +kernel
theorem dMD_unary_85 : decode cMD_unary 85 = .ok (.iload_n 2, 1) := by decide +kernel
theorem dMD_unary_86 : decode cMD_unary 86 = .ok (.iload 4, 2) := by decide +kernel
theorem dMD_unary_88 : decode cMD_unary 88 = .ok (.invokevirtual 74, 3) := by decide +kernel
theorem dMD_unary_91 : decode cMD_unary 91 = .ok (.iload 5, 2) := by decide +kernel
theorem dMD_unary_93 : decode cMD_unary 93 = .ok (.iload 6, 2) := by decide +kernel
theorem dMD_unary_95 : decode cMD_unary 95 = .ok (.invokevirtual 86, 3) := by decide +kernel
theorem dMD_unary_98 : decode cMD_unary 98 = .ok (.ifCond .eq 31, 3) := by decide +kernel
theorem dMD_unary_101 : decode cMD_unary 101 = .ok (.aload_n 0, 1) := by decide +kernel
theorem dMD_unary_102 : decode cMD_unary 102 = .ok (.aload_n 0, 1) := by decide +kernel
theorem dMD_unary_103 : decode cMD_unary 103 = .ok (.getfield 7, 3) := by decide +kernel
theorem dMD_unary_106 : decode cMD_unary 106 = .ok (.iload_n 2, 1) := by decide +kernel
theorem dMD_unary_107 : decode cMD_unary 107 = .ok (.iaload, 1) := by decide +kernel
theorem dMD_unary_108 : decode cMD_unary 108 = .ok (.aload_n 0, 1) := by decide +kernel
theorem dMD_unary_109 : decode cMD_unary 109 = .ok (.getfield 13, 3) := by decide +kernel
theorem dMD_unary_112 : decode cMD_unary 112 = .ok (.iload_n 2, 1) := by decide +kernel
theorem dMD_unary_113 : decode cMD_unary 113 = .ok (.iaload, 1) := by decide +kernel
theorem dMD_unary_114 : decode cMD_unary 114 = .ok (.aload_n 0, 1) := by decide +kernel
theorem dMD_unary_115 : decode cMD_unary 115 = .ok (.getfield 16, 3) := by decide +kernel
theorem dMD_unary_118 : decode cMD_unary 118 = .ok (.iload_n 2, 1) := by decide +kernel
theorem dMD_unary_119 : decode cMD_unary 119 = .ok (.iaload, 1) := by decide +kernel
theorem dMD_unary_120 : decode cMD_unary 120 = .ok (.aload_n 0, 1) := by decide +kernel
theorem dMD_unary_121 : decode cMD_unary 121 = .ok (.getfield 19, 3) := by decide +kernel
theorem dMD_unary_124 : decode cMD_unary 124 = .ok (.iload_n 2, 1) := by decide +kernel
theorem dMD_unary_125 : decode cMD_unary 125 = .ok (.laload, 1) := by decide +kernel
theorem dMD_unary_126 : decode cMD_unary 126 = .ok (.invokevirtual 82, 3) := by decide +kernel
theorem dMD_unary_129 : decode cMD_unary 129 = .ok (.aload_n 0, 1) := by decide +kernel
theorem dMD_unary_130 : decode cMD_unary 130 = .ok (.getfield 38, 3) := by decide +kernel
theorem dMD_unary_133 : decode cMD_unary 133 = .ok (.iload_n 1, 1) := by decide +kernel
theorem dMD_unary_134 : decode cMD_unary 134 = .ok (.iaload, 1) := by decide +kernel
theorem dMD_unary_135 : decode cMD_unary 135 = .ok (.iconst 2, 1) := by decide +kernel
theorem dMD_unary_136 : decode cMD_unary 136 = .ok (.if_icmp .ne 46, 3) := by decide +kernel
theorem dMD_unary_139 : decode cMD_unary 139 = .ok (.aload_n 0, 1) := by decide +kernel
theorem dMD_unary_140 : decode cMD_unary 140 = .ok (.iload_n 2, 1) := by decide +kernel
theorem dMD_unary_141 : decode cMD_unary 141 = .ok (.iload 4, 2) := by decide +kernel
theorem dMD_unary_143 : decode cMD_unary 143 = .ok (.invokevirtual 90, 3) := by decide +kernel
theorem dMD_unary_146 : decode cMD_unary 146 = .ok (.istore 7, 2) := by decide +kernel
theorem dMD_unary_148 : decode cMD_unary 148 = .ok (.aload_n 0, 1) := by decide +kernel
theorem dMD_unary_149 : decode cMD_unary 149 = .ok (.iload_n 2, 1) := by decide +kernel
theorem dMD_unary_150 : decode cMD_unary 150 = .ok (.iload 5, 2) := by decide +kernel
theorem dMD_unary_152 : decode cMD_unary 152 = .ok (.invokevirtual 90, 3) := by decide +kernel
theorem dMD_unary_155 : decode cMD_unary 155 = .ok (.istore 8, 2) := by decide +kernel
theorem dMD_unary_157 : decode cMD_unary 157 = .ok (.aload_n 0, 1) := by decide +kernel
theorem dMD_unary_158 : decode cMD_unary 158 = .ok (.iload_n 2, 1) := by decide +kernel
theorem dMD_unary_159 : decode cMD_unary 159 = .ok (.iload 6, 2) := by decide +kernel
theorem dMD_unary_161 : decode cMD_unary 161 = .ok (.invokevirtual 90, 3) := by decide +kernel
theorem dMD_unary_164 : decode cMD_unary 164 = .ok (.istore 9, 2) := by decide +kernel
theorem dMD_unary_166 : decode cMD_unary 166 = .ok (.aload_n 0, 1) := by decide +kernel
theorem dMD_unary_167 : decode cMD_unary 167 = .ok (.iload 7, 2) := by decide +kernel
theorem dMD_unary_169 : decode cMD_unary 169 = .ok (.iload 8, 2) := by decide +kernel
theorem dMD_unary_171 : decode cMD_unary 171 = .ok (.iload 9, 2) := by decide +kernel
theorem dMD_unary_173 : decode cMD_unary 173 = .ok (.aload_n 0, 1) := by decide +kernel
theorem dMD_unary_174 : decode cMD_unary 174 = .ok (.getfield 19, 3) := by decide +kernel
theorem dMD_unary_177 : decode cMD_unary 177 = .ok (.iload_n 2, 1) := by decide +kernel
theorem dMD_unary_178 : decode cMD_unary 178 = .ok (.laload, 1) := by decide +kernel
theorem dMD_unary_179 : decode cMD_unary 179 = .ok (.invokevirtual 82, 3) := by decide +kernel
theorem dMD_unary_182 : decode cMD_unary 182 = .ok (.aload_n 0, 1) := by decide +kernel
theorem dMD_unary_183 : decode cMD_unary 183 = .ok (.getfield 38, 3) := by decide +kernel
theorem dMD_unary_186 : decode cMD_unary 186 = .ok (.iload_n 1, 1) := by decide +kernel
theorem dMD_unary_187 : decode cMD_unary 187 = .ok (.iaload, 1) := by decide +kernel
theorem dMD_unary_188 : decode cMD_unary 188 = .ok (.iconst 5, 1) := by decide +kernel
theorem dMD_unary_189 : decode cMD_unary 189 = .ok (.if_icmp .ne 37, 3) := by decide +kernel
theorem dMD_unary_192 : decode cMD_unary 192 = .ok (.aload_n 0, 1) := by decide +kernel
theorem dMD_unary_193 : decode cMD_unary 193 = .ok (.getfield 19, 3) := by decide +kernel
theorem dMD_unary_196 : decode cMD_unary 196 = .ok (.iload_n 2, 1) := by decide +kernel
theorem dMD_unary_197 : decode cMD_unary 197 = .ok (.laload, 1) := by decide +kernel
theorem dMD_unary_198 : decode cMD_unary 198 = .ok (.lconst 0, 1) := by decide +kernel
theorem dMD_unary_199 : decode cMD_unary 199 = .ok (.lcmp, 1) := by decide +kernel
theorem dMD_unary_200 : decode cMD_unary 200 = .ok (.ifCond .le 26, 3) := by decide +kernel
theorem dMD_unary_203 : decode cMD_unary 203 = .ok (.aload_n 0, 1) := by decide +kernel
theorem dMD_unary_204 : decode cMD_unary 204 = .ok (.aload_n 0, 1) := by decide +kernel
theorem dMD_unary_205 : decode cMD_unary 205 = .ok (.getfield 7, 3) := by decide +kernel
theorem dMD_unary_208 : decode cMD_unary 208 = .ok (.iload_n 2, 1) := by decide +kernel
theorem dMD_unary_209 : decode cMD_unary 209 = .ok (.iaload, 1) := by decide +kernel
theorem dMD_unary_210 : decode cMD_unary 210 = .ok (.aload_n 0, 1) := by decide +kernel
theorem dMD_unary_211 : decode cMD_unary 211 = .ok (.getfield 13, 3) := by decide +kernel
theorem dMD_unary_214 : decode cMD_unary 214 = .ok (.iload_n 2, 1) := by decide +kernel
theorem dMD_unary_215 : decode cMD_unary 215 = .ok (.iaload, 1) := by decide +kernel
theorem dMD_unary_216 : decode cMD_unary 216 = .ok (.aload_n 0, 1) := by decide +kernel
theorem dMD_unary_217 : decode cMD_unary 217 = .ok (.getfield 16, 3) := by decide +kernel
theorem dMD_unary_220 : decode cMD_unary 220 = .ok (.iload_n 2, 1) := by decide +kernel
theorem dMD_unary_221 : decode cMD_unary 221 = .ok (.iaload, 1) := by decide +kernel
theorem dMD_unary_222 : decode cMD_unary 222 = .ok (.lconst 1, 1) := by decide +kernel
theorem dMD_unary_223 : decode cMD_unary 223 = .ok (.invokevirtual 82, 3) := by decide +kernel
theorem dMD_unary_226 : decode cMD_unary 226 = .ok (.aload_n 0, 1) := by decide +kernel
theorem dMD_unary_227 : decode cMD_unary 227 = .ok (.getfield 38, 3) := by decide +kernel
theorem dMD_unary_230 : decode cMD_unary 230 = .ok (.iload_n 1, 1) := by decide +kernel
theorem dMD_unary_231 : decode cMD_unary 231 = .ok (.iaload, 1) := by decide +kernel
theorem dMD_unary_232 : decode cMD_unary 232 = .ok (.bipush 6, 2) := by decide +kernel
theorem dMD_unary_234 : decode cMD_unary 234 = .ok (.if_icmp .ne 74, 3) := by decide +kernel
theorem dMD_unary_237 : decode cMD_unary 237 = .ok (.aload_n 0, 1) := by decide +kernel
theorem dMD_unary_238 : decode cMD_unary 238 = .ok (.getfield 19, 3) := by decide +kernel
theorem dMD_unary_241 : decode cMD_unary 241 = .ok (.iload_n 2, 1) := by decide +kernel
theorem dMD_unary_242 : decode cMD_unary 242 = .ok (.laload, 1) := by decide +kernel
theorem dMD_unary_243 : decode cMD_unary 243 = .ok (.lconst 0, 1) := by decide +kernel
theorem dMD_unary_244 : decode cMD_unary 244 = .ok (.lcmp, 1) := by decide +kernel
theorem dMD_unary_245 : decode cMD_unary 245 = .ok (.ifCond .le 63, 3) := by decide +kernel
theorem dMD_unary_248 : decode cMD_unary 248 = .ok (.aload_n 0, 1) := by decide +kernel
theorem dMD_unary_249 : decode cMD_unary 249 = .ok (.iload_n 2, 1) := by decide +kernel
theorem dMD_unary_250 : decode cMD_unary 250 = .ok (.iload 4, 2) := by decide +kernel
theorem dMD_unary_252 : decode cMD_unary 252 = .ok (.invokevirtual 74, 3) := by decide +kernel
theorem dMD_unary_255 : decode cMD_unary 255 = .ok (.istore 7, 2) := by decide +kernel
theorem dMD_unary_257 : decode cMD_unary 257 = .ok (.aload_n 0, 1) := by decide +kernel
theorem dMD_unary_258 : decode cMD_unary 258 = .ok (.iload_n 3, 1) := by decide +kernel
theorem dMD_unary_259 : decode cMD_unary 259 = .ok (.iload_n 1, 1) := by decide +kernel
theorem dMD_unary_260 : decode cMD_unary 260 = .ok (.iload 7, 2) := by decide +kernel
theorem dMD_unary_262 : decode cMD_unary 262 = .ok (.invokevirtual 93, 3) := by decide +kernel
theorem dMD_unary_265 : decode cMD_unary 265 = .ok (.istore 8, 2) := by decide +kernel
theorem dMD_unary_267 : decode cMD_unary 267 = .ok (.iconst 0, 1) := by decide +kernel
theorem dMD_unary_268 : decode cMD_unary 268 = .ok (.istore 9, 2) := by decide +kernel
theorem dMD_unary_270 : decode cMD_unary 270 = .ok (.iload 9, 2) := by decide +kernel
theorem dMD_unary_272 : decode cMD_unary 272 = .ok (.aload_n 0, 1) := by decide +kernel
theorem dMD_unary_273 : decode cMD_unary 273 = .ok (.getfield 62, 3) := by decide +kernel
theorem dMD_unary_276 : decode cMD_unary 276 = .ok (.if_icmp .ge 22, 3) := by decide +kernel
theorem dMD_unary_279 : decode cMD_unary 279 = .ok (.aload_n 0, 1) := by decide +kernel
theorem dMD_unary_280 : decode cMD_unary 280 = .ok (.getfield 26, 3) := by decide +kernel
theorem dMD_unary_283 : decode cMD_unary 283 = .ok (.iload 9, 2) := by decide +kernel
theorem dMD_unary_285 : decode cMD_unary 285 = .ok (.iaload, 1) := by decide +kernel
theorem dMD_unary_286 : decode cMD_unary 286 = .ok (.iload 7, 2) := by decide +kernel
theorem dMD_unary_288 : decode cMD_unary 288 = .ok (.if_icmp .ne 4, 3) := by decide +kernel
theorem dMD_unary_291 : decode cMD_unary 291 = .ok (.return_, 1) := by decide +kernel
theorem dMD_unary_292 : decode cMD_unary 292 = .ok (.iinc 9 1, 3) := by decide +kernel
theorem dMD_unary_295 : decode cMD_unary 295 = .ok (.goto (-25), 3) := by decide +kernel
theorem dMD_unary_298 : decode cMD_unary 298 = .ok (.aload_n 0, 1) := by decide +kernel
theorem dMD_unary_299 : decode cMD_unary 299 = .ok (.iload 7, 2) := by decide +kernel
theorem dMD_unary_301 : decode cMD_unary 301 = .ok (.iload 8, 2) := by decide +kernel
theorem dMD_unary_303 : decode cMD_unary 303 = .ok (.iconst 0, 1) := by decide +kernel
theorem dMD_unary_304 : decode cMD_unary 304 = .ok (.lconst 1, 1) := by decide +kernel
theorem dMD_unary_305 : decode cMD_unary 305 = .ok (.invokevirtual 82, 3) := by decide +kernel
theorem dMD_unary_308 : decode cMD_unary 308 = .ok (.return_, 1) := by decide +kernel
theorem dMD_passes_0 : decode cMD_passes 0 = .ok (.iload_n 2, 1) := by decide +kernel
theorem dMD_passes_1 : decode cMD_passes 1 = .ok (.ifCond .ne 14, 3) := by decide +kernel
theorem dMD_passes_4 : decode cMD_passes 4 = .ok (.iload_n 1, 1) := by decide +kernel
theorem dMD_passes_5 : decode cMD_passes 5 = .ok (.iload_n 3, 1) := by decide +kernel
theorem dMD_passes_6 : decode cMD_passes 6 = .ok (.if_icmp .ne 7, 3) := by decide +kernel
theorem dMD_passes_9 : decode cMD_passes 9 = .ok (.iconst 1, 1) := by decide +kernel
theorem dMD_passes_10 : decode cMD_passes 10 = .ok (.goto 4, 3) := by decide +kernel
theorem dMD_passes_13 : decode cMD_passes 13 = .ok (.iconst 0, 1) := by decide +kernel
theorem dMD_passes_14 : decode cMD_passes 14 = .ok (.ireturn, 1) := by decide +kernel
theorem dMD_passes_15 : decode cMD_passes 15 = .ok (.iload_n 2, 1) := by decide +kernel
theorem dMD_passes_16 : decode cMD_passes 16 = .ok (.iconst 1, 1) := by decide +kernel
theorem dMD_passes_17 : decode cMD_passes 17 = .ok (.if_icmp .ne 14, 3) := by decide +kernel
theorem dMD_passes_20 : decode cMD_passes 20 = .ok (.iload_n 1, 1) := by decide +kernel
theorem dMD_passes_21 : decode cMD_passes 21 = .ok (.iload_n 3, 1) := by decide +kernel
theorem dMD_passes_22 : decode cMD_passes 22 = .ok (.if_icmp .ge 7, 3) := by decide +kernel
theorem dMD_passes_25 : decode cMD_passes 25 = .ok (.iconst 1, 1) := by decide +kernel
theorem dMD_passes_26 : decode cMD_passes 26 = .ok (.goto 4, 3) := by decide +kernel
theorem dMD_passes_29 : decode cMD_passes 29 = .ok (.iconst 0, 1) := by decide +kernel
theorem dMD_passes_30 : decode cMD_passes 30 = .ok (.ireturn, 1) := by decide +kernel
theorem dMD_passes_31 : decode cMD_passes 31 = .ok (.iload_n 2, 1) := by decide +kernel
theorem dMD_passes_32 : decode cMD_passes 32 = .ok (.iconst 2, 1) := by decide +kernel
theorem dMD_passes_33 : decode cMD_passes 33 = .ok (.if_icmp .ne 16, 3) := by decide +kernel
theorem dMD_passes_36 : decode cMD_passes 36 = .ok (.iload_n 1, 1) := by decide +kernel
theorem dMD_passes_37 : decode cMD_passes 37 = .ok (.iload_n 3, 1) := by decide +kernel
theorem dMD_passes_38 : decode cMD_passes 38 = .ok (.if_icmp .le 7, 3) := by decide +kernel
theorem dMD_passes_41 : decode cMD_passes 41 = .ok (.iconst 1, 1) := by decide +kernel
theorem dMD_passes_42 : decode cMD_passes 42 = .ok (.goto 17, 3) := by decide +kernel
theorem dMD_passes_45 : decode cMD_passes 45 = .ok (.iconst 0, 1) := by decide +kernel
theorem dMD_passes_46 : decode cMD_passes 46 = .ok (.goto 13, 3) := by decide +kernel
theorem dMD_passes_49 : decode cMD_passes 49 = .ok (.iload_n 1, 1) := by decide +kernel
theorem dMD_passes_50 : decode cMD_passes 50 = .ok (.iload_n 3, 1) := by decide +kernel
theorem dMD_passes_51 : decode cMD_passes 51 = .ok (.if_icmp .eq 7, 3) := by decide +kernel
theorem dMD_passes_54 : decode cMD_passes 54 = .ok (.iconst 1, 1) := by decide +kernel
theorem dMD_passes_55 : decode cMD_passes 55 = .ok (.goto 4, 3) := by decide +kernel
theorem dMD_passes_58 : decode cMD_passes 58 = .ok (.iconst 0, 1) := by decide +kernel
theorem dMD_passes_59 : decode cMD_passes 59 = .ok (.ireturn, 1) := by decide +kernel
theorem dMD_mapped_0 : decode cMD_mapped 0 = .ok (.iload_n 2, 1) := by decide +kernel
theorem dMD_mapped_1 : decode cMD_mapped 1 = .ok (.iconst 3, 1) := by decide +kernel
theorem dMD_mapped_2 : decode cMD_mapped 2 = .ok (.if_icmp .ge 10, 3) := by decide +kernel
theorem dMD_mapped_5 : decode cMD_mapped 5 = .ok (.aload_n 0, 1) := by decide +kernel
theorem dMD_mapped_6 : decode cMD_mapped 6 = .ok (.iload_n 1, 1) := by decide +kernel
theorem dMD_mapped_7 : decode cMD_mapped 7 = .ok (.iload_n 2, 1) := by decide +kernel
theorem dMD_mapped_8 : decode cMD_mapped 8 = .ok (.invokevirtual 74, 3) := by decide +kernel
theorem dMD_mapped_11 : decode cMD_mapped 11 = .ok (.ireturn, 1) := by decide +kernel
theorem dMD_mapped_12 : decode cMD_mapped 12 = .ok (.iload_n 2, 1) := by decide +kernel
theorem dMD_mapped_13 : decode cMD_mapped 13 = .ok (.iconst 3, 1) := by decide +kernel
theorem dMD_mapped_14 : decode cMD_mapped 14 = .ok (.if_icmp .ne 7, 3) := by decide +kernel
theorem dMD_mapped_17 : decode cMD_mapped 17 = .ok (.iconst 0, 1) := by decide +kernel
theorem dMD_mapped_18 : decode cMD_mapped 18 = .ok (.goto 37, 3) := by decide +kernel
theorem dMD_mapped_21 : decode cMD_mapped 21 = .ok (.iload_n 2, 1) := by decide +kernel
theorem dMD_mapped_22 : decode cMD_mapped 22 = .ok (.iconst 4, 1) := by decide +kernel
theorem dMD_mapped_23 : decode cMD_mapped 23 = .ok (.if_icmp .ne 19, 3) := by decide +kernel
theorem dMD_mapped_26 : decode cMD_mapped 26 = .ok (.aload_n 0, 1) := by decide +kernel
theorem dMD_mapped_27 : decode cMD_mapped 27 = .ok (.getfield 7, 3) := by decide +kernel
theorem dMD_mapped_30 : decode cMD_mapped 30 = .ok (.iload_n 1, 1) := by decide +kernel
theorem dMD_mapped_31 : decode cMD_mapped 31 = .ok (.iaload, 1) := by decide +kernel
theorem dMD_mapped_32 : decode cMD_mapped 32 = .ok (.aload_n 0, 1) := by decide +kernel
theorem dMD_mapped_33 : decode cMD_mapped 33 = .ok (.getfield 13, 3) := by decide +kernel
theorem dMD_mapped_36 : decode cMD_mapped 36 = .ok (.iload_n 1, 1) := by decide +kernel
theorem dMD_mapped_37 : decode cMD_mapped 37 = .ok (.iaload, 1) := by decide +kernel
theorem dMD_mapped_38 : decode cMD_mapped 38 = .ok (.iadd, 1) := by decide +kernel
theorem dMD_mapped_39 : decode cMD_mapped 39 = .ok (.goto 16, 3) := by decide +kernel
theorem dMD_mapped_42 : decode cMD_mapped 42 = .ok (.aload_n 0, 1) := by decide +kernel
theorem dMD_mapped_43 : decode cMD_mapped 43 = .ok (.getfield 7, 3) := by decide +kernel
theorem dMD_mapped_46 : decode cMD_mapped 46 = .ok (.iload_n 1, 1) := by decide +kernel
theorem dMD_mapped_47 : decode cMD_mapped 47 = .ok (.iaload, 1) := by decide +kernel
theorem dMD_mapped_48 : decode cMD_mapped 48 = .ok (.aload_n 0, 1) := by decide +kernel
theorem dMD_mapped_49 : decode cMD_mapped 49 = .ok (.getfield 13, 3) := by decide +kernel
theorem dMD_mapped_52 : decode cMD_mapped 52 = .ok (.iload_n 1, 1) := by decide +kernel
theorem dMD_mapped_53 : decode cMD_mapped 53 = .ok (.iaload, 1) := by decide +kernel
theorem dMD_mapped_54 : decode cMD_mapped 54 = .ok (.isub, 1) := by decide +kernel
theorem dMD_mapped_55 : decode cMD_mapped 55 = .ok (.ireturn, 1) := by decide +kernel
theorem dMD_grouped_0 : decode cMD_grouped 0 = .ok (.aload_n 0, 1) := by decide +kernel
theorem dMD_grouped_1 : decode cMD_grouped 1 = .ok (.getfield 41, 3) := by decide +kernel
theorem dMD_grouped_4 : decode cMD_grouped 4 = .ok (.iload_n 2, 1) := by decide +kernel
theorem dMD_grouped_5 : decode cMD_grouped 5 = .ok (.iconst 5, 1) := by decide +kernel
theorem dMD_grouped_6 : decode cMD_grouped 6 = .ok (.imul, 1) := by decide +kernel
theorem dMD_grouped_7 : decode cMD_grouped 7 = .ok (.iconst 3, 1) := by decide +kernel
theorem dMD_grouped_8 : decode cMD_grouped 8 = .ok (.iadd, 1) := by decide +kernel
theorem dMD_grouped_9 : decode cMD_grouped 9 = .ok (.iaload, 1) := by decide +kernel
theorem dMD_grouped_10 : decode cMD_grouped 10 = .ok (.istore 4, 2) := by decide +kernel
theorem dMD_grouped_12 : decode cMD_grouped 12 = .ok (.lconst 0, 1) := by decide +kernel
theorem dMD_grouped_13 : decode cMD_grouped 13 = .ok (.lstore 5, 2) := by decide +kernel
theorem dMD_grouped_15 : decode cMD_grouped 15 = .ok (.iconst 0, 1) := by decide +kernel
theorem dMD_grouped_16 : decode cMD_grouped 16 = .ok (.istore 7, 2) := by decide +kernel
theorem dMD_grouped_18 : decode cMD_grouped 18 = .ok (.iconst 0, 1) := by decide +kernel
theorem dMD_grouped_19 : decode cMD_grouped 19 = .ok (.istore 8, 2) := by decide +kernel
theorem dMD_grouped_21 : decode cMD_grouped 21 = .ok (.iload_n 1, 1) := by decide +kernel
theorem dMD_grouped_22 : decode cMD_grouped 22 = .ok (.bipush 24, 2) := by decide +kernel
theorem dMD_grouped_24 : decode cMD_grouped 24 = .ok (.imul, 1) := by decide +kernel
theorem dMD_grouped_25 : decode cMD_grouped 25 = .ok (.istore 9, 2) := by decide +kernel
theorem dMD_grouped_27 : decode cMD_grouped 27 = .ok (.iload 9, 2) := by decide +kernel
theorem dMD_grouped_29 : decode cMD_grouped 29 = .ok (.iload_n 1, 1) := by decide +kernel
theorem dMD_grouped_30 : decode cMD_grouped 30 = .ok (.bipush 24, 2) := by decide +kernel
theorem dMD_grouped_32 : decode cMD_grouped 32 = .ok (.imul, 1) := by decide +kernel
theorem dMD_grouped_33 : decode cMD_grouped 33 = .ok (.aload_n 0, 1) := by decide +kernel
theorem dMD_grouped_34 : decode cMD_grouped 34 = .ok (.getfield 23, 3) := by decide +kernel
theorem dMD_grouped_37 : decode cMD_grouped 37 = .ok (.iload_n 1, 1) := by decide +kernel
theorem dMD_grouped_38 : decode cMD_grouped 38 = .ok (.iaload, 1) := by decide +kernel
theorem dMD_grouped_39 : decode cMD_grouped 39 = .ok (.iadd, 1) := by decide +kernel
theorem dMD_grouped_40 : decode cMD_grouped 40 = .ok (.if_icmp .ge 142, 3) := by decide +kernel
theorem dMD_grouped_43 : decode cMD_grouped 43 = .ok (.aload_n 0, 1) := by decide +kernel
theorem dMD_grouped_44 : decode cMD_grouped 44 = .ok (.getfield 19, 3) := by decide +kernel
theorem dMD_grouped_47 : decode cMD_grouped 47 = .ok (.iload 9, 2) := by decide +kernel
theorem dMD_grouped_49 : decode cMD_grouped 49 = .ok (.laload, 1) := by decide +kernel
theorem dMD_grouped_50 : decode cMD_grouped 50 = .ok (.lconst 0, 1) := by decide +kernel
theorem dMD_grouped_51 : decode cMD_grouped 51 = .ok (.lcmp, 1) := by decide +kernel
theorem dMD_grouped_52 : decode cMD_grouped 52 = .ok (.ifCond .le 124, 3) := by decide +kernel
theorem dMD_grouped_55 : decode cMD_grouped 55 = .ok (.aload_n 0, 1) := by decide +kernel
theorem dMD_grouped_56 : decode cMD_grouped 56 = .ok (.iload 9, 2) := by decide +kernel
theorem dMD_grouped_58 : decode cMD_grouped 58 = .ok (.aload_n 0, 1) := by decide +kernel
theorem dMD_grouped_59 : decode cMD_grouped 59 = .ok (.getfield 41, 3) := by decide +kernel
theorem dMD_grouped_62 : decode cMD_grouped 62 = .ok (.iload_n 2, 1) := by decide +kernel
theorem dMD_grouped_63 : decode cMD_grouped 63 = .ok (.iconst 5, 1) := by decide +kernel
theorem dMD_grouped_64 : decode cMD_grouped 64 = .ok (.imul, 1) := by decide +kernel
theorem dMD_grouped_65 : decode cMD_grouped 65 = .ok (.iconst 1, 1) := by decide +kernel
theorem dMD_grouped_66 : decode cMD_grouped 66 = .ok (.iadd, 1) := by decide +kernel
theorem dMD_grouped_67 : decode cMD_grouped 67 = .ok (.iaload, 1) := by decide +kernel
theorem dMD_grouped_68 : decode cMD_grouped 68 = .ok (.invokevirtual 74, 3) := by decide +kernel
theorem dMD_grouped_71 : decode cMD_grouped 71 = .ok (.iload_n 3, 1) := by decide +kernel
theorem dMD_grouped_72 : decode cMD_grouped 72 = .ok (.if_icmp .ne 104, 3) := by decide +kernel
theorem dMD_grouped_75 : decode cMD_grouped 75 = .ok (.aload_n 0, 1) := by decide +kernel
theorem dMD_grouped_76 : decode cMD_grouped 76 = .ok (.iload 9, 2) := by decide +kernel
theorem dMD_grouped_78 : decode cMD_grouped 78 = .ok (.aload_n 0, 1) := by decide +kernel
theorem dMD_grouped_79 : decode cMD_grouped 79 = .ok (.getfield 41, 3) := by decide +kernel
theorem dMD_grouped_82 : decode cMD_grouped 82 = .ok (.iload_n 2, 1) := by decide +kernel
theorem dMD_grouped_83 : decode cMD_grouped 83 = .ok (.iconst 5, 1) := by decide +kernel
theorem dMD_grouped_84 : decode cMD_grouped 84 = .ok (.imul, 1) := by decide +kernel
theorem dMD_grouped_85 : decode cMD_grouped 85 = .ok (.iconst 2, 1) := by decide +kernel
theorem dMD_grouped_86 : decode cMD_grouped 86 = .ok (.iadd, 1) := by decide +kernel
theorem dMD_grouped_87 : decode cMD_grouped 87 = .ok (.iaload, 1) := by decide +kernel
theorem dMD_grouped_88 : decode cMD_grouped 88 = .ok (.invokevirtual 74, 3) := by decide +kernel
theorem dMD_grouped_91 : decode cMD_grouped 91 = .ok (.istore 10, 2) := by decide +kernel
theorem dMD_grouped_93 : decode cMD_grouped 93 = .ok (.lload 5, 2) := by decide +kernel
theorem dMD_grouped_95 : decode cMD_grouped 95 = .ok (.iload 4, 2) := by decide +kernel
theorem dMD_grouped_97 : decode cMD_grouped 97 = .ok (.ifCond .ne 13, 3) := by decide +kernel
theorem dMD_grouped_100 : decode cMD_grouped 100 = .ok (.aload_n 0, 1) := by decide +kernel
theorem dMD_grouped_101 : decode cMD_grouped 101 = .ok (.getfield 19, 3) := by decide +kernel
theorem dMD_grouped_104 : decode cMD_grouped 104 = .ok (.iload 9, 2) := by decide +kernel
theorem dMD_grouped_106 : decode cMD_grouped 106 = .ok (.laload, 1) := by decide +kernel
theorem dMD_grouped_107 : decode cMD_grouped 107 = .ok (.goto 14, 3) := by decide +kernel
theorem dMD_grouped_110 : decode cMD_grouped 110 = .ok (.aload_n 0, 1) := by decide +kernel
theorem dMD_grouped_111 : decode cMD_grouped 111 = .ok (.getfield 19, 3) := by decide +kernel
theorem dMD_grouped_114 : decode cMD_grouped 114 = .ok (.iload 9, 2) := by decide +kernel
theorem dMD_grouped_116 : decode cMD_grouped 116 = .ok (.laload, 1) := by decide +kernel
theorem dMD_grouped_117 : decode cMD_grouped 117 = .ok (.iload 10, 2) := by decide +kernel
theorem dMD_grouped_119 : decode cMD_grouped 119 = .ok (.i2l, 1) := by decide +kernel
theorem dMD_grouped_120 : decode cMD_grouped 120 = .ok (.lmul, 1) := by decide +kernel
theorem dMD_grouped_121 : decode cMD_grouped 121 = .ok (.ladd, 1) := by decide +kernel
theorem dMD_grouped_122 : decode cMD_grouped 122 = .ok (.lstore 5, 2) := by decide +kernel
theorem dMD_grouped_124 : decode cMD_grouped 124 = .ok (.iload 4, 2) := by decide +kernel
theorem dMD_grouped_126 : decode cMD_grouped 126 = .ok (.iconst 2, 1) := by decide +kernel
theorem dMD_grouped_127 : decode cMD_grouped 127 = .ok (.if_icmp .ne 18, 3) := by decide +kernel
theorem dMD_grouped_130 : decode cMD_grouped 130 = .ok (.iload 10, 2) := by decide +kernel
theorem dMD_grouped_132 : decode cMD_grouped 132 = .ok (.iload 8, 2) := by decide +kernel
theorem dMD_grouped_134 : decode cMD_grouped 134 = .ok (.if_icmp .ge 7, 3) := by decide +kernel
theorem dMD_grouped_137 : decode cMD_grouped 137 = .ok (.iconst 1, 1) := by decide +kernel
theorem dMD_grouped_138 : decode cMD_grouped 138 = .ok (.goto 19, 3) := by decide +kernel
theorem dMD_grouped_141 : decode cMD_grouped 141 = .ok (.iconst 0, 1) := by decide +kernel
theorem dMD_grouped_142 : decode cMD_grouped 142 = .ok (.goto 15, 3) := by decide +kernel
theorem dMD_grouped_145 : decode cMD_grouped 145 = .ok (.iload 10, 2) := by decide +kernel
theorem dMD_grouped_147 : decode cMD_grouped 147 = .ok (.iload 8, 2) := by decide +kernel
theorem dMD_grouped_149 : decode cMD_grouped 149 = .ok (.if_icmp .le 7, 3) := by decide +kernel
theorem dMD_grouped_152 : decode cMD_grouped 152 = .ok (.iconst 1, 1) := by decide +kernel
theorem dMD_grouped_153 : decode cMD_grouped 153 = .ok (.goto 4, 3) := by decide +kernel
theorem dMD_grouped_156 : decode cMD_grouped 156 = .ok (.iconst 0, 1) := by decide +kernel
theorem dMD_grouped_157 : decode cMD_grouped 157 = .ok (.istore 11, 2) := by decide +kernel
theorem dMD_grouped_159 : decode cMD_grouped 159 = .ok (.iload 7, 2) := by decide +kernel
theorem dMD_grouped_161 : decode cMD_grouped 161 = .ok (.ifCond .eq 8, 3) := by decide +kernel
theorem dMD_grouped_164 : decode cMD_grouped 164 = .ok (.iload 11, 2) := by decide +kernel
theorem dMD_grouped_166 : decode cMD_grouped 166 = .ok (.ifCond .eq 7, 3) := by decide +kernel
theorem dMD_grouped_169 : decode cMD_grouped 169 = .ok (.iload 10, 2) := by decide +kernel
theorem dMD_grouped_171 : decode cMD_grouped 171 = .ok (.istore 8, 2) := by decide +kernel
theorem dMD_grouped_173 : decode cMD_grouped 173 = .ok (.iconst 1, 1) := by decide +kernel
theorem dMD_grouped_174 : decode cMD_grouped 174 = .ok (.istore 7, 2) := by decide +kernel
theorem dMD_grouped_176 : decode cMD_grouped 176 = .ok (.iinc 9 1, 3) := by decide +kernel
theorem dMD_grouped_179 : decode cMD_grouped 179 = .ok (.goto (-152), 3) := by decide +kernel
theorem dMD_grouped_182 : decode cMD_grouped 182 = .ok (.iload 4, 2) := by decide +kernel
theorem dMD_grouped_184 : decode cMD_grouped 184 = .ok (.iconst 2, 1) := by decide +kernel
theorem dMD_grouped_185 : decode cMD_grouped 185 = .ok (.if_icmp .ge 9, 3) := by decide +kernel
theorem dMD_grouped_188 : decode cMD_grouped 188 = .ok (.lload 5, 2) := by decide +kernel
theorem dMD_grouped_190 : decode cMD_grouped 190 = .ok (.l2i, 1) := by decide +kernel
theorem dMD_grouped_191 : decode cMD_grouped 191 = .ok (.goto 5, 3) := by decide +kernel
theorem dMD_grouped_194 : decode cMD_grouped 194 = .ok (.iload 8, 2) := by decide +kernel
theorem dMD_grouped_196 : decode cMD_grouped 196 = .ok (.ireturn, 1) := by decide +kernel
theorem dMD_settle_0 : decode cMD_settle 0 = .ok (.iconst 0, 1) := by decide +kernel
theorem dMD_settle_1 : decode cMD_settle 1 = .ok (.istore_n 3, 1) := by decide +kernel
theorem dMD_settle_2 : decode cMD_settle 2 = .ok (.iconst 0, 1) := by decide +kernel
theorem dMD_settle_3 : decode cMD_settle 3 = .ok (.istore 4, 2) := by decide +kernel
theorem dMD_settle_5 : decode cMD_settle 5 = .ok (.iload 4, 2) := by decide +kernel
theorem dMD_settle_7 : decode cMD_settle 7 = .ok (.aload_n 0, 1) := by decide +kernel
theorem dMD_settle_8 : decode cMD_settle 8 = .ok (.getfield 62, 3) := by decide +kernel
theorem dMD_settle_11 : decode cMD_settle 11 = .ok (.if_icmp .ge 54, 3) := by decide +kernel
theorem dMD_settle_14 : decode cMD_settle 14 = .ok (.aload_n 0, 1) := by decide +kernel
theorem dMD_settle_15 : decode cMD_settle 15 = .ok (.getfield 35, 3) := by decide +kernel
theorem dMD_settle_18 : decode cMD_settle 18 = .ok (.iload 4, 2) := by decide +kernel
theorem dMD_settle_20 : decode cMD_settle 20 = .ok (.laload, 1) := by decide +kernel
theorem dMD_settle_21 : decode cMD_settle 21 = .ok (.ldc2_w 66, 3) := by decide +kernel
theorem dMD_settle_24 : decode cMD_settle 24 = .ok (.lcmp, 1) := by decide +kernel
theorem dMD_settle_25 : decode cMD_settle 25 = .ok (.ifCond .gt 17, 3) := by decide +kernel
theorem dMD_settle_28 : decode cMD_settle 28 = .ok (.aload_n 0, 1) := by decide +kernel
theorem dMD_settle_29 : decode cMD_settle 29 = .ok (.getfield 35, 3) := by decide +kernel
theorem dMD_settle_32 : decode cMD_settle 32 = .ok (.iload 4, 2) := by decide +kernel
theorem dMD_settle_34 : decode cMD_settle 34 = .ok (.laload, 1) := by decide +kernel
theorem dMD_settle_35 : decode cMD_settle 35 = .ok (.ldc2_w 68, 3) := by decide +kernel
theorem dMD_settle_38 : decode cMD_settle 38 = .ok (.lcmp, 1) := by decide +kernel
theorem dMD_settle_39 : decode cMD_settle 39 = .ok (.ifCond .ge 5, 3) := by decide +kernel
theorem dMD_settle_42 : decode cMD_settle 42 = .ok (.iconst 0, 1) := by decide +kernel
theorem dMD_settle_43 : decode cMD_settle 43 = .ok (.ireturn, 1) := by decide +kernel
theorem dMD_settle_44 : decode cMD_settle 44 = .ok (.aload_n 0, 1) := by decide +kernel
theorem dMD_settle_45 : decode cMD_settle 45 = .ok (.getfield 35, 3) := by decide +kernel
theorem dMD_settle_48 : decode cMD_settle 48 = .ok (.iload 4, 2) := by decide +kernel
theorem dMD_settle_50 : decode cMD_settle 50 = .ok (.laload, 1) := by decide +kernel
theorem dMD_settle_51 : decode cMD_settle 51 = .ok (.lconst 0, 1) := by decide +kernel
theorem dMD_settle_52 : decode cMD_settle 52 = .ok (.lcmp, 1) := by decide +kernel
theorem dMD_settle_53 : decode cMD_settle 53 = .ok (.ifCond .eq 6, 3) := by decide +kernel
theorem dMD_settle_56 : decode cMD_settle 56 = .ok (.iinc 3 1, 3) := by decide +kernel
theorem dMD_settle_59 : decode cMD_settle 59 = .ok (.iinc 4 1, 3) := by decide +kernel
theorem dMD_settle_62 : decode cMD_settle 62 = .ok (.goto (-57), 3) := by decide +kernel
theorem dMD_settle_65 : decode cMD_settle 65 = .ok (.iload_n 3, 1) := by decide +kernel
theorem dMD_settle_66 : decode cMD_settle 66 = .ok (.iload_n 2, 1) := by decide +kernel
theorem dMD_settle_67 : decode cMD_settle 67 = .ok (.if_icmp .le 5, 3) := by decide +kernel
theorem dMD_settle_70 : decode cMD_settle 70 = .ok (.iconst 0, 1) := by decide +kernel
theorem dMD_settle_71 : decode cMD_settle 71 = .ok (.ireturn, 1) := by decide +kernel
theorem dMD_settle_72 : decode cMD_settle 72 = .ok (.iconst 0, 1) := by decide +kernel
theorem dMD_settle_73 : decode cMD_settle 73 = .ok (.istore 4, 2) := by decide +kernel
theorem dMD_settle_75 : decode cMD_settle 75 = .ok (.iload 4, 2) := by decide +kernel
theorem dMD_settle_77 : decode cMD_settle 77 = .ok (.aload_n 0, 1) := by decide +kernel
theorem dMD_settle_78 : decode cMD_settle 78 = .ok (.getfield 62, 3) := by decide +kernel
theorem dMD_settle_81 : decode cMD_settle 81 = .ok (.if_icmp .ge 130, 3) := by decide +kernel
theorem dMD_settle_84 : decode cMD_settle 84 = .ok (.aload_n 0, 1) := by decide +kernel
theorem dMD_settle_85 : decode cMD_settle 85 = .ok (.getfield 35, 3) := by decide +kernel
theorem dMD_settle_88 : decode cMD_settle 88 = .ok (.iload 4, 2) := by decide +kernel
theorem dMD_settle_90 : decode cMD_settle 90 = .ok (.laload, 1) := by decide +kernel
theorem dMD_settle_91 : decode cMD_settle 91 = .ok (.lconst 0, 1) := by decide +kernel
theorem dMD_settle_92 : decode cMD_settle 92 = .ok (.lcmp, 1) := by decide +kernel
theorem dMD_settle_93 : decode cMD_settle 93 = .ok (.ifCond .ne 6, 3) := by decide +kernel
theorem dMD_settle_96 : decode cMD_settle 96 = .ok (.goto 109, 3) := by decide +kernel
theorem dMD_settle_99 : decode cMD_settle 99 = .ok (.iload_n 1, 1) := by decide +kernel
theorem dMD_settle_100 : decode cMD_settle 100 = .ok (.bipush 24, 2) := by decide +kernel
theorem dMD_settle_102 : decode cMD_settle 102 = .ok (.imul, 1) := by decide +kernel
theorem dMD_settle_103 : decode cMD_settle 103 = .ok (.istore 5, 2) := by decide +kernel
theorem dMD_settle_105 : decode cMD_settle 105 = .ok (.iconst 0, 1) := by decide +kernel
theorem dMD_settle_106 : decode cMD_settle 106 = .ok (.istore 6, 2) := by decide +kernel
theorem dMD_settle_108 : decode cMD_settle 108 = .ok (.iload 6, 2) := by decide +kernel
theorem dMD_settle_110 : decode cMD_settle 110 = .ok (.aload_n 0, 1) := by decide +kernel
theorem dMD_settle_111 : decode cMD_settle 111 = .ok (.getfield 62, 3) := by decide +kernel
theorem dMD_settle_114 : decode cMD_settle 114 = .ok (.if_icmp .ge 35, 3) := by decide +kernel
theorem dMD_settle_117 : decode cMD_settle 117 = .ok (.aload_n 0, 1) := by decide +kernel
theorem dMD_settle_118 : decode cMD_settle 118 = .ok (.getfield 35, 3) := by decide +kernel
theorem dMD_settle_121 : decode cMD_settle 121 = .ok (.iload 6, 2) := by decide +kernel
theorem dMD_settle_123 : decode cMD_settle 123 = .ok (.laload, 1) := by decide +kernel
theorem dMD_settle_124 : decode cMD_settle 124 = .ok (.lconst 0, 1) := by decide +kernel
theorem dMD_settle_125 : decode cMD_settle 125 = .ok (.lcmp, 1) := by decide +kernel
theorem dMD_settle_126 : decode cMD_settle 126 = .ok (.ifCond .eq 17, 3) := by decide +kernel
theorem dMD_settle_129 : decode cMD_settle 129 = .ok (.aload_n 0, 1) := by decide +kernel
theorem dMD_settle_130 : decode cMD_settle 130 = .ok (.iload 6, 2) := by decide +kernel
theorem dMD_settle_132 : decode cMD_settle 132 = .ok (.iload 4, 2) := by decide +kernel
theorem dMD_settle_134 : decode cMD_settle 134 = .ok (.invokevirtual 70, 3) := by decide +kernel
theorem dMD_settle_137 : decode cMD_settle 137 = .ok (.ifCond .eq 6, 3) := by decide +kernel
theorem dMD_settle_140 : decode cMD_settle 140 = .ok (.iinc 5 1, 3) := by decide +kernel
theorem dMD_settle_143 : decode cMD_settle 143 = .ok (.iinc 6 1, 3) := by decide +kernel
theorem dMD_settle_146 : decode cMD_settle 146 = .ok (.goto (-38), 3) := by decide +kernel
theorem dMD_settle_149 : decode cMD_settle 149 = .ok (.aload_n 0, 1) := by decide +kernel
theorem dMD_settle_150 : decode cMD_settle 150 = .ok (.getfield 7, 3) := by decide +kernel
theorem dMD_settle_153 : decode cMD_settle 153 = .ok (.iload 5, 2) := by decide +kernel
theorem dMD_settle_155 : decode cMD_settle 155 = .ok (.aload_n 0, 1) := by decide +kernel
theorem dMD_settle_156 : decode cMD_settle 156 = .ok (.getfield 26, 3) := by decide +kernel
theorem dMD_settle_159 : decode cMD_settle 159 = .ok (.iload 4, 2) := by decide +kernel
theorem dMD_settle_161 : decode cMD_settle 161 = .ok (.iaload, 1) := by decide +kernel
theorem dMD_settle_162 : decode cMD_settle 162 = .ok (.iastore, 1) := by decide +kernel
theorem dMD_settle_163 : decode cMD_settle 163 = .ok (.aload_n 0, 1) := by decide +kernel
theorem dMD_settle_164 : decode cMD_settle 164 = .ok (.getfield 13, 3) := by decide +kernel
theorem dMD_settle_167 : decode cMD_settle 167 = .ok (.iload 5, 2) := by decide +kernel
theorem dMD_settle_169 : decode cMD_settle 169 = .ok (.aload_n 0, 1) := by decide +kernel
theorem dMD_settle_170 : decode cMD_settle 170 = .ok (.getfield 29, 3) := by decide +kernel
theorem dMD_settle_173 : decode cMD_settle 173 = .ok (.iload 4, 2) := by decide +kernel
theorem dMD_settle_175 : decode cMD_settle 175 = .ok (.iaload, 1) := by decide +kernel
theorem dMD_settle_176 : decode cMD_settle 176 = .ok (.iastore, 1) := by decide +kernel
theorem dMD_settle_177 : decode cMD_settle 177 = .ok (.aload_n 0, 1) := by decide +kernel
theorem dMD_settle_178 : decode cMD_settle 178 = .ok (.getfield 16, 3) := by decide +kernel
theorem dMD_settle_181 : decode cMD_settle 181 = .ok (.iload 5, 2) := by decide +kernel
theorem dMD_settle_183 : decode cMD_settle 183 = .ok (.aload_n 0, 1) := by decide +kernel
theorem dMD_settle_184 : decode cMD_settle 184 = .ok (.getfield 32, 3) := by decide +kernel
theorem dMD_settle_187 : decode cMD_settle 187 = .ok (.iload 4, 2) := by decide +kernel
theorem dMD_settle_189 : decode cMD_settle 189 = .ok (.iaload, 1) := by decide +kernel
theorem dMD_settle_190 : decode cMD_settle 190 = .ok (.iastore, 1) := by decide +kernel
theorem dMD_settle_191 : decode cMD_settle 191 = .ok (.aload_n 0, 1) := by decide +kernel
theorem dMD_settle_192 : decode cMD_settle 192 = .ok (.getfield 19, 3) := by decide +kernel
theorem dMD_settle_195 : decode cMD_settle 195 = .ok (.iload 5, 2) := by decide +kernel
theorem dMD_settle_197 : decode cMD_settle 197 = .ok (.aload_n 0, 1) := by decide +kernel
theorem dMD_settle_198 : decode cMD_settle 198 = .ok (.getfield 35, 3) := by decide +kernel
theorem dMD_settle_201 : decode cMD_settle 201 = .ok (.iload 4, 2) := by decide +kernel
theorem dMD_settle_203 : decode cMD_settle 203 = .ok (.laload, 1) := by decide +kernel
theorem dMD_settle_204 : decode cMD_settle 204 = .ok (.lastore, 1) := by decide +kernel
theorem dMD_settle_205 : decode cMD_settle 205 = .ok (.iinc 4 1, 3) := by decide +kernel
theorem dMD_settle_208 : decode cMD_settle 208 = .ok (.goto (-133), 3) := by decide +kernel
theorem dMD_settle_211 : decode cMD_settle 211 = .ok (.aload_n 0, 1) := by decide +kernel
theorem dMD_settle_212 : decode cMD_settle 212 = .ok (.getfield 23, 3) := by decide +kernel
theorem dMD_settle_215 : decode cMD_settle 215 = .ok (.iload_n 1, 1) := by decide +kernel
theorem dMD_settle_216 : decode cMD_settle 216 = .ok (.iload_n 3, 1) := by decide +kernel
theorem dMD_settle_217 : decode cMD_settle 217 = .ok (.iastore, 1) := by decide +kernel
theorem dMD_settle_218 : decode cMD_settle 218 = .ok (.iconst 1, 1) := by decide +kernel
theorem dMD_settle_219 : decode cMD_settle 219 = .ok (.ireturn, 1) := by decide +kernel
