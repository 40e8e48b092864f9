theorem dMD_before_0 : decode cMD_before 0 = .ok (.aload_n 0, 1) := by decide +kernel
theorem dMD_before_1 : decode cMD_before 1 = .ok (.getfield 26, 3) := by decide +kernel
theorem dMD_before_4 : decode cMD_before 4 = .ok (.iload_n 1, 1) := by decide +kernel
theorem dMD_before_5 : decode cMD_before 5 = .ok (.iaload, 1) := by decide +kernel
theorem dMD_before_6 : decode cMD_before 6 = .ok (.aload_n 0, 1) := by decide +kernel
theorem dMD_before_7 : decode cMD_before 7 = .ok (.getfield 26, 3) := by decide +kernel
theorem dMD_before_10 : decode cMD_before 10 = .ok (.iload_n 2, 1) := by decide +kernel
theorem dMD_before_11 : decode cMD_before 11 = .ok (.iaload, 1) := by decide +kernel
theorem dMD_before_12 : decode cMD_before 12 = .ok (.if_icmp .eq 24, 3) := by decide +kernel
theorem dMD_before_15 : decode cMD_before 15 = .ok (.aload_n 0, 1) := by decide +kernel
theorem dMD_before_16 : decode cMD_before 16 = .ok (.getfield 26, 3) := by decide +kernel
theorem dMD_before_19 : decode cMD_before 19 = .ok (.iload_n 1, 1) := by decide +kernel
theorem dMD_before_20 : decode cMD_before 20 = .ok (.iaload, 1) := by decide +kernel
theorem dMD_before_21 : decode cMD_before 21 = .ok (.aload_n 0, 1) := by decide +kernel
theorem dMD_before_22 : decode cMD_before 22 = .ok (.getfield 26, 3) := by decide +kernel
theorem dMD_before_25 : decode cMD_before 25 = .ok (.iload_n 2, 1) := by decide +kernel
theorem dMD_before_26 : decode cMD_before 26 = .ok (.iaload, 1) := by decide +kernel
theorem dMD_before_27 : decode cMD_before 27 = .ok (.if_icmp .ge 7, 3) := by decide +kernel
theorem dMD_before_30 : decode cMD_before 30 = .ok (.iconst 1, 1) := by decide +kernel
theorem dMD_before_31 : decode cMD_before 31 = .ok (.goto 4, 3) := by decide +kernel
theorem dMD_before_34 : decode cMD_before 34 = .ok (.iconst 0, 1) := by decide +kernel
theorem dMD_before_35 : decode cMD_before 35 = .ok (.ireturn, 1) := by decide +kernel
theorem dMD_before_36 : decode cMD_before 36 = .ok (.aload_n 0, 1) := by decide +kernel
theorem dMD_before_37 : decode cMD_before 37 = .ok (.getfield 29, 3) := by decide +kernel
theorem dMD_before_40 : decode cMD_before 40 = .ok (.iload_n 1, 1) := by decide +kernel
theorem dMD_before_41 : decode cMD_before 41 = .ok (.iaload, 1) := by decide +kernel
theorem dMD_before_42 : decode cMD_before 42 = .ok (.aload_n 0, 1) := by decide +kernel
theorem dMD_before_43 : decode cMD_before 43 = .ok (.getfield 29, 3) := by decide +kernel
theorem dMD_before_46 : decode cMD_before 46 = .ok (.iload_n 2, 1) := by decide +kernel
theorem dMD_before_47 : decode cMD_before 47 = .ok (.iaload, 1) := by decide +kernel
theorem dMD_before_48 : decode cMD_before 48 = .ok (.if_icmp .eq 24, 3) := by decide +kernel
theorem dMD_before_51 : decode cMD_before 51 = .ok (.aload_n 0, 1) := by decide +kernel
theorem dMD_before_52 : decode cMD_before 52 = .ok (.getfield 29, 3) := by decide +kernel
theorem dMD_before_55 : decode cMD_before 55 = .ok (.iload_n 1, 1) := by decide +kernel
theorem dMD_before_56 : decode cMD_before 56 = .ok (.iaload, 1) := by decide +kernel
theorem dMD_before_57 : decode cMD_before 57 = .ok (.aload_n 0, 1) := by decide +kernel
theorem dMD_before_58 : decode cMD_before 58 = .ok (.getfield 29, 3) := by decide +kernel
theorem dMD_before_61 : decode cMD_before 61 = .ok (.iload_n 2, 1) := by decide +kernel
theorem dMD_before_62 : decode cMD_before 62 = .ok (.iaload, 1) := by decide +kernel
theorem dMD_before_63 : decode cMD_before 63 = .ok (.if_icmp .ge 7, 3) := by decide +kernel
theorem dMD_before_66 : decode cMD_before 66 = .ok (.iconst 1, 1) := by decide +kernel
theorem dMD_before_67 : decode cMD_before 67 = .ok (.goto 4, 3) := by decide +kernel
theorem dMD_before_70 : decode cMD_before 70 = .ok (.iconst 0, 1) := by decide +kernel
theorem dMD_before_71 : decode cMD_before 71 = .ok (.ireturn, 1) := by decide +kernel
theorem dMD_before_72 : decode cMD_before 72 = .ok (.aload_n 0, 1) := by decide +kernel
theorem dMD_before_73 : decode cMD_before 73 = .ok (.getfield 32, 3) := by decide +kernel
theorem dMD_before_76 : decode cMD_before 76 = .ok (.iload_n 1, 1) := by decide +kernel
theorem dMD_before_77 : decode cMD_before 77 = .ok (.iaload, 1) := by decide +kernel
theorem dMD_before_78 : decode cMD_before 78 = .ok (.aload_n 0, 1) := by decide +kernel
theorem dMD_before_79 : decode cMD_before 79 = .ok (.getfield 32, 3) := by decide +kernel
theorem dMD_before_82 : decode cMD_before 82 = .ok (.iload_n 2, 1) := by decide +kernel
theorem dMD_before_83 : decode cMD_before 83 = .ok (.iaload, 1) := by decide +kernel
theorem dMD_before_84 : decode cMD_before 84 = .ok (.if_icmp .ge 7, 3) := by decide +kernel
theorem dMD_before_87 : decode cMD_before 87 = .ok (.iconst 1, 1) := by decide +kernel
theorem dMD_before_88 : decode cMD_before 88 = .ok (.goto 4, 3) := by decide +kernel
theorem dMD_before_91 : decode cMD_before 91 = .ok (.iconst 0, 1) := by decide +kernel
theorem dMD_before_92 : decode cMD_before 92 = .ok (.ireturn, 1) := by decide +kernel
theorem dMD_filter_0 : decode cMD_filter 0 = .ok (.aload_n 0, 1) := by decide +kernel
theorem dMD_filter_1 : decode cMD_filter 1 = .ok (.iload_n 1, 1) := by decide +kernel
theorem dMD_filter_2 : decode cMD_filter 2 = .ok (.aload_n 0, 1) := by decide +kernel
theorem dMD_filter_3 : decode cMD_filter 3 = .ok (.getfield 106, 3) := by decide +kernel
theorem dMD_filter_6 : decode cMD_filter 6 = .ok (.invokevirtual 112, 3) := by decide +kernel
theorem dMD_filter_9 : decode cMD_filter 9 = .ok (.ifCond .ne 21, 3) := by decide +kernel
theorem dMD_filter_12 : decode cMD_filter 12 = .ok (.aload_n 0, 1) := by decide +kernel
theorem dMD_filter_13 : decode cMD_filter 13 = .ok (.iload_n 2, 1) := by decide +kernel
theorem dMD_filter_14 : decode cMD_filter 14 = .ok (.iconst 3, 1) := by decide +kernel
theorem dMD_filter_15 : decode cMD_filter 15 = .ok (.invokevirtual 112, 3) := by decide +kernel
theorem dMD_filter_18 : decode cMD_filter 18 = .ok (.ifCond .ne 12, 3) := by decide +kernel
theorem dMD_filter_21 : decode cMD_filter 21 = .ok (.aload_n 0, 1) := by decide +kernel
theorem dMD_filter_22 : decode cMD_filter 22 = .ok (.iload_n 3, 1) := by decide +kernel
theorem dMD_filter_23 : decode cMD_filter 23 = .ok (.iconst 4, 1) := by decide +kernel
theorem dMD_filter_24 : decode cMD_filter 24 = .ok (.invokevirtual 112, 3) := by decide +kernel
theorem dMD_filter_27 : decode cMD_filter 27 = .ok (.ifCond .eq 5, 3) := by decide +kernel
theorem dMD_filter_30 : decode cMD_filter 30 = .ok (.iconst (-1), 1) := by decide +kernel
theorem dMD_filter_31 : decode cMD_filter 31 = .ok (.ireturn, 1) := by decide +kernel
theorem dMD_filter_32 : decode cMD_filter 32 = .ok (.aload_n 0, 1) := by decide +kernel
theorem dMD_filter_33 : decode cMD_filter 33 = .ok (.iconst 1, 1) := by decide +kernel
theorem dMD_filter_34 : decode cMD_filter 34 = .ok (.iload_n 1, 1) := by decide +kernel
theorem dMD_filter_35 : decode cMD_filter 35 = .ok (.iload_n 2, 1) := by decide +kernel
theorem dMD_filter_36 : decode cMD_filter 36 = .ok (.iload_n 3, 1) := by decide +kernel
theorem dMD_filter_37 : decode cMD_filter 37 = .ok (.iload 4, 2) := by decide +kernel
theorem dMD_filter_39 : decode cMD_filter 39 = .ok (.iconst 0, 1) := by decide +kernel
theorem dMD_filter_40 : decode cMD_filter 40 = .ok (.invokevirtual 115, 3) := by decide +kernel
theorem dMD_filter_43 : decode cMD_filter 43 = .ok (.ireturn, 1) := by decide +kernel
theorem dMD_map_0 : decode cMD_map 0 = .ok (.aload_n 0, 1) := by decide +kernel
theorem dMD_map_1 : decode cMD_map 1 = .ok (.iload_n 1, 1) := by decide +kernel
theorem dMD_map_2 : decode cMD_map 2 = .ok (.aload_n 0, 1) := by decide +kernel
theorem dMD_map_3 : decode cMD_map 3 = .ok (.getfield 106, 3) := by decide +kernel
theorem dMD_map_6 : decode cMD_map 6 = .ok (.invokevirtual 112, 3) := by decide +kernel
theorem dMD_map_9 : decode cMD_map 9 = .ok (.ifCond .ne 34, 3) := by decide +kernel
theorem dMD_map_12 : decode cMD_map 12 = .ok (.aload_n 0, 1) := by decide +kernel
theorem dMD_map_13 : decode cMD_map 13 = .ok (.iload_n 2, 1) := by decide +kernel
theorem dMD_map_14 : decode cMD_map 14 = .ok (.bipush 6, 2) := by decide +kernel
theorem dMD_map_16 : decode cMD_map 16 = .ok (.invokevirtual 112, 3) := by decide +kernel
theorem dMD_map_19 : decode cMD_map 19 = .ok (.ifCond .ne 24, 3) := by decide +kernel
theorem dMD_map_22 : decode cMD_map 22 = .ok (.aload_n 0, 1) := by decide +kernel
theorem dMD_map_23 : decode cMD_map 23 = .ok (.iload_n 3, 1) := by decide +kernel
theorem dMD_map_24 : decode cMD_map 24 = .ok (.bipush 6, 2) := by decide +kernel
theorem dMD_map_26 : decode cMD_map 26 = .ok (.invokevirtual 112, 3) := by decide +kernel
theorem dMD_map_29 : decode cMD_map 29 = .ok (.ifCond .ne 14, 3) := by decide +kernel
theorem dMD_map_32 : decode cMD_map 32 = .ok (.aload_n 0, 1) := by decide +kernel
theorem dMD_map_33 : decode cMD_map 33 = .ok (.iload 4, 2) := by decide +kernel
theorem dMD_map_35 : decode cMD_map 35 = .ok (.bipush 6, 2) := by decide +kernel
theorem dMD_map_37 : decode cMD_map 37 = .ok (.invokevirtual 112, 3) := by decide +kernel
theorem dMD_map_40 : decode cMD_map 40 = .ok (.ifCond .eq 5, 3) := by decide +kernel
theorem dMD_map_43 : decode cMD_map 43 = .ok (.iconst (-1), 1) := by decide +kernel
theorem dMD_map_44 : decode cMD_map 44 = .ok (.ireturn, 1) := by decide +kernel
theorem dMD_map_45 : decode cMD_map 45 = .ok (.aload_n 0, 1) := by decide +kernel
theorem dMD_map_46 : decode cMD_map 46 = .ok (.iconst 2, 1) := by decide +kernel
theorem dMD_map_47 : decode cMD_map 47 = .ok (.iload_n 1, 1) := by decide +kernel
theorem dMD_map_48 : decode cMD_map 48 = .ok (.iload_n 2, 1) := by decide +kernel
theorem dMD_map_49 : decode cMD_map 49 = .ok (.iload_n 3, 1) := by decide +kernel
theorem dMD_map_50 : decode cMD_map 50 = .ok (.iload 4, 2) := by decide +kernel
theorem dMD_map_52 : decode cMD_map 52 = .ok (.iconst 0, 1) := by decide +kernel
theorem dMD_map_53 : decode cMD_map 53 = .ok (.invokevirtual 115, 3) := by decide +kernel
theorem dMD_map_56 : decode cMD_map 56 = .ok (.ireturn, 1) := by decide +kernel
theorem dMD_join_0 : decode cMD_join 0 = .ok (.aload_n 0, 1) := by decide +kernel
theorem dMD_join_1 : decode cMD_join 1 = .ok (.iload_n 1, 1) := by decide +kernel
theorem dMD_join_2 : decode cMD_join 2 = .ok (.aload_n 0, 1) := by decide +kernel
theorem dMD_join_3 : decode cMD_join 3 = .ok (.getfield 106, 3) := by decide +kernel
theorem dMD_join_6 : decode cMD_join 6 = .ok (.invokevirtual 112, 3) := by decide +kernel
theorem dMD_join_9 : decode cMD_join 9 = .ok (.ifCond .ne 46, 3) := by decide +kernel
theorem dMD_join_12 : decode cMD_join 12 = .ok (.aload_n 0, 1) := by decide +kernel
theorem dMD_join_13 : decode cMD_join 13 = .ok (.iload_n 2, 1) := by decide +kernel
theorem dMD_join_14 : decode cMD_join 14 = .ok (.aload_n 0, 1) := by decide +kernel
theorem dMD_join_15 : decode cMD_join 15 = .ok (.getfield 106, 3) := by decide +kernel
theorem dMD_join_18 : decode cMD_join 18 = .ok (.invokevirtual 112, 3) := by decide +kernel
theorem dMD_join_21 : decode cMD_join 21 = .ok (.ifCond .ne 34, 3) := by decide +kernel
theorem dMD_join_24 : decode cMD_join 24 = .ok (.aload_n 0, 1) := by decide +kernel
theorem dMD_join_25 : decode cMD_join 25 = .ok (.iload_n 3, 1) := by decide +kernel
theorem dMD_join_26 : decode cMD_join 26 = .ok (.iconst 3, 1) := by decide +kernel
theorem dMD_join_27 : decode cMD_join 27 = .ok (.invokevirtual 112, 3) := by decide +kernel
theorem dMD_join_30 : decode cMD_join 30 = .ok (.ifCond .ne 25, 3) := by decide +kernel
theorem dMD_join_33 : decode cMD_join 33 = .ok (.aload_n 0, 1) := by decide +kernel
theorem dMD_join_34 : decode cMD_join 34 = .ok (.iload 4, 2) := by decide +kernel
theorem dMD_join_36 : decode cMD_join 36 = .ok (.iconst 3, 1) := by decide +kernel
theorem dMD_join_37 : decode cMD_join 37 = .ok (.invokevirtual 112, 3) := by decide +kernel
theorem dMD_join_40 : decode cMD_join 40 = .ok (.ifCond .ne 15, 3) := by decide +kernel
theorem dMD_join_43 : decode cMD_join 43 = .ok (.aload_n 0, 1) := by decide +kernel
theorem dMD_join_44 : decode cMD_join 44 = .ok (.iload 5, 2) := by decide +kernel
theorem dMD_join_46 : decode cMD_join 46 = .ok (.sipush 216, 3) := by decide +kernel
theorem dMD_join_49 : decode cMD_join 49 = .ok (.invokevirtual 112, 3) := by decide +kernel
theorem dMD_join_52 : decode cMD_join 52 = .ok (.ifCond .eq 5, 3) := by decide +kernel
theorem dMD_join_55 : decode cMD_join 55 = .ok (.iconst (-1), 1) := by decide +kernel
theorem dMD_join_56 : decode cMD_join 56 = .ok (.ireturn, 1) := by decide +kernel
theorem dMD_join_57 : decode cMD_join 57 = .ok (.aload_n 0, 1) := by decide +kernel
theorem dMD_join_58 : decode cMD_join 58 = .ok (.iconst 3, 1) := by decide +kernel
theorem dMD_join_59 : decode cMD_join 59 = .ok (.iload_n 1, 1) := by decide +kernel
theorem dMD_join_60 : decode cMD_join 60 = .ok (.iload_n 2, 1) := by decide +kernel
theorem dMD_join_61 : decode cMD_join 61 = .ok (.iload_n 3, 1) := by decide +kernel
theorem dMD_join_62 : decode cMD_join 62 = .ok (.iload 4, 2) := by decide +kernel
theorem dMD_join_64 : decode cMD_join 64 = .ok (.iload 5, 2) := by decide +kernel
theorem dMD_join_66 : decode cMD_join 66 = .ok (.invokevirtual 115, 3) := by decide +kernel
theorem dMD_join_69 : decode cMD_join 69 = .ok (.ireturn, 1) := by decide +kernel
theorem dMD_combine_0 : decode cMD_combine 0 = .ok (.aload_n 0, 1) := by decide +kernel
theorem dMD_combine_1 : decode cMD_combine 1 = .ok (.iload_n 1, 1) := by decide +kernel
theorem dMD_combine_2 : decode cMD_combine 2 = .ok (.aload_n 0, 1) := by decide +kernel
theorem dMD_combine_3 : decode cMD_combine 3 = .ok (.getfield 106, 3) := by decide +kernel
theorem dMD_combine_6 : decode cMD_combine 6 = .ok (.invokevirtual 112, 3) := by decide +kernel
theorem dMD_combine_9 : decode cMD_combine 9 = .ok (.ifCond .ne 24, 3) := by decide +kernel
theorem dMD_combine_12 : decode cMD_combine 12 = .ok (.aload_n 0, 1) := by decide +kernel
theorem dMD_combine_13 : decode cMD_combine 13 = .ok (.iload_n 2, 1) := by decide +kernel
theorem dMD_combine_14 : decode cMD_combine 14 = .ok (.aload_n 0, 1) := by decide +kernel
theorem dMD_combine_15 : decode cMD_combine 15 = .ok (.getfield 106, 3) := by decide +kernel
theorem dMD_combine_18 : decode cMD_combine 18 = .ok (.invokevirtual 112, 3) := by decide +kernel
theorem dMD_combine_21 : decode cMD_combine 21 = .ok (.ifCond .ne 12, 3) := by decide +kernel
theorem dMD_combine_24 : decode cMD_combine 24 = .ok (.aload_n 0, 1) := by decide +kernel
theorem dMD_combine_25 : decode cMD_combine 25 = .ok (.iload_n 3, 1) := by decide +kernel
theorem dMD_combine_26 : decode cMD_combine 26 = .ok (.iconst 2, 1) := by decide +kernel
theorem dMD_combine_27 : decode cMD_combine 27 = .ok (.invokevirtual 112, 3) := by decide +kernel
theorem dMD_combine_30 : decode cMD_combine 30 = .ok (.ifCond .eq 5, 3) := by decide +kernel
theorem dMD_combine_33 : decode cMD_combine 33 = .ok (.iconst (-1), 1) := by decide +kernel
theorem dMD_combine_34 : decode cMD_combine 34 = .ok (.ireturn, 1) := by decide +kernel
theorem dMD_combine_35 : decode cMD_combine 35 = .ok (.aload_n 0, 1) := by decide +kernel
theorem dMD_combine_36 : decode cMD_combine 36 = .ok (.iconst 4, 1) := by decide +kernel
theorem dMD_combine_37 : decode cMD_combine 37 = .ok (.iload_n 1, 1) := by decide +kernel
theorem dMD_combine_38 : decode cMD_combine 38 = .ok (.iload_n 2, 1) := by decide +kernel
theorem dMD_combine_39 : decode cMD_combine 39 = .ok (.iload_n 3, 1) := by decide +kernel
theorem dMD_combine_40 : decode cMD_combine 40 = .ok (.iconst 0, 1) := by decide +kernel
theorem dMD_combine_41 : decode cMD_combine 41 = .ok (.iconst 0, 1) := by decide +kernel
theorem dMD_combine_42 : decode cMD_combine 42 = .ok (.invokevirtual 115, 3) := by decide +kernel
theorem dMD_combine_45 : decode cMD_combine 45 = .ok (.ireturn, 1) := by decide +kernel
theorem dMD_distinct_0 : decode cMD_distinct 0 = .ok (.aload_n 0, 1) := by decide +kernel
theorem dMD_distinct_1 : decode cMD_distinct 1 = .ok (.iload_n 1, 1) := by decide +kernel
theorem dMD_distinct_2 : decode cMD_distinct 2 = .ok (.aload_n 0, 1) := by decide +kernel
theorem dMD_distinct_3 : decode cMD_distinct 3 = .ok (.getfield 106, 3) := by decide +kernel
theorem dMD_distinct_6 : decode cMD_distinct 6 = .ok (.invokevirtual 112, 3) := by decide +kernel
theorem dMD_distinct_9 : decode cMD_distinct 9 = .ok (.ifCond .eq 7, 3) := by decide +kernel
theorem dMD_distinct_12 : decode cMD_distinct 12 = .ok (.iconst (-1), 1) := by decide +kernel
theorem dMD_distinct_13 : decode cMD_distinct 13 = .ok (.goto 13, 3) := by decide +kernel
theorem dMD_distinct_16 : decode cMD_distinct 16 = .ok (.aload_n 0, 1) := by decide +kernel
theorem dMD_distinct_17 : decode cMD_distinct 17 = .ok (.iconst 5, 1) := by decide +kernel
theorem dMD_distinct_18 : decode cMD_distinct 18 = .ok (.iload_n 1, 1) := by decide +kernel
theorem dMD_distinct_19 : decode cMD_distinct 19 = .ok (.iconst 0, 1) := by decide +kernel
theorem dMD_distinct_20 : decode cMD_distinct 20 = .ok (.iconst 0, 1) := by decide +kernel
theorem dMD_distinct_21 : decode cMD_distinct 21 = .ok (.iconst 0, 1) := by decide +kernel
theorem dMD_distinct_22 : decode cMD_distinct 22 = .ok (.iconst 0, 1) := by decide +kernel
theorem dMD_distinct_23 : decode cMD_distinct 23 = .ok (.invokevirtual 115, 3) := by decide +kernel
theorem dMD_distinct_26 : decode cMD_distinct 26 = .ok (.ireturn, 1) := by decide +kernel
theorem dMD_group_0 : decode cMD_group 0 = .ok (.aload_n 0, 1) := by decide +kernel
theorem dMD_group_1 : decode cMD_group 1 = .ok (.iload_n 1, 1) := by decide +kernel
theorem dMD_group_2 : decode cMD_group 2 = .ok (.aload_n 0, 1) := by decide +kernel
theorem dMD_group_3 : decode cMD_group 3 = .ok (.getfield 106, 3) := by decide +kernel
theorem dMD_group_6 : decode cMD_group 6 = .ok (.invokevirtual 112, 3) := by decide +kernel
theorem dMD_group_9 : decode cMD_group 9 = .ok (.ifCond .ne 31, 3) := by decide +kernel
theorem dMD_group_12 : decode cMD_group 12 = .ok (.aload_n 0, 1) := by decide +kernel
theorem dMD_group_13 : decode cMD_group 13 = .ok (.iload_n 2, 1) := by decide +kernel
theorem dMD_group_14 : decode cMD_group 14 = .ok (.iconst 3, 1) := by decide +kernel
theorem dMD_group_15 : decode cMD_group 15 = .ok (.invokevirtual 112, 3) := by decide +kernel
theorem dMD_group_18 : decode cMD_group 18 = .ok (.ifCond .ne 22, 3) := by decide +kernel
theorem dMD_group_21 : decode cMD_group 21 = .ok (.aload_n 0, 1) := by decide +kernel
theorem dMD_group_22 : decode cMD_group 22 = .ok (.iload_n 3, 1) := by decide +kernel
theorem dMD_group_23 : decode cMD_group 23 = .ok (.iconst 3, 1) := by decide +kernel
theorem dMD_group_24 : decode cMD_group 24 = .ok (.invokevirtual 112, 3) := by decide +kernel
theorem dMD_group_27 : decode cMD_group 27 = .ok (.ifCond .ne 13, 3) := by decide +kernel
theorem dMD_group_30 : decode cMD_group 30 = .ok (.aload_n 0, 1) := by decide +kernel
theorem dMD_group_31 : decode cMD_group 31 = .ok (.iload 4, 2) := by decide +kernel
theorem dMD_group_33 : decode cMD_group 33 = .ok (.iconst 4, 1) := by decide +kernel
theorem dMD_group_34 : decode cMD_group 34 = .ok (.invokevirtual 112, 3) := by decide +kernel
theorem dMD_group_37 : decode cMD_group 37 = .ok (.ifCond .eq 5, 3) := by decide +kernel
theorem dMD_group_40 : decode cMD_group 40 = .ok (.iconst (-1), 1) := by decide +kernel
theorem dMD_group_41 : decode cMD_group 41 = .ok (.ireturn, 1) := by decide +kernel
theorem dMD_group_42 : decode cMD_group 42 = .ok (.aload_n 0, 1) := by decide +kernel
theorem dMD_group_43 : decode cMD_group 43 = .ok (.bipush 6, 2) := by decide +kernel
theorem dMD_group_45 : decode cMD_group 45 = .ok (.iload_n 1, 1) := by decide +kernel
theorem dMD_group_46 : decode cMD_group 46 = .ok (.iload_n 2, 1) := by decide +kernel
theorem dMD_group_47 : decode cMD_group 47 = .ok (.iload_n 3, 1) := by decide +kernel
theorem dMD_group_48 : decode cMD_group 48 = .ok (.iload 4, 2) := by decide +kernel
theorem dMD_group_50 : decode cMD_group 50 = .ok (.iconst 0, 1) := by decide +kernel
theorem dMD_group_51 : decode cMD_group 51 = .ok (.invokevirtual 115, 3) := by decide +kernel
theorem dMD_group_54 : decode cMD_group 54 = .ok (.ireturn, 1) := by decide +kernel
theorem dMD_change_0 : decode cMD_change 0 = .ok (.aload_n 0, 1) := by decide +kernel
theorem dMD_change_1 : decode cMD_change 1 = .ok (.iload_n 1, 1) := by decide +kernel
theorem dMD_change_2 : decode cMD_change 2 = .ok (.iconst 3, 1) := by decide +kernel
theorem dMD_change_3 : decode cMD_change 3 = .ok (.invokevirtual 112, 3) := by decide +kernel
theorem dMD_change_6 : decode cMD_change 6 = .ok (.ifCond .ne 21, 3) := by decide +kernel
theorem dMD_change_9 : decode cMD_change 9 = .ok (.iload 5, 2) := by decide +kernel
theorem dMD_change_11 : decode cMD_change 11 = .ok (.bipush (-3), 2) := by decide +kernel
theorem dMD_change_13 : decode cMD_change 13 = .ok (.if_icmp .lt 14, 3) := by decide +kernel
theorem dMD_change_16 : decode cMD_change 16 = .ok (.iload 5, 2) := by decide +kernel
theorem dMD_change_18 : decode cMD_change 18 = .ok (.iconst 3, 1) := by decide +kernel
theorem dMD_change_19 : decode cMD_change 19 = .ok (.if_icmp .gt 8, 3) := by decide +kernel
theorem dMD_change_22 : decode cMD_change 22 = .ok (.iload 5, 2) := by decide +kernel
theorem dMD_change_24 : decode cMD_change 24 = .ok (.ifCond .ne 5, 3) := by decide +kernel
theorem dMD_change_27 : decode cMD_change 27 = .ok (.iconst (-1), 1) := by decide +kernel
theorem dMD_change_28 : decode cMD_change 28 = .ok (.ireturn, 1) := by decide +kernel
theorem dMD_change_29 : decode cMD_change 29 = .ok (.aload_n 0, 1) := by decide +kernel
theorem dMD_change_30 : decode cMD_change 30 = .ok (.getfield 119, 3) := by decide +kernel
theorem dMD_change_33 : decode cMD_change 33 = .ok (.bipush 12, 2) := by decide +kernel
theorem dMD_change_35 : decode cMD_change 35 = .ok (.if_icmp .ne 6, 3) := by decide +kernel
theorem dMD_change_38 : decode cMD_change 38 = .ok (.bipush (-2), 2) := by decide +kernel
theorem dMD_change_40 : decode cMD_change 40 = .ok (.ireturn, 1) := by decide +kernel
theorem dMD_change_41 : decode cMD_change 41 = .ok (.aload_n 0, 1) := by decide +kernel
theorem dMD_change_42 : decode cMD_change 42 = .ok (.getfield 47, 3) := by decide +kernel
theorem dMD_change_45 : decode cMD_change 45 = .ok (.aload_n 0, 1) := by decide +kernel
theorem dMD_change_46 : decode cMD_change 46 = .ok (.getfield 119, 3) := by decide +kernel
theorem dMD_change_49 : decode cMD_change 49 = .ok (.iload_n 1, 1) := by decide +kernel
theorem dMD_change_50 : decode cMD_change 50 = .ok (.iastore, 1) := by decide +kernel
theorem dMD_change_51 : decode cMD_change 51 = .ok (.aload_n 0, 1) := by decide +kernel
theorem dMD_change_52 : decode cMD_change 52 = .ok (.getfield 50, 3) := by decide +kernel
theorem dMD_change_55 : decode cMD_change 55 = .ok (.aload_n 0, 1) := by decide +kernel
theorem dMD_change_56 : decode cMD_change 56 = .ok (.getfield 119, 3) := by decide +kernel
theorem dMD_change_59 : decode cMD_change 59 = .ok (.iload_n 2, 1) := by decide +kernel
theorem dMD_change_60 : decode cMD_change 60 = .ok (.iastore, 1) := by decide +kernel
theorem dMD_change_61 : decode cMD_change 61 = .ok (.aload_n 0, 1) := by decide +kernel
theorem dMD_change_62 : decode cMD_change 62 = .ok (.getfield 53, 3) := by decide +kernel
theorem dMD_change_65 : decode cMD_change 65 = .ok (.aload_n 0, 1) := by decide +kernel
theorem dMD_change_66 : decode cMD_change 66 = .ok (.getfield 119, 3) := by decide +kernel
theorem dMD_change_69 : decode cMD_change 69 = .ok (.iload_n 3, 1) := by decide +kernel
theorem dMD_change_70 : decode cMD_change 70 = .ok (.iastore, 1) := by decide +kernel
theorem dMD_change_71 : decode cMD_change 71 = .ok (.aload_n 0, 1) := by decide +kernel
theorem dMD_change_72 : decode cMD_change 72 = .ok (.getfield 56, 3) := by decide +kernel
theorem dMD_change_75 : decode cMD_change 75 = .ok (.aload_n 0, 1) := by decide +kernel
theorem dMD_change_76 : decode cMD_change 76 = .ok (.getfield 119, 3) := by decide +kernel
theorem dMD_change_79 : decode cMD_change 79 = .ok (.iload 4, 2) := by decide +kernel
theorem dMD_change_81 : decode cMD_change 81 = .ok (.iastore, 1) := by decide +kernel
theorem dMD_change_82 : decode cMD_change 82 = .ok (.aload_n 0, 1) := by decide +kernel
theorem dMD_change_83 : decode cMD_change 83 = .ok (.getfield 59, 3) := by decide +kernel
theorem dMD_change_86 : decode cMD_change 86 = .ok (.aload_n 0, 1) := by decide +kernel
theorem dMD_change_87 : decode cMD_change 87 = .ok (.getfield 119, 3) := by decide +kernel
theorem dMD_change_90 : decode cMD_change 90 = .ok (.iload 5, 2) := by decide +kernel
theorem dMD_change_92 : decode cMD_change 92 = .ok (.iastore, 1) := by decide +kernel
theorem dMD_change_93 : decode cMD_change 93 = .ok (.aload_n 0, 1) := by decide +kernel
theorem dMD_change_94 : decode cMD_change 94 = .ok (.dup, 1) := by decide +kernel
theorem dMD_change_95 : decode cMD_change 95 = .ok (.getfield 119, 3) := by decide +kernel
theorem dMD_change_98 : decode cMD_change 98 = .ok (.iconst 1, 1) := by decide +kernel
theorem dMD_change_99 : decode cMD_change 99 = .ok (.iadd, 1) := by decide +kernel
theorem dMD_change_100 : decode cMD_change 100 = .ok (.putfield 119, 3) := by decide +kernel
theorem dMD_change_103 : decode cMD_change 103 = .ok (.aload_n 0, 1) := by decide +kernel
theorem dMD_change_104 : decode cMD_change 104 = .ok (.getfield 119, 3) := by decide +kernel
theorem dMD_change_107 : decode cMD_change 107 = .ok (.ireturn, 1) := by decide +kernel
theorem dMD_step_0 : decode cMD_step 0 = .ok (.iconst 0, 1) := by decide +kernel
theorem dMD_step_1 : decode cMD_step 1 = .ok (.istore_n 1, 1) := by decide +kernel
theorem dMD_step_2 : decode cMD_step 2 = .ok (.iload_n 1, 1) := by decide +kernel
theorem dMD_step_3 : decode cMD_step 3 = .ok (.iconst 3, 1) := by decide +kernel
theorem dMD_step_4 : decode cMD_step 4 = .ok (.if_icmp .ge 43, 3) := by decide +kernel
theorem dMD_step_7 : decode cMD_step 7 = .ok (.aload_n 0, 1) := by decide +kernel
theorem dMD_step_8 : decode cMD_step 8 = .ok (.iload_n 1, 1) := by decide +kernel
theorem dMD_step_9 : decode cMD_step 9 = .ok (.invokevirtual 126, 3) := by decide +kernel
theorem dMD_step_12 : decode cMD_step 12 = .ok (.iconst 0, 1) := by decide +kernel
theorem dMD_step_13 : decode cMD_step 13 = .ok (.istore_n 2, 1) := by decide +kernel
theorem dMD_step_14 : decode cMD_step 14 = .ok (.iload_n 2, 1) := by decide +kernel
theorem dMD_step_15 : decode cMD_step 15 = .ok (.aload_n 0, 1) := by decide +kernel
theorem dMD_step_16 : decode cMD_step 16 = .ok (.getfield 62, 3) := by decide +kernel
theorem dMD_step_19 : decode cMD_step 19 = .ok (.if_icmp .ge 22, 3) := by decide +kernel
theorem dMD_step_22 : decode cMD_step 22 = .ok (.aload_n 0, 1) := by decide +kernel
theorem dMD_step_23 : decode cMD_step 23 = .ok (.getfield 35, 3) := by decide +kernel
theorem dMD_step_26 : decode cMD_step 26 = .ok (.iload_n 2, 1) := by decide +kernel
theorem dMD_step_27 : decode cMD_step 27 = .ok (.laload, 1) := by decide +kernel
theorem dMD_step_28 : decode cMD_step 28 = .ok (.lconst 0, 1) := by decide +kernel
theorem dMD_step_29 : decode cMD_step 29 = .ok (.lcmp, 1) := by decide +kernel
theorem dMD_step_30 : decode cMD_step 30 = .ok (.ifCond .ge 5, 3) := by decide +kernel
theorem dMD_step_33 : decode cMD_step 33 = .ok (.iconst (-1), 1) := by decide +kernel
theorem dMD_step_34 : decode cMD_step 34 = .ok (.ireturn, 1) := by decide +kernel
theorem dMD_step_35 : decode cMD_step 35 = .ok (.iinc 2 1, 3) := by decide +kernel
theorem dMD_step_38 : decode cMD_step 38 = .ok (.goto (-24), 3) := by decide +kernel
theorem dMD_step_41 : decode cMD_step 41 = .ok (.iinc 1 1, 3) := by decide +kernel
theorem dMD_step_44 : decode cMD_step 44 = .ok (.goto (-42), 3) := by decide +kernel
theorem dMD_step_47 : decode cMD_step 47 = .ok (.iconst 0, 1) := by decide +kernel
theorem dMD_step_48 : decode cMD_step 48 = .ok (.istore_n 1, 1) := by decide +kernel
theorem dMD_step_49 : decode cMD_step 49 = .ok (.iload_n 1, 1) := by decide +kernel
theorem dMD_step_50 : decode cMD_step 50 = .ok (.iconst 3, 1) := by decide +kernel
theorem dMD_step_51 : decode cMD_step 51 = .ok (.if_icmp .ge 30, 3) := by decide +kernel
theorem dMD_step_54 : decode cMD_step 54 = .ok (.aload_n 0, 1) := by decide +kernel
theorem dMD_step_55 : decode cMD_step 55 = .ok (.iload_n 1, 1) := by decide +kernel
theorem dMD_step_56 : decode cMD_step 56 = .ok (.invokevirtual 126, 3) := by decide +kernel
theorem dMD_step_59 : decode cMD_step 59 = .ok (.aload_n 0, 1) := by decide +kernel
theorem dMD_step_60 : decode cMD_step 60 = .ok (.bipush 13, 2) := by decide +kernel
theorem dMD_step_62 : decode cMD_step 62 = .ok (.iload_n 1, 1) := by decide +kernel
theorem dMD_step_63 : decode cMD_step 63 = .ok (.iadd, 1) := by decide +kernel
theorem dMD_step_64 : decode cMD_step 64 = .ok (.bipush 12, 2) := by decide +kernel
theorem dMD_step_66 : decode cMD_step 66 = .ok (.invokevirtual 103, 3) := by decide +kernel
theorem dMD_step_69 : decode cMD_step 69 = .ok (.ifCond .ne 6, 3) := by decide +kernel
theorem dMD_step_72 : decode cMD_step 72 = .ok (.bipush (-2), 2) := by decide +kernel
theorem dMD_step_74 : decode cMD_step 74 = .ok (.ireturn, 1) := by decide +kernel
theorem dMD_step_75 : decode cMD_step 75 = .ok (.iinc 1 1, 3) := by decide +kernel
theorem dMD_step_78 : decode cMD_step 78 = .ok (.goto (-29), 3) := by decide +kernel
theorem dMD_step_81 : decode cMD_step 81 = .ok (.iconst 0, 1) := by decide +kernel
theorem dMD_step_82 : decode cMD_step 82 = .ok (.istore_n 1, 1) := by decide +kernel
theorem dMD_step_83 : decode cMD_step 83 = .ok (.iload_n 1, 1) := by decide +kernel
theorem dMD_step_84 : decode cMD_step 84 = .ok (.aload_n 0, 1) := by decide +kernel
theorem dMD_step_85 : decode cMD_step 85 = .ok (.getfield 106, 3) := by decide +kernel
theorem dMD_step_88 : decode cMD_step 88 = .ok (.if_icmp .ge 22, 3) := by decide +kernel
theorem dMD_step_91 : decode cMD_step 91 = .ok (.aload_n 0, 1) := by decide +kernel
theorem dMD_step_92 : decode cMD_step 92 = .ok (.iload_n 1, 1) := by decide +kernel
theorem dMD_step_93 : decode cMD_step 93 = .ok (.bipush 13, 2) := by decide +kernel
theorem dMD_step_95 : decode cMD_step 95 = .ok (.invokevirtual 109, 3) := by decide +kernel
theorem dMD_step_98 : decode cMD_step 98 = .ok (.ifCond .ne 6, 3) := by decide +kernel
theorem dMD_step_101 : decode cMD_step 101 = .ok (.bipush (-2), 2) := by decide +kernel
theorem dMD_step_103 : decode cMD_step 103 = .ok (.ireturn, 1) := by decide +kernel
theorem dMD_step_104 : decode cMD_step 104 = .ok (.iinc 1 1, 3) := by decide +kernel
theorem dMD_step_107 : decode cMD_step 107 = .ok (.goto (-24), 3) := by decide +kernel
theorem dMD_step_110 : decode cMD_step 110 = .ok (.iconst 0, 1) := by decide +kernel
theorem dMD_step_111 : decode cMD_step 111 = .ok (.istore_n 1, 1) := by decide +kernel
theorem dMD_step_112 : decode cMD_step 112 = .ok (.iconst 0, 1) := by decide +kernel
theorem dMD_step_113 : decode cMD_step 113 = .ok (.istore_n 2, 1) := by decide +kernel
theorem dMD_step_114 : decode cMD_step 114 = .ok (.iload_n 2, 1) := by decide +kernel
theorem dMD_step_115 : decode cMD_step 115 = .ok (.aload_n 0, 1) := by decide +kernel
theorem dMD_step_116 : decode cMD_step 116 = .ok (.getfield 106, 3) := by decide +kernel
theorem dMD_step_119 : decode cMD_step 119 = .ok (.if_icmp .ge 29, 3) := by decide +kernel
theorem dMD_step_122 : decode cMD_step 122 = .ok (.aload_n 0, 1) := by decide +kernel
theorem dMD_step_123 : decode cMD_step 123 = .ok (.getfield 44, 3) := by decide +kernel
theorem dMD_step_126 : decode cMD_step 126 = .ok (.iload_n 2, 1) := by decide +kernel
theorem dMD_step_127 : decode cMD_step 127 = .ok (.aload_n 0, 1) := by decide +kernel
theorem dMD_step_128 : decode cMD_step 128 = .ok (.iload_n 2, 1) := by decide +kernel
theorem dMD_step_129 : decode cMD_step 129 = .ok (.invokevirtual 130, 3) := by decide +kernel
theorem dMD_step_132 : decode cMD_step 132 = .ok (.iastore, 1) := by decide +kernel
theorem dMD_step_133 : decode cMD_step 133 = .ok (.iload_n 1, 1) := by decide +kernel
theorem dMD_step_134 : decode cMD_step 134 = .ok (.aload_n 0, 1) := by decide +kernel
theorem dMD_step_135 : decode cMD_step 135 = .ok (.getfield 44, 3) := by decide +kernel
theorem dMD_step_138 : decode cMD_step 138 = .ok (.iload_n 2, 1) := by decide +kernel
theorem dMD_step_139 : decode cMD_step 139 = .ok (.iaload, 1) := by decide +kernel
theorem dMD_step_140 : decode cMD_step 140 = .ok (.iadd, 1) := by decide +kernel
theorem dMD_step_141 : decode cMD_step 141 = .ok (.istore_n 1, 1) := by decide +kernel
theorem dMD_step_142 : decode cMD_step 142 = .ok (.iinc 2 1, 3) := by decide +kernel
theorem dMD_step_145 : decode cMD_step 145 = .ok (.goto (-31), 3) := by decide +kernel
theorem dMD_step_148 : decode cMD_step 148 = .ok (.iconst 0, 1) := by decide +kernel
theorem dMD_step_149 : decode cMD_step 149 = .ok (.istore_n 2, 1) := by decide +kernel
theorem dMD_step_150 : decode cMD_step 150 = .ok (.iload_n 2, 1) := by decide +kernel
theorem dMD_step_151 : decode cMD_step 151 = .ok (.bipush 13, 2) := by decide +kernel
theorem dMD_step_153 : decode cMD_step 153 = .ok (.if_icmp .ge 14, 3) := by decide +kernel
theorem dMD_step_156 : decode cMD_step 156 = .ok (.aload_n 0, 1) := by decide +kernel
theorem dMD_step_157 : decode cMD_step 157 = .ok (.iload_n 2, 1) := by decide +kernel
theorem dMD_step_158 : decode cMD_step 158 = .ok (.invokevirtual 134, 3) := by decide +kernel
theorem dMD_step_161 : decode cMD_step 161 = .ok (.iinc 2 1, 3) := by decide +kernel
theorem dMD_step_164 : decode cMD_step 164 = .ok (.goto (-14), 3) := by decide +kernel
theorem dMD_step_167 : decode cMD_step 167 = .ok (.aload_n 0, 1) := by decide +kernel
theorem dMD_step_168 : decode cMD_step 168 = .ok (.iconst 0, 1) := by decide +kernel
theorem dMD_step_169 : decode cMD_step 169 = .ok (.putfield 119, 3) := by decide +kernel
theorem dMD_step_172 : decode cMD_step 172 = .ok (.iload_n 1, 1) := by decide +kernel
theorem dMD_step_173 : decode cMD_step 173 = .ok (.ireturn, 1) := by decide +kernel
theorem dMD_workTable_0 : decode cMD_workTable 0 = .ok (.aload_n 0, 1) := by decide +kernel
theorem dMD_workTable_1 : decode cMD_workTable 1 = .ok (.iconst 0, 1) := by decide +kernel
theorem dMD_workTable_2 : decode cMD_workTable 2 = .ok (.putfield 62, 3) := by decide +kernel
theorem dMD_workTable_5 : decode cMD_workTable 5 = .ok (.iload_n 1, 1) := by decide +kernel
theorem dMD_workTable_6 : decode cMD_workTable 6 = .ok (.bipush 24, 2) := by decide +kernel
theorem dMD_workTable_8 : decode cMD_workTable 8 = .ok (.imul, 1) := by decide +kernel
theorem dMD_workTable_9 : decode cMD_workTable 9 = .ok (.istore_n 2, 1) := by decide +kernel
theorem dMD_workTable_10 : decode cMD_workTable 10 = .ok (.iload_n 2, 1) := by decide +kernel
theorem dMD_workTable_11 : decode cMD_workTable 11 = .ok (.iload_n 1, 1) := by decide +kernel
theorem dMD_workTable_12 : decode cMD_workTable 12 = .ok (.bipush 24, 2) := by decide +kernel
theorem dMD_workTable_14 : decode cMD_workTable 14 = .ok (.imul, 1) := by decide +kernel
theorem dMD_workTable_15 : decode cMD_workTable 15 = .ok (.aload_n 0, 1) := by decide +kernel
theorem dMD_workTable_16 : decode cMD_workTable 16 = .ok (.getfield 23, 3) := by decide +kernel
theorem dMD_workTable_19 : decode cMD_workTable 19 = .ok (.iload_n 1, 1) := by decide +kernel
theorem dMD_workTable_20 : decode cMD_workTable 20 = .ok (.iaload, 1) := by decide +kernel
theorem dMD_workTable_21 : decode cMD_workTable 21 = .ok (.iadd, 1) := by decide +kernel
theorem dMD_workTable_22 : decode cMD_workTable 22 = .ok (.if_icmp .ge 37, 3) := by decide +kernel
theorem dMD_workTable_25 : decode cMD_workTable 25 = .ok (.aload_n 0, 1) := by decide +kernel
theorem dMD_workTable_26 : decode cMD_workTable 26 = .ok (.aload_n 0, 1) := by decide +kernel
theorem dMD_workTable_27 : decode cMD_workTable 27 = .ok (.getfield 7, 3) := by decide +kernel
theorem dMD_workTable_30 : decode cMD_workTable 30 = .ok (.iload_n 2, 1) := by decide +kernel
theorem dMD_workTable_31 : decode cMD_workTable 31 = .ok (.iaload, 1) := by decide +kernel
theorem dMD_workTable_32 : decode cMD_workTable 32 = .ok (.aload_n 0, 1) := by decide +kernel
theorem dMD_workTable_33 : decode cMD_workTable 33 = .ok (.getfield 13, 3) := by decide +kernel
theorem dMD_workTable_36 : decode cMD_workTable 36 = .ok (.iload_n 2, 1) := by decide +kernel
theorem dMD_workTable_37 : decode cMD_workTable 37 = .ok (.iaload, 1) := by decide +kernel
theorem dMD_workTable_38 : decode cMD_workTable 38 = .ok (.aload_n 0, 1) := by decide +kernel
theorem dMD_workTable_39 : decode cMD_workTable 39 = .ok (.getfield 16, 3) := by decide +kernel
theorem dMD_workTable_42 : decode cMD_workTable 42 = .ok (.iload_n 2, 1) := by decide +kernel
theorem dMD_workTable_43 : decode cMD_workTable 43 = .ok (.iaload, 1) := by decide +kernel
theorem dMD_workTable_44 : decode cMD_workTable 44 = .ok (.aload_n 0, 1) := by decide +kernel
theorem dMD_workTable_45 : decode cMD_workTable 45 = .ok (.getfield 19, 3) := by decide +kernel
theorem dMD_workTable_48 : decode cMD_workTable 48 = .ok (.iload_n 2, 1) := by decide +kernel
theorem dMD_workTable_49 : decode cMD_workTable 49 = .ok (.laload, 1) := by decide +kernel
theorem dMD_workTable_50 : decode cMD_workTable 50 = .ok (.invokevirtual 82, 3) := by decide +kernel
theorem dMD_workTable_53 : decode cMD_workTable 53 = .ok (.iinc 2 1, 3) := by decide +kernel
theorem dMD_workTable_56 : decode cMD_workTable 56 = .ok (.goto (-46), 3) := by decide +kernel
theorem dMD_workTable_59 : decode cMD_workTable 59 = .ok (.iconst 0, 1) := by decide +kernel
theorem dMD_workTable_60 : decode cMD_workTable 60 = .ok (.istore_n 2, 1) := by decide +kernel
theorem dMD_workTable_61 : decode cMD_workTable 61 = .ok (.iload_n 2, 1) := by decide +kernel
theorem dMD_workTable_62 : decode cMD_workTable 62 = .ok (.aload_n 0, 1) := by decide +kernel
theorem dMD_workTable_63 : decode cMD_workTable 63 = .ok (.getfield 119, 3) := by decide +kernel
theorem dMD_workTable_66 : decode cMD_workTable 66 = .ok (.if_icmp .ge 48, 3) := by decide +kernel
theorem dMD_workTable_69 : decode cMD_workTable 69 = .ok (.aload_n 0, 1) := by decide +kernel
theorem dMD_workTable_70 : decode cMD_workTable 70 = .ok (.getfield 47, 3) := by decide +kernel
theorem dMD_workTable_73 : decode cMD_workTable 73 = .ok (.iload_n 2, 1) := by decide +kernel
theorem dMD_workTable_74 : decode cMD_workTable 74 = .ok (.iaload, 1) := by decide +kernel
theorem dMD_workTable_75 : decode cMD_workTable 75 = .ok (.iload_n 1, 1) := by decide +kernel
theorem dMD_workTable_76 : decode cMD_workTable 76 = .ok (.if_icmp .ne 32, 3) := by decide +kernel
theorem dMD_workTable_79 : decode cMD_workTable 79 = .ok (.aload_n 0, 1) := by decide +kernel
theorem dMD_workTable_80 : decode cMD_workTable 80 = .ok (.aload_n 0, 1) := by decide +kernel
theorem dMD_workTable_81 : decode cMD_workTable 81 = .ok (.getfield 50, 3) := by decide +kernel
theorem dMD_workTable_84 : decode cMD_workTable 84 = .ok (.iload_n 2, 1) := by decide +kernel
theorem dMD_workTable_85 : decode cMD_workTable 85 = .ok (.iaload, 1) := by decide +kernel
theorem dMD_workTable_86 : decode cMD_workTable 86 = .ok (.aload_n 0, 1) := by decide +kernel
theorem dMD_workTable_87 : decode cMD_workTable 87 = .ok (.getfield 53, 3) := by decide +kernel
theorem dMD_workTable_90 : decode cMD_workTable 90 = .ok (.iload_n 2, 1) := by decide +kernel
theorem dMD_workTable_91 : decode cMD_workTable 91 = .ok (.iaload, 1) := by decide +kernel
theorem dMD_workTable_92 : decode cMD_workTable 92 = .ok (.aload_n 0, 1) := by decide +kernel
theorem dMD_workTable_93 : decode cMD_workTable 93 = .ok (.getfield 56, 3) := by decide +kernel
theorem dMD_workTable_96 : decode cMD_workTable 96 = .ok (.iload_n 2, 1) := by decide +kernel
theorem dMD_workTable_97 : decode cMD_workTable 97 = .ok (.iaload, 1) := by decide +kernel
theorem dMD_workTable_98 : decode cMD_workTable 98 = .ok (.aload_n 0, 1) := by decide +kernel
theorem dMD_workTable_99 : decode cMD_workTable 99 = .ok (.getfield 59, 3) := by decide +kernel
theorem dMD_workTable_102 : decode cMD_workTable 102 = .ok (.iload_n 2, 1) := by decide +kernel
theorem dMD_workTable_103 : decode cMD_workTable 103 = .ok (.iaload, 1) := by decide +kernel
theorem dMD_workTable_104 : decode cMD_workTable 104 = .ok (.i2l, 1) := by decide +kernel
theorem dMD_workTable_105 : decode cMD_workTable 105 = .ok (.invokevirtual 82, 3) := by decide +kernel
theorem dMD_workTable_108 : decode cMD_workTable 108 = .ok (.iinc 2 1, 3) := by decide +kernel
theorem dMD_workTable_111 : decode cMD_workTable 111 = .ok (.goto (-50), 3) := by decide +kernel
theorem dMD_workTable_114 : decode cMD_workTable 114 = .ok (.return_, 1) := by decide +kernel
theorem dMD_differing_0 : decode cMD_differing 0 = .ok (.iconst 3, 1) := by decide +kernel
theorem dMD_differing_1 : decode cMD_differing 1 = .ok (.iload_n 1, 1) := by decide +kernel
theorem dMD_differing_2 : decode cMD_differing 2 = .ok (.iadd, 1) := by decide +kernel
theorem dMD_differing_3 : decode cMD_differing 3 = .ok (.istore_n 2, 1) := by decide +kernel
theorem dMD_differing_4 : decode cMD_differing 4 = .ok (.bipush 16, 2) := by decide +kernel
theorem dMD_differing_6 : decode cMD_differing 6 = .ok (.iload_n 1, 1) := by decide +kernel
theorem dMD_differing_7 : decode cMD_differing 7 = .ok (.iadd, 1) := by decide +kernel
theorem dMD_differing_8 : decode cMD_differing 8 = .ok (.istore_n 3, 1) := by decide +kernel
theorem dMD_differing_9 : decode cMD_differing 9 = .ok (.iconst 0, 1) := by decide +kernel
theorem dMD_differing_10 : decode cMD_differing 10 = .ok (.istore 4, 2) := by decide +kernel
theorem dMD_differing_12 : decode cMD_differing 12 = .ok (.iload_n 2, 1) := by decide +kernel
theorem dMD_differing_13 : decode cMD_differing 13 = .ok (.bipush 24, 2) := by decide +kernel
theorem dMD_differing_15 : decode cMD_differing 15 = .ok (.imul, 1) := by decide +kernel
theorem dMD_differing_16 : decode cMD_differing 16 = .ok (.istore 5, 2) := by decide +kernel
theorem dMD_differing_18 : decode cMD_differing 18 = .ok (.iload 5, 2) := by decide +kernel
theorem dMD_differing_20 : decode cMD_differing 20 = .ok (.iload_n 2, 1) := by decide +kernel
theorem dMD_differing_21 : decode cMD_differing 21 = .ok (.bipush 24, 2) := by decide +kernel
theorem dMD_differing_23 : decode cMD_differing 23 = .ok (.imul, 1) := by decide +kernel
theorem dMD_differing_24 : decode cMD_differing 24 = .ok (.aload_n 0, 1) := by decide +kernel
theorem dMD_differing_25 : decode cMD_differing 25 = .ok (.getfield 23, 3) := by decide +kernel
theorem dMD_differing_28 : decode cMD_differing 28 = .ok (.iload_n 2, 1) := by decide +kernel
theorem dMD_differing_29 : decode cMD_differing 29 = .ok (.iaload, 1) := by decide +kernel
theorem dMD_differing_30 : decode cMD_differing 30 = .ok (.iadd, 1) := by decide +kernel
theorem dMD_differing_31 : decode cMD_differing 31 = .ok (.if_icmp .ge 49, 3) := by decide +kernel
theorem dMD_differing_34 : decode cMD_differing 34 = .ok (.aload_n 0, 1) := by decide +kernel
theorem dMD_differing_35 : decode cMD_differing 35 = .ok (.iload_n 3, 1) := by decide +kernel
theorem dMD_differing_36 : decode cMD_differing 36 = .ok (.aload_n 0, 1) := by decide +kernel
theorem dMD_differing_37 : decode cMD_differing 37 = .ok (.getfield 7, 3) := by decide +kernel
theorem dMD_differing_40 : decode cMD_differing 40 = .ok (.iload 5, 2) := by decide +kernel
theorem dMD_differing_42 : decode cMD_differing 42 = .ok (.iaload, 1) := by decide +kernel
theorem dMD_differing_43 : decode cMD_differing 43 = .ok (.aload_n 0, 1) := by decide +kernel
theorem dMD_differing_44 : decode cMD_differing 44 = .ok (.getfield 13, 3) := by decide +kernel
theorem dMD_differing_47 : decode cMD_differing 47 = .ok (.iload 5, 2) := by decide +kernel
theorem dMD_differing_49 : decode cMD_differing 49 = .ok (.iaload, 1) := by decide +kernel
theorem dMD_differing_50 : decode cMD_differing 50 = .ok (.aload_n 0, 1) := by decide +kernel
theorem dMD_differing_51 : decode cMD_differing 51 = .ok (.getfield 16, 3) := by decide +kernel
theorem dMD_differing_54 : decode cMD_differing 54 = .ok (.iload 5, 2) := by decide +kernel
theorem dMD_differing_56 : decode cMD_differing 56 = .ok (.iaload, 1) := by decide +kernel
theorem dMD_differing_57 : decode cMD_differing 57 = .ok (.invokevirtual 122, 3) := by decide +kernel
theorem dMD_differing_60 : decode cMD_differing 60 = .ok (.aload_n 0, 1) := by decide +kernel
theorem dMD_differing_61 : decode cMD_differing 61 = .ok (.getfield 19, 3) := by decide +kernel
theorem dMD_differing_64 : decode cMD_differing 64 = .ok (.iload 5, 2) := by decide +kernel
theorem dMD_differing_66 : decode cMD_differing 66 = .ok (.laload, 1) := by decide +kernel
theorem dMD_differing_67 : decode cMD_differing 67 = .ok (.lcmp, 1) := by decide +kernel
theorem dMD_differing_68 : decode cMD_differing 68 = .ok (.ifCond .eq 6, 3) := by decide +kernel
theorem dMD_differing_71 : decode cMD_differing 71 = .ok (.iinc 4 1, 3) := by decide +kernel
theorem dMD_differing_74 : decode cMD_differing 74 = .ok (.iinc 5 1, 3) := by decide +kernel
theorem dMD_differing_77 : decode cMD_differing 77 = .ok (.goto (-59), 3) := by decide +kernel
theorem dMD_differing_80 : decode cMD_differing 80 = .ok (.iload_n 3, 1) := by decide +kernel
theorem dMD_differing_81 : decode cMD_differing 81 = .ok (.bipush 24, 2) := by decide +kernel
theorem dMD_differing_83 : decode cMD_differing 83 = .ok (.imul, 1) := by decide +kernel
theorem dMD_differing_84 : decode cMD_differing 84 = .ok (.istore 5, 2) := by decide +kernel
theorem dMD_differing_86 : decode cMD_differing 86 = .ok (.iload 5, 2) := by decide +kernel
theorem dMD_differing_88 : decode cMD_differing 88 = .ok (.iload_n 3, 1) := by decide +kernel
theorem dMD_differing_89 : decode cMD_differing 89 = .ok (.bipush 24, 2) := by decide +kernel
theorem dMD_differing_91 : decode cMD_differing 91 = .ok (.imul, 1) := by decide +kernel
theorem dMD_differing_92 : decode cMD_differing 92 = .ok (.aload_n 0, 1) := by decide +kernel
theorem dMD_differing_93 : decode cMD_differing 93 = .ok (.getfield 23, 3) := by decide +kernel
theorem dMD_differing_96 : decode cMD_differing 96 = .ok (.iload_n 3, 1) := by decide +kernel
theorem dMD_differing_97 : decode cMD_differing 97 = .ok (.iaload, 1) := by decide +kernel
theorem dMD_differing_98 : decode cMD_differing 98 = .ok (.iadd, 1) := by decide +kernel
theorem dMD_differing_99 : decode cMD_differing 99 = .ok (.if_icmp .ge 43, 3) := by decide +kernel
theorem dMD_differing_102 : decode cMD_differing 102 = .ok (.aload_n 0, 1) := by decide +kernel
theorem dMD_differing_103 : decode cMD_differing 103 = .ok (.iload_n 2, 1) := by decide +kernel
theorem dMD_differing_104 : decode cMD_differing 104 = .ok (.aload_n 0, 1) := by decide +kernel
theorem dMD_differing_105 : decode cMD_differing 105 = .ok (.getfield 7, 3) := by decide +kernel
theorem dMD_differing_108 : decode cMD_differing 108 = .ok (.iload 5, 2) := by decide +kernel
theorem dMD_differing_110 : decode cMD_differing 110 = .ok (.iaload, 1) := by decide +kernel
theorem dMD_differing_111 : decode cMD_differing 111 = .ok (.aload_n 0, 1) := by decide +kernel
theorem dMD_differing_112 : decode cMD_differing 112 = .ok (.getfield 13, 3) := by decide +kernel
theorem dMD_differing_115 : decode cMD_differing 115 = .ok (.iload 5, 2) := by decide +kernel
theorem dMD_differing_117 : decode cMD_differing 117 = .ok (.iaload, 1) := by decide +kernel
theorem dMD_differing_118 : decode cMD_differing 118 = .ok (.aload_n 0, 1) := by decide +kernel
theorem dMD_differing_119 : decode cMD_differing 119 = .ok (.getfield 16, 3) := by decide +kernel
theorem dMD_differing_122 : decode cMD_differing 122 = .ok (.iload 5, 2) := by decide +kernel
theorem dMD_differing_124 : decode cMD_differing 124 = .ok (.iaload, 1) := by decide +kernel
theorem dMD_differing_125 : decode cMD_differing 125 = .ok (.invokevirtual 122, 3) := by decide +kernel
theorem dMD_differing_128 : decode cMD_differing 128 = .ok (.lconst 0, 1) := by decide +kernel
theorem dMD_differing_129 : decode cMD_differing 129 = .ok (.lcmp, 1) := by decide +kernel
theorem dMD_differing_130 : decode cMD_differing 130 = .ok (.ifCond .ne 6, 3) := by decide +kernel
theorem dMD_differing_133 : decode cMD_differing 133 = .ok (.iinc 4 1, 3) := by decide +kernel
theorem dMD_differing_136 : decode cMD_differing 136 = .ok (.iinc 5 1, 3) := by decide +kernel
theorem dMD_differing_139 : decode cMD_differing 139 = .ok (.goto (-53), 3) := by decide +kernel
theorem dMD_differing_142 : decode cMD_differing 142 = .ok (.iload 4, 2) := by decide +kernel
theorem dMD_differing_144 : decode cMD_differing 144 = .ok (.ireturn, 1) := by decide +kernel
theorem dMD_weightIn_0 : decode cMD_weightIn 0 = .ok (.iload_n 1, 1) := by decide +kernel
theorem dMD_weightIn_1 : decode cMD_weightIn 1 = .ok (.bipush 24, 2) := by decide +kernel
theorem dMD_weightIn_3 : decode cMD_weightIn 3 = .ok (.imul, 1) := by decide +kernel
theorem dMD_weightIn_4 : decode cMD_weightIn 4 = .ok (.istore 5, 2) := by decide +kernel
theorem dMD_weightIn_6 : decode cMD_weightIn 6 = .ok (.iload 5, 2) := by decide +kernel
theorem dMD_weightIn_8 : decode cMD_weightIn 8 = .ok (.iload_n 1, 1) := by decide +kernel
theorem dMD_weightIn_9 : decode cMD_weightIn 9 = .ok (.bipush 24, 2) := by decide +kernel
theorem dMD_weightIn_11 : decode cMD_weightIn 11 = .ok (.imul, 1) := by decide +kernel
theorem dMD_weightIn_12 : decode cMD_weightIn 12 = .ok (.aload_n 0, 1) := by decide +kernel
theorem dMD_weightIn_13 : decode cMD_weightIn 13 = .ok (.getfield 23, 3) := by decide +kernel
theorem dMD_weightIn_16 : decode cMD_weightIn 16 = .ok (.iload_n 1, 1) := by decide +kernel
theorem dMD_weightIn_17 : decode cMD_weightIn 17 = .ok (.iaload, 1) := by decide +kernel
theorem dMD_weightIn_18 : decode cMD_weightIn 18 = .ok (.iadd, 1) := by decide +kernel
theorem dMD_weightIn_19 : decode cMD_weightIn 19 = .ok (.if_icmp .ge 51, 3) := by decide +kernel
theorem dMD_weightIn_22 : decode cMD_weightIn 22 = .ok (.aload_n 0, 1) := by decide +kernel
theorem dMD_weightIn_23 : decode cMD_weightIn 23 = .ok (.getfield 7, 3) := by decide +kernel
theorem dMD_weightIn_26 : decode cMD_weightIn 26 = .ok (.iload 5, 2) := by decide +kernel
theorem dMD_weightIn_28 : decode cMD_weightIn 28 = .ok (.iaload, 1) := by decide +kernel
theorem dMD_weightIn_29 : decode cMD_weightIn 29 = .ok (.iload_n 2, 1) := by decide +kernel
theorem dMD_weightIn_30 : decode cMD_weightIn 30 = .ok (.if_icmp .ne 34, 3) := by decide +kernel
theorem dMD_weightIn_33 : decode cMD_weightIn 33 = .ok (.aload_n 0, 1) := by decide +kernel
theorem dMD_weightIn_34 : decode cMD_weightIn 34 = .ok (.getfield 13, 3) := by decide +kernel
theorem dMD_weightIn_37 : decode cMD_weightIn 37 = .ok (.iload 5, 2) := by decide +kernel
theorem dMD_weightIn_39 : decode cMD_weightIn 39 = .ok (.iaload, 1) := by decide +kernel
theorem dMD_weightIn_40 : decode cMD_weightIn 40 = .ok (.iload_n 3, 1) := by decide +kernel
theorem dMD_weightIn_41 : decode cMD_weightIn 41 = .ok (.if_icmp .ne 23, 3) := by decide +kernel
theorem dMD_weightIn_44 : decode cMD_weightIn 44 = .ok (.aload_n 0, 1) := by decide +kernel
theorem dMD_weightIn_45 : decode cMD_weightIn 45 = .ok (.getfield 16, 3) := by decide +kernel
theorem dMD_weightIn_48 : decode cMD_weightIn 48 = .ok (.iload 5, 2) := by decide +kernel
theorem dMD_weightIn_50 : decode cMD_weightIn 50 = .ok (.iaload, 1) := by decide +kernel
theorem dMD_weightIn_51 : decode cMD_weightIn 51 = .ok (.iload 4, 2) := by decide +kernel
theorem dMD_weightIn_53 : decode cMD_weightIn 53 = .ok (.if_icmp .ne 11, 3) := by decide +kernel
theorem dMD_weightIn_56 : decode cMD_weightIn 56 = .ok (.aload_n 0, 1) := by decide +kernel
theorem dMD_weightIn_57 : decode cMD_weightIn 57 = .ok (.getfield 19, 3) := by decide +kernel
theorem dMD_weightIn_60 : decode cMD_weightIn 60 = .ok (.iload 5, 2) := by decide +kernel
theorem dMD_weightIn_62 : decode cMD_weightIn 62 = .ok (.laload, 1) := by decide +kernel
theorem dMD_weightIn_63 : decode cMD_weightIn 63 = .ok (.lreturn, 1) := by decide +kernel
theorem dMD_weightIn_64 : decode cMD_weightIn 64 = .ok (.iinc 5 1, 3) := by decide +kernel
theorem dMD_weightIn_67 : decode cMD_weightIn 67 = .ok (.goto (-61), 3) := by decide +kernel
theorem dMD_weightIn_70 : decode cMD_weightIn 70 = .ok (.lconst 0, 1) := by decide +kernel
theorem dMD_weightIn_71 : decode cMD_weightIn 71 = .ok (.lreturn, 1) := by decide +kernel
theorem dMD_adopt_0 : decode cMD_adopt 0 = .ok (.aload_n 0, 1) := by decide +kernel
theorem dMD_adopt_1 : decode cMD_adopt 1 = .ok (.getfield 23, 3) := by decide +kernel
theorem dMD_adopt_4 : decode cMD_adopt 4 = .ok (.iload_n 1, 1) := by decide +kernel
theorem dMD_adopt_5 : decode cMD_adopt 5 = .ok (.aload_n 0, 1) := by decide +kernel
theorem dMD_adopt_6 : decode cMD_adopt 6 = .ok (.getfield 23, 3) := by decide +kernel
theorem dMD_adopt_9 : decode cMD_adopt 9 = .ok (.iload_n 1, 1) := by decide +kernel
theorem dMD_adopt_10 : decode cMD_adopt 10 = .ok (.bipush 13, 2) := by decide +kernel
theorem dMD_adopt_12 : decode cMD_adopt 12 = .ok (.iadd, 1) := by decide +kernel
theorem dMD_adopt_13 : decode cMD_adopt 13 = .ok (.iaload, 1) := by decide +kernel
theorem dMD_adopt_14 : decode cMD_adopt 14 = .ok (.iastore, 1) := by decide +kernel
theorem dMD_adopt_15 : decode cMD_adopt 15 = .ok (.iconst 0, 1) := by decide +kernel
theorem dMD_adopt_16 : decode cMD_adopt 16 = .ok (.istore_n 2, 1) := by decide +kernel
theorem dMD_adopt_17 : decode cMD_adopt 17 = .ok (.iload_n 2, 1) := by decide +kernel
theorem dMD_adopt_18 : decode cMD_adopt 18 = .ok (.aload_n 0, 1) := by decide +kernel
theorem dMD_adopt_19 : decode cMD_adopt 19 = .ok (.getfield 23, 3) := by decide +kernel
theorem dMD_adopt_22 : decode cMD_adopt 22 = .ok (.iload_n 1, 1) := by decide +kernel
theorem dMD_adopt_23 : decode cMD_adopt 23 = .ok (.iaload, 1) := by decide +kernel
theorem dMD_adopt_24 : decode cMD_adopt 24 = .ok (.if_icmp .ge 80, 3) := by decide +kernel
theorem dMD_adopt_27 : decode cMD_adopt 27 = .ok (.iload_n 1, 1) := by decide +kernel
theorem dMD_adopt_28 : decode cMD_adopt 28 = .ok (.bipush 24, 2) := by decide +kernel
theorem dMD_adopt_30 : decode cMD_adopt 30 = .ok (.imul, 1) := by decide +kernel
theorem dMD_adopt_31 : decode cMD_adopt 31 = .ok (.iload_n 2, 1) := by decide +kernel
theorem dMD_adopt_32 : decode cMD_adopt 32 = .ok (.iadd, 1) := by decide +kernel
theorem dMD_adopt_33 : decode cMD_adopt 33 = .ok (.istore_n 3, 1) := by decide +kernel
theorem dMD_adopt_34 : decode cMD_adopt 34 = .ok (.aload_n 0, 1) := by decide +kernel
theorem dMD_adopt_35 : decode cMD_adopt 35 = .ok (.getfield 7, 3) := by decide +kernel
theorem dMD_adopt_38 : decode cMD_adopt 38 = .ok (.iload_n 3, 1) := by decide +kernel
theorem dMD_adopt_39 : decode cMD_adopt 39 = .ok (.aload_n 0, 1) := by decide +kernel
theorem dMD_adopt_40 : decode cMD_adopt 40 = .ok (.getfield 7, 3) := by decide +kernel
theorem dMD_adopt_43 : decode cMD_adopt 43 = .ok (.iload_n 3, 1) := by decide +kernel
theorem dMD_adopt_44 : decode cMD_adopt 44 = .ok (.sipush 312, 3) := by decide +kernel
theorem dMD_adopt_47 : decode cMD_adopt 47 = .ok (.iadd, 1) := by decide +kernel
theorem dMD_adopt_48 : decode cMD_adopt 48 = .ok (.iaload, 1) := by decide +kernel
theorem dMD_adopt_49 : decode cMD_adopt 49 = .ok (.iastore, 1) := by decide +kernel
theorem dMD_adopt_50 : decode cMD_adopt 50 = .ok (.aload_n 0, 1) := by decide +kernel
theorem dMD_adopt_51 : decode cMD_adopt 51 = .ok (.getfield 13, 3) := by decide +kernel
theorem dMD_adopt_54 : decode cMD_adopt 54 = .ok (.iload_n 3, 1) := by decide +kernel
theorem dMD_adopt_55 : decode cMD_adopt 55 = .ok (.aload_n 0, 1) := by decide +kernel
theorem dMD_adopt_56 : decode cMD_adopt 56 = .ok (.getfield 13, 3) := by decide +kernel
theorem dMD_adopt_59 : decode cMD_adopt 59 = .ok (.iload_n 3, 1) := by decide +kernel
theorem dMD_adopt_60 : decode cMD_adopt 60 = .ok (.sipush 312, 3) := by decide +kernel
theorem dMD_adopt_63 : decode cMD_adopt 63 = .ok (.iadd, 1) := by decide +kernel
theorem dMD_adopt_64 : decode cMD_adopt 64 = .ok (.iaload, 1) := by decide +kernel
theorem dMD_adopt_65 : decode cMD_adopt 65 = .ok (.iastore, 1) := by decide +kernel
theorem dMD_adopt_66 : decode cMD_adopt 66 = .ok (.aload_n 0, 1) := by decide +kernel
theorem dMD_adopt_67 : decode cMD_adopt 67 = .ok (.getfield 16, 3) := by decide +kernel
theorem dMD_adopt_70 : decode cMD_adopt 70 = .ok (.iload_n 3, 1) := by decide +kernel
theorem dMD_adopt_71 : decode cMD_adopt 71 = .ok (.aload_n 0, 1) := by decide +kernel
theorem dMD_adopt_72 : decode cMD_adopt 72 = .ok (.getfield 16, 3) := by decide +kernel
theorem dMD_adopt_75 : decode cMD_adopt 75 = .ok (.iload_n 3, 1) := by decide +kernel
theorem dMD_adopt_76 : decode cMD_adopt 76 = .ok (.sipush 312, 3) := by decide +kernel
theorem dMD_adopt_79 : decode cMD_adopt 79 = .ok (.iadd, 1) := by decide +kernel
theorem dMD_adopt_80 : decode cMD_adopt 80 = .ok (.iaload, 1) := by decide +kernel
theorem dMD_adopt_81 : decode cMD_adopt 81 = .ok (.iastore, 1) := by decide +kernel
theorem dMD_adopt_82 : decode cMD_adopt 82 = .ok (.aload_n 0, 1) := by decide +kernel
theorem dMD_adopt_83 : decode cMD_adopt 83 = .ok (.getfield 19, 3) := by decide +kernel
theorem dMD_adopt_86 : decode cMD_adopt 86 = .ok (.iload_n 3, 1) := by decide +kernel
theorem dMD_adopt_87 : decode cMD_adopt 87 = .ok (.aload_n 0, 1) := by decide +kernel
theorem dMD_adopt_88 : decode cMD_adopt 88 = .ok (.getfield 19, 3) := by decide +kernel
theorem dMD_adopt_91 : decode cMD_adopt 91 = .ok (.iload_n 3, 1) := by decide +kernel
theorem dMD_adopt_92 : decode cMD_adopt 92 = .ok (.sipush 312, 3) := by decide +kernel
theorem dMD_adopt_95 : decode cMD_adopt 95 = .ok (.iadd, 1) := by decide +kernel
theorem dMD_adopt_96 : decode cMD_adopt 96 = .ok (.laload, 1) := by decide +kernel
theorem dMD_adopt_97 : decode cMD_adopt 97 = .ok (.lastore, 1) := by decide +kernel
theorem dMD_adopt_98 : decode cMD_adopt 98 = .ok (.iinc 2 1, 3) := by decide +kernel
theorem dMD_adopt_101 : decode cMD_adopt 101 = .ok (.goto (-84), 3) := by decide +kernel
theorem dMD_adopt_104 : decode cMD_adopt 104 = .ok (.return_, 1) := by decide +kernel
theorem dMD_drop_0 : decode cMD_drop 0 = .ok (.aload_n 0, 1) := by decide +kernel
theorem dMD_drop_1 : decode cMD_drop 1 = .ok (.getfield 119, 3) := by decide +kernel
theorem dMD_drop_4 : decode cMD_drop 4 = .ok (.istore_n 1, 1) := by decide +kernel
theorem dMD_drop_5 : decode cMD_drop 5 = .ok (.aload_n 0, 1) := by decide +kernel
theorem dMD_drop_6 : decode cMD_drop 6 = .ok (.iconst 0, 1) := by decide +kernel
theorem dMD_drop_7 : decode cMD_drop 7 = .ok (.putfield 119, 3) := by decide +kernel
theorem dMD_drop_10 : decode cMD_drop 10 = .ok (.iload_n 1, 1) := by decide +kernel
theorem dMD_drop_11 : decode cMD_drop 11 = .ok (.ireturn, 1) := by decide +kernel
theorem dMD_weight_0 : decode cMD_weight 0 = .ok (.aload_n 0, 1) := by decide +kernel
theorem dMD_weight_1 : decode cMD_weight 1 = .ok (.iload_n 1, 1) := by decide +kernel
theorem dMD_weight_2 : decode cMD_weight 2 = .ok (.aload_n 0, 1) := by decide +kernel
theorem dMD_weight_3 : decode cMD_weight 3 = .ok (.getfield 106, 3) := by decide +kernel
theorem dMD_weight_6 : decode cMD_weight 6 = .ok (.invokevirtual 112, 3) := by decide +kernel
theorem dMD_weight_9 : decode cMD_weight 9 = .ok (.ifCond .eq 9, 3) := by decide +kernel
theorem dMD_weight_12 : decode cMD_weight 12 = .ok (.ldc2_w 137, 3) := by decide +kernel
theorem dMD_weight_15 : decode cMD_weight 15 = .ok (.goto 14, 3) := by decide +kernel
theorem dMD_weight_18 : decode cMD_weight 18 = .ok (.aload_n 0, 1) := by decide +kernel
theorem dMD_weight_19 : decode cMD_weight 19 = .ok (.iconst 3, 1) := by decide +kernel
theorem dMD_weight_20 : decode cMD_weight 20 = .ok (.iload_n 1, 1) := by decide +kernel
theorem dMD_weight_21 : decode cMD_weight 21 = .ok (.iadd, 1) := by decide +kernel
theorem dMD_weight_22 : decode cMD_weight 22 = .ok (.iload_n 2, 1) := by decide +kernel
theorem dMD_weight_23 : decode cMD_weight 23 = .ok (.iload_n 3, 1) := by decide +kernel
theorem dMD_weight_24 : decode cMD_weight 24 = .ok (.iload 4, 2) := by decide +kernel
theorem dMD_weight_26 : decode cMD_weight 26 = .ok (.invokevirtual 122, 3) := by decide +kernel
theorem dMD_weight_29 : decode cMD_weight 29 = .ok (.lreturn, 1) := by decide +kernel
theorem dMD_inTable_0 : decode cMD_inTable 0 = .ok (.aload_n 0, 1) := by decide +kernel
theorem dMD_inTable_1 : decode cMD_inTable 1 = .ok (.iload_n 1, 1) := by decide +kernel
theorem dMD_inTable_2 : decode cMD_inTable 2 = .ok (.iconst 3, 1) := by decide +kernel
theorem dMD_inTable_3 : decode cMD_inTable 3 = .ok (.invokevirtual 112, 3) := by decide +kernel
theorem dMD_inTable_6 : decode cMD_inTable 6 = .ok (.ifCond .eq 9, 3) := by decide +kernel
theorem dMD_inTable_9 : decode cMD_inTable 9 = .ok (.ldc2_w 137, 3) := by decide +kernel
theorem dMD_inTable_12 : decode cMD_inTable 12 = .ok (.goto 12, 3) := by decide +kernel
theorem dMD_inTable_15 : decode cMD_inTable 15 = .ok (.aload_n 0, 1) := by decide +kernel
theorem dMD_inTable_16 : decode cMD_inTable 16 = .ok (.iload_n 1, 1) := by decide +kernel
theorem dMD_inTable_17 : decode cMD_inTable 17 = .ok (.iload_n 2, 1) := by decide +kernel
theorem dMD_inTable_18 : decode cMD_inTable 18 = .ok (.iload_n 3, 1) := by decide +kernel
theorem dMD_inTable_19 : decode cMD_inTable 19 = .ok (.iload 4, 2) := by decide +kernel
theorem dMD_inTable_21 : decode cMD_inTable 21 = .ok (.invokevirtual 122, 3) := by decide +kernel
theorem dMD_inTable_24 : decode cMD_inTable 24 = .ok (.lreturn, 1) := by decide +kernel
theorem dMD_rows_0 : decode cMD_rows 0 = .ok (.aload_n 0, 1) := by decide +kernel
theorem dMD_rows_1 : decode cMD_rows 1 = .ok (.iload_n 1, 1) := by decide +kernel
theorem dMD_rows_2 : decode cMD_rows 2 = .ok (.aload_n 0, 1) := by decide +kernel
theorem dMD_rows_3 : decode cMD_rows 3 = .ok (.getfield 106, 3) := by decide +kernel
theorem dMD_rows_6 : decode cMD_rows 6 = .ok (.invokevirtual 112, 3) := by decide +kernel
theorem dMD_rows_9 : decode cMD_rows 9 = .ok (.ifCond .eq 7, 3) := by decide +kernel
theorem dMD_rows_12 : decode cMD_rows 12 = .ok (.iconst (-1), 1) := by decide +kernel
theorem dMD_rows_13 : decode cMD_rows 13 = .ok (.goto 11, 3) := by decide +kernel
theorem dMD_rows_16 : decode cMD_rows 16 = .ok (.aload_n 0, 1) := by decide +kernel
theorem dMD_rows_17 : decode cMD_rows 17 = .ok (.getfield 23, 3) := by decide +kernel
theorem dMD_rows_20 : decode cMD_rows 20 = .ok (.iconst 3, 1) := by decide +kernel
theorem dMD_rows_21 : decode cMD_rows 21 = .ok (.iload_n 1, 1) := by decide +kernel
theorem dMD_rows_22 : decode cMD_rows 22 = .ok (.iadd, 1) := by decide +kernel
theorem dMD_rows_23 : decode cMD_rows 23 = .ok (.iaload, 1) := by decide +kernel
theorem dMD_rows_24 : decode cMD_rows 24 = .ok (.ireturn, 1) := by decide +kernel
theorem dMD_cell_0 : decode cMD_cell 0 = .ok (.aload_n 0, 1) := by decide +kernel
theorem dMD_cell_1 : decode cMD_cell 1 = .ok (.iload_n 1, 1) := by decide +kernel
theorem dMD_cell_2 : decode cMD_cell 2 = .ok (.aload_n 0, 1) := by decide +kernel
theorem dMD_cell_3 : decode cMD_cell 3 = .ok (.getfield 106, 3) := by decide +kernel
theorem dMD_cell_6 : decode cMD_cell 6 = .ok (.invokevirtual 112, 3) := by decide +kernel
theorem dMD_cell_9 : decode cMD_cell 9 = .ok (.ifCond .ne 28, 3) := by decide +kernel
theorem dMD_cell_12 : decode cMD_cell 12 = .ok (.aload_n 0, 1) := by decide +kernel
theorem dMD_cell_13 : decode cMD_cell 13 = .ok (.iload_n 3, 1) := by decide +kernel
theorem dMD_cell_14 : decode cMD_cell 14 = .ok (.iconst 3, 1) := by decide +kernel
theorem dMD_cell_15 : decode cMD_cell 15 = .ok (.invokevirtual 112, 3) := by decide +kernel
theorem dMD_cell_18 : decode cMD_cell 18 = .ok (.ifCond .ne 19, 3) := by decide +kernel
theorem dMD_cell_21 : decode cMD_cell 21 = .ok (.aload_n 0, 1) := by decide +kernel
theorem dMD_cell_22 : decode cMD_cell 22 = .ok (.iload_n 2, 1) := by decide +kernel
theorem dMD_cell_23 : decode cMD_cell 23 = .ok (.aload_n 0, 1) := by decide +kernel
theorem dMD_cell_24 : decode cMD_cell 24 = .ok (.getfield 23, 3) := by decide +kernel
theorem dMD_cell_27 : decode cMD_cell 27 = .ok (.iconst 3, 1) := by decide +kernel
theorem dMD_cell_28 : decode cMD_cell 28 = .ok (.iload_n 1, 1) := by decide +kernel
theorem dMD_cell_29 : decode cMD_cell 29 = .ok (.iadd, 1) := by decide +kernel
theorem dMD_cell_30 : decode cMD_cell 30 = .ok (.iaload, 1) := by decide +kernel
theorem dMD_cell_31 : decode cMD_cell 31 = .ok (.invokevirtual 112, 3) := by decide +kernel
theorem dMD_cell_34 : decode cMD_cell 34 = .ok (.ifCond .eq 7, 3) := by decide +kernel
theorem dMD_cell_37 : decode cMD_cell 37 = .ok (.ldc2_w 137, 3) := by decide +kernel
theorem dMD_cell_40 : decode cMD_cell 40 = .ok (.lreturn, 1) := by decide +kernel
theorem dMD_cell_41 : decode cMD_cell 41 = .ok (.aload_n 0, 1) := by decide +kernel
theorem dMD_cell_42 : decode cMD_cell 42 = .ok (.iconst 3, 1) := by decide +kernel
theorem dMD_cell_43 : decode cMD_cell 43 = .ok (.iload_n 1, 1) := by decide +kernel
theorem dMD_cell_44 : decode cMD_cell 44 = .ok (.iadd, 1) := by decide +kernel
theorem dMD_cell_45 : decode cMD_cell 45 = .ok (.bipush 24, 2) := by decide +kernel
theorem dMD_cell_47 : decode cMD_cell 47 = .ok (.imul, 1) := by decide +kernel
theorem dMD_cell_48 : decode cMD_cell 48 = .ok (.iload_n 2, 1) := by decide +kernel
theorem dMD_cell_49 : decode cMD_cell 49 = .ok (.iadd, 1) := by decide +kernel
theorem dMD_cell_50 : decode cMD_cell 50 = .ok (.iload_n 3, 1) := by decide +kernel
theorem dMD_cell_51 : decode cMD_cell 51 = .ok (.invokevirtual 74, 3) := by decide +kernel
theorem dMD_cell_54 : decode cMD_cell 54 = .ok (.i2l, 1) := by decide +kernel
theorem dMD_cell_55 : decode cMD_cell 55 = .ok (.lreturn, 1) := by decide +kernel
theorem dMD_total_0 : decode cMD_total 0 = .ok (.aload_n 0, 1) := by decide +kernel
theorem dMD_total_1 : decode cMD_total 1 = .ok (.iload_n 1, 1) := by decide +kernel
theorem dMD_total_2 : decode cMD_total 2 = .ok (.aload_n 0, 1) := by decide +kernel
theorem dMD_total_3 : decode cMD_total 3 = .ok (.getfield 106, 3) := by decide +kernel
theorem dMD_total_6 : decode cMD_total 6 = .ok (.invokevirtual 112, 3) := by decide +kernel
theorem dMD_total_9 : decode cMD_total 9 = .ok (.ifCond .eq 7, 3) := by decide +kernel
theorem dMD_total_12 : decode cMD_total 12 = .ok (.ldc2_w 137, 3) := by decide +kernel
theorem dMD_total_15 : decode cMD_total 15 = .ok (.lreturn, 1) := by decide +kernel
theorem dMD_total_16 : decode cMD_total 16 = .ok (.lconst 0, 1) := by decide +kernel
theorem dMD_total_17 : decode cMD_total 17 = .ok (.lstore_n 2, 1) := by decide +kernel
theorem dMD_total_18 : decode cMD_total 18 = .ok (.iconst 3, 1) := by decide +kernel
theorem dMD_total_19 : decode cMD_total 19 = .ok (.iload_n 1, 1) := by decide +kernel
theorem dMD_total_20 : decode cMD_total 20 = .ok (.iadd, 1) := by decide +kernel
theorem dMD_total_21 : decode cMD_total 21 = .ok (.bipush 24, 2) := by decide +kernel
theorem dMD_total_23 : decode cMD_total 23 = .ok (.imul, 1) := by decide +kernel
theorem dMD_total_24 : decode cMD_total 24 = .ok (.istore 4, 2) := by decide +kernel
theorem dMD_total_26 : decode cMD_total 26 = .ok (.iload 4, 2) := by decide +kernel
theorem dMD_total_28 : decode cMD_total 28 = .ok (.iconst 3, 1) := by decide +kernel
theorem dMD_total_29 : decode cMD_total 29 = .ok (.iload_n 1, 1) := by decide +kernel
theorem dMD_total_30 : decode cMD_total 30 = .ok (.iadd, 1) := by decide +kernel
theorem dMD_total_31 : decode cMD_total 31 = .ok (.bipush 24, 2) := by decide +kernel
theorem dMD_total_33 : decode cMD_total 33 = .ok (.imul, 1) := by decide +kernel
theorem dMD_total_34 : decode cMD_total 34 = .ok (.aload_n 0, 1) := by decide +kernel
theorem dMD_total_35 : decode cMD_total 35 = .ok (.getfield 23, 3) := by decide +kernel
theorem dMD_total_38 : decode cMD_total 38 = .ok (.iconst 3, 1) := by decide +kernel
theorem dMD_total_39 : decode cMD_total 39 = .ok (.iload_n 1, 1) := by decide +kernel
theorem dMD_total_40 : decode cMD_total 40 = .ok (.iadd, 1) := by decide +kernel
theorem dMD_total_41 : decode cMD_total 41 = .ok (.iaload, 1) := by decide +kernel
theorem dMD_total_42 : decode cMD_total 42 = .ok (.iadd, 1) := by decide +kernel
theorem dMD_total_43 : decode cMD_total 43 = .ok (.if_icmp .ge 19, 3) := by decide +kernel
theorem dMD_total_46 : decode cMD_total 46 = .ok (.lload_n 2, 1) := by decide +kernel
theorem dMD_total_47 : decode cMD_total 47 = .ok (.aload_n 0, 1) := by decide +kernel
theorem dMD_total_48 : decode cMD_total 48 = .ok (.getfield 19, 3) := by decide +kernel
theorem dMD_total_51 : decode cMD_total 51 = .ok (.iload 4, 2) := by decide +kernel
theorem dMD_total_53 : decode cMD_total 53 = .ok (.laload, 1) := by decide +kernel
theorem dMD_total_54 : decode cMD_total 54 = .ok (.ladd, 1) := by decide +kernel
theorem dMD_total_55 : decode cMD_total 55 = .ok (.lstore_n 2, 1) := by decide +kernel
theorem dMD_total_56 : decode cMD_total 56 = .ok (.iinc 4 1, 3) := by decide +kernel
theorem dMD_total_59 : decode cMD_total 59 = .ok (.goto (-33), 3) := by decide +kernel
theorem dMD_total_62 : decode cMD_total 62 = .ok (.lload_n 2, 1) := by decide +kernel
theorem dMD_total_63 : decode cMD_total 63 = .ok (.lreturn, 1) := by decide +kernel
theorem dMD_changed_0 : decode cMD_changed 0 = .ok (.aload_n 0, 1) := by decide +kernel
theorem dMD_changed_1 : decode cMD_changed 1 = .ok (.iload_n 1, 1) := by decide +kernel
theorem dMD_changed_2 : decode cMD_changed 2 = .ok (.aload_n 0, 1) := by decide +kernel
theorem dMD_changed_3 : decode cMD_changed 3 = .ok (.getfield 106, 3) := by decide +kernel
theorem dMD_changed_6 : decode cMD_changed 6 = .ok (.invokevirtual 112, 3) := by decide +kernel
theorem dMD_changed_9 : decode cMD_changed 9 = .ok (.ifCond .eq 7, 3) := by decide +kernel
theorem dMD_changed_12 : decode cMD_changed 12 = .ok (.iconst (-1), 1) := by decide +kernel
theorem dMD_changed_13 : decode cMD_changed 13 = .ok (.goto 9, 3) := by decide +kernel
theorem dMD_changed_16 : decode cMD_changed 16 = .ok (.aload_n 0, 1) := by decide +kernel
theorem dMD_changed_17 : decode cMD_changed 17 = .ok (.getfield 44, 3) := by decide +kernel
theorem dMD_changed_20 : decode cMD_changed 20 = .ok (.iload_n 1, 1) := by decide +kernel
theorem dMD_changed_21 : decode cMD_changed 21 = .ok (.iaload, 1) := by decide +kernel
theorem dMD_changed_22 : decode cMD_changed 22 = .ok (.ireturn, 1) := by decide +kernel
theorem dMD_mean_0 : decode cMD_mean 0 = .ok (.aload_n 0, 1) := by decide +kernel
theorem dMD_mean_1 : decode cMD_mean 1 = .ok (.iload_n 1, 1) := by decide +kernel
theorem dMD_mean_2 : decode cMD_mean 2 = .ok (.aload_n 0, 1) := by decide +kernel
theorem dMD_mean_3 : decode cMD_mean 3 = .ok (.getfield 106, 3) := by decide +kernel
theorem dMD_mean_6 : decode cMD_mean 6 = .ok (.invokevirtual 112, 3) := by decide +kernel
theorem dMD_mean_9 : decode cMD_mean 9 = .ok (.ifCond .ne 12, 3) := by decide +kernel
theorem dMD_mean_12 : decode cMD_mean 12 = .ok (.aload_n 0, 1) := by decide +kernel
theorem dMD_mean_13 : decode cMD_mean 13 = .ok (.iload_n 2, 1) := by decide +kernel
theorem dMD_mean_14 : decode cMD_mean 14 = .ok (.iconst 3, 1) := by decide +kernel
theorem dMD_mean_15 : decode cMD_mean 15 = .ok (.invokevirtual 112, 3) := by decide +kernel
theorem dMD_mean_18 : decode cMD_mean 18 = .ok (.ifCond .eq 5, 3) := by decide +kernel
theorem dMD_mean_21 : decode cMD_mean 21 = .ok (.dconst 0, 1) := by decide +kernel
theorem dMD_mean_22 : decode cMD_mean 22 = .ok (.dreturn, 1) := by decide +kernel
theorem dMD_mean_23 : decode cMD_mean 23 = .ok (.aload_n 0, 1) := by decide +kernel
theorem dMD_mean_24 : decode cMD_mean 24 = .ok (.iload_n 1, 1) := by decide +kernel
theorem dMD_mean_25 : decode cMD_mean 25 = .ok (.invokevirtual 139, 3) := by decide +kernel
theorem dMD_mean_28 : decode cMD_mean 28 = .ok (.lstore_n 3, 1) := by decide +kernel
theorem dMD_mean_29 : decode cMD_mean 29 = .ok (.lload_n 3, 1) := by decide +kernel
theorem dMD_mean_30 : decode cMD_mean 30 = .ok (.lconst 0, 1) := by decide +kernel
theorem dMD_mean_31 : decode cMD_mean 31 = .ok (.lcmp, 1) := by decide +kernel
theorem dMD_mean_32 : decode cMD_mean 32 = .ok (.ifCond .ne 5, 3) := by decide +kernel
theorem dMD_mean_35 : decode cMD_mean 35 = .ok (.dconst 0, 1) := by decide +kernel
theorem dMD_mean_36 : decode cMD_mean 36 = .ok (.dreturn, 1) := by decide +kernel
theorem dMD_mean_37 : decode cMD_mean 37 = .ok (.lconst 0, 1) := by decide +kernel
theorem dMD_mean_38 : decode cMD_mean 38 = .ok (.lstore 5, 2) := by decide +kernel
theorem dMD_mean_40 : decode cMD_mean 40 = .ok (.iconst 3, 1) := by decide +kernel
theorem dMD_mean_41 : decode cMD_mean 41 = .ok (.iload_n 1, 1) := by decide +kernel
theorem dMD_mean_42 : decode cMD_mean 42 = .ok (.iadd, 1) := by decide +kernel
theorem dMD_mean_43 : decode cMD_mean 43 = .ok (.bipush 24, 2) := by decide +kernel
theorem dMD_mean_45 : decode cMD_mean 45 = .ok (.imul, 1) := by decide +kernel
theorem dMD_mean_46 : decode cMD_mean 46 = .ok (.istore 7, 2) := by decide +kernel
theorem dMD_mean_48 : decode cMD_mean 48 = .ok (.iload 7, 2) := by decide +kernel
theorem dMD_mean_50 : decode cMD_mean 50 = .ok (.iconst 3, 1) := by decide +kernel
theorem dMD_mean_51 : decode cMD_mean 51 = .ok (.iload_n 1, 1) := by decide +kernel
theorem dMD_mean_52 : decode cMD_mean 52 = .ok (.iadd, 1) := by decide +kernel
theorem dMD_mean_53 : decode cMD_mean 53 = .ok (.bipush 24, 2) := by decide +kernel
theorem dMD_mean_55 : decode cMD_mean 55 = .ok (.imul, 1) := by decide +kernel
theorem dMD_mean_56 : decode cMD_mean 56 = .ok (.aload_n 0, 1) := by decide +kernel
theorem dMD_mean_57 : decode cMD_mean 57 = .ok (.getfield 23, 3) := by decide +kernel
theorem dMD_mean_60 : decode cMD_mean 60 = .ok (.iconst 3, 1) := by decide +kernel
theorem dMD_mean_61 : decode cMD_mean 61 = .ok (.iload_n 1, 1) := by decide +kernel
theorem dMD_mean_62 : decode cMD_mean 62 = .ok (.iadd, 1) := by decide +kernel
theorem dMD_mean_63 : decode cMD_mean 63 = .ok (.iaload, 1) := by decide +kernel
theorem dMD_mean_64 : decode cMD_mean 64 = .ok (.iadd, 1) := by decide +kernel
theorem dMD_mean_65 : decode cMD_mean 65 = .ok (.if_icmp .ge 30, 3) := by decide +kernel
theorem dMD_mean_68 : decode cMD_mean 68 = .ok (.lload 5, 2) := by decide +kernel
theorem dMD_mean_70 : decode cMD_mean 70 = .ok (.aload_n 0, 1) := by decide +kernel
theorem dMD_mean_71 : decode cMD_mean 71 = .ok (.getfield 19, 3) := by decide +kernel
theorem dMD_mean_74 : decode cMD_mean 74 = .ok (.iload 7, 2) := by decide +kernel
theorem dMD_mean_76 : decode cMD_mean 76 = .ok (.laload, 1) := by decide +kernel
theorem dMD_mean_77 : decode cMD_mean 77 = .ok (.aload_n 0, 1) := by decide +kernel
theorem dMD_mean_78 : decode cMD_mean 78 = .ok (.iload 7, 2) := by decide +kernel
theorem dMD_mean_80 : decode cMD_mean 80 = .ok (.iload_n 2, 1) := by decide +kernel
theorem dMD_mean_81 : decode cMD_mean 81 = .ok (.invokevirtual 74, 3) := by decide +kernel
theorem dMD_mean_84 : decode cMD_mean 84 = .ok (.i2l, 1) := by decide +kernel
theorem dMD_mean_85 : decode cMD_mean 85 = .ok (.lmul, 1) := by decide +kernel
theorem dMD_mean_86 : decode cMD_mean 86 = .ok (.ladd, 1) := by decide +kernel
theorem dMD_mean_87 : decode cMD_mean 87 = .ok (.lstore 5, 2) := by decide +kernel
theorem dMD_mean_89 : decode cMD_mean 89 = .ok (.iinc 7 1, 3) := by decide +kernel
theorem dMD_mean_92 : decode cMD_mean 92 = .ok (.goto (-44), 3) := by decide +kernel
theorem dMD_mean_95 : decode cMD_mean 95 = .ok (.lload 5, 2) := by decide +kernel
theorem dMD_mean_97 : decode cMD_mean 97 = .ok (.l2d, 1) := by decide +kernel
theorem dMD_mean_98 : decode cMD_mean 98 = .ok (.lload_n 3, 1) := by decide +kernel
theorem dMD_mean_99 : decode cMD_mean 99 = .ok (.l2d, 1) := by decide +kernel
theorem dMD_mean_100 : decode cMD_mean 100 = .ok (.ddiv, 1) := by decide +kernel
theorem dMD_mean_101 : decode cMD_mean 101 = .ok (.dreturn, 1) := by decide +kernel
theorem dMD_count_0 : decode cMD_count 0 = .ok (.iload_n 1, 1) := by decide +kernel
theorem dMD_count_1 : decode cMD_count 1 = .ok (.ifCond .ne 8, 3) := by decide +kernel
theorem dMD_count_4 : decode cMD_count 4 = .ok (.aload_n 0, 1) := by decide +kernel
theorem dMD_count_5 : decode cMD_count 5 = .ok (.getfield 106, 3) := by decide +kernel
theorem dMD_count_8 : decode cMD_count 8 = .ok (.ireturn, 1) := by decide +kernel
theorem dMD_count_9 : decode cMD_count 9 = .ok (.iload_n 1, 1) := by decide +kernel
theorem dMD_count_10 : decode cMD_count 10 = .ok (.iconst 1, 1) := by decide +kernel
theorem dMD_count_11 : decode cMD_count 11 = .ok (.if_icmp .ne 8, 3) := by decide +kernel
theorem dMD_count_14 : decode cMD_count 14 = .ok (.aload_n 0, 1) := by decide +kernel
theorem dMD_count_15 : decode cMD_count 15 = .ok (.getfield 119, 3) := by decide +kernel
theorem dMD_count_18 : decode cMD_count 18 = .ok (.ireturn, 1) := by decide +kernel
theorem dMD_count_19 : decode cMD_count 19 = .ok (.iload_n 1, 1) := by decide +kernel
theorem dMD_count_20 : decode cMD_count 20 = .ok (.iconst 2, 1) := by decide +kernel
theorem dMD_count_21 : decode cMD_count 21 = .ok (.if_icmp .lt 8, 3) := by decide +kernel
theorem dMD_count_24 : decode cMD_count 24 = .ok (.iload_n 1, 1) := by decide +kernel
theorem dMD_count_25 : decode cMD_count 25 = .ok (.iconst 4, 1) := by decide +kernel
theorem dMD_count_26 : decode cMD_count 26 = .ok (.if_icmp .le 7, 3) := by decide +kernel
theorem dMD_count_29 : decode cMD_count 29 = .ok (.iconst (-1), 1) := by decide +kernel
theorem dMD_count_30 : decode cMD_count 30 = .ok (.goto 11, 3) := by decide +kernel
theorem dMD_count_33 : decode cMD_count 33 = .ok (.aload_n 0, 1) := by decide +kernel
theorem dMD_count_34 : decode cMD_count 34 = .ok (.getfield 23, 3) := by decide +kernel
theorem dMD_count_37 : decode cMD_count 37 = .ok (.iload_n 1, 1) := by decide +kernel
theorem dMD_count_38 : decode cMD_count 38 = .ok (.iconst 2, 1) := by decide +kernel
theorem dMD_count_39 : decode cMD_count 39 = .ok (.isub, 1) := by decide +kernel
theorem dMD_count_40 : decode cMD_count 40 = .ok (.iaload, 1) := by decide +kernel
theorem dMD_count_41 : decode cMD_count 41 = .ok (.ireturn, 1) := by decide +kernel
