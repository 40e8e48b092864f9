theorem dDV_init_0 : decode cDV_init 0 = .ok (.aload_n 0, 1) := by decide +kernel
theorem dDV_init_1 : decode cDV_init 1 = .ok (.invokespecial 3, 3) := by decide +kernel
theorem dDV_init_4 : decode cDV_init 4 = .ok (.aload_n 0, 1) := by decide +kernel
theorem dDV_init_5 : decode cDV_init 5 = .ok (.invokestatic 9, 3) := by decide +kernel
theorem dDV_init_8 : decode cDV_init 8 = .ok (.putfield 13, 3) := by decide +kernel
theorem dDV_init_11 : decode cDV_init 11 = .ok (.aload_n 0, 1) := by decide +kernel
theorem dDV_init_12 : decode cDV_init 12 = .ok (.invokestatic 9, 3) := by decide +kernel
theorem dDV_init_15 : decode cDV_init 15 = .ok (.putfield 17, 3) := by decide +kernel
theorem dDV_init_18 : decode cDV_init 18 = .ok (.aload_n 0, 1) := by decide +kernel
theorem dDV_init_19 : decode cDV_init 19 = .ok (.new 20, 3) := by decide +kernel
theorem dDV_init_22 : decode cDV_init 22 = .ok (.dup, 1) := by decide +kernel
theorem dDV_init_23 : decode cDV_init 23 = .ok (.sipush 576, 3) := by decide +kernel
theorem dDV_init_26 : decode cDV_init 26 = .ok (.invokespecial 22, 3) := by decide +kernel
theorem dDV_init_29 : decode cDV_init 29 = .ok (.putfield 25, 3) := by decide +kernel
theorem dDV_init_32 : decode cDV_init 32 = .ok (.aload_n 0, 1) := by decide +kernel
theorem dDV_init_33 : decode cDV_init 33 = .ok (.new 29, 3) := by decide +kernel
theorem dDV_init_36 : decode cDV_init 36 = .ok (.dup, 1) := by decide +kernel
theorem dDV_init_37 : decode cDV_init 37 = .ok (.invokespecial 31, 3) := by decide +kernel
theorem dDV_init_40 : decode cDV_init 40 = .ok (.putfield 32, 3) := by decide +kernel
theorem dDV_init_43 : decode cDV_init 43 = .ok (.aload_n 0, 1) := by decide +kernel
theorem dDV_init_44 : decode cDV_init 44 = .ok (.bipush 10, 2) := by decide +kernel
theorem dDV_init_46 : decode cDV_init 46 = .ok (.anewarray 36, 3) := by decide +kernel
theorem dDV_init_49 : decode cDV_init 49 = .ok (.putfield 38, 3) := by decide +kernel
theorem dDV_init_52 : decode cDV_init 52 = .ok (.aload_n 0, 1) := by decide +kernel
theorem dDV_init_53 : decode cDV_init 53 = .ok (.bipush 10, 2) := by decide +kernel
theorem dDV_init_55 : decode cDV_init 55 = .ok (.newarray .int, 2) := by decide +kernel
theorem dDV_init_57 : decode cDV_init 57 = .ok (.putfield 42, 3) := by decide +kernel
theorem dDV_init_60 : decode cDV_init 60 = .ok (.aload_n 0, 1) := by decide +kernel
theorem dDV_init_61 : decode cDV_init 61 = .ok (.iconst 0, 1) := by decide +kernel
theorem dDV_init_62 : decode cDV_init 62 = .ok (.putfield 46, 3) := by decide +kernel
theorem dDV_init_65 : decode cDV_init 65 = .ok (.return_, 1) := by decide +kernel
theorem dDV_emptySlots_0 : decode cDV_emptySlots 0 = .ok (.bipush 13, 2) := by decide +kernel
theorem dDV_emptySlots_2 : decode cDV_emptySlots 2 = .ok (.anewarray 20, 3) := by decide +kernel
theorem dDV_emptySlots_5 : decode cDV_emptySlots 5 = .ok (.astore_n 0, 1) := by decide +kernel
theorem dDV_emptySlots_6 : decode cDV_emptySlots 6 = .ok (.iconst 0, 1) := by decide +kernel
theorem dDV_emptySlots_7 : decode cDV_emptySlots 7 = .ok (.istore_n 1, 1) := by decide +kernel
theorem dDV_emptySlots_8 : decode cDV_emptySlots 8 = .ok (.iload_n 1, 1) := by decide +kernel
theorem dDV_emptySlots_9 : decode cDV_emptySlots 9 = .ok (.aload_n 0, 1) := by decide +kernel
theorem dDV_emptySlots_10 : decode cDV_emptySlots 10 = .ok (.arraylength, 1) := by decide +kernel
theorem dDV_emptySlots_11 : decode cDV_emptySlots 11 = .ok (.if_icmp .ge 31, 3) := by decide +kernel
theorem dDV_emptySlots_14 : decode cDV_emptySlots 14 = .ok (.aload_n 0, 1) := by decide +kernel
theorem dDV_emptySlots_15 : decode cDV_emptySlots 15 = .ok (.iload_n 1, 1) := by decide +kernel
theorem dDV_emptySlots_16 : decode cDV_emptySlots 16 = .ok (.new 20, 3) := by decide +kernel
theorem dDV_emptySlots_19 : decode cDV_emptySlots 19 = .ok (.dup, 1) := by decide +kernel
theorem dDV_emptySlots_20 : decode cDV_emptySlots 20 = .ok (.iload_n 1, 1) := by decide +kernel
theorem dDV_emptySlots_21 : decode cDV_emptySlots 21 = .ok (.iconst 3, 1) := by decide +kernel
theorem dDV_emptySlots_22 : decode cDV_emptySlots 22 = .ok (.if_icmp .ge 8, 3) := by decide +kernel
theorem dDV_emptySlots_25 : decode cDV_emptySlots 25 = .ok (.bipush 12, 2) := by decide +kernel
theorem dDV_emptySlots_27 : decode cDV_emptySlots 27 = .ok (.goto 5, 3) := by decide +kernel
theorem dDV_emptySlots_30 : decode cDV_emptySlots 30 = .ok (.bipush 24, 2) := by decide +kernel
theorem dDV_emptySlots_32 : decode cDV_emptySlots 32 = .ok (.invokespecial 22, 3) := by decide +kernel
theorem dDV_emptySlots_35 : decode cDV_emptySlots 35 = .ok (.aastore, 1) := by decide +kernel
theorem dDV_emptySlots_36 : decode cDV_emptySlots 36 = .ok (.iinc 1 1, 3) := by decide +kernel
theorem dDV_emptySlots_39 : decode cDV_emptySlots 39 = .ok (.goto (-31), 3) := by decide +kernel
theorem dDV_emptySlots_42 : decode cDV_emptySlots 42 = .ok (.aload_n 0, 1) := by decide +kernel
theorem dDV_emptySlots_43 : decode cDV_emptySlots 43 = .ok (.areturn, 1) := by decide +kernel
theorem dDV_table_0 : decode cDV_table 0 = .ok (.iload_n 1, 1) := by decide +kernel
theorem dDV_table_1 : decode cDV_table 1 = .ok (.invokestatic 50, 3) := by decide +kernel
theorem dDV_table_4 : decode cDV_table 4 = .ok (.ifCond .ne 5, 3) := by decide +kernel
theorem dDV_table_7 : decode cDV_table 7 = .ok (.iconst (-1), 1) := by decide +kernel
theorem dDV_table_8 : decode cDV_table 8 = .ok (.ireturn, 1) := by decide +kernel
theorem dDV_table_9 : decode cDV_table 9 = .ok (.aload_n 0, 1) := by decide +kernel
theorem dDV_table_10 : decode cDV_table 10 = .ok (.new 54, 3) := by decide +kernel
theorem dDV_table_13 : decode cDV_table 13 = .ok (.dup, 1) := by decide +kernel
theorem dDV_table_14 : decode cDV_table 14 = .ok (.iload_n 1, 1) := by decide +kernel
theorem dDV_table_15 : decode cDV_table 15 = .ok (.invokespecial 56, 3) := by decide +kernel
theorem dDV_table_18 : decode cDV_table 18 = .ok (.invokevirtual 57, 3) := by decide +kernel
theorem dDV_table_21 : decode cDV_table 21 = .ok (.ireturn, 1) := by decide +kernel
theorem dDV_isTable_0 : decode cDV_isTable 0 = .ok (.iload_n 0, 1) := by decide +kernel
theorem dDV_isTable_1 : decode cDV_isTable 1 = .ok (.iconst 3, 1) := by decide +kernel
theorem dDV_isTable_2 : decode cDV_isTable 2 = .ok (.invokestatic 67, 3) := by decide +kernel
theorem dDV_isTable_5 : decode cDV_isTable 5 = .ok (.ireturn, 1) := by decide +kernel
theorem dDV_isBelow_0 : decode cDV_isBelow 0 = .ok (.iload_n 0, 1) := by decide +kernel
theorem dDV_isBelow_1 : decode cDV_isBelow 1 = .ok (.ifCond .lt 12, 3) := by decide +kernel
theorem dDV_isBelow_4 : decode cDV_isBelow 4 = .ok (.iload_n 0, 1) := by decide +kernel
theorem dDV_isBelow_5 : decode cDV_isBelow 5 = .ok (.iload_n 1, 1) := by decide +kernel
theorem dDV_isBelow_6 : decode cDV_isBelow 6 = .ok (.if_icmp .ge 7, 3) := by decide +kernel
theorem dDV_isBelow_9 : decode cDV_isBelow 9 = .ok (.iconst 1, 1) := by decide +kernel
theorem dDV_isBelow_10 : decode cDV_isBelow 10 = .ok (.goto 4, 3) := by decide +kernel
theorem dDV_isBelow_13 : decode cDV_isBelow 13 = .ok (.iconst 0, 1) := by decide +kernel
theorem dDV_isBelow_14 : decode cDV_isBelow 14 = .ok (.ireturn, 1) := by decide +kernel
theorem dDV_make_0 : decode cDV_make 0 = .ok (.aload_n 0, 1) := by decide +kernel
theorem dDV_make_1 : decode cDV_make 1 = .ok (.getfield 46, 3) := by decide +kernel
theorem dDV_make_4 : decode cDV_make 4 = .ok (.bipush 10, 2) := by decide +kernel
theorem dDV_make_6 : decode cDV_make 6 = .ok (.if_icmp .ge 19, 3) := by decide +kernel
theorem dDV_make_9 : decode cDV_make 9 = .ok (.aload_n 0, 1) := by decide +kernel
theorem dDV_make_10 : decode cDV_make 10 = .ok (.aload_n 1, 1) := by decide +kernel
theorem dDV_make_11 : decode cDV_make 11 = .ok (.aload_n 0, 1) := by decide +kernel
theorem dDV_make_12 : decode cDV_make 12 = .ok (.getfield 13, 3) := by decide +kernel
theorem dDV_make_15 : decode cDV_make 15 = .ok (.aload_n 0, 1) := by decide +kernel
theorem dDV_make_16 : decode cDV_make 16 = .ok (.getfield 46, 3) := by decide +kernel
theorem dDV_make_19 : decode cDV_make 19 = .ok (.invokevirtual 113, 3) := by decide +kernel
theorem dDV_make_22 : decode cDV_make 22 = .ok (.ifCond .ne 6, 3) := by decide +kernel
theorem dDV_make_25 : decode cDV_make 25 = .ok (.bipush (-2), 2) := by decide +kernel
theorem dDV_make_27 : decode cDV_make 27 = .ok (.ireturn, 1) := by decide +kernel
theorem dDV_make_28 : decode cDV_make 28 = .ok (.aload_n 0, 1) := by decide +kernel
theorem dDV_make_29 : decode cDV_make 29 = .ok (.getfield 46, 3) := by decide +kernel
theorem dDV_make_32 : decode cDV_make 32 = .ok (.istore_n 2, 1) := by decide +kernel
theorem dDV_make_33 : decode cDV_make 33 = .ok (.aload_n 0, 1) := by decide +kernel
theorem dDV_make_34 : decode cDV_make 34 = .ok (.getfield 38, 3) := by decide +kernel
theorem dDV_make_37 : decode cDV_make 37 = .ok (.iload_n 2, 1) := by decide +kernel
theorem dDV_make_38 : decode cDV_make 38 = .ok (.aload_n 1, 1) := by decide +kernel
theorem dDV_make_39 : decode cDV_make 39 = .ok (.aastore, 1) := by decide +kernel
theorem dDV_make_40 : decode cDV_make 40 = .ok (.aload_n 0, 1) := by decide +kernel
theorem dDV_make_41 : decode cDV_make 41 = .ok (.getfield 42, 3) := by decide +kernel
theorem dDV_make_44 : decode cDV_make 44 = .ok (.iload_n 2, 1) := by decide +kernel
theorem dDV_make_45 : decode cDV_make 45 = .ok (.iconst 0, 1) := by decide +kernel
theorem dDV_make_46 : decode cDV_make 46 = .ok (.iastore, 1) := by decide +kernel
theorem dDV_make_47 : decode cDV_make 47 = .ok (.aload_n 0, 1) := by decide +kernel
theorem dDV_make_48 : decode cDV_make 48 = .ok (.dup, 1) := by decide +kernel
theorem dDV_make_49 : decode cDV_make 49 = .ok (.getfield 46, 3) := by decide +kernel
theorem dDV_make_52 : decode cDV_make 52 = .ok (.iconst 1, 1) := by decide +kernel
theorem dDV_make_53 : decode cDV_make 53 = .ok (.iadd, 1) := by decide +kernel
theorem dDV_make_54 : decode cDV_make 54 = .ok (.putfield 46, 3) := by decide +kernel
theorem dDV_make_57 : decode cDV_make 57 = .ok (.iload_n 2, 1) := by decide +kernel
theorem dDV_make_58 : decode cDV_make 58 = .ok (.ireturn, 1) := by decide +kernel
theorem dDV_fillNode_0 : decode cDV_fillNode 0 = .ok (.aload_n 0, 1) := by decide +kernel
theorem dDV_fillNode_1 : decode cDV_fillNode 1 = .ok (.getfield 25, 3) := by decide +kernel
theorem dDV_fillNode_4 : decode cDV_fillNode 4 = .ok (.invokevirtual 147, 3) := by decide +kernel
theorem dDV_fillNode_7 : decode cDV_fillNode 7 = .ok (.aload_n 1, 1) := by decide +kernel
theorem dDV_fillNode_8 : decode cDV_fillNode 8 = .ok (.aload_n 2, 1) := by decide +kernel
theorem dDV_fillNode_9 : decode cDV_fillNode 9 = .ok (.aload_n 0, 1) := by decide +kernel
theorem dDV_fillNode_10 : decode cDV_fillNode 10 = .ok (.getfield 25, 3) := by decide +kernel
theorem dDV_fillNode_13 : decode cDV_fillNode 13 = .ok (.invokeinterface 148 3, 5) := by decide +kernel
theorem dDV_fillNode_18 : decode cDV_fillNode 18 = .ok (.aload_n 0, 1) := by decide +kernel
theorem dDV_fillNode_19 : decode cDV_fillNode 19 = .ok (.aload_n 2, 1) := by decide +kernel
theorem dDV_fillNode_20 : decode cDV_fillNode 20 = .ok (.iload_n 3, 1) := by decide +kernel
theorem dDV_fillNode_21 : decode cDV_fillNode 21 = .ok (.invokestatic 73, 3) := by decide +kernel
theorem dDV_fillNode_24 : decode cDV_fillNode 24 = .ok (.aaload, 1) := by decide +kernel
theorem dDV_fillNode_25 : decode cDV_fillNode 25 = .ok (.invokevirtual 152, 3) := by decide +kernel
theorem dDV_fillNode_28 : decode cDV_fillNode 28 = .ok (.ireturn, 1) := by decide +kernel
theorem dDV_slotOf_0 : decode cDV_slotOf 0 = .ok (.iconst 3, 1) := by decide +kernel
theorem dDV_slotOf_1 : decode cDV_slotOf 1 = .ok (.iload_n 0, 1) := by decide +kernel
theorem dDV_slotOf_2 : decode cDV_slotOf 2 = .ok (.iadd, 1) := by decide +kernel
theorem dDV_slotOf_3 : decode cDV_slotOf 3 = .ok (.ireturn, 1) := by decide +kernel
theorem dDV_settleWork_0 : decode cDV_settleWork 0 = .ok (.aload_n 0, 1) := by decide +kernel
theorem dDV_settleWork_1 : decode cDV_settleWork 1 = .ok (.getfield 25, 3) := by decide +kernel
theorem dDV_settleWork_4 : decode cDV_settleWork 4 = .ok (.invokevirtual 156, 3) := by decide +kernel
theorem dDV_settleWork_7 : decode cDV_settleWork 7 = .ok (.aload_n 1, 1) := by decide +kernel
theorem dDV_settleWork_8 : decode cDV_settleWork 8 = .ok (.aload_n 0, 1) := by decide +kernel
theorem dDV_settleWork_9 : decode cDV_settleWork 9 = .ok (.getfield 25, 3) := by decide +kernel
theorem dDV_settleWork_12 : decode cDV_settleWork 12 = .ok (.invokevirtual 159, 3) := by decide +kernel
theorem dDV_settleWork_15 : decode cDV_settleWork 15 = .ok (.ifCond .ne 5, 3) := by decide +kernel
theorem dDV_settleWork_18 : decode cDV_settleWork 18 = .ok (.iconst 0, 1) := by decide +kernel
theorem dDV_settleWork_19 : decode cDV_settleWork 19 = .ok (.ireturn, 1) := by decide +kernel
theorem dDV_settleWork_20 : decode cDV_settleWork 20 = .ok (.aload_n 1, 1) := by decide +kernel
theorem dDV_settleWork_21 : decode cDV_settleWork 21 = .ok (.aload_n 0, 1) := by decide +kernel
theorem dDV_settleWork_22 : decode cDV_settleWork 22 = .ok (.getfield 25, 3) := by decide +kernel
theorem dDV_settleWork_25 : decode cDV_settleWork 25 = .ok (.invokevirtual 162, 3) := by decide +kernel
theorem dDV_settleWork_28 : decode cDV_settleWork 28 = .ok (.iconst 1, 1) := by decide +kernel
theorem dDV_settleWork_29 : decode cDV_settleWork 29 = .ok (.ireturn, 1) := by decide +kernel
theorem dDV_filter_0 : decode cDV_filter 0 = .ok (.aload_n 0, 1) := by decide +kernel
theorem dDV_filter_1 : decode cDV_filter 1 = .ok (.iload_n 1, 1) := by decide +kernel
theorem dDV_filter_2 : decode cDV_filter 2 = .ok (.invokevirtual 61, 3) := by decide +kernel
theorem dDV_filter_5 : decode cDV_filter 5 = .ok (.ifCond .eq 18, 3) := by decide +kernel
theorem dDV_filter_8 : decode cDV_filter 8 = .ok (.iload_n 2, 1) := by decide +kernel
theorem dDV_filter_9 : decode cDV_filter 9 = .ok (.invokestatic 64, 3) := by decide +kernel
theorem dDV_filter_12 : decode cDV_filter 12 = .ok (.ifCond .eq 11, 3) := by decide +kernel
theorem dDV_filter_15 : decode cDV_filter 15 = .ok (.iload_n 3, 1) := by decide +kernel
theorem dDV_filter_16 : decode cDV_filter 16 = .ok (.iconst 4, 1) := by decide +kernel
theorem dDV_filter_17 : decode cDV_filter 17 = .ok (.invokestatic 67, 3) := by decide +kernel
theorem dDV_filter_20 : decode cDV_filter 20 = .ok (.ifCond .ne 5, 3) := by decide +kernel
theorem dDV_filter_23 : decode cDV_filter 23 = .ok (.iconst (-1), 1) := by decide +kernel
theorem dDV_filter_24 : decode cDV_filter 24 = .ok (.ireturn, 1) := by decide +kernel
theorem dDV_filter_25 : decode cDV_filter 25 = .ok (.aload_n 0, 1) := by decide +kernel
theorem dDV_filter_26 : decode cDV_filter 26 = .ok (.new 71, 3) := by decide +kernel
theorem dDV_filter_29 : decode cDV_filter 29 = .ok (.dup, 1) := by decide +kernel
theorem dDV_filter_30 : decode cDV_filter 30 = .ok (.iload_n 1, 1) := by decide +kernel
theorem dDV_filter_31 : decode cDV_filter 31 = .ok (.invokestatic 73, 3) := by decide +kernel
theorem dDV_filter_34 : decode cDV_filter 34 = .ok (.iload_n 2, 1) := by decide +kernel
theorem dDV_filter_35 : decode cDV_filter 35 = .ok (.iload_n 3, 1) := by decide +kernel
theorem dDV_filter_36 : decode cDV_filter 36 = .ok (.iload 4, 2) := by decide +kernel
theorem dDV_filter_38 : decode cDV_filter 38 = .ok (.invokespecial 77, 3) := by decide +kernel
theorem dDV_filter_41 : decode cDV_filter 41 = .ok (.invokevirtual 57, 3) := by decide +kernel
theorem dDV_filter_44 : decode cDV_filter 44 = .ok (.ireturn, 1) := by decide +kernel
theorem dDV_isNode_0 : decode cDV_isNode 0 = .ok (.iload_n 1, 1) := by decide +kernel
theorem dDV_isNode_1 : decode cDV_isNode 1 = .ok (.aload_n 0, 1) := by decide +kernel
theorem dDV_isNode_2 : decode cDV_isNode 2 = .ok (.getfield 46, 3) := by decide +kernel
theorem dDV_isNode_5 : decode cDV_isNode 5 = .ok (.invokestatic 67, 3) := by decide +kernel
theorem dDV_isNode_8 : decode cDV_isNode 8 = .ok (.ireturn, 1) := by decide +kernel
theorem dDV_isColumn_0 : decode cDV_isColumn 0 = .ok (.iload_n 0, 1) := by decide +kernel
theorem dDV_isColumn_1 : decode cDV_isColumn 1 = .ok (.iconst 3, 1) := by decide +kernel
theorem dDV_isColumn_2 : decode cDV_isColumn 2 = .ok (.invokestatic 67, 3) := by decide +kernel
theorem dDV_isColumn_5 : decode cDV_isColumn 5 = .ok (.ireturn, 1) := by decide +kernel
theorem dDV_map_0 : decode cDV_map 0 = .ok (.aload_n 0, 1) := by decide +kernel
theorem dDV_map_1 : decode cDV_map 1 = .ok (.iload_n 1, 1) := by decide +kernel
theorem dDV_map_2 : decode cDV_map 2 = .ok (.invokevirtual 61, 3) := by decide +kernel
theorem dDV_map_5 : decode cDV_map 5 = .ok (.ifCond .eq 31, 3) := by decide +kernel
theorem dDV_map_8 : decode cDV_map 8 = .ok (.iload_n 2, 1) := by decide +kernel
theorem dDV_map_9 : decode cDV_map 9 = .ok (.bipush 6, 2) := by decide +kernel
theorem dDV_map_11 : decode cDV_map 11 = .ok (.invokestatic 67, 3) := by decide +kernel
theorem dDV_map_14 : decode cDV_map 14 = .ok (.ifCond .eq 22, 3) := by decide +kernel
theorem dDV_map_17 : decode cDV_map 17 = .ok (.iload_n 3, 1) := by decide +kernel
theorem dDV_map_18 : decode cDV_map 18 = .ok (.bipush 6, 2) := by decide +kernel
theorem dDV_map_20 : decode cDV_map 20 = .ok (.invokestatic 67, 3) := by decide +kernel
theorem dDV_map_23 : decode cDV_map 23 = .ok (.ifCond .eq 13, 3) := by decide +kernel
theorem dDV_map_26 : decode cDV_map 26 = .ok (.iload 4, 2) := by decide +kernel
theorem dDV_map_28 : decode cDV_map 28 = .ok (.bipush 6, 2) := by decide +kernel
theorem dDV_map_30 : decode cDV_map 30 = .ok (.invokestatic 67, 3) := by decide +kernel
theorem dDV_map_33 : decode cDV_map 33 = .ok (.ifCond .ne 5, 3) := by decide +kernel
theorem dDV_map_36 : decode cDV_map 36 = .ok (.iconst (-1), 1) := by decide +kernel
theorem dDV_map_37 : decode cDV_map 37 = .ok (.ireturn, 1) := by decide +kernel
theorem dDV_map_38 : decode cDV_map 38 = .ok (.aload_n 0, 1) := by decide +kernel
theorem dDV_map_39 : decode cDV_map 39 = .ok (.new 80, 3) := by decide +kernel
theorem dDV_map_42 : decode cDV_map 42 = .ok (.dup, 1) := by decide +kernel
theorem dDV_map_43 : decode cDV_map 43 = .ok (.iload_n 1, 1) := by decide +kernel
theorem dDV_map_44 : decode cDV_map 44 = .ok (.invokestatic 73, 3) := by decide +kernel
theorem dDV_map_47 : decode cDV_map 47 = .ok (.iload_n 2, 1) := by decide +kernel
theorem dDV_map_48 : decode cDV_map 48 = .ok (.iload_n 3, 1) := by decide +kernel
theorem dDV_map_49 : decode cDV_map 49 = .ok (.iload 4, 2) := by decide +kernel
theorem dDV_map_51 : decode cDV_map 51 = .ok (.invokespecial 82, 3) := by decide +kernel
theorem dDV_map_54 : decode cDV_map 54 = .ok (.invokevirtual 57, 3) := by decide +kernel
theorem dDV_map_57 : decode cDV_map 57 = .ok (.ireturn, 1) := by decide +kernel
theorem dDV_join_0 : decode cDV_join 0 = .ok (.aload_n 0, 1) := by decide +kernel
theorem dDV_join_1 : decode cDV_join 1 = .ok (.iload_n 1, 1) := by decide +kernel
theorem dDV_join_2 : decode cDV_join 2 = .ok (.invokevirtual 61, 3) := by decide +kernel
theorem dDV_join_5 : decode cDV_join 5 = .ok (.ifCond .eq 37, 3) := by decide +kernel
theorem dDV_join_8 : decode cDV_join 8 = .ok (.aload_n 0, 1) := by decide +kernel
theorem dDV_join_9 : decode cDV_join 9 = .ok (.iload_n 2, 1) := by decide +kernel
theorem dDV_join_10 : decode cDV_join 10 = .ok (.invokevirtual 61, 3) := by decide +kernel
theorem dDV_join_13 : decode cDV_join 13 = .ok (.ifCond .eq 29, 3) := by decide +kernel
theorem dDV_join_16 : decode cDV_join 16 = .ok (.iload_n 3, 1) := by decide +kernel
theorem dDV_join_17 : decode cDV_join 17 = .ok (.invokestatic 64, 3) := by decide +kernel
theorem dDV_join_20 : decode cDV_join 20 = .ok (.ifCond .eq 22, 3) := by decide +kernel
theorem dDV_join_23 : decode cDV_join 23 = .ok (.iload 4, 2) := by decide +kernel
theorem dDV_join_25 : decode cDV_join 25 = .ok (.invokestatic 64, 3) := by decide +kernel
theorem dDV_join_28 : decode cDV_join 28 = .ok (.ifCond .eq 14, 3) := by decide +kernel
theorem dDV_join_31 : decode cDV_join 31 = .ok (.iload 5, 2) := by decide +kernel
theorem dDV_join_33 : decode cDV_join 33 = .ok (.sipush 216, 3) := by decide +kernel
theorem dDV_join_36 : decode cDV_join 36 = .ok (.invokestatic 67, 3) := by decide +kernel
theorem dDV_join_39 : decode cDV_join 39 = .ok (.ifCond .ne 5, 3) := by decide +kernel
theorem dDV_join_42 : decode cDV_join 42 = .ok (.iconst (-1), 1) := by decide +kernel
theorem dDV_join_43 : decode cDV_join 43 = .ok (.ireturn, 1) := by decide +kernel
theorem dDV_join_44 : decode cDV_join 44 = .ok (.aload_n 0, 1) := by decide +kernel
theorem dDV_join_45 : decode cDV_join 45 = .ok (.new 83, 3) := by decide +kernel
theorem dDV_join_48 : decode cDV_join 48 = .ok (.dup, 1) := by decide +kernel
theorem dDV_join_49 : decode cDV_join 49 = .ok (.iload_n 1, 1) := by decide +kernel
theorem dDV_join_50 : decode cDV_join 50 = .ok (.invokestatic 73, 3) := by decide +kernel
theorem dDV_join_53 : decode cDV_join 53 = .ok (.iload_n 2, 1) := by decide +kernel
theorem dDV_join_54 : decode cDV_join 54 = .ok (.invokestatic 73, 3) := by decide +kernel
theorem dDV_join_57 : decode cDV_join 57 = .ok (.iload_n 3, 1) := by decide +kernel
theorem dDV_join_58 : decode cDV_join 58 = .ok (.iload 4, 2) := by decide +kernel
theorem dDV_join_60 : decode cDV_join 60 = .ok (.iload 5, 2) := by decide +kernel
theorem dDV_join_62 : decode cDV_join 62 = .ok (.invokespecial 85, 3) := by decide +kernel
theorem dDV_join_65 : decode cDV_join 65 = .ok (.invokevirtual 57, 3) := by decide +kernel
theorem dDV_join_68 : decode cDV_join 68 = .ok (.ireturn, 1) := by decide +kernel
theorem dDV_combine_0 : decode cDV_combine 0 = .ok (.aload_n 0, 1) := by decide +kernel
theorem dDV_combine_1 : decode cDV_combine 1 = .ok (.iload_n 1, 1) := by decide +kernel
theorem dDV_combine_2 : decode cDV_combine 2 = .ok (.invokevirtual 61, 3) := by decide +kernel
theorem dDV_combine_5 : decode cDV_combine 5 = .ok (.ifCond .eq 19, 3) := by decide +kernel
theorem dDV_combine_8 : decode cDV_combine 8 = .ok (.aload_n 0, 1) := by decide +kernel
theorem dDV_combine_9 : decode cDV_combine 9 = .ok (.iload_n 2, 1) := by decide +kernel
theorem dDV_combine_10 : decode cDV_combine 10 = .ok (.invokevirtual 61, 3) := by decide +kernel
theorem dDV_combine_13 : decode cDV_combine 13 = .ok (.ifCond .eq 11, 3) := by decide +kernel
theorem dDV_combine_16 : decode cDV_combine 16 = .ok (.iload_n 3, 1) := by decide +kernel
theorem dDV_combine_17 : decode cDV_combine 17 = .ok (.iconst 2, 1) := by decide +kernel
theorem dDV_combine_18 : decode cDV_combine 18 = .ok (.invokestatic 67, 3) := by decide +kernel
theorem dDV_combine_21 : decode cDV_combine 21 = .ok (.ifCond .ne 5, 3) := by decide +kernel
theorem dDV_combine_24 : decode cDV_combine 24 = .ok (.iconst (-1), 1) := by decide +kernel
theorem dDV_combine_25 : decode cDV_combine 25 = .ok (.ireturn, 1) := by decide +kernel
theorem dDV_combine_26 : decode cDV_combine 26 = .ok (.aload_n 0, 1) := by decide +kernel
theorem dDV_combine_27 : decode cDV_combine 27 = .ok (.new 88, 3) := by decide +kernel
theorem dDV_combine_30 : decode cDV_combine 30 = .ok (.dup, 1) := by decide +kernel
theorem dDV_combine_31 : decode cDV_combine 31 = .ok (.iload_n 1, 1) := by decide +kernel
theorem dDV_combine_32 : decode cDV_combine 32 = .ok (.invokestatic 73, 3) := by decide +kernel
theorem dDV_combine_35 : decode cDV_combine 35 = .ok (.iload_n 2, 1) := by decide +kernel
theorem dDV_combine_36 : decode cDV_combine 36 = .ok (.invokestatic 73, 3) := by decide +kernel
theorem dDV_combine_39 : decode cDV_combine 39 = .ok (.iload_n 3, 1) := by decide +kernel
theorem dDV_combine_40 : decode cDV_combine 40 = .ok (.invokespecial 90, 3) := by decide +kernel
theorem dDV_combine_43 : decode cDV_combine 43 = .ok (.invokevirtual 57, 3) := by decide +kernel
theorem dDV_combine_46 : decode cDV_combine 46 = .ok (.ireturn, 1) := by decide +kernel
theorem dDV_distinct_0 : decode cDV_distinct 0 = .ok (.aload_n 0, 1) := by decide +kernel
theorem dDV_distinct_1 : decode cDV_distinct 1 = .ok (.iload_n 1, 1) := by decide +kernel
theorem dDV_distinct_2 : decode cDV_distinct 2 = .ok (.invokevirtual 61, 3) := by decide +kernel
theorem dDV_distinct_5 : decode cDV_distinct 5 = .ok (.ifCond .ne 5, 3) := by decide +kernel
theorem dDV_distinct_8 : decode cDV_distinct 8 = .ok (.iconst (-1), 1) := by decide +kernel
theorem dDV_distinct_9 : decode cDV_distinct 9 = .ok (.ireturn, 1) := by decide +kernel
theorem dDV_distinct_10 : decode cDV_distinct 10 = .ok (.aload_n 0, 1) := by decide +kernel
theorem dDV_distinct_11 : decode cDV_distinct 11 = .ok (.new 93, 3) := by decide +kernel
theorem dDV_distinct_14 : decode cDV_distinct 14 = .ok (.dup, 1) := by decide +kernel
theorem dDV_distinct_15 : decode cDV_distinct 15 = .ok (.iload_n 1, 1) := by decide +kernel
theorem dDV_distinct_16 : decode cDV_distinct 16 = .ok (.invokestatic 73, 3) := by decide +kernel
theorem dDV_distinct_19 : decode cDV_distinct 19 = .ok (.invokespecial 95, 3) := by decide +kernel
theorem dDV_distinct_22 : decode cDV_distinct 22 = .ok (.invokevirtual 57, 3) := by decide +kernel
theorem dDV_distinct_25 : decode cDV_distinct 25 = .ok (.ireturn, 1) := by decide +kernel
theorem dDV_group_0 : decode cDV_group 0 = .ok (.aload_n 0, 1) := by decide +kernel
theorem dDV_group_1 : decode cDV_group 1 = .ok (.iload_n 1, 1) := by decide +kernel
theorem dDV_group_2 : decode cDV_group 2 = .ok (.invokevirtual 61, 3) := by decide +kernel
theorem dDV_group_5 : decode cDV_group 5 = .ok (.ifCond .eq 26, 3) := by decide +kernel
theorem dDV_group_8 : decode cDV_group 8 = .ok (.iload_n 2, 1) := by decide +kernel
theorem dDV_group_9 : decode cDV_group 9 = .ok (.invokestatic 64, 3) := by decide +kernel
theorem dDV_group_12 : decode cDV_group 12 = .ok (.ifCond .eq 19, 3) := by decide +kernel
theorem dDV_group_15 : decode cDV_group 15 = .ok (.iload_n 3, 1) := by decide +kernel
theorem dDV_group_16 : decode cDV_group 16 = .ok (.invokestatic 64, 3) := by decide +kernel
theorem dDV_group_19 : decode cDV_group 19 = .ok (.ifCond .eq 12, 3) := by decide +kernel
theorem dDV_group_22 : decode cDV_group 22 = .ok (.iload 4, 2) := by decide +kernel
theorem dDV_group_24 : decode cDV_group 24 = .ok (.iconst 4, 1) := by decide +kernel
theorem dDV_group_25 : decode cDV_group 25 = .ok (.invokestatic 67, 3) := by decide +kernel
theorem dDV_group_28 : decode cDV_group 28 = .ok (.ifCond .ne 5, 3) := by decide +kernel
theorem dDV_group_31 : decode cDV_group 31 = .ok (.iconst (-1), 1) := by decide +kernel
theorem dDV_group_32 : decode cDV_group 32 = .ok (.ireturn, 1) := by decide +kernel
theorem dDV_group_33 : decode cDV_group 33 = .ok (.aload_n 0, 1) := by decide +kernel
theorem dDV_group_34 : decode cDV_group 34 = .ok (.new 96, 3) := by decide +kernel
theorem dDV_group_37 : decode cDV_group 37 = .ok (.dup, 1) := by decide +kernel
theorem dDV_group_38 : decode cDV_group 38 = .ok (.iload_n 1, 1) := by decide +kernel
theorem dDV_group_39 : decode cDV_group 39 = .ok (.invokestatic 73, 3) := by decide +kernel
theorem dDV_group_42 : decode cDV_group 42 = .ok (.iload_n 2, 1) := by decide +kernel
theorem dDV_group_43 : decode cDV_group 43 = .ok (.iload_n 3, 1) := by decide +kernel
theorem dDV_group_44 : decode cDV_group 44 = .ok (.iload 4, 2) := by decide +kernel
theorem dDV_group_46 : decode cDV_group 46 = .ok (.invokespecial 98, 3) := by decide +kernel
theorem dDV_group_49 : decode cDV_group 49 = .ok (.invokevirtual 57, 3) := by decide +kernel
theorem dDV_group_52 : decode cDV_group 52 = .ok (.ireturn, 1) := by decide +kernel
theorem dDV_change_0 : decode cDV_change 0 = .ok (.iload_n 1, 1) := by decide +kernel
theorem dDV_change_1 : decode cDV_change 1 = .ok (.invokestatic 50, 3) := by decide +kernel
theorem dDV_change_4 : decode cDV_change 4 = .ok (.ifCond .eq 21, 3) := by decide +kernel
theorem dDV_change_7 : decode cDV_change 7 = .ok (.iload 5, 2) := by decide +kernel
theorem dDV_change_9 : decode cDV_change 9 = .ok (.bipush (-3), 2) := by decide +kernel
theorem dDV_change_11 : decode cDV_change 11 = .ok (.if_icmp .lt 14, 3) := by decide +kernel
theorem dDV_change_14 : decode cDV_change 14 = .ok (.iload 5, 2) := by decide +kernel
theorem dDV_change_16 : decode cDV_change 16 = .ok (.iconst 3, 1) := by decide +kernel
theorem dDV_change_17 : decode cDV_change 17 = .ok (.if_icmp .gt 8, 3) := by decide +kernel
theorem dDV_change_20 : decode cDV_change 20 = .ok (.iload 5, 2) := by decide +kernel
theorem dDV_change_22 : decode cDV_change 22 = .ok (.ifCond .ne 5, 3) := by decide +kernel
theorem dDV_change_25 : decode cDV_change 25 = .ok (.iconst (-1), 1) := by decide +kernel
theorem dDV_change_26 : decode cDV_change 26 = .ok (.ireturn, 1) := by decide +kernel
theorem dDV_change_27 : decode cDV_change 27 = .ok (.aload_n 0, 1) := by decide +kernel
theorem dDV_change_28 : decode cDV_change 28 = .ok (.getfield 32, 3) := by decide +kernel
theorem dDV_change_31 : decode cDV_change 31 = .ok (.invokevirtual 99, 3) := by decide +kernel
theorem dDV_change_34 : decode cDV_change 34 = .ok (.bipush 12, 2) := by decide +kernel
theorem dDV_change_36 : decode cDV_change 36 = .ok (.if_icmp .lt 6, 3) := by decide +kernel
theorem dDV_change_39 : decode cDV_change 39 = .ok (.bipush (-2), 2) := by decide +kernel
theorem dDV_change_41 : decode cDV_change 41 = .ok (.ireturn, 1) := by decide +kernel
theorem dDV_change_42 : decode cDV_change 42 = .ok (.aload_n 0, 1) := by decide +kernel
theorem dDV_change_43 : decode cDV_change 43 = .ok (.getfield 32, 3) := by decide +kernel
theorem dDV_change_46 : decode cDV_change 46 = .ok (.iload_n 1, 1) := by decide +kernel
theorem dDV_change_47 : decode cDV_change 47 = .ok (.iload_n 2, 1) := by decide +kernel
theorem dDV_change_48 : decode cDV_change 48 = .ok (.iload_n 3, 1) := by decide +kernel
theorem dDV_change_49 : decode cDV_change 49 = .ok (.iload 4, 2) := by decide +kernel
theorem dDV_change_51 : decode cDV_change 51 = .ok (.iload 5, 2) := by decide +kernel
theorem dDV_change_53 : decode cDV_change 53 = .ok (.invokevirtual 103, 3) := by decide +kernel
theorem dDV_change_56 : decode cDV_change 56 = .ok (.aload_n 0, 1) := by decide +kernel
theorem dDV_change_57 : decode cDV_change 57 = .ok (.getfield 32, 3) := by decide +kernel
theorem dDV_change_60 : decode cDV_change 60 = .ok (.invokevirtual 99, 3) := by decide +kernel
theorem dDV_change_63 : decode cDV_change 63 = .ok (.ireturn, 1) := by decide +kernel
theorem dDV_step_0 : decode cDV_step 0 = .ok (.aload_n 0, 1) := by decide +kernel
theorem dDV_step_1 : decode cDV_step 1 = .ok (.invokevirtual 106, 3) := by decide +kernel
theorem dDV_step_4 : decode cDV_step 4 = .ok (.ifCond .eq 5, 3) := by decide +kernel
theorem dDV_step_7 : decode cDV_step 7 = .ok (.iconst (-1), 1) := by decide +kernel
theorem dDV_step_8 : decode cDV_step 8 = .ok (.ireturn, 1) := by decide +kernel
theorem dDV_step_9 : decode cDV_step 9 = .ok (.aload_n 0, 1) := by decide +kernel
theorem dDV_step_10 : decode cDV_step 10 = .ok (.invokevirtual 110, 3) := by decide +kernel
theorem dDV_step_13 : decode cDV_step 13 = .ok (.ifCond .ne 6, 3) := by decide +kernel
theorem dDV_step_16 : decode cDV_step 16 = .ok (.bipush (-2), 2) := by decide +kernel
theorem dDV_step_18 : decode cDV_step 18 = .ok (.ireturn, 1) := by decide +kernel
theorem dDV_step_19 : decode cDV_step 19 = .ok (.iconst 0, 1) := by decide +kernel
theorem dDV_step_20 : decode cDV_step 20 = .ok (.istore_n 1, 1) := by decide +kernel
theorem dDV_step_21 : decode cDV_step 21 = .ok (.iload_n 1, 1) := by decide +kernel
theorem dDV_step_22 : decode cDV_step 22 = .ok (.aload_n 0, 1) := by decide +kernel
theorem dDV_step_23 : decode cDV_step 23 = .ok (.getfield 46, 3) := by decide +kernel
theorem dDV_step_26 : decode cDV_step 26 = .ok (.if_icmp .ge 30, 3) := by decide +kernel
theorem dDV_step_29 : decode cDV_step 29 = .ok (.aload_n 0, 1) := by decide +kernel
theorem dDV_step_30 : decode cDV_step 30 = .ok (.aload_n 0, 1) := by decide +kernel
theorem dDV_step_31 : decode cDV_step 31 = .ok (.getfield 38, 3) := by decide +kernel
theorem dDV_step_34 : decode cDV_step 34 = .ok (.iload_n 1, 1) := by decide +kernel
theorem dDV_step_35 : decode cDV_step 35 = .ok (.aaload, 1) := by decide +kernel
theorem dDV_step_36 : decode cDV_step 36 = .ok (.aload_n 0, 1) := by decide +kernel
theorem dDV_step_37 : decode cDV_step 37 = .ok (.getfield 17, 3) := by decide +kernel
theorem dDV_step_40 : decode cDV_step 40 = .ok (.iload_n 1, 1) := by decide +kernel
theorem dDV_step_41 : decode cDV_step 41 = .ok (.invokevirtual 113, 3) := by decide +kernel
theorem dDV_step_44 : decode cDV_step 44 = .ok (.ifCond .ne 6, 3) := by decide +kernel
theorem dDV_step_47 : decode cDV_step 47 = .ok (.bipush (-2), 2) := by decide +kernel
theorem dDV_step_49 : decode cDV_step 49 = .ok (.ireturn, 1) := by decide +kernel
theorem dDV_step_50 : decode cDV_step 50 = .ok (.iinc 1 1, 3) := by decide +kernel
theorem dDV_step_53 : decode cDV_step 53 = .ok (.goto (-32), 3) := by decide +kernel
theorem dDV_step_56 : decode cDV_step 56 = .ok (.aload_n 0, 1) := by decide +kernel
theorem dDV_step_57 : decode cDV_step 57 = .ok (.getfield 13, 3) := by decide +kernel
theorem dDV_step_60 : decode cDV_step 60 = .ok (.astore_n 1, 1) := by decide +kernel
theorem dDV_step_61 : decode cDV_step 61 = .ok (.aload_n 0, 1) := by decide +kernel
theorem dDV_step_62 : decode cDV_step 62 = .ok (.aload_n 0, 1) := by decide +kernel
theorem dDV_step_63 : decode cDV_step 63 = .ok (.getfield 17, 3) := by decide +kernel
theorem dDV_step_66 : decode cDV_step 66 = .ok (.putfield 13, 3) := by decide +kernel
theorem dDV_step_69 : decode cDV_step 69 = .ok (.aload_n 0, 1) := by decide +kernel
theorem dDV_step_70 : decode cDV_step 70 = .ok (.aload_n 1, 1) := by decide +kernel
theorem dDV_step_71 : decode cDV_step 71 = .ok (.putfield 17, 3) := by decide +kernel
theorem dDV_step_74 : decode cDV_step 74 = .ok (.aload_n 0, 1) := by decide +kernel
theorem dDV_step_75 : decode cDV_step 75 = .ok (.getfield 32, 3) := by decide +kernel
theorem dDV_step_78 : decode cDV_step 78 = .ok (.invokevirtual 117, 3) := by decide +kernel
theorem dDV_step_81 : decode cDV_step 81 = .ok (.aload_n 0, 1) := by decide +kernel
theorem dDV_step_82 : decode cDV_step 82 = .ok (.aload_n 1, 1) := by decide +kernel
theorem dDV_step_83 : decode cDV_step 83 = .ok (.invokevirtual 120, 3) := by decide +kernel
theorem dDV_step_86 : decode cDV_step 86 = .ok (.ireturn, 1) := by decide +kernel
theorem dDV_wouldFallBelowZero_0 : decode cDV_wouldFallBelowZero 0 = .ok (.iconst 0, 1) := by decide +kernel
theorem dDV_wouldFallBelowZero_1 : decode cDV_wouldFallBelowZero 1 = .ok (.istore_n 1, 1) := by decide +kernel
theorem dDV_wouldFallBelowZero_2 : decode cDV_wouldFallBelowZero 2 = .ok (.iload_n 1, 1) := by decide +kernel
theorem dDV_wouldFallBelowZero_3 : decode cDV_wouldFallBelowZero 3 = .ok (.iconst 3, 1) := by decide +kernel
theorem dDV_wouldFallBelowZero_4 : decode cDV_wouldFallBelowZero 4 = .ok (.if_icmp .ge 26, 3) := by decide +kernel
theorem dDV_wouldFallBelowZero_7 : decode cDV_wouldFallBelowZero 7 = .ok (.aload_n 0, 1) := by decide +kernel
theorem dDV_wouldFallBelowZero_8 : decode cDV_wouldFallBelowZero 8 = .ok (.iload_n 1, 1) := by decide +kernel
theorem dDV_wouldFallBelowZero_9 : decode cDV_wouldFallBelowZero 9 = .ok (.invokevirtual 170, 3) := by decide +kernel
theorem dDV_wouldFallBelowZero_12 : decode cDV_wouldFallBelowZero 12 = .ok (.aload_n 0, 1) := by decide +kernel
theorem dDV_wouldFallBelowZero_13 : decode cDV_wouldFallBelowZero 13 = .ok (.getfield 25, 3) := by decide +kernel
theorem dDV_wouldFallBelowZero_16 : decode cDV_wouldFallBelowZero 16 = .ok (.invokevirtual 173, 3) := by decide +kernel
theorem dDV_wouldFallBelowZero_19 : decode cDV_wouldFallBelowZero 19 = .ok (.ifCond .eq 5, 3) := by decide +kernel
theorem dDV_wouldFallBelowZero_22 : decode cDV_wouldFallBelowZero 22 = .ok (.iconst 1, 1) := by decide +kernel
theorem dDV_wouldFallBelowZero_23 : decode cDV_wouldFallBelowZero 23 = .ok (.ireturn, 1) := by decide +kernel
theorem dDV_wouldFallBelowZero_24 : decode cDV_wouldFallBelowZero 24 = .ok (.iinc 1 1, 3) := by decide +kernel
theorem dDV_wouldFallBelowZero_27 : decode cDV_wouldFallBelowZero 27 = .ok (.goto (-25), 3) := by decide +kernel
theorem dDV_wouldFallBelowZero_30 : decode cDV_wouldFallBelowZero 30 = .ok (.iconst 0, 1) := by decide +kernel
theorem dDV_wouldFallBelowZero_31 : decode cDV_wouldFallBelowZero 31 = .ok (.ireturn, 1) := by decide +kernel
theorem dDV_gatherTable_0 : decode cDV_gatherTable 0 = .ok (.aload_n 0, 1) := by decide +kernel
theorem dDV_gatherTable_1 : decode cDV_gatherTable 1 = .ok (.getfield 25, 3) := by decide +kernel
theorem dDV_gatherTable_4 : decode cDV_gatherTable 4 = .ok (.aload_n 0, 1) := by decide +kernel
theorem dDV_gatherTable_5 : decode cDV_gatherTable 5 = .ok (.getfield 13, 3) := by decide +kernel
theorem dDV_gatherTable_8 : decode cDV_gatherTable 8 = .ok (.iload_n 1, 1) := by decide +kernel
theorem dDV_gatherTable_9 : decode cDV_gatherTable 9 = .ok (.aaload, 1) := by decide +kernel
theorem dDV_gatherTable_10 : decode cDV_gatherTable 10 = .ok (.invokevirtual 162, 3) := by decide +kernel
theorem dDV_gatherTable_13 : decode cDV_gatherTable 13 = .ok (.aload_n 0, 1) := by decide +kernel
theorem dDV_gatherTable_14 : decode cDV_gatherTable 14 = .ok (.getfield 32, 3) := by decide +kernel
theorem dDV_gatherTable_17 : decode cDV_gatherTable 17 = .ok (.aload_n 0, 1) := by decide +kernel
theorem dDV_gatherTable_18 : decode cDV_gatherTable 18 = .ok (.getfield 25, 3) := by decide +kernel
theorem dDV_gatherTable_21 : decode cDV_gatherTable 21 = .ok (.iload_n 1, 1) := by decide +kernel
theorem dDV_gatherTable_22 : decode cDV_gatherTable 22 = .ok (.invokevirtual 166, 3) := by decide +kernel
theorem dDV_gatherTable_25 : decode cDV_gatherTable 25 = .ok (.return_, 1) := by decide +kernel
theorem dDV_fillNextTables_0 : decode cDV_fillNextTables 0 = .ok (.iconst 0, 1) := by decide +kernel
theorem dDV_fillNextTables_1 : decode cDV_fillNextTables 1 = .ok (.istore_n 1, 1) := by decide +kernel
theorem dDV_fillNextTables_2 : decode cDV_fillNextTables 2 = .ok (.iload_n 1, 1) := by decide +kernel
theorem dDV_fillNextTables_3 : decode cDV_fillNextTables 3 = .ok (.iconst 3, 1) := by decide +kernel
theorem dDV_fillNextTables_4 : decode cDV_fillNextTables 4 = .ok (.if_icmp .ge 29, 3) := by decide +kernel
theorem dDV_fillNextTables_7 : decode cDV_fillNextTables 7 = .ok (.aload_n 0, 1) := by decide +kernel
theorem dDV_fillNextTables_8 : decode cDV_fillNextTables 8 = .ok (.iload_n 1, 1) := by decide +kernel
theorem dDV_fillNextTables_9 : decode cDV_fillNextTables 9 = .ok (.invokevirtual 170, 3) := by decide +kernel
theorem dDV_fillNextTables_12 : decode cDV_fillNextTables 12 = .ok (.aload_n 0, 1) := by decide +kernel
theorem dDV_fillNextTables_13 : decode cDV_fillNextTables 13 = .ok (.aload_n 0, 1) := by decide +kernel
theorem dDV_fillNextTables_14 : decode cDV_fillNextTables 14 = .ok (.getfield 17, 3) := by decide +kernel
theorem dDV_fillNextTables_17 : decode cDV_fillNextTables 17 = .ok (.iload_n 1, 1) := by decide +kernel
theorem dDV_fillNextTables_18 : decode cDV_fillNextTables 18 = .ok (.aaload, 1) := by decide +kernel
theorem dDV_fillNextTables_19 : decode cDV_fillNextTables 19 = .ok (.invokevirtual 152, 3) := by decide +kernel
theorem dDV_fillNextTables_22 : decode cDV_fillNextTables 22 = .ok (.ifCond .ne 5, 3) := by decide +kernel
theorem dDV_fillNextTables_25 : decode cDV_fillNextTables 25 = .ok (.iconst 0, 1) := by decide +kernel
theorem dDV_fillNextTables_26 : decode cDV_fillNextTables 26 = .ok (.ireturn, 1) := by decide +kernel
theorem dDV_fillNextTables_27 : decode cDV_fillNextTables 27 = .ok (.iinc 1 1, 3) := by decide +kernel
theorem dDV_fillNextTables_30 : decode cDV_fillNextTables 30 = .ok (.goto (-28), 3) := by decide +kernel
theorem dDV_fillNextTables_33 : decode cDV_fillNextTables 33 = .ok (.iconst 1, 1) := by decide +kernel
theorem dDV_fillNextTables_34 : decode cDV_fillNextTables 34 = .ok (.ireturn, 1) := by decide +kernel
theorem dDV_noteChangesSince_0 : decode cDV_noteChangesSince 0 = .ok (.iconst 0, 1) := by decide +kernel
theorem dDV_noteChangesSince_1 : decode cDV_noteChangesSince 1 = .ok (.istore_n 2, 1) := by decide +kernel
theorem dDV_noteChangesSince_2 : decode cDV_noteChangesSince 2 = .ok (.iconst 0, 1) := by decide +kernel
theorem dDV_noteChangesSince_3 : decode cDV_noteChangesSince 3 = .ok (.istore_n 3, 1) := by decide +kernel
theorem dDV_noteChangesSince_4 : decode cDV_noteChangesSince 4 = .ok (.iload_n 3, 1) := by decide +kernel
theorem dDV_noteChangesSince_5 : decode cDV_noteChangesSince 5 = .ok (.aload_n 0, 1) := by decide +kernel
theorem dDV_noteChangesSince_6 : decode cDV_noteChangesSince 6 = .ok (.getfield 46, 3) := by decide +kernel
theorem dDV_noteChangesSince_9 : decode cDV_noteChangesSince 9 = .ok (.if_icmp .ge 44, 3) := by decide +kernel
theorem dDV_noteChangesSince_12 : decode cDV_noteChangesSince 12 = .ok (.iload_n 3, 1) := by decide +kernel
theorem dDV_noteChangesSince_13 : decode cDV_noteChangesSince 13 = .ok (.invokestatic 73, 3) := by decide +kernel
theorem dDV_noteChangesSince_16 : decode cDV_noteChangesSince 16 = .ok (.istore 4, 2) := by decide +kernel
theorem dDV_noteChangesSince_18 : decode cDV_noteChangesSince 18 = .ok (.aload_n 0, 1) := by decide +kernel
theorem dDV_noteChangesSince_19 : decode cDV_noteChangesSince 19 = .ok (.getfield 42, 3) := by decide +kernel
theorem dDV_noteChangesSince_22 : decode cDV_noteChangesSince 22 = .ok (.iload_n 3, 1) := by decide +kernel
theorem dDV_noteChangesSince_23 : decode cDV_noteChangesSince 23 = .ok (.aload_n 0, 1) := by decide +kernel
theorem dDV_noteChangesSince_24 : decode cDV_noteChangesSince 24 = .ok (.getfield 13, 3) := by decide +kernel
theorem dDV_noteChangesSince_27 : decode cDV_noteChangesSince 27 = .ok (.iload 4, 2) := by decide +kernel
theorem dDV_noteChangesSince_29 : decode cDV_noteChangesSince 29 = .ok (.aaload, 1) := by decide +kernel
theorem dDV_noteChangesSince_30 : decode cDV_noteChangesSince 30 = .ok (.aload_n 1, 1) := by decide +kernel
theorem dDV_noteChangesSince_31 : decode cDV_noteChangesSince 31 = .ok (.iload 4, 2) := by decide +kernel
theorem dDV_noteChangesSince_33 : decode cDV_noteChangesSince 33 = .ok (.aaload, 1) := by decide +kernel
theorem dDV_noteChangesSince_34 : decode cDV_noteChangesSince 34 = .ok (.invokevirtual 176, 3) := by decide +kernel
theorem dDV_noteChangesSince_37 : decode cDV_noteChangesSince 37 = .ok (.iastore, 1) := by decide +kernel
theorem dDV_noteChangesSince_38 : decode cDV_noteChangesSince 38 = .ok (.iload_n 2, 1) := by decide +kernel
theorem dDV_noteChangesSince_39 : decode cDV_noteChangesSince 39 = .ok (.aload_n 0, 1) := by decide +kernel
theorem dDV_noteChangesSince_40 : decode cDV_noteChangesSince 40 = .ok (.getfield 42, 3) := by decide +kernel
theorem dDV_noteChangesSince_43 : decode cDV_noteChangesSince 43 = .ok (.iload_n 3, 1) := by decide +kernel
theorem dDV_noteChangesSince_44 : decode cDV_noteChangesSince 44 = .ok (.iaload, 1) := by decide +kernel
theorem dDV_noteChangesSince_45 : decode cDV_noteChangesSince 45 = .ok (.iadd, 1) := by decide +kernel
theorem dDV_noteChangesSince_46 : decode cDV_noteChangesSince 46 = .ok (.istore_n 2, 1) := by decide +kernel
theorem dDV_noteChangesSince_47 : decode cDV_noteChangesSince 47 = .ok (.iinc 3 1, 3) := by decide +kernel
theorem dDV_noteChangesSince_50 : decode cDV_noteChangesSince 50 = .ok (.goto (-46), 3) := by decide +kernel
theorem dDV_noteChangesSince_53 : decode cDV_noteChangesSince 53 = .ok (.iload_n 2, 1) := by decide +kernel
theorem dDV_noteChangesSince_54 : decode cDV_noteChangesSince 54 = .ok (.ireturn, 1) := by decide +kernel
theorem dDV_drop_0 : decode cDV_drop 0 = .ok (.aload_n 0, 1) := by decide +kernel
theorem dDV_drop_1 : decode cDV_drop 1 = .ok (.getfield 32, 3) := by decide +kernel
theorem dDV_drop_4 : decode cDV_drop 4 = .ok (.invokevirtual 99, 3) := by decide +kernel
theorem dDV_drop_7 : decode cDV_drop 7 = .ok (.istore_n 1, 1) := by decide +kernel
theorem dDV_drop_8 : decode cDV_drop 8 = .ok (.aload_n 0, 1) := by decide +kernel
theorem dDV_drop_9 : decode cDV_drop 9 = .ok (.getfield 32, 3) := by decide +kernel
theorem dDV_drop_12 : decode cDV_drop 12 = .ok (.invokevirtual 117, 3) := by decide +kernel
theorem dDV_drop_15 : decode cDV_drop 15 = .ok (.iload_n 1, 1) := by decide +kernel
theorem dDV_drop_16 : decode cDV_drop 16 = .ok (.ireturn, 1) := by decide +kernel
theorem dDV_weight_0 : decode cDV_weight 0 = .ok (.aload_n 0, 1) := by decide +kernel
theorem dDV_weight_1 : decode cDV_weight 1 = .ok (.iload_n 1, 1) := by decide +kernel
theorem dDV_weight_2 : decode cDV_weight 2 = .ok (.invokevirtual 61, 3) := by decide +kernel
theorem dDV_weight_5 : decode cDV_weight 5 = .ok (.ifCond .eq 18, 3) := by decide +kernel
theorem dDV_weight_8 : decode cDV_weight 8 = .ok (.aload_n 0, 1) := by decide +kernel
theorem dDV_weight_9 : decode cDV_weight 9 = .ok (.iload_n 1, 1) := by decide +kernel
theorem dDV_weight_10 : decode cDV_weight 10 = .ok (.invokevirtual 124, 3) := by decide +kernel
theorem dDV_weight_13 : decode cDV_weight 13 = .ok (.iload_n 2, 1) := by decide +kernel
theorem dDV_weight_14 : decode cDV_weight 14 = .ok (.iload_n 3, 1) := by decide +kernel
theorem dDV_weight_15 : decode cDV_weight 15 = .ok (.iload 4, 2) := by decide +kernel
theorem dDV_weight_17 : decode cDV_weight 17 = .ok (.invokevirtual 128, 3) := by decide +kernel
theorem dDV_weight_20 : decode cDV_weight 20 = .ok (.goto 6, 3) := by decide +kernel
theorem dDV_weight_23 : decode cDV_weight 23 = .ok (.ldc2_w 132, 3) := by decide +kernel
theorem dDV_weight_26 : decode cDV_weight 26 = .ok (.lreturn, 1) := by decide +kernel
theorem dDV_rowsOf_0 : decode cDV_rowsOf 0 = .ok (.aload_n 0, 1) := by decide +kernel
theorem dDV_rowsOf_1 : decode cDV_rowsOf 1 = .ok (.getfield 13, 3) := by decide +kernel
theorem dDV_rowsOf_4 : decode cDV_rowsOf 4 = .ok (.iload_n 1, 1) := by decide +kernel
theorem dDV_rowsOf_5 : decode cDV_rowsOf 5 = .ok (.invokestatic 73, 3) := by decide +kernel
theorem dDV_rowsOf_8 : decode cDV_rowsOf 8 = .ok (.aaload, 1) := by decide +kernel
theorem dDV_rowsOf_9 : decode cDV_rowsOf 9 = .ok (.areturn, 1) := by decide +kernel
theorem dDV_inTable_0 : decode cDV_inTable 0 = .ok (.iload_n 1, 1) := by decide +kernel
theorem dDV_inTable_1 : decode cDV_inTable 1 = .ok (.invokestatic 50, 3) := by decide +kernel
theorem dDV_inTable_4 : decode cDV_inTable 4 = .ok (.ifCond .eq 19, 3) := by decide +kernel
theorem dDV_inTable_7 : decode cDV_inTable 7 = .ok (.aload_n 0, 1) := by decide +kernel
theorem dDV_inTable_8 : decode cDV_inTable 8 = .ok (.getfield 13, 3) := by decide +kernel
theorem dDV_inTable_11 : decode cDV_inTable 11 = .ok (.iload_n 1, 1) := by decide +kernel
theorem dDV_inTable_12 : decode cDV_inTable 12 = .ok (.aaload, 1) := by decide +kernel
theorem dDV_inTable_13 : decode cDV_inTable 13 = .ok (.iload_n 2, 1) := by decide +kernel
theorem dDV_inTable_14 : decode cDV_inTable 14 = .ok (.iload_n 3, 1) := by decide +kernel
theorem dDV_inTable_15 : decode cDV_inTable 15 = .ok (.iload 4, 2) := by decide +kernel
theorem dDV_inTable_17 : decode cDV_inTable 17 = .ok (.invokevirtual 128, 3) := by decide +kernel
theorem dDV_inTable_20 : decode cDV_inTable 20 = .ok (.goto 6, 3) := by decide +kernel
theorem dDV_inTable_23 : decode cDV_inTable 23 = .ok (.ldc2_w 132, 3) := by decide +kernel
theorem dDV_inTable_26 : decode cDV_inTable 26 = .ok (.lreturn, 1) := by decide +kernel
theorem dDV_rows_0 : decode cDV_rows 0 = .ok (.aload_n 0, 1) := by decide +kernel
theorem dDV_rows_1 : decode cDV_rows 1 = .ok (.iload_n 1, 1) := by decide +kernel
theorem dDV_rows_2 : decode cDV_rows 2 = .ok (.invokevirtual 61, 3) := by decide +kernel
theorem dDV_rows_5 : decode cDV_rows 5 = .ok (.ifCond .eq 14, 3) := by decide +kernel
theorem dDV_rows_8 : decode cDV_rows 8 = .ok (.aload_n 0, 1) := by decide +kernel
theorem dDV_rows_9 : decode cDV_rows 9 = .ok (.iload_n 1, 1) := by decide +kernel
theorem dDV_rows_10 : decode cDV_rows 10 = .ok (.invokevirtual 124, 3) := by decide +kernel
theorem dDV_rows_13 : decode cDV_rows 13 = .ok (.invokevirtual 134, 3) := by decide +kernel
theorem dDV_rows_16 : decode cDV_rows 16 = .ok (.goto 4, 3) := by decide +kernel
theorem dDV_rows_19 : decode cDV_rows 19 = .ok (.iconst (-1), 1) := by decide +kernel
theorem dDV_rows_20 : decode cDV_rows 20 = .ok (.ireturn, 1) := by decide +kernel
theorem dDV_cell_0 : decode cDV_cell 0 = .ok (.aload_n 0, 1) := by decide +kernel
theorem dDV_cell_1 : decode cDV_cell 1 = .ok (.iload_n 1, 1) := by decide +kernel
theorem dDV_cell_2 : decode cDV_cell 2 = .ok (.invokevirtual 61, 3) := by decide +kernel
theorem dDV_cell_5 : decode cDV_cell 5 = .ok (.ifCond .eq 25, 3) := by decide +kernel
theorem dDV_cell_8 : decode cDV_cell 8 = .ok (.iload_n 3, 1) := by decide +kernel
theorem dDV_cell_9 : decode cDV_cell 9 = .ok (.invokestatic 64, 3) := by decide +kernel
theorem dDV_cell_12 : decode cDV_cell 12 = .ok (.ifCond .eq 18, 3) := by decide +kernel
theorem dDV_cell_15 : decode cDV_cell 15 = .ok (.iload_n 2, 1) := by decide +kernel
theorem dDV_cell_16 : decode cDV_cell 16 = .ok (.aload_n 0, 1) := by decide +kernel
theorem dDV_cell_17 : decode cDV_cell 17 = .ok (.iload_n 1, 1) := by decide +kernel
theorem dDV_cell_18 : decode cDV_cell 18 = .ok (.invokevirtual 124, 3) := by decide +kernel
theorem dDV_cell_21 : decode cDV_cell 21 = .ok (.invokevirtual 134, 3) := by decide +kernel
theorem dDV_cell_24 : decode cDV_cell 24 = .ok (.invokestatic 67, 3) := by decide +kernel
theorem dDV_cell_27 : decode cDV_cell 27 = .ok (.ifCond .ne 7, 3) := by decide +kernel
theorem dDV_cell_30 : decode cDV_cell 30 = .ok (.ldc2_w 132, 3) := by decide +kernel
theorem dDV_cell_33 : decode cDV_cell 33 = .ok (.lreturn, 1) := by decide +kernel
theorem dDV_cell_34 : decode cDV_cell 34 = .ok (.aload_n 0, 1) := by decide +kernel
theorem dDV_cell_35 : decode cDV_cell 35 = .ok (.iload_n 1, 1) := by decide +kernel
theorem dDV_cell_36 : decode cDV_cell 36 = .ok (.invokevirtual 124, 3) := by decide +kernel
theorem dDV_cell_39 : decode cDV_cell 39 = .ok (.iload_n 2, 1) := by decide +kernel
theorem dDV_cell_40 : decode cDV_cell 40 = .ok (.iload_n 3, 1) := by decide +kernel
theorem dDV_cell_41 : decode cDV_cell 41 = .ok (.invokevirtual 135, 3) := by decide +kernel
theorem dDV_cell_44 : decode cDV_cell 44 = .ok (.i2l, 1) := by decide +kernel
theorem dDV_cell_45 : decode cDV_cell 45 = .ok (.lreturn, 1) := by decide +kernel
theorem dDV_total_0 : decode cDV_total 0 = .ok (.aload_n 0, 1) := by decide +kernel
theorem dDV_total_1 : decode cDV_total 1 = .ok (.iload_n 1, 1) := by decide +kernel
theorem dDV_total_2 : decode cDV_total 2 = .ok (.invokevirtual 61, 3) := by decide +kernel
theorem dDV_total_5 : decode cDV_total 5 = .ok (.ifCond .eq 14, 3) := by decide +kernel
theorem dDV_total_8 : decode cDV_total 8 = .ok (.aload_n 0, 1) := by decide +kernel
theorem dDV_total_9 : decode cDV_total 9 = .ok (.iload_n 1, 1) := by decide +kernel
theorem dDV_total_10 : decode cDV_total 10 = .ok (.invokevirtual 124, 3) := by decide +kernel
theorem dDV_total_13 : decode cDV_total 13 = .ok (.invokevirtual 139, 3) := by decide +kernel
theorem dDV_total_16 : decode cDV_total 16 = .ok (.goto 6, 3) := by decide +kernel
theorem dDV_total_19 : decode cDV_total 19 = .ok (.ldc2_w 132, 3) := by decide +kernel
theorem dDV_total_22 : decode cDV_total 22 = .ok (.lreturn, 1) := by decide +kernel
theorem dDV_changed_0 : decode cDV_changed 0 = .ok (.aload_n 0, 1) := by decide +kernel
theorem dDV_changed_1 : decode cDV_changed 1 = .ok (.iload_n 1, 1) := by decide +kernel
theorem dDV_changed_2 : decode cDV_changed 2 = .ok (.invokevirtual 61, 3) := by decide +kernel
theorem dDV_changed_5 : decode cDV_changed 5 = .ok (.ifCond .eq 12, 3) := by decide +kernel
theorem dDV_changed_8 : decode cDV_changed 8 = .ok (.aload_n 0, 1) := by decide +kernel
theorem dDV_changed_9 : decode cDV_changed 9 = .ok (.getfield 42, 3) := by decide +kernel
theorem dDV_changed_12 : decode cDV_changed 12 = .ok (.iload_n 1, 1) := by decide +kernel
theorem dDV_changed_13 : decode cDV_changed 13 = .ok (.iaload, 1) := by decide +kernel
theorem dDV_changed_14 : decode cDV_changed 14 = .ok (.goto 4, 3) := by decide +kernel
theorem dDV_changed_17 : decode cDV_changed 17 = .ok (.iconst (-1), 1) := by decide +kernel
theorem dDV_changed_18 : decode cDV_changed 18 = .ok (.ireturn, 1) := by decide +kernel
theorem dDV_mean_0 : decode cDV_mean 0 = .ok (.aload_n 0, 1) := by decide +kernel
theorem dDV_mean_1 : decode cDV_mean 1 = .ok (.iload_n 1, 1) := by decide +kernel
theorem dDV_mean_2 : decode cDV_mean 2 = .ok (.invokevirtual 61, 3) := by decide +kernel
theorem dDV_mean_5 : decode cDV_mean 5 = .ok (.ifCond .eq 10, 3) := by decide +kernel
theorem dDV_mean_8 : decode cDV_mean 8 = .ok (.iload_n 2, 1) := by decide +kernel
theorem dDV_mean_9 : decode cDV_mean 9 = .ok (.invokestatic 64, 3) := by decide +kernel
theorem dDV_mean_12 : decode cDV_mean 12 = .ok (.ifCond .ne 5, 3) := by decide +kernel
theorem dDV_mean_15 : decode cDV_mean 15 = .ok (.dconst 0, 1) := by decide +kernel
theorem dDV_mean_16 : decode cDV_mean 16 = .ok (.dreturn, 1) := by decide +kernel
theorem dDV_mean_17 : decode cDV_mean 17 = .ok (.aload_n 0, 1) := by decide +kernel
theorem dDV_mean_18 : decode cDV_mean 18 = .ok (.iload_n 1, 1) := by decide +kernel
theorem dDV_mean_19 : decode cDV_mean 19 = .ok (.invokevirtual 124, 3) := by decide +kernel
theorem dDV_mean_22 : decode cDV_mean 22 = .ok (.invokevirtual 139, 3) := by decide +kernel
theorem dDV_mean_25 : decode cDV_mean 25 = .ok (.lstore_n 3, 1) := by decide +kernel
theorem dDV_mean_26 : decode cDV_mean 26 = .ok (.lload_n 3, 1) := by decide +kernel
theorem dDV_mean_27 : decode cDV_mean 27 = .ok (.lconst 0, 1) := by decide +kernel
theorem dDV_mean_28 : decode cDV_mean 28 = .ok (.lcmp, 1) := by decide +kernel
theorem dDV_mean_29 : decode cDV_mean 29 = .ok (.ifCond .ne 5, 3) := by decide +kernel
theorem dDV_mean_32 : decode cDV_mean 32 = .ok (.dconst 0, 1) := by decide +kernel
theorem dDV_mean_33 : decode cDV_mean 33 = .ok (.dreturn, 1) := by decide +kernel
theorem dDV_mean_34 : decode cDV_mean 34 = .ok (.aload_n 0, 1) := by decide +kernel
theorem dDV_mean_35 : decode cDV_mean 35 = .ok (.iload_n 1, 1) := by decide +kernel
theorem dDV_mean_36 : decode cDV_mean 36 = .ok (.invokevirtual 124, 3) := by decide +kernel
theorem dDV_mean_39 : decode cDV_mean 39 = .ok (.iload_n 2, 1) := by decide +kernel
theorem dDV_mean_40 : decode cDV_mean 40 = .ok (.invokevirtual 143, 3) := by decide +kernel
theorem dDV_mean_43 : decode cDV_mean 43 = .ok (.l2d, 1) := by decide +kernel
theorem dDV_mean_44 : decode cDV_mean 44 = .ok (.lload_n 3, 1) := by decide +kernel
theorem dDV_mean_45 : decode cDV_mean 45 = .ok (.l2d, 1) := by decide +kernel
theorem dDV_mean_46 : decode cDV_mean 46 = .ok (.ddiv, 1) := by decide +kernel
theorem dDV_mean_47 : decode cDV_mean 47 = .ok (.dreturn, 1) := by decide +kernel
theorem dDV_count_0 : decode cDV_count 0 = .ok (.iload_n 1, 1) := by decide +kernel
theorem dDV_count_1 : decode cDV_count 1 = .ok (.ifCond .ne 8, 3) := by decide +kernel
theorem dDV_count_4 : decode cDV_count 4 = .ok (.aload_n 0, 1) := by decide +kernel
theorem dDV_count_5 : decode cDV_count 5 = .ok (.getfield 46, 3) := by decide +kernel
theorem dDV_count_8 : decode cDV_count 8 = .ok (.ireturn, 1) := by decide +kernel
theorem dDV_count_9 : decode cDV_count 9 = .ok (.iload_n 1, 1) := by decide +kernel
theorem dDV_count_10 : decode cDV_count 10 = .ok (.iconst 1, 1) := by decide +kernel
theorem dDV_count_11 : decode cDV_count 11 = .ok (.if_icmp .ne 11, 3) := by decide +kernel
theorem dDV_count_14 : decode cDV_count 14 = .ok (.aload_n 0, 1) := by decide +kernel
theorem dDV_count_15 : decode cDV_count 15 = .ok (.getfield 32, 3) := by decide +kernel
theorem dDV_count_18 : decode cDV_count 18 = .ok (.invokevirtual 99, 3) := by decide +kernel
theorem dDV_count_21 : decode cDV_count 21 = .ok (.ireturn, 1) := by decide +kernel
theorem dDV_count_22 : decode cDV_count 22 = .ok (.iload_n 1, 1) := by decide +kernel
theorem dDV_count_23 : decode cDV_count 23 = .ok (.iconst 2, 1) := by decide +kernel
theorem dDV_count_24 : decode cDV_count 24 = .ok (.if_icmp .lt 20, 3) := by decide +kernel
theorem dDV_count_27 : decode cDV_count 27 = .ok (.iload_n 1, 1) := by decide +kernel
theorem dDV_count_28 : decode cDV_count 28 = .ok (.iconst 5, 1) := by decide +kernel
theorem dDV_count_29 : decode cDV_count 29 = .ok (.if_icmp .ge 15, 3) := by decide +kernel
theorem dDV_count_32 : decode cDV_count 32 = .ok (.aload_n 0, 1) := by decide +kernel
theorem dDV_count_33 : decode cDV_count 33 = .ok (.getfield 13, 3) := by decide +kernel
theorem dDV_count_36 : decode cDV_count 36 = .ok (.iload_n 1, 1) := by decide +kernel
theorem dDV_count_37 : decode cDV_count 37 = .ok (.iconst 2, 1) := by decide +kernel
theorem dDV_count_38 : decode cDV_count 38 = .ok (.isub, 1) := by decide +kernel
theorem dDV_count_39 : decode cDV_count 39 = .ok (.aaload, 1) := by decide +kernel
theorem dDV_count_40 : decode cDV_count 40 = .ok (.invokevirtual 134, 3) := by decide +kernel
theorem dDV_count_43 : decode cDV_count 43 = .ok (.ireturn, 1) := by decide +kernel
theorem dDV_count_44 : decode cDV_count 44 = .ok (.iconst (-1), 1) := by decide +kernel
theorem dDV_count_45 : decode cDV_count 45 = .ok (.ireturn, 1) := by decide +kernel
