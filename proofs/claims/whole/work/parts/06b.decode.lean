theorem d0_clear_0 : decode c0_clear 0 = .ok (.aload_n 0, 1) := by decide +kernel
theorem d0_clear_1 : decode c0_clear 1 = .ok (.getfield 15, 3) := by decide +kernel
theorem d0_clear_4 : decode c0_clear 4 = .ok (.istore_n 1, 1) := by decide +kernel
theorem d0_clear_5 : decode c0_clear 5 = .ok (.aload_n 0, 1) := by decide +kernel
theorem d0_clear_6 : decode c0_clear 6 = .ok (.iconst 0, 1) := by decide +kernel
theorem d0_clear_7 : decode c0_clear 7 = .ok (.putfield 15, 3) := by decide +kernel
theorem d0_clear_10 : decode c0_clear 10 = .ok (.aload_n 0, 1) := by decide +kernel
theorem d0_clear_11 : decode c0_clear 11 = .ok (.getfield 22, 3) := by decide +kernel
theorem d0_clear_14 : decode c0_clear 14 = .ok (.invokevirtual 58, 3) := by decide +kernel
theorem d0_clear_17 : decode c0_clear 17 = .ok (.aload_n 0, 1) := by decide +kernel
theorem d0_clear_18 : decode c0_clear 18 = .ok (.getfield 31, 3) := by decide +kernel
theorem d0_clear_21 : decode c0_clear 21 = .ok (.invokevirtual 61, 3) := by decide +kernel
theorem d0_clear_24 : decode c0_clear 24 = .ok (.aload_n 0, 1) := by decide +kernel
theorem d0_clear_25 : decode c0_clear 25 = .ok (.getfield 35, 3) := by decide +kernel
theorem d0_clear_28 : decode c0_clear 28 = .ok (.invokevirtual 61, 3) := by decide +kernel
theorem d0_clear_31 : decode c0_clear 31 = .ok (.aload_n 0, 1) := by decide +kernel
theorem d0_clear_32 : decode c0_clear 32 = .ok (.getfield 38, 3) := by decide +kernel
theorem d0_clear_35 : decode c0_clear 35 = .ok (.invokevirtual 61, 3) := by decide +kernel
theorem d0_clear_38 : decode c0_clear 38 = .ok (.aload_n 0, 1) := by decide +kernel
theorem d0_clear_39 : decode c0_clear 39 = .ok (.getfield 44, 3) := by decide +kernel
theorem d0_clear_42 : decode c0_clear 42 = .ok (.invokevirtual 64, 3) := by decide +kernel
theorem d0_clear_45 : decode c0_clear 45 = .ok (.iload_n 1, 1) := by decide +kernel
theorem d0_clear_46 : decode c0_clear 46 = .ok (.ireturn, 1) := by decide +kernel
theorem d0_isWithin_0 : decode c0_isWithin 0 = .ok (.iload_n 0, 1) := by decide +kernel
theorem d0_isWithin_1 : decode c0_isWithin 1 = .ok (.iload_n 1, 1) := by decide +kernel
theorem d0_isWithin_2 : decode c0_isWithin 2 = .ok (.if_icmp .lt 12, 3) := by decide +kernel
theorem d0_isWithin_5 : decode c0_isWithin 5 = .ok (.iload_n 0, 1) := by decide +kernel
theorem d0_isWithin_6 : decode c0_isWithin 6 = .ok (.iload_n 2, 1) := by decide +kernel
theorem d0_isWithin_7 : decode c0_isWithin 7 = .ok (.if_icmp .gt 7, 3) := by decide +kernel
theorem d0_isWithin_10 : decode c0_isWithin 10 = .ok (.iconst 1, 1) := by decide +kernel
theorem d0_isWithin_11 : decode c0_isWithin 11 = .ok (.goto 4, 3) := by decide +kernel
theorem d0_isWithin_14 : decode c0_isWithin 14 = .ok (.iconst 0, 1) := by decide +kernel
theorem d0_isWithin_15 : decode c0_isWithin 15 = .ok (.ireturn, 1) := by decide +kernel
theorem d0_isTable_0 : decode c0_isTable 0 = .ok (.iload_n 1, 1) := by decide +kernel
theorem d0_isTable_1 : decode c0_isTable 1 = .ok (.iconst 0, 1) := by decide +kernel
theorem d0_isTable_2 : decode c0_isTable 2 = .ok (.aload_n 0, 1) := by decide +kernel
theorem d0_isTable_3 : decode c0_isTable 3 = .ok (.getfield 15, 3) := by decide +kernel
theorem d0_isTable_6 : decode c0_isTable 6 = .ok (.iconst 1, 1) := by decide +kernel
theorem d0_isTable_7 : decode c0_isTable 7 = .ok (.isub, 1) := by decide +kernel
theorem d0_isTable_8 : decode c0_isTable 8 = .ok (.invokestatic 73, 3) := by decide +kernel
theorem d0_isTable_11 : decode c0_isTable 11 = .ok (.ireturn, 1) := by decide +kernel
theorem d0_nextOf_0 : decode c0_nextOf 0 = .ok (.aload_n 0, 1) := by decide +kernel
theorem d0_nextOf_1 : decode c0_nextOf 1 = .ok (.iload_n 1, 1) := by decide +kernel
theorem d0_nextOf_2 : decode c0_nextOf 2 = .ok (.invokevirtual 69, 3) := by decide +kernel
theorem d0_nextOf_5 : decode c0_nextOf 5 = .ok (.ifCond .eq 15, 3) := by decide +kernel
theorem d0_nextOf_8 : decode c0_nextOf 8 = .ok (.aload_n 0, 1) := by decide +kernel
theorem d0_nextOf_9 : decode c0_nextOf 9 = .ok (.getfield 11, 3) := by decide +kernel
theorem d0_nextOf_12 : decode c0_nextOf 12 = .ok (.iload_n 1, 1) := by decide +kernel
theorem d0_nextOf_13 : decode c0_nextOf 13 = .ok (.aaload, 1) := by decide +kernel
theorem d0_nextOf_14 : decode c0_nextOf 14 = .ok (.getfield 101, 3) := by decide +kernel
theorem d0_nextOf_17 : decode c0_nextOf 17 = .ok (.goto 7, 3) := by decide +kernel
theorem d0_nextOf_20 : decode c0_nextOf 20 = .ok (.aload_n 0, 1) := by decide +kernel
theorem d0_nextOf_21 : decode c0_nextOf 21 = .ok (.getfield 54, 3) := by decide +kernel
theorem d0_nextOf_24 : decode c0_nextOf 24 = .ok (.areturn, 1) := by decide +kernel
theorem d0_make_0 : decode c0_make 0 = .ok (.aload_n 0, 1) := by decide +kernel
theorem d0_make_1 : decode c0_make 1 = .ok (.getfield 22, 3) := by decide +kernel
theorem d0_make_4 : decode c0_make 4 = .ok (.getfield 87, 3) := by decide +kernel
theorem d0_make_7 : decode c0_make 7 = .ok (.ifCond .eq 6, 3) := by decide +kernel
theorem d0_make_10 : decode c0_make 10 = .ok (.bipush (-4), 2) := by decide +kernel
theorem d0_make_12 : decode c0_make 12 = .ok (.ireturn, 1) := by decide +kernel
theorem d0_make_13 : decode c0_make 13 = .ok (.aload_n 0, 1) := by decide +kernel
theorem d0_make_14 : decode c0_make 14 = .ok (.getfield 15, 3) := by decide +kernel
theorem d0_make_17 : decode c0_make 17 = .ok (.bipush 12, 2) := by decide +kernel
theorem d0_make_19 : decode c0_make 19 = .ok (.if_icmp .lt 6, 3) := by decide +kernel
theorem d0_make_22 : decode c0_make 22 = .ok (.bipush (-3), 2) := by decide +kernel
theorem d0_make_24 : decode c0_make 24 = .ok (.ireturn, 1) := by decide +kernel
theorem d0_make_25 : decode c0_make 25 = .ok (.aload_n 0, 1) := by decide +kernel
theorem d0_make_26 : decode c0_make 26 = .ok (.getfield 11, 3) := by decide +kernel
theorem d0_make_29 : decode c0_make 29 = .ok (.aload_n 0, 1) := by decide +kernel
theorem d0_make_30 : decode c0_make 30 = .ok (.getfield 15, 3) := by decide +kernel
theorem d0_make_33 : decode c0_make 33 = .ok (.aaload, 1) := by decide +kernel
theorem d0_make_34 : decode c0_make 34 = .ok (.astore 8, 2) := by decide +kernel
theorem d0_make_36 : decode c0_make 36 = .ok (.aload 8, 2) := by decide +kernel
theorem d0_make_38 : decode c0_make 38 = .ok (.iload_n 1, 1) := by decide +kernel
theorem d0_make_39 : decode c0_make 39 = .ok (.iload_n 2, 1) := by decide +kernel
theorem d0_make_40 : decode c0_make 40 = .ok (.iload_n 3, 1) := by decide +kernel
theorem d0_make_41 : decode c0_make 41 = .ok (.lload 4, 2) := by decide +kernel
theorem d0_make_43 : decode c0_make 43 = .ok (.lload 6, 2) := by decide +kernel
theorem d0_make_45 : decode c0_make 45 = .ok (.invokevirtual 193, 3) := by decide +kernel
theorem d0_make_48 : decode c0_make 48 = .ok (.aload 8, 2) := by decide +kernel
theorem d0_make_50 : decode c0_make 50 = .ok (.aload_n 0, 1) := by decide +kernel
theorem d0_make_51 : decode c0_make 51 = .ok (.iload_n 2, 1) := by decide +kernel
theorem d0_make_52 : decode c0_make 52 = .ok (.invokevirtual 197, 3) := by decide +kernel
theorem d0_make_55 : decode c0_make 55 = .ok (.aload_n 0, 1) := by decide +kernel
theorem d0_make_56 : decode c0_make 56 = .ok (.iload_n 3, 1) := by decide +kernel
theorem d0_make_57 : decode c0_make 57 = .ok (.invokevirtual 197, 3) := by decide +kernel
theorem d0_make_60 : decode c0_make 60 = .ok (.invokevirtual 200, 3) := by decide +kernel
theorem d0_make_63 : decode c0_make 63 = .ok (.aload 8, 2) := by decide +kernel
theorem d0_make_65 : decode c0_make 65 = .ok (.getfield 147, 3) := by decide +kernel
theorem d0_make_68 : decode c0_make 68 = .ok (.aload 8, 2) := by decide +kernel
theorem d0_make_70 : decode c0_make 70 = .ok (.getfield 101, 3) := by decide +kernel
theorem d0_make_73 : decode c0_make 73 = .ok (.invokevirtual 149, 3) := by decide +kernel
theorem d0_make_76 : decode c0_make 76 = .ok (.aload 8, 2) := by decide +kernel
theorem d0_make_78 : decode c0_make 78 = .ok (.getfield 144, 3) := by decide +kernel
theorem d0_make_81 : decode c0_make 81 = .ok (.aload 8, 2) := by decide +kernel
theorem d0_make_83 : decode c0_make 83 = .ok (.getfield 101, 3) := by decide +kernel
theorem d0_make_86 : decode c0_make 86 = .ok (.invokevirtual 149, 3) := by decide +kernel
theorem d0_make_89 : decode c0_make 89 = .ok (.aload_n 0, 1) := by decide +kernel
theorem d0_make_90 : decode c0_make 90 = .ok (.dup, 1) := by decide +kernel
theorem d0_make_91 : decode c0_make 91 = .ok (.getfield 15, 3) := by decide +kernel
theorem d0_make_94 : decode c0_make 94 = .ok (.iconst 1, 1) := by decide +kernel
theorem d0_make_95 : decode c0_make 95 = .ok (.iadd, 1) := by decide +kernel
theorem d0_make_96 : decode c0_make 96 = .ok (.putfield 15, 3) := by decide +kernel
theorem d0_make_99 : decode c0_make 99 = .ok (.aload_n 0, 1) := by decide +kernel
theorem d0_make_100 : decode c0_make 100 = .ok (.getfield 15, 3) := by decide +kernel
theorem d0_make_103 : decode c0_make 103 = .ok (.iconst 1, 1) := by decide +kernel
theorem d0_make_104 : decode c0_make 104 = .ok (.isub, 1) := by decide +kernel
theorem d0_make_105 : decode c0_make 105 = .ok (.ireturn, 1) := by decide +kernel
theorem d0_source_0 : decode c0_source 0 = .ok (.aload_n 0, 1) := by decide +kernel
theorem d0_source_1 : decode c0_source 1 = .ok (.iconst 0, 1) := by decide +kernel
theorem d0_source_2 : decode c0_source 2 = .ok (.iconst (-1), 1) := by decide +kernel
theorem d0_source_3 : decode c0_source 3 = .ok (.iconst (-1), 1) := by decide +kernel
theorem d0_source_4 : decode c0_source 4 = .ok (.lconst 0, 1) := by decide +kernel
theorem d0_source_5 : decode c0_source 5 = .ok (.lconst 0, 1) := by decide +kernel
theorem d0_source_6 : decode c0_source 6 = .ok (.invokevirtual 65, 3) := by decide +kernel
theorem d0_source_9 : decode c0_source 9 = .ok (.ireturn, 1) := by decide +kernel
theorem d0_filter_0 : decode c0_filter 0 = .ok (.aload_n 0, 1) := by decide +kernel
theorem d0_filter_1 : decode c0_filter 1 = .ok (.iload_n 1, 1) := by decide +kernel
theorem d0_filter_2 : decode c0_filter 2 = .ok (.invokevirtual 69, 3) := by decide +kernel
theorem d0_filter_5 : decode c0_filter 5 = .ok (.ifCond .eq 10, 3) := by decide +kernel
theorem d0_filter_8 : decode c0_filter 8 = .ok (.lload_n 2, 1) := by decide +kernel
theorem d0_filter_9 : decode c0_filter 9 = .ok (.lload 4, 2) := by decide +kernel
theorem d0_filter_11 : decode c0_filter 11 = .ok (.lcmp, 1) := by decide +kernel
theorem d0_filter_12 : decode c0_filter 12 = .ok (.ifCond .le 6, 3) := by decide +kernel
theorem d0_filter_15 : decode c0_filter 15 = .ok (.bipush (-2), 2) := by decide +kernel
theorem d0_filter_17 : decode c0_filter 17 = .ok (.ireturn, 1) := by decide +kernel
theorem d0_filter_18 : decode c0_filter 18 = .ok (.aload_n 0, 1) := by decide +kernel
theorem d0_filter_19 : decode c0_filter 19 = .ok (.iconst 1, 1) := by decide +kernel
theorem d0_filter_20 : decode c0_filter 20 = .ok (.iload_n 1, 1) := by decide +kernel
theorem d0_filter_21 : decode c0_filter 21 = .ok (.iconst (-1), 1) := by decide +kernel
theorem d0_filter_22 : decode c0_filter 22 = .ok (.lload_n 2, 1) := by decide +kernel
theorem d0_filter_23 : decode c0_filter 23 = .ok (.lload 4, 2) := by decide +kernel
theorem d0_filter_25 : decode c0_filter 25 = .ok (.invokevirtual 65, 3) := by decide +kernel
theorem d0_filter_28 : decode c0_filter 28 = .ok (.ireturn, 1) := by decide +kernel
theorem d0_map_0 : decode c0_map 0 = .ok (.aload_n 0, 1) := by decide +kernel
theorem d0_map_1 : decode c0_map 1 = .ok (.iload_n 1, 1) := by decide +kernel
theorem d0_map_2 : decode c0_map 2 = .ok (.invokevirtual 69, 3) := by decide +kernel
theorem d0_map_5 : decode c0_map 5 = .ok (.ifCond .eq 29, 3) := by decide +kernel
theorem d0_map_8 : decode c0_map 8 = .ok (.iload_n 2, 1) := by decide +kernel
theorem d0_map_9 : decode c0_map 9 = .ok (.sipush (-1000), 3) := by decide +kernel
theorem d0_map_12 : decode c0_map 12 = .ok (.sipush 1000, 3) := by decide +kernel
theorem d0_map_15 : decode c0_map 15 = .ok (.invokestatic 73, 3) := by decide +kernel
theorem d0_map_18 : decode c0_map 18 = .ok (.ifCond .eq 16, 3) := by decide +kernel
theorem d0_map_21 : decode c0_map 21 = .ok (.iload_n 3, 1) := by decide +kernel
theorem d0_map_22 : decode c0_map 22 = .ok (.sipush (-1000), 3) := by decide +kernel
theorem d0_map_25 : decode c0_map 25 = .ok (.sipush 1000, 3) := by decide +kernel
theorem d0_map_28 : decode c0_map 28 = .ok (.invokestatic 73, 3) := by decide +kernel
theorem d0_map_31 : decode c0_map 31 = .ok (.ifCond .ne 6, 3) := by decide +kernel
theorem d0_map_34 : decode c0_map 34 = .ok (.bipush (-2), 2) := by decide +kernel
theorem d0_map_36 : decode c0_map 36 = .ok (.ireturn, 1) := by decide +kernel
theorem d0_map_37 : decode c0_map 37 = .ok (.aload_n 0, 1) := by decide +kernel
theorem d0_map_38 : decode c0_map 38 = .ok (.iconst 2, 1) := by decide +kernel
theorem d0_map_39 : decode c0_map 39 = .ok (.iload_n 1, 1) := by decide +kernel
theorem d0_map_40 : decode c0_map 40 = .ok (.iconst (-1), 1) := by decide +kernel
theorem d0_map_41 : decode c0_map 41 = .ok (.iload_n 2, 1) := by decide +kernel
theorem d0_map_42 : decode c0_map 42 = .ok (.i2l, 1) := by decide +kernel
theorem d0_map_43 : decode c0_map 43 = .ok (.iload_n 3, 1) := by decide +kernel
theorem d0_map_44 : decode c0_map 44 = .ok (.i2l, 1) := by decide +kernel
theorem d0_map_45 : decode c0_map 45 = .ok (.invokevirtual 65, 3) := by decide +kernel
theorem d0_map_48 : decode c0_map 48 = .ok (.ireturn, 1) := by decide +kernel
theorem d0_fold_0 : decode c0_fold 0 = .ok (.aload_n 0, 1) := by decide +kernel
theorem d0_fold_1 : decode c0_fold 1 = .ok (.iload_n 1, 1) := by decide +kernel
theorem d0_fold_2 : decode c0_fold 2 = .ok (.invokevirtual 69, 3) := by decide +kernel
theorem d0_fold_5 : decode c0_fold 5 = .ok (.ifCond .eq 22, 3) := by decide +kernel
theorem d0_fold_8 : decode c0_fold 8 = .ok (.iload_n 2, 1) := by decide +kernel
theorem d0_fold_9 : decode c0_fold 9 = .ok (.iconst 0, 1) := by decide +kernel
theorem d0_fold_10 : decode c0_fold 10 = .ok (.iconst 4, 1) := by decide +kernel
theorem d0_fold_11 : decode c0_fold 11 = .ok (.invokestatic 73, 3) := by decide +kernel
theorem d0_fold_14 : decode c0_fold 14 = .ok (.ifCond .eq 13, 3) := by decide +kernel
theorem d0_fold_17 : decode c0_fold 17 = .ok (.iload_n 3, 1) := by decide +kernel
theorem d0_fold_18 : decode c0_fold 18 = .ok (.iconst 1, 1) := by decide +kernel
theorem d0_fold_19 : decode c0_fold 19 = .ok (.bipush 64, 2) := by decide +kernel
theorem d0_fold_21 : decode c0_fold 21 = .ok (.invokestatic 73, 3) := by decide +kernel
theorem d0_fold_24 : decode c0_fold 24 = .ok (.ifCond .ne 6, 3) := by decide +kernel
theorem d0_fold_27 : decode c0_fold 27 = .ok (.bipush (-2), 2) := by decide +kernel
theorem d0_fold_29 : decode c0_fold 29 = .ok (.ireturn, 1) := by decide +kernel
theorem d0_fold_30 : decode c0_fold 30 = .ok (.aload_n 0, 1) := by decide +kernel
theorem d0_fold_31 : decode c0_fold 31 = .ok (.iconst 3, 1) := by decide +kernel
theorem d0_fold_32 : decode c0_fold 32 = .ok (.iload_n 1, 1) := by decide +kernel
theorem d0_fold_33 : decode c0_fold 33 = .ok (.iconst (-1), 1) := by decide +kernel
theorem d0_fold_34 : decode c0_fold 34 = .ok (.iload_n 2, 1) := by decide +kernel
theorem d0_fold_35 : decode c0_fold 35 = .ok (.i2l, 1) := by decide +kernel
theorem d0_fold_36 : decode c0_fold 36 = .ok (.iload_n 3, 1) := by decide +kernel
theorem d0_fold_37 : decode c0_fold 37 = .ok (.i2l, 1) := by decide +kernel
theorem d0_fold_38 : decode c0_fold 38 = .ok (.invokevirtual 65, 3) := by decide +kernel
theorem d0_fold_41 : decode c0_fold 41 = .ok (.ireturn, 1) := by decide +kernel
theorem d0_join_0 : decode c0_join 0 = .ok (.aload_n 0, 1) := by decide +kernel
theorem d0_join_1 : decode c0_join 1 = .ok (.iload_n 1, 1) := by decide +kernel
theorem d0_join_2 : decode c0_join 2 = .ok (.invokevirtual 69, 3) := by decide +kernel
theorem d0_join_5 : decode c0_join 5 = .ok (.ifCond .eq 20, 3) := by decide +kernel
theorem d0_join_8 : decode c0_join 8 = .ok (.aload_n 0, 1) := by decide +kernel
theorem d0_join_9 : decode c0_join 9 = .ok (.iload_n 2, 1) := by decide +kernel
theorem d0_join_10 : decode c0_join 10 = .ok (.invokevirtual 69, 3) := by decide +kernel
theorem d0_join_13 : decode c0_join 13 = .ok (.ifCond .eq 12, 3) := by decide +kernel
theorem d0_join_16 : decode c0_join 16 = .ok (.iload_n 3, 1) := by decide +kernel
theorem d0_join_17 : decode c0_join 17 = .ok (.iconst 0, 1) := by decide +kernel
theorem d0_join_18 : decode c0_join 18 = .ok (.iconst 1, 1) := by decide +kernel
theorem d0_join_19 : decode c0_join 19 = .ok (.invokestatic 73, 3) := by decide +kernel
theorem d0_join_22 : decode c0_join 22 = .ok (.ifCond .ne 6, 3) := by decide +kernel
theorem d0_join_25 : decode c0_join 25 = .ok (.bipush (-2), 2) := by decide +kernel
theorem d0_join_27 : decode c0_join 27 = .ok (.ireturn, 1) := by decide +kernel
theorem d0_join_28 : decode c0_join 28 = .ok (.aload_n 0, 1) := by decide +kernel
theorem d0_join_29 : decode c0_join 29 = .ok (.iconst 4, 1) := by decide +kernel
theorem d0_join_30 : decode c0_join 30 = .ok (.iload_n 1, 1) := by decide +kernel
theorem d0_join_31 : decode c0_join 31 = .ok (.iload_n 2, 1) := by decide +kernel
theorem d0_join_32 : decode c0_join 32 = .ok (.iload_n 3, 1) := by decide +kernel
theorem d0_join_33 : decode c0_join 33 = .ok (.i2l, 1) := by decide +kernel
theorem d0_join_34 : decode c0_join 34 = .ok (.lconst 0, 1) := by decide +kernel
theorem d0_join_35 : decode c0_join 35 = .ok (.invokevirtual 65, 3) := by decide +kernel
theorem d0_join_38 : decode c0_join 38 = .ok (.ireturn, 1) := by decide +kernel
theorem d0_merge_0 : decode c0_merge 0 = .ok (.aload_n 0, 1) := by decide +kernel
theorem d0_merge_1 : decode c0_merge 1 = .ok (.iload_n 1, 1) := by decide +kernel
theorem d0_merge_2 : decode c0_merge 2 = .ok (.invokevirtual 69, 3) := by decide +kernel
theorem d0_merge_5 : decode c0_merge 5 = .ok (.ifCond .eq 11, 3) := by decide +kernel
theorem d0_merge_8 : decode c0_merge 8 = .ok (.aload_n 0, 1) := by decide +kernel
theorem d0_merge_9 : decode c0_merge 9 = .ok (.iload_n 2, 1) := by decide +kernel
theorem d0_merge_10 : decode c0_merge 10 = .ok (.invokevirtual 69, 3) := by decide +kernel
theorem d0_merge_13 : decode c0_merge 13 = .ok (.ifCond .ne 6, 3) := by decide +kernel
theorem d0_merge_16 : decode c0_merge 16 = .ok (.bipush (-2), 2) := by decide +kernel
theorem d0_merge_18 : decode c0_merge 18 = .ok (.ireturn, 1) := by decide +kernel
theorem d0_merge_19 : decode c0_merge 19 = .ok (.aload_n 0, 1) := by decide +kernel
theorem d0_merge_20 : decode c0_merge 20 = .ok (.iconst 5, 1) := by decide +kernel
theorem d0_merge_21 : decode c0_merge 21 = .ok (.iload_n 1, 1) := by decide +kernel
theorem d0_merge_22 : decode c0_merge 22 = .ok (.iload_n 2, 1) := by decide +kernel
theorem d0_merge_23 : decode c0_merge 23 = .ok (.lconst 0, 1) := by decide +kernel
theorem d0_merge_24 : decode c0_merge 24 = .ok (.lconst 0, 1) := by decide +kernel
theorem d0_merge_25 : decode c0_merge 25 = .ok (.invokevirtual 65, 3) := by decide +kernel
theorem d0_merge_28 : decode c0_merge 28 = .ok (.ireturn, 1) := by decide +kernel
theorem d0_best_0 : decode c0_best 0 = .ok (.aload_n 0, 1) := by decide +kernel
theorem d0_best_1 : decode c0_best 1 = .ok (.iload_n 1, 1) := by decide +kernel
theorem d0_best_2 : decode c0_best 2 = .ok (.invokevirtual 69, 3) := by decide +kernel
theorem d0_best_5 : decode c0_best 5 = .ok (.ifCond .eq 13, 3) := by decide +kernel
theorem d0_best_8 : decode c0_best 8 = .ok (.iload_n 2, 1) := by decide +kernel
theorem d0_best_9 : decode c0_best 9 = .ok (.iconst 1, 1) := by decide +kernel
theorem d0_best_10 : decode c0_best 10 = .ok (.bipush 64, 2) := by decide +kernel
theorem d0_best_12 : decode c0_best 12 = .ok (.invokestatic 73, 3) := by decide +kernel
theorem d0_best_15 : decode c0_best 15 = .ok (.ifCond .ne 6, 3) := by decide +kernel
theorem d0_best_18 : decode c0_best 18 = .ok (.bipush (-2), 2) := by decide +kernel
theorem d0_best_20 : decode c0_best 20 = .ok (.ireturn, 1) := by decide +kernel
theorem d0_best_21 : decode c0_best 21 = .ok (.aload_n 0, 1) := by decide +kernel
theorem d0_best_22 : decode c0_best 22 = .ok (.bipush 6, 2) := by decide +kernel
theorem d0_best_24 : decode c0_best 24 = .ok (.iload_n 1, 1) := by decide +kernel
theorem d0_best_25 : decode c0_best 25 = .ok (.iconst (-1), 1) := by decide +kernel
theorem d0_best_26 : decode c0_best 26 = .ok (.iload_n 2, 1) := by decide +kernel
theorem d0_best_27 : decode c0_best 27 = .ok (.i2l, 1) := by decide +kernel
theorem d0_best_28 : decode c0_best 28 = .ok (.lconst 0, 1) := by decide +kernel
theorem d0_best_29 : decode c0_best 29 = .ok (.invokevirtual 65, 3) := by decide +kernel
theorem d0_best_32 : decode c0_best 32 = .ok (.ireturn, 1) := by decide +kernel
theorem d0_look_0 : decode c0_look 0 = .ok (.aload_n 0, 1) := by decide +kernel
theorem d0_look_1 : decode c0_look 1 = .ok (.iload_n 1, 1) := by decide +kernel
theorem d0_look_2 : decode c0_look 2 = .ok (.invokevirtual 69, 3) := by decide +kernel
theorem d0_look_5 : decode c0_look 5 = .ok (.ifCond .eq 11, 3) := by decide +kernel
theorem d0_look_8 : decode c0_look 8 = .ok (.aload_n 0, 1) := by decide +kernel
theorem d0_look_9 : decode c0_look 9 = .ok (.iload_n 2, 1) := by decide +kernel
theorem d0_look_10 : decode c0_look 10 = .ok (.invokevirtual 69, 3) := by decide +kernel
theorem d0_look_13 : decode c0_look 13 = .ok (.ifCond .ne 6, 3) := by decide +kernel
theorem d0_look_16 : decode c0_look 16 = .ok (.bipush (-2), 2) := by decide +kernel
theorem d0_look_18 : decode c0_look 18 = .ok (.ireturn, 1) := by decide +kernel
theorem d0_look_19 : decode c0_look 19 = .ok (.aload_n 0, 1) := by decide +kernel
theorem d0_look_20 : decode c0_look 20 = .ok (.bipush 7, 2) := by decide +kernel
theorem d0_look_22 : decode c0_look 22 = .ok (.iload_n 1, 1) := by decide +kernel
theorem d0_look_23 : decode c0_look 23 = .ok (.iload_n 2, 1) := by decide +kernel
theorem d0_look_24 : decode c0_look 24 = .ok (.lconst 0, 1) := by decide +kernel
theorem d0_look_25 : decode c0_look 25 = .ok (.lconst 0, 1) := by decide +kernel
theorem d0_look_26 : decode c0_look 26 = .ok (.invokevirtual 65, 3) := by decide +kernel
theorem d0_look_29 : decode c0_look 29 = .ok (.ireturn, 1) := by decide +kernel
theorem d0_isSource_0 : decode c0_isSource 0 = .ok (.aload_n 0, 1) := by decide +kernel
theorem d0_isSource_1 : decode c0_isSource 1 = .ok (.iload_n 1, 1) := by decide +kernel
theorem d0_isSource_2 : decode c0_isSource 2 = .ok (.invokevirtual 69, 3) := by decide +kernel
theorem d0_isSource_5 : decode c0_isSource 5 = .ok (.ifCond .eq 19, 3) := by decide +kernel
theorem d0_isSource_8 : decode c0_isSource 8 = .ok (.aload_n 0, 1) := by decide +kernel
theorem d0_isSource_9 : decode c0_isSource 9 = .ok (.getfield 11, 3) := by decide +kernel
theorem d0_isSource_12 : decode c0_isSource 12 = .ok (.iload_n 1, 1) := by decide +kernel
theorem d0_isSource_13 : decode c0_isSource 13 = .ok (.aaload, 1) := by decide +kernel
theorem d0_isSource_14 : decode c0_isSource 14 = .ok (.getfield 184, 3) := by decide +kernel
theorem d0_isSource_17 : decode c0_isSource 17 = .ok (.ifCond .ne 7, 3) := by decide +kernel
theorem d0_isSource_20 : decode c0_isSource 20 = .ok (.iconst 1, 1) := by decide +kernel
theorem d0_isSource_21 : decode c0_isSource 21 = .ok (.goto 4, 3) := by decide +kernel
theorem d0_isSource_24 : decode c0_isSource 24 = .ok (.iconst 0, 1) := by decide +kernel
theorem d0_isSource_25 : decode c0_isSource 25 = .ok (.ireturn, 1) := by decide +kernel
theorem d0_isKey_0 : decode c0_isKey 0 = .ok (.iload_n 0, 1) := by decide +kernel
theorem d0_isKey_1 : decode c0_isKey 1 = .ok (.iconst 0, 1) := by decide +kernel
theorem d0_isKey_2 : decode c0_isKey 2 = .ok (.bipush 63, 2) := by decide +kernel
theorem d0_isKey_4 : decode c0_isKey 4 = .ok (.invokestatic 73, 3) := by decide +kernel
theorem d0_isKey_7 : decode c0_isKey 7 = .ok (.ireturn, 1) := by decide +kernel
theorem d0_isMoved_0 : decode c0_isMoved 0 = .ok (.aload_n 0, 1) := by decide +kernel
theorem d0_isMoved_1 : decode c0_isMoved 1 = .ok (.iload_n 1, 1) := by decide +kernel
theorem d0_isMoved_2 : decode c0_isMoved 2 = .ok (.invokevirtual 69, 3) := by decide +kernel
theorem d0_isMoved_5 : decode c0_isMoved 5 = .ok (.ifCond .eq 21, 3) := by decide +kernel
theorem d0_isMoved_8 : decode c0_isMoved 8 = .ok (.aload_n 0, 1) := by decide +kernel
theorem d0_isMoved_9 : decode c0_isMoved 9 = .ok (.getfield 11, 3) := by decide +kernel
theorem d0_isMoved_12 : decode c0_isMoved 12 = .ok (.iload_n 1, 1) := by decide +kernel
theorem d0_isMoved_13 : decode c0_isMoved 13 = .ok (.aaload, 1) := by decide +kernel
theorem d0_isMoved_14 : decode c0_isMoved 14 = .ok (.getfield 219, 3) := by decide +kernel
theorem d0_isMoved_17 : decode c0_isMoved 17 = .ok (.lconst 0, 1) := by decide +kernel
theorem d0_isMoved_18 : decode c0_isMoved 18 = .ok (.lcmp, 1) := by decide +kernel
theorem d0_isMoved_19 : decode c0_isMoved 19 = .ok (.ifCond .eq 7, 3) := by decide +kernel
theorem d0_isMoved_22 : decode c0_isMoved 22 = .ok (.iconst 1, 1) := by decide +kernel
theorem d0_isMoved_23 : decode c0_isMoved 23 = .ok (.goto 4, 3) := by decide +kernel
theorem d0_isMoved_26 : decode c0_isMoved 26 = .ok (.iconst 0, 1) := by decide +kernel
theorem d0_isMoved_27 : decode c0_isMoved 27 = .ok (.ireturn, 1) := by decide +kernel
theorem d0_follow_0 : decode c0_follow 0 = .ok (.iconst 0, 1) := by decide +kernel
theorem d0_follow_1 : decode c0_follow 1 = .ok (.istore_n 1, 1) := by decide +kernel
theorem d0_follow_2 : decode c0_follow 2 = .ok (.iconst 0, 1) := by decide +kernel
theorem d0_follow_3 : decode c0_follow 3 = .ok (.istore_n 2, 1) := by decide +kernel
theorem d0_follow_4 : decode c0_follow 4 = .ok (.iload_n 2, 1) := by decide +kernel
theorem d0_follow_5 : decode c0_follow 5 = .ok (.aload_n 0, 1) := by decide +kernel
theorem d0_follow_6 : decode c0_follow 6 = .ok (.getfield 15, 3) := by decide +kernel
theorem d0_follow_9 : decode c0_follow 9 = .ok (.if_icmp .ge 83, 3) := by decide +kernel
theorem d0_follow_12 : decode c0_follow 12 = .ok (.aload_n 0, 1) := by decide +kernel
theorem d0_follow_13 : decode c0_follow 13 = .ok (.getfield 11, 3) := by decide +kernel
theorem d0_follow_16 : decode c0_follow 16 = .ok (.iload_n 2, 1) := by decide +kernel
theorem d0_follow_17 : decode c0_follow 17 = .ok (.aaload, 1) := by decide +kernel
theorem d0_follow_18 : decode c0_follow 18 = .ok (.astore_n 3, 1) := by decide +kernel
theorem d0_follow_19 : decode c0_follow 19 = .ok (.aload_n 0, 1) := by decide +kernel
theorem d0_follow_20 : decode c0_follow 20 = .ok (.aload_n 3, 1) := by decide +kernel
theorem d0_follow_21 : decode c0_follow 21 = .ok (.getfield 187, 3) := by decide +kernel
theorem d0_follow_24 : decode c0_follow 24 = .ok (.invokevirtual 216, 3) := by decide +kernel
theorem d0_follow_27 : decode c0_follow 27 = .ok (.ifCond .ne 14, 3) := by decide +kernel
theorem d0_follow_30 : decode c0_follow 30 = .ok (.aload_n 0, 1) := by decide +kernel
theorem d0_follow_31 : decode c0_follow 31 = .ok (.aload_n 3, 1) := by decide +kernel
theorem d0_follow_32 : decode c0_follow 32 = .ok (.getfield 190, 3) := by decide +kernel
theorem d0_follow_35 : decode c0_follow 35 = .ok (.invokevirtual 216, 3) := by decide +kernel
theorem d0_follow_38 : decode c0_follow 38 = .ok (.ifCond .eq 23, 3) := by decide +kernel
theorem d0_follow_41 : decode c0_follow 41 = .ok (.aload_n 3, 1) := by decide +kernel
theorem d0_follow_42 : decode c0_follow 42 = .ok (.aload_n 0, 1) := by decide +kernel
theorem d0_follow_43 : decode c0_follow 43 = .ok (.aload_n 3, 1) := by decide +kernel
theorem d0_follow_44 : decode c0_follow 44 = .ok (.getfield 187, 3) := by decide +kernel
theorem d0_follow_47 : decode c0_follow 47 = .ok (.invokevirtual 197, 3) := by decide +kernel
theorem d0_follow_50 : decode c0_follow 50 = .ok (.aload_n 0, 1) := by decide +kernel
theorem d0_follow_51 : decode c0_follow 51 = .ok (.aload_n 3, 1) := by decide +kernel
theorem d0_follow_52 : decode c0_follow 52 = .ok (.getfield 190, 3) := by decide +kernel
theorem d0_follow_55 : decode c0_follow 55 = .ok (.invokevirtual 197, 3) := by decide +kernel
theorem d0_follow_58 : decode c0_follow 58 = .ok (.invokevirtual 200, 3) := by decide +kernel
theorem d0_follow_61 : decode c0_follow 61 = .ok (.aload_n 3, 1) := by decide +kernel
theorem d0_follow_62 : decode c0_follow 62 = .ok (.aload_n 3, 1) := by decide +kernel
theorem d0_follow_63 : decode c0_follow 63 = .ok (.getfield 147, 3) := by decide +kernel
theorem d0_follow_66 : decode c0_follow 66 = .ok (.aload_n 3, 1) := by decide +kernel
theorem d0_follow_67 : decode c0_follow 67 = .ok (.getfield 101, 3) := by decide +kernel
theorem d0_follow_70 : decode c0_follow 70 = .ok (.invokevirtual 157, 3) := by decide +kernel
theorem d0_follow_73 : decode c0_follow 73 = .ok (.putfield 219, 3) := by decide +kernel
theorem d0_follow_76 : decode c0_follow 76 = .ok (.iload_n 1, 1) := by decide +kernel
theorem d0_follow_77 : decode c0_follow 77 = .ok (.aload_n 3, 1) := by decide +kernel
theorem d0_follow_78 : decode c0_follow 78 = .ok (.getfield 219, 3) := by decide +kernel
theorem d0_follow_81 : decode c0_follow 81 = .ok (.invokestatic 223, 3) := by decide +kernel
theorem d0_follow_84 : decode c0_follow 84 = .ok (.iadd, 1) := by decide +kernel
theorem d0_follow_85 : decode c0_follow 85 = .ok (.istore_n 1, 1) := by decide +kernel
theorem d0_follow_86 : decode c0_follow 86 = .ok (.iinc 2 1, 3) := by decide +kernel
theorem d0_follow_89 : decode c0_follow 89 = .ok (.goto (-85), 3) := by decide +kernel
theorem d0_follow_92 : decode c0_follow 92 = .ok (.iload_n 1, 1) := by decide +kernel
theorem d0_follow_93 : decode c0_follow 93 = .ok (.ireturn, 1) := by decide +kernel
theorem d0_takeBack_0 : decode c0_takeBack 0 = .ok (.iconst 0, 1) := by decide +kernel
theorem d0_takeBack_1 : decode c0_takeBack 1 = .ok (.istore_n 1, 1) := by decide +kernel
theorem d0_takeBack_2 : decode c0_takeBack 2 = .ok (.iload_n 1, 1) := by decide +kernel
theorem d0_takeBack_3 : decode c0_takeBack 3 = .ok (.aload_n 0, 1) := by decide +kernel
theorem d0_takeBack_4 : decode c0_takeBack 4 = .ok (.getfield 15, 3) := by decide +kernel
theorem d0_takeBack_7 : decode c0_takeBack 7 = .ok (.if_icmp .ge 30, 3) := by decide +kernel
theorem d0_takeBack_10 : decode c0_takeBack 10 = .ok (.aload_n 0, 1) := by decide +kernel
theorem d0_takeBack_11 : decode c0_takeBack 11 = .ok (.getfield 11, 3) := by decide +kernel
theorem d0_takeBack_14 : decode c0_takeBack 14 = .ok (.iload_n 1, 1) := by decide +kernel
theorem d0_takeBack_15 : decode c0_takeBack 15 = .ok (.aaload, 1) := by decide +kernel
theorem d0_takeBack_16 : decode c0_takeBack 16 = .ok (.getfield 101, 3) := by decide +kernel
theorem d0_takeBack_19 : decode c0_takeBack 19 = .ok (.aload_n 0, 1) := by decide +kernel
theorem d0_takeBack_20 : decode c0_takeBack 20 = .ok (.getfield 11, 3) := by decide +kernel
theorem d0_takeBack_23 : decode c0_takeBack 23 = .ok (.iload_n 1, 1) := by decide +kernel
theorem d0_takeBack_24 : decode c0_takeBack 24 = .ok (.aaload, 1) := by decide +kernel
theorem d0_takeBack_25 : decode c0_takeBack 25 = .ok (.getfield 147, 3) := by decide +kernel
theorem d0_takeBack_28 : decode c0_takeBack 28 = .ok (.invokevirtual 149, 3) := by decide +kernel
theorem d0_takeBack_31 : decode c0_takeBack 31 = .ok (.iinc 1 1, 3) := by decide +kernel
theorem d0_takeBack_34 : decode c0_takeBack 34 = .ok (.goto (-32), 3) := by decide +kernel
theorem d0_takeBack_37 : decode c0_takeBack 37 = .ok (.return_, 1) := by decide +kernel
theorem d0_tell_0 : decode c0_tell 0 = .ok (.aload_n 0, 1) := by decide +kernel
theorem d0_tell_1 : decode c0_tell 1 = .ok (.getfield 35, 3) := by decide +kernel
theorem d0_tell_4 : decode c0_tell 4 = .ok (.invokevirtual 61, 3) := by decide +kernel
theorem d0_tell_7 : decode c0_tell 7 = .ok (.iconst 0, 1) := by decide +kernel
theorem d0_tell_8 : decode c0_tell 8 = .ok (.istore_n 1, 1) := by decide +kernel
theorem d0_tell_9 : decode c0_tell 9 = .ok (.iload_n 1, 1) := by decide +kernel
theorem d0_tell_10 : decode c0_tell 10 = .ok (.aload_n 0, 1) := by decide +kernel
theorem d0_tell_11 : decode c0_tell 11 = .ok (.getfield 15, 3) := by decide +kernel
theorem d0_tell_14 : decode c0_tell 14 = .ok (.if_icmp .ge 56, 3) := by decide +kernel
theorem d0_tell_17 : decode c0_tell 17 = .ok (.aload_n 0, 1) := by decide +kernel
theorem d0_tell_18 : decode c0_tell 18 = .ok (.getfield 11, 3) := by decide +kernel
theorem d0_tell_21 : decode c0_tell 21 = .ok (.iload_n 1, 1) := by decide +kernel
theorem d0_tell_22 : decode c0_tell 22 = .ok (.aaload, 1) := by decide +kernel
theorem d0_tell_23 : decode c0_tell 23 = .ok (.astore_n 2, 1) := by decide +kernel
theorem d0_tell_24 : decode c0_tell 24 = .ok (.aload_n 2, 1) := by decide +kernel
theorem d0_tell_25 : decode c0_tell 25 = .ok (.getfield 219, 3) := by decide +kernel
theorem d0_tell_28 : decode c0_tell 28 = .ok (.lconst 0, 1) := by decide +kernel
theorem d0_tell_29 : decode c0_tell 29 = .ok (.lcmp, 1) := by decide +kernel
theorem d0_tell_30 : decode c0_tell 30 = .ok (.ifCond .eq 34, 3) := by decide +kernel
theorem d0_tell_33 : decode c0_tell 33 = .ok (.aload_n 0, 1) := by decide +kernel
theorem d0_tell_34 : decode c0_tell 34 = .ok (.getfield 35, 3) := by decide +kernel
theorem d0_tell_37 : decode c0_tell 37 = .ok (.iload_n 1, 1) := by decide +kernel
theorem d0_tell_38 : decode c0_tell 38 = .ok (.aload_n 2, 1) := by decide +kernel
theorem d0_tell_39 : decode c0_tell 39 = .ok (.getfield 147, 3) := by decide +kernel
theorem d0_tell_42 : decode c0_tell 42 = .ok (.aload_n 2, 1) := by decide +kernel
theorem d0_tell_43 : decode c0_tell 43 = .ok (.getfield 101, 3) := by decide +kernel
theorem d0_tell_46 : decode c0_tell 46 = .ok (.aload_n 2, 1) := by decide +kernel
theorem d0_tell_47 : decode c0_tell 47 = .ok (.getfield 219, 3) := by decide +kernel
theorem d0_tell_50 : decode c0_tell 50 = .ok (.invokevirtual 161, 3) := by decide +kernel
theorem d0_tell_53 : decode c0_tell 53 = .ok (.aload_n 2, 1) := by decide +kernel
theorem d0_tell_54 : decode c0_tell 54 = .ok (.getfield 147, 3) := by decide +kernel
theorem d0_tell_57 : decode c0_tell 57 = .ok (.aload_n 2, 1) := by decide +kernel
theorem d0_tell_58 : decode c0_tell 58 = .ok (.getfield 101, 3) := by decide +kernel
theorem d0_tell_61 : decode c0_tell 61 = .ok (.invokevirtual 149, 3) := by decide +kernel
theorem d0_tell_64 : decode c0_tell 64 = .ok (.iinc 1 1, 3) := by decide +kernel
theorem d0_tell_67 : decode c0_tell 67 = .ok (.goto (-58), 3) := by decide +kernel
theorem d0_tell_70 : decode c0_tell 70 = .ok (.aload_n 0, 1) := by decide +kernel
theorem d0_tell_71 : decode c0_tell 71 = .ok (.getfield 31, 3) := by decide +kernel
theorem d0_tell_74 : decode c0_tell 74 = .ok (.aload_n 0, 1) := by decide +kernel
theorem d0_tell_75 : decode c0_tell 75 = .ok (.getfield 35, 3) := by decide +kernel
theorem d0_tell_78 : decode c0_tell 78 = .ok (.invokevirtual 229, 3) := by decide +kernel
theorem d0_tell_81 : decode c0_tell 81 = .ok (.return_, 1) := by decide +kernel
theorem d0_settle_0 : decode c0_settle 0 = .ok (.aload_n 0, 1) := by decide +kernel
theorem d0_settle_1 : decode c0_settle 1 = .ok (.invokevirtual 207, 3) := by decide +kernel
theorem d0_settle_4 : decode c0_settle 4 = .ok (.istore_n 1, 1) := by decide +kernel
theorem d0_settle_5 : decode c0_settle 5 = .ok (.iload_n 1, 1) := by decide +kernel
theorem d0_settle_6 : decode c0_settle 6 = .ok (.sipush 1500, 3) := by decide +kernel
theorem d0_settle_9 : decode c0_settle 9 = .ok (.aload_n 0, 1) := by decide +kernel
theorem d0_settle_10 : decode c0_settle 10 = .ok (.getfield 31, 3) := by decide +kernel
theorem d0_settle_13 : decode c0_settle 13 = .ok (.getfield 123, 3) := by decide +kernel
theorem d0_settle_16 : decode c0_settle 16 = .ok (.isub, 1) := by decide +kernel
theorem d0_settle_17 : decode c0_settle 17 = .ok (.if_icmp .le 10, 3) := by decide +kernel
theorem d0_settle_20 : decode c0_settle 20 = .ok (.aload_n 0, 1) := by decide +kernel
theorem d0_settle_21 : decode c0_settle 21 = .ok (.invokevirtual 210, 3) := by decide +kernel
theorem d0_settle_24 : decode c0_settle 24 = .ok (.bipush (-3), 2) := by decide +kernel
theorem d0_settle_26 : decode c0_settle 26 = .ok (.ireturn, 1) := by decide +kernel
theorem d0_settle_27 : decode c0_settle 27 = .ok (.aload_n 0, 1) := by decide +kernel
theorem d0_settle_28 : decode c0_settle 28 = .ok (.invokevirtual 213, 3) := by decide +kernel
theorem d0_settle_31 : decode c0_settle 31 = .ok (.iload_n 1, 1) := by decide +kernel
theorem d0_settle_32 : decode c0_settle 32 = .ok (.ireturn, 1) := by decide +kernel
theorem d0_alter_0 : decode c0_alter 0 = .ok (.aload_n 0, 1) := by decide +kernel
theorem d0_alter_1 : decode c0_alter 1 = .ok (.getfield 22, 3) := by decide +kernel
theorem d0_alter_4 : decode c0_alter 4 = .ok (.getfield 87, 3) := by decide +kernel
theorem d0_alter_7 : decode c0_alter 7 = .ok (.ifCond .eq 16, 3) := by decide +kernel
theorem d0_alter_10 : decode c0_alter 10 = .ok (.aload_n 0, 1) := by decide +kernel
theorem d0_alter_11 : decode c0_alter 11 = .ok (.getfield 22, 3) := by decide +kernel
theorem d0_alter_14 : decode c0_alter 14 = .ok (.iload_n 1, 1) := by decide +kernel
theorem d0_alter_15 : decode c0_alter 15 = .ok (.iload_n 2, 1) := by decide +kernel
theorem d0_alter_16 : decode c0_alter 16 = .ok (.iload_n 3, 1) := by decide +kernel
theorem d0_alter_17 : decode c0_alter 17 = .ok (.lload 4, 2) := by decide +kernel
theorem d0_alter_19 : decode c0_alter 19 = .ok (.invokevirtual 204, 3) := by decide +kernel
theorem d0_alter_22 : decode c0_alter 22 = .ok (.ireturn, 1) := by decide +kernel
theorem d0_alter_23 : decode c0_alter 23 = .ok (.aload_n 0, 1) := by decide +kernel
theorem d0_alter_24 : decode c0_alter 24 = .ok (.getfield 11, 3) := by decide +kernel
theorem d0_alter_27 : decode c0_alter 27 = .ok (.iload_n 1, 1) := by decide +kernel
theorem d0_alter_28 : decode c0_alter 28 = .ok (.aaload, 1) := by decide +kernel
theorem d0_alter_29 : decode c0_alter 29 = .ok (.getfield 101, 3) := by decide +kernel
theorem d0_alter_32 : decode c0_alter 32 = .ok (.iload_n 2, 1) := by decide +kernel
theorem d0_alter_33 : decode c0_alter 33 = .ok (.iload_n 3, 1) := by decide +kernel
theorem d0_alter_34 : decode c0_alter 34 = .ok (.lload 4, 2) := by decide +kernel
theorem d0_alter_36 : decode c0_alter 36 = .ok (.invokevirtual 115, 3) := by decide +kernel
theorem d0_alter_39 : decode c0_alter 39 = .ok (.aload_n 0, 1) := by decide +kernel
theorem d0_alter_40 : decode c0_alter 40 = .ok (.invokevirtual 119, 3) := by decide +kernel
theorem d0_alter_43 : decode c0_alter 43 = .ok (.ireturn, 1) := by decide +kernel
theorem d0_put_0 : decode c0_put 0 = .ok (.aload_n 0, 1) := by decide +kernel
theorem d0_put_1 : decode c0_put 1 = .ok (.iload_n 1, 1) := by decide +kernel
theorem d0_put_2 : decode c0_put 2 = .ok (.invokevirtual 77, 3) := by decide +kernel
theorem d0_put_5 : decode c0_put 5 = .ok (.ifCond .eq 10, 3) := by decide +kernel
theorem d0_put_8 : decode c0_put 8 = .ok (.iload_n 2, 1) := by decide +kernel
theorem d0_put_9 : decode c0_put 9 = .ok (.invokestatic 80, 3) := by decide +kernel
theorem d0_put_12 : decode c0_put 12 = .ok (.ifCond .ne 6, 3) := by decide +kernel
theorem d0_put_15 : decode c0_put 15 = .ok (.bipush (-2), 2) := by decide +kernel
theorem d0_put_17 : decode c0_put 17 = .ok (.ireturn, 1) := by decide +kernel
theorem d0_put_18 : decode c0_put 18 = .ok (.aload_n 0, 1) := by decide +kernel
theorem d0_put_19 : decode c0_put 19 = .ok (.iload_n 1, 1) := by decide +kernel
theorem d0_put_20 : decode c0_put 20 = .ok (.iload_n 2, 1) := by decide +kernel
theorem d0_put_21 : decode c0_put 21 = .ok (.iconst 1, 1) := by decide +kernel
theorem d0_put_22 : decode c0_put 22 = .ok (.lload_n 3, 1) := by decide +kernel
theorem d0_put_23 : decode c0_put 23 = .ok (.invokevirtual 83, 3) := by decide +kernel
theorem d0_put_26 : decode c0_put 26 = .ok (.ireturn, 1) := by decide +kernel
theorem d0_remove_0 : decode c0_remove 0 = .ok (.aload_n 0, 1) := by decide +kernel
theorem d0_remove_1 : decode c0_remove 1 = .ok (.iload_n 1, 1) := by decide +kernel
theorem d0_remove_2 : decode c0_remove 2 = .ok (.invokevirtual 77, 3) := by decide +kernel
theorem d0_remove_5 : decode c0_remove 5 = .ok (.ifCond .eq 10, 3) := by decide +kernel
theorem d0_remove_8 : decode c0_remove 8 = .ok (.iload_n 2, 1) := by decide +kernel
theorem d0_remove_9 : decode c0_remove 9 = .ok (.invokestatic 80, 3) := by decide +kernel
theorem d0_remove_12 : decode c0_remove 12 = .ok (.ifCond .ne 6, 3) := by decide +kernel
theorem d0_remove_15 : decode c0_remove 15 = .ok (.bipush (-2), 2) := by decide +kernel
theorem d0_remove_17 : decode c0_remove 17 = .ok (.ireturn, 1) := by decide +kernel
theorem d0_remove_18 : decode c0_remove 18 = .ok (.aload_n 0, 1) := by decide +kernel
theorem d0_remove_19 : decode c0_remove 19 = .ok (.iload_n 1, 1) := by decide +kernel
theorem d0_remove_20 : decode c0_remove 20 = .ok (.iload_n 2, 1) := by decide +kernel
theorem d0_remove_21 : decode c0_remove 21 = .ok (.iconst 0, 1) := by decide +kernel
theorem d0_remove_22 : decode c0_remove 22 = .ok (.lconst 0, 1) := by decide +kernel
theorem d0_remove_23 : decode c0_remove 23 = .ok (.invokevirtual 83, 3) := by decide +kernel
theorem d0_remove_26 : decode c0_remove 26 = .ok (.ireturn, 1) := by decide +kernel
theorem d0_begin_0 : decode c0_begin 0 = .ok (.aload_n 0, 1) := by decide +kernel
theorem d0_begin_1 : decode c0_begin 1 = .ok (.getfield 22, 3) := by decide +kernel
theorem d0_begin_4 : decode c0_begin 4 = .ok (.getfield 87, 3) := by decide +kernel
theorem d0_begin_7 : decode c0_begin 7 = .ok (.ifCond .eq 6, 3) := by decide +kernel
theorem d0_begin_10 : decode c0_begin 10 = .ok (.bipush (-4), 2) := by decide +kernel
theorem d0_begin_12 : decode c0_begin 12 = .ok (.ireturn, 1) := by decide +kernel
theorem d0_begin_13 : decode c0_begin 13 = .ok (.aload_n 0, 1) := by decide +kernel
theorem d0_begin_14 : decode c0_begin 14 = .ok (.getfield 22, 3) := by decide +kernel
theorem d0_begin_17 : decode c0_begin 17 = .ok (.invokevirtual 91, 3) := by decide +kernel
theorem d0_begin_20 : decode c0_begin 20 = .ok (.iconst 1, 1) := by decide +kernel
theorem d0_begin_21 : decode c0_begin 21 = .ok (.ireturn, 1) := by decide +kernel
theorem d0_end_0 : decode c0_end 0 = .ok (.aload_n 0, 1) := by decide +kernel
theorem d0_end_1 : decode c0_end 1 = .ok (.getfield 22, 3) := by decide +kernel
theorem d0_end_4 : decode c0_end 4 = .ok (.getfield 87, 3) := by decide +kernel
theorem d0_end_7 : decode c0_end 7 = .ok (.ifCond .ne 6, 3) := by decide +kernel
theorem d0_end_10 : decode c0_end 10 = .ok (.bipush (-4), 2) := by decide +kernel
theorem d0_end_12 : decode c0_end 12 = .ok (.ireturn, 1) := by decide +kernel
theorem d0_end_13 : decode c0_end 13 = .ok (.iconst 0, 1) := by decide +kernel
theorem d0_end_14 : decode c0_end 14 = .ok (.istore_n 1, 1) := by decide +kernel
theorem d0_end_15 : decode c0_end 15 = .ok (.iload_n 1, 1) := by decide +kernel
theorem d0_end_16 : decode c0_end 16 = .ok (.aload_n 0, 1) := by decide +kernel
theorem d0_end_17 : decode c0_end 17 = .ok (.getfield 22, 3) := by decide +kernel
theorem d0_end_20 : decode c0_end 20 = .ok (.getfield 94, 3) := by decide +kernel
theorem d0_end_23 : decode c0_end 23 = .ok (.if_icmp .ge 56, 3) := by decide +kernel
theorem d0_end_26 : decode c0_end 26 = .ok (.aload_n 0, 1) := by decide +kernel
theorem d0_end_27 : decode c0_end 27 = .ok (.getfield 11, 3) := by decide +kernel
theorem d0_end_30 : decode c0_end 30 = .ok (.aload_n 0, 1) := by decide +kernel
theorem d0_end_31 : decode c0_end 31 = .ok (.getfield 22, 3) := by decide +kernel
theorem d0_end_34 : decode c0_end 34 = .ok (.getfield 97, 3) := by decide +kernel
theorem d0_end_37 : decode c0_end 37 = .ok (.iload_n 1, 1) := by decide +kernel
theorem d0_end_38 : decode c0_end 38 = .ok (.iaload, 1) := by decide +kernel
theorem d0_end_39 : decode c0_end 39 = .ok (.aaload, 1) := by decide +kernel
theorem d0_end_40 : decode c0_end 40 = .ok (.getfield 101, 3) := by decide +kernel
theorem d0_end_43 : decode c0_end 43 = .ok (.aload_n 0, 1) := by decide +kernel
theorem d0_end_44 : decode c0_end 44 = .ok (.getfield 22, 3) := by decide +kernel
theorem d0_end_47 : decode c0_end 47 = .ok (.getfield 104, 3) := by decide +kernel
theorem d0_end_50 : decode c0_end 50 = .ok (.iload_n 1, 1) := by decide +kernel
theorem d0_end_51 : decode c0_end 51 = .ok (.iaload, 1) := by decide +kernel
theorem d0_end_52 : decode c0_end 52 = .ok (.aload_n 0, 1) := by decide +kernel
theorem d0_end_53 : decode c0_end 53 = .ok (.getfield 22, 3) := by decide +kernel
theorem d0_end_56 : decode c0_end 56 = .ok (.getfield 107, 3) := by decide +kernel
theorem d0_end_59 : decode c0_end 59 = .ok (.iload_n 1, 1) := by decide +kernel
theorem d0_end_60 : decode c0_end 60 = .ok (.baload, 1) := by decide +kernel
theorem d0_end_61 : decode c0_end 61 = .ok (.aload_n 0, 1) := by decide +kernel
theorem d0_end_62 : decode c0_end 62 = .ok (.getfield 22, 3) := by decide +kernel
theorem d0_end_65 : decode c0_end 65 = .ok (.getfield 111, 3) := by decide +kernel
theorem d0_end_68 : decode c0_end 68 = .ok (.iload_n 1, 1) := by decide +kernel
theorem d0_end_69 : decode c0_end 69 = .ok (.laload, 1) := by decide +kernel
theorem d0_end_70 : decode c0_end 70 = .ok (.invokevirtual 115, 3) := by decide +kernel
theorem d0_end_73 : decode c0_end 73 = .ok (.iinc 1 1, 3) := by decide +kernel
theorem d0_end_76 : decode c0_end 76 = .ok (.goto (-61), 3) := by decide +kernel
theorem d0_end_79 : decode c0_end 79 = .ok (.aload_n 0, 1) := by decide +kernel
theorem d0_end_80 : decode c0_end 80 = .ok (.invokevirtual 119, 3) := by decide +kernel
theorem d0_end_83 : decode c0_end 83 = .ok (.istore_n 1, 1) := by decide +kernel
theorem d0_end_84 : decode c0_end 84 = .ok (.iload_n 1, 1) := by decide +kernel
theorem d0_end_85 : decode c0_end 85 = .ok (.bipush (-3), 2) := by decide +kernel
theorem d0_end_87 : decode c0_end 87 = .ok (.if_icmp .eq 10, 3) := by decide +kernel
theorem d0_end_90 : decode c0_end 90 = .ok (.aload_n 0, 1) := by decide +kernel
theorem d0_end_91 : decode c0_end 91 = .ok (.getfield 22, 3) := by decide +kernel
theorem d0_end_94 : decode c0_end 94 = .ok (.invokevirtual 58, 3) := by decide +kernel
theorem d0_end_97 : decode c0_end 97 = .ok (.iload_n 1, 1) := by decide +kernel
theorem d0_end_98 : decode c0_end 98 = .ok (.ireturn, 1) := by decide +kernel
theorem d0_drop_0 : decode c0_drop 0 = .ok (.aload_n 0, 1) := by decide +kernel
theorem d0_drop_1 : decode c0_drop 1 = .ok (.getfield 22, 3) := by decide +kernel
theorem d0_drop_4 : decode c0_drop 4 = .ok (.getfield 87, 3) := by decide +kernel
theorem d0_drop_7 : decode c0_drop 7 = .ok (.ifCond .ne 6, 3) := by decide +kernel
theorem d0_drop_10 : decode c0_drop 10 = .ok (.bipush (-4), 2) := by decide +kernel
theorem d0_drop_12 : decode c0_drop 12 = .ok (.ireturn, 1) := by decide +kernel
theorem d0_drop_13 : decode c0_drop 13 = .ok (.aload_n 0, 1) := by decide +kernel
theorem d0_drop_14 : decode c0_drop 14 = .ok (.getfield 22, 3) := by decide +kernel
theorem d0_drop_17 : decode c0_drop 17 = .ok (.getfield 94, 3) := by decide +kernel
theorem d0_drop_20 : decode c0_drop 20 = .ok (.istore_n 1, 1) := by decide +kernel
theorem d0_drop_21 : decode c0_drop 21 = .ok (.aload_n 0, 1) := by decide +kernel
theorem d0_drop_22 : decode c0_drop 22 = .ok (.getfield 22, 3) := by decide +kernel
theorem d0_drop_25 : decode c0_drop 25 = .ok (.invokevirtual 58, 3) := by decide +kernel
theorem d0_drop_28 : decode c0_drop 28 = .ok (.iload_n 1, 1) := by decide +kernel
theorem d0_drop_29 : decode c0_drop 29 = .ok (.ireturn, 1) := by decide +kernel
theorem d0_told_0 : decode c0_told 0 = .ok (.aload_n 0, 1) := by decide +kernel
theorem d0_told_1 : decode c0_told 1 = .ok (.getfield 35, 3) := by decide +kernel
theorem d0_told_4 : decode c0_told 4 = .ok (.getfield 123, 3) := by decide +kernel
theorem d0_told_7 : decode c0_told 7 = .ok (.ireturn, 1) := by decide +kernel
theorem d0_changesOf_0 : decode c0_changesOf 0 = .ok (.iload_n 1, 1) := by decide +kernel
theorem d0_changesOf_1 : decode c0_changesOf 1 = .ok (.tableswitch 42 0 2 #[27, 32, 37], 27) := by decide +kernel
theorem d0_changesOf_28 : decode c0_changesOf 28 = .ok (.aload_n 0, 1) := by decide +kernel
theorem d0_changesOf_29 : decode c0_changesOf 29 = .ok (.getfield 35, 3) := by decide +kernel
theorem d0_changesOf_32 : decode c0_changesOf 32 = .ok (.areturn, 1) := by decide +kernel
theorem d0_changesOf_33 : decode c0_changesOf 33 = .ok (.aload_n 0, 1) := by decide +kernel
theorem d0_changesOf_34 : decode c0_changesOf 34 = .ok (.getfield 31, 3) := by decide +kernel
theorem d0_changesOf_37 : decode c0_changesOf 37 = .ok (.areturn, 1) := by decide +kernel
theorem d0_changesOf_38 : decode c0_changesOf 38 = .ok (.aload_n 0, 1) := by decide +kernel
theorem d0_changesOf_39 : decode c0_changesOf 39 = .ok (.getfield 38, 3) := by decide +kernel
theorem d0_changesOf_42 : decode c0_changesOf 42 = .ok (.areturn, 1) := by decide +kernel
theorem d0_changesOf_43 : decode c0_changesOf 43 = .ok (.aconst_null, 1) := by decide +kernel
theorem d0_changesOf_44 : decode c0_changesOf 44 = .ok (.areturn, 1) := by decide +kernel
theorem d0_change_0 : decode c0_change 0 = .ok (.aload_n 0, 1) := by decide +kernel
theorem d0_change_1 : decode c0_change 1 = .ok (.iload_n 1, 1) := by decide +kernel
theorem d0_change_2 : decode c0_change 2 = .ok (.invokevirtual 124, 3) := by decide +kernel
theorem d0_change_5 : decode c0_change 5 = .ok (.astore 4, 2) := by decide +kernel
theorem d0_change_7 : decode c0_change 7 = .ok (.aload 4, 2) := by decide +kernel
theorem d0_change_9 : decode c0_change 9 = .ok (.ifnull 18, 3) := by decide +kernel
theorem d0_change_12 : decode c0_change 12 = .ok (.iload_n 2, 1) := by decide +kernel
theorem d0_change_13 : decode c0_change 13 = .ok (.iconst 0, 1) := by decide +kernel
theorem d0_change_14 : decode c0_change 14 = .ok (.aload 4, 2) := by decide +kernel
theorem d0_change_16 : decode c0_change 16 = .ok (.getfield 123, 3) := by decide +kernel
theorem d0_change_19 : decode c0_change 19 = .ok (.iconst 1, 1) := by decide +kernel
theorem d0_change_20 : decode c0_change 20 = .ok (.isub, 1) := by decide +kernel
theorem d0_change_21 : decode c0_change 21 = .ok (.invokestatic 73, 3) := by decide +kernel
theorem d0_change_24 : decode c0_change 24 = .ok (.ifCond .ne 6, 3) := by decide +kernel
theorem d0_change_27 : decode c0_change 27 = .ok (.bipush (-2), 2) := by decide +kernel
theorem d0_change_29 : decode c0_change 29 = .ok (.ireturn, 1) := by decide +kernel
theorem d0_change_30 : decode c0_change 30 = .ok (.iload_n 3, 1) := by decide +kernel
theorem d0_change_31 : decode c0_change 31 = .ok (.tableswitch 46 0 2 #[25, 32, 39], 25) := by decide +kernel
theorem d0_change_56 : decode c0_change 56 = .ok (.aload 4, 2) := by decide +kernel
theorem d0_change_58 : decode c0_change 58 = .ok (.iload_n 2, 1) := by decide +kernel
theorem d0_change_59 : decode c0_change 59 = .ok (.invokevirtual 128, 3) := by decide +kernel
theorem d0_change_62 : decode c0_change 62 = .ok (.ireturn, 1) := by decide +kernel
theorem d0_change_63 : decode c0_change 63 = .ok (.aload 4, 2) := by decide +kernel
theorem d0_change_65 : decode c0_change 65 = .ok (.iload_n 2, 1) := by decide +kernel
theorem d0_change_66 : decode c0_change 66 = .ok (.invokevirtual 132, 3) := by decide +kernel
theorem d0_change_69 : decode c0_change 69 = .ok (.ireturn, 1) := by decide +kernel
theorem d0_change_70 : decode c0_change 70 = .ok (.aload 4, 2) := by decide +kernel
theorem d0_change_72 : decode c0_change 72 = .ok (.iload_n 2, 1) := by decide +kernel
theorem d0_change_73 : decode c0_change 73 = .ok (.invokevirtual 135, 3) := by decide +kernel
theorem d0_change_76 : decode c0_change 76 = .ok (.ireturn, 1) := by decide +kernel
theorem d0_change_77 : decode c0_change 77 = .ok (.bipush (-2), 2) := by decide +kernel
theorem d0_change_79 : decode c0_change 79 = .ok (.ireturn, 1) := by decide +kernel
theorem d0_value_0 : decode c0_value 0 = .ok (.aload_n 0, 1) := by decide +kernel
theorem d0_value_1 : decode c0_value 1 = .ok (.iload_n 1, 1) := by decide +kernel
theorem d0_value_2 : decode c0_value 2 = .ok (.invokevirtual 124, 3) := by decide +kernel
theorem d0_value_5 : decode c0_value 5 = .ok (.astore 4, 2) := by decide +kernel
theorem d0_value_7 : decode c0_value 7 = .ok (.aload 4, 2) := by decide +kernel
theorem d0_value_9 : decode c0_value 9 = .ok (.ifnull 18, 3) := by decide +kernel
theorem d0_value_12 : decode c0_value 12 = .ok (.iload_n 2, 1) := by decide +kernel
theorem d0_value_13 : decode c0_value 13 = .ok (.iconst 0, 1) := by decide +kernel
theorem d0_value_14 : decode c0_value 14 = .ok (.aload 4, 2) := by decide +kernel
theorem d0_value_16 : decode c0_value 16 = .ok (.getfield 123, 3) := by decide +kernel
theorem d0_value_19 : decode c0_value 19 = .ok (.iconst 1, 1) := by decide +kernel
theorem d0_value_20 : decode c0_value 20 = .ok (.isub, 1) := by decide +kernel
theorem d0_value_21 : decode c0_value 21 = .ok (.invokestatic 73, 3) := by decide +kernel
theorem d0_value_24 : decode c0_value 24 = .ok (.ifCond .ne 5, 3) := by decide +kernel
theorem d0_value_27 : decode c0_value 27 = .ok (.lconst 0, 1) := by decide +kernel
theorem d0_value_28 : decode c0_value 28 = .ok (.lreturn, 1) := by decide +kernel
theorem d0_value_29 : decode c0_value 29 = .ok (.iload_n 3, 1) := by decide +kernel
theorem d0_value_30 : decode c0_value 30 = .ok (.lookupswitch 42 #[(0, 26), (1, 34)], 26) := by decide +kernel
theorem d0_value_56 : decode c0_value 56 = .ok (.aload 4, 2) := by decide +kernel
theorem d0_value_58 : decode c0_value 58 = .ok (.getfield 138, 3) := by decide +kernel
theorem d0_value_61 : decode c0_value 61 = .ok (.iload_n 2, 1) := by decide +kernel
theorem d0_value_62 : decode c0_value 62 = .ok (.laload, 1) := by decide +kernel
theorem d0_value_63 : decode c0_value 63 = .ok (.lreturn, 1) := by decide +kernel
theorem d0_value_64 : decode c0_value 64 = .ok (.aload 4, 2) := by decide +kernel
theorem d0_value_66 : decode c0_value 66 = .ok (.getfield 141, 3) := by decide +kernel
theorem d0_value_69 : decode c0_value 69 = .ok (.iload_n 2, 1) := by decide +kernel
theorem d0_value_70 : decode c0_value 70 = .ok (.laload, 1) := by decide +kernel
theorem d0_value_71 : decode c0_value 71 = .ok (.lreturn, 1) := by decide +kernel
theorem d0_value_72 : decode c0_value 72 = .ok (.lconst 0, 1) := by decide +kernel
theorem d0_value_73 : decode c0_value 73 = .ok (.lreturn, 1) := by decide +kernel
theorem d0_logged_0 : decode c0_logged 0 = .ok (.aload_n 0, 1) := by decide +kernel
theorem d0_logged_1 : decode c0_logged 1 = .ok (.getfield 31, 3) := by decide +kernel
theorem d0_logged_4 : decode c0_logged 4 = .ok (.getfield 123, 3) := by decide +kernel
theorem d0_logged_7 : decode c0_logged 7 = .ok (.ireturn, 1) := by decide +kernel
theorem d0_forget_0 : decode c0_forget 0 = .ok (.aload_n 0, 1) := by decide +kernel
theorem d0_forget_1 : decode c0_forget 1 = .ok (.getfield 31, 3) := by decide +kernel
theorem d0_forget_4 : decode c0_forget 4 = .ok (.getfield 123, 3) := by decide +kernel
theorem d0_forget_7 : decode c0_forget 7 = .ok (.istore_n 1, 1) := by decide +kernel
theorem d0_forget_8 : decode c0_forget 8 = .ok (.aload_n 0, 1) := by decide +kernel
theorem d0_forget_9 : decode c0_forget 9 = .ok (.getfield 31, 3) := by decide +kernel
theorem d0_forget_12 : decode c0_forget 12 = .ok (.invokevirtual 61, 3) := by decide +kernel
theorem d0_forget_15 : decode c0_forget 15 = .ok (.iconst 0, 1) := by decide +kernel
theorem d0_forget_16 : decode c0_forget 16 = .ok (.istore_n 2, 1) := by decide +kernel
theorem d0_forget_17 : decode c0_forget 17 = .ok (.iload_n 2, 1) := by decide +kernel
theorem d0_forget_18 : decode c0_forget 18 = .ok (.aload_n 0, 1) := by decide +kernel
theorem d0_forget_19 : decode c0_forget 19 = .ok (.getfield 15, 3) := by decide +kernel
theorem d0_forget_22 : decode c0_forget 22 = .ok (.if_icmp .ge 30, 3) := by decide +kernel
theorem d0_forget_25 : decode c0_forget 25 = .ok (.aload_n 0, 1) := by decide +kernel
theorem d0_forget_26 : decode c0_forget 26 = .ok (.getfield 11, 3) := by decide +kernel
theorem d0_forget_29 : decode c0_forget 29 = .ok (.iload_n 2, 1) := by decide +kernel
theorem d0_forget_30 : decode c0_forget 30 = .ok (.aaload, 1) := by decide +kernel
theorem d0_forget_31 : decode c0_forget 31 = .ok (.getfield 144, 3) := by decide +kernel
theorem d0_forget_34 : decode c0_forget 34 = .ok (.aload_n 0, 1) := by decide +kernel
theorem d0_forget_35 : decode c0_forget 35 = .ok (.getfield 11, 3) := by decide +kernel
theorem d0_forget_38 : decode c0_forget 38 = .ok (.iload_n 2, 1) := by decide +kernel
theorem d0_forget_39 : decode c0_forget 39 = .ok (.aaload, 1) := by decide +kernel
theorem d0_forget_40 : decode c0_forget 40 = .ok (.getfield 147, 3) := by decide +kernel
theorem d0_forget_43 : decode c0_forget 43 = .ok (.invokevirtual 149, 3) := by decide +kernel
theorem d0_forget_46 : decode c0_forget 46 = .ok (.iinc 2 1, 3) := by decide +kernel
theorem d0_forget_49 : decode c0_forget 49 = .ok (.goto (-32), 3) := by decide +kernel
theorem d0_forget_52 : decode c0_forget 52 = .ok (.iload_n 1, 1) := by decide +kernel
theorem d0_forget_53 : decode c0_forget 53 = .ok (.ireturn, 1) := by decide +kernel
theorem d0_rowsBehind_0 : decode c0_rowsBehind 0 = .ok (.aload_n 3, 1) := by decide +kernel
theorem d0_rowsBehind_1 : decode c0_rowsBehind 1 = .ok (.aload_n 0, 1) := by decide +kernel
theorem d0_rowsBehind_2 : decode c0_rowsBehind 2 = .ok (.getfield 11, 3) := by decide +kernel
theorem d0_rowsBehind_5 : decode c0_rowsBehind 5 = .ok (.iload_n 1, 1) := by decide +kernel
theorem d0_rowsBehind_6 : decode c0_rowsBehind 6 = .ok (.aaload, 1) := by decide +kernel
theorem d0_rowsBehind_7 : decode c0_rowsBehind 7 = .ok (.getfield 144, 3) := by decide +kernel
theorem d0_rowsBehind_10 : decode c0_rowsBehind 10 = .ok (.invokevirtual 149, 3) := by decide +kernel
theorem d0_rowsBehind_13 : decode c0_rowsBehind 13 = .ok (.iconst 0, 1) := by decide +kernel
theorem d0_rowsBehind_14 : decode c0_rowsBehind 14 = .ok (.istore 4, 2) := by decide +kernel
theorem d0_rowsBehind_16 : decode c0_rowsBehind 16 = .ok (.iload 4, 2) := by decide +kernel
theorem d0_rowsBehind_18 : decode c0_rowsBehind 18 = .ok (.iload_n 2, 1) := by decide +kernel
theorem d0_rowsBehind_19 : decode c0_rowsBehind 19 = .ok (.if_icmp .ge 63, 3) := by decide +kernel
theorem d0_rowsBehind_22 : decode c0_rowsBehind 22 = .ok (.aload_n 0, 1) := by decide +kernel
theorem d0_rowsBehind_23 : decode c0_rowsBehind 23 = .ok (.getfield 31, 3) := by decide +kernel
theorem d0_rowsBehind_26 : decode c0_rowsBehind 26 = .ok (.iload 4, 2) := by decide +kernel
theorem d0_rowsBehind_28 : decode c0_rowsBehind 28 = .ok (.invokevirtual 128, 3) := by decide +kernel
theorem d0_rowsBehind_31 : decode c0_rowsBehind 31 = .ok (.iload_n 1, 1) := by decide +kernel
theorem d0_rowsBehind_32 : decode c0_rowsBehind 32 = .ok (.if_icmp .ne 44, 3) := by decide +kernel
theorem d0_rowsBehind_35 : decode c0_rowsBehind 35 = .ok (.aload_n 3, 1) := by decide +kernel
theorem d0_rowsBehind_36 : decode c0_rowsBehind 36 = .ok (.aload_n 0, 1) := by decide +kernel
theorem d0_rowsBehind_37 : decode c0_rowsBehind 37 = .ok (.getfield 31, 3) := by decide +kernel
theorem d0_rowsBehind_40 : decode c0_rowsBehind 40 = .ok (.iload 4, 2) := by decide +kernel
theorem d0_rowsBehind_42 : decode c0_rowsBehind 42 = .ok (.invokevirtual 135, 3) := by decide +kernel
theorem d0_rowsBehind_45 : decode c0_rowsBehind 45 = .ok (.aload_n 0, 1) := by decide +kernel
theorem d0_rowsBehind_46 : decode c0_rowsBehind 46 = .ok (.getfield 31, 3) := by decide +kernel
theorem d0_rowsBehind_49 : decode c0_rowsBehind 49 = .ok (.iload 4, 2) := by decide +kernel
theorem d0_rowsBehind_51 : decode c0_rowsBehind 51 = .ok (.invokevirtual 132, 3) := by decide +kernel
theorem d0_rowsBehind_54 : decode c0_rowsBehind 54 = .ok (.iconst 2, 1) := by decide +kernel
theorem d0_rowsBehind_55 : decode c0_rowsBehind 55 = .ok (.if_icmp .eq 7, 3) := by decide +kernel
theorem d0_rowsBehind_58 : decode c0_rowsBehind 58 = .ok (.iconst 1, 1) := by decide +kernel
theorem d0_rowsBehind_59 : decode c0_rowsBehind 59 = .ok (.goto 4, 3) := by decide +kernel
theorem d0_rowsBehind_62 : decode c0_rowsBehind 62 = .ok (.iconst 0, 1) := by decide +kernel
theorem d0_rowsBehind_63 : decode c0_rowsBehind 63 = .ok (.aload_n 0, 1) := by decide +kernel
theorem d0_rowsBehind_64 : decode c0_rowsBehind 64 = .ok (.getfield 31, 3) := by decide +kernel
theorem d0_rowsBehind_67 : decode c0_rowsBehind 67 = .ok (.getfield 141, 3) := by decide +kernel
theorem d0_rowsBehind_70 : decode c0_rowsBehind 70 = .ok (.iload 4, 2) := by decide +kernel
theorem d0_rowsBehind_72 : decode c0_rowsBehind 72 = .ok (.laload, 1) := by decide +kernel
theorem d0_rowsBehind_73 : decode c0_rowsBehind 73 = .ok (.invokevirtual 115, 3) := by decide +kernel
theorem d0_rowsBehind_76 : decode c0_rowsBehind 76 = .ok (.iinc 4 1, 3) := by decide +kernel
theorem d0_rowsBehind_79 : decode c0_rowsBehind 79 = .ok (.goto (-63), 3) := by decide +kernel
theorem d0_rowsBehind_82 : decode c0_rowsBehind 82 = .ok (.return_, 1) := by decide +kernel
theorem d0_net_0 : decode c0_net 0 = .ok (.aload_n 0, 1) := by decide +kernel
theorem d0_net_1 : decode c0_net 1 = .ok (.iload_n 1, 1) := by decide +kernel
theorem d0_net_2 : decode c0_net 2 = .ok (.invokevirtual 69, 3) := by decide +kernel
theorem d0_net_5 : decode c0_net 5 = .ok (.ifCond .eq 27, 3) := by decide +kernel
theorem d0_net_8 : decode c0_net 8 = .ok (.iload_n 3, 1) := by decide +kernel
theorem d0_net_9 : decode c0_net 9 = .ok (.iconst 0, 1) := by decide +kernel
theorem d0_net_10 : decode c0_net 10 = .ok (.aload_n 0, 1) := by decide +kernel
theorem d0_net_11 : decode c0_net 11 = .ok (.getfield 31, 3) := by decide +kernel
theorem d0_net_14 : decode c0_net 14 = .ok (.getfield 123, 3) := by decide +kernel
theorem d0_net_17 : decode c0_net 17 = .ok (.invokestatic 73, 3) := by decide +kernel
theorem d0_net_20 : decode c0_net 20 = .ok (.ifCond .eq 12, 3) := by decide +kernel
theorem d0_net_23 : decode c0_net 23 = .ok (.iload_n 2, 1) := by decide +kernel
theorem d0_net_24 : decode c0_net 24 = .ok (.iconst 0, 1) := by decide +kernel
theorem d0_net_25 : decode c0_net 25 = .ok (.iload_n 3, 1) := by decide +kernel
theorem d0_net_26 : decode c0_net 26 = .ok (.invokestatic 73, 3) := by decide +kernel
theorem d0_net_29 : decode c0_net 29 = .ok (.ifCond .ne 6, 3) := by decide +kernel
theorem d0_net_32 : decode c0_net 32 = .ok (.bipush (-2), 2) := by decide +kernel
theorem d0_net_34 : decode c0_net 34 = .ok (.ireturn, 1) := by decide +kernel
theorem d0_net_35 : decode c0_net 35 = .ok (.aload_n 0, 1) := by decide +kernel
theorem d0_net_36 : decode c0_net 36 = .ok (.iload_n 1, 1) := by decide +kernel
theorem d0_net_37 : decode c0_net 37 = .ok (.iload_n 2, 1) := by decide +kernel
theorem d0_net_38 : decode c0_net 38 = .ok (.aload_n 0, 1) := by decide +kernel
theorem d0_net_39 : decode c0_net 39 = .ok (.getfield 48, 3) := by decide +kernel
theorem d0_net_42 : decode c0_net 42 = .ok (.invokevirtual 153, 3) := by decide +kernel
theorem d0_net_45 : decode c0_net 45 = .ok (.aload_n 0, 1) := by decide +kernel
theorem d0_net_46 : decode c0_net 46 = .ok (.iload_n 1, 1) := by decide +kernel
theorem d0_net_47 : decode c0_net 47 = .ok (.iload_n 3, 1) := by decide +kernel
theorem d0_net_48 : decode c0_net 48 = .ok (.aload_n 0, 1) := by decide +kernel
theorem d0_net_49 : decode c0_net 49 = .ok (.getfield 51, 3) := by decide +kernel
theorem d0_net_52 : decode c0_net 52 = .ok (.invokevirtual 153, 3) := by decide +kernel
theorem d0_net_55 : decode c0_net 55 = .ok (.aload_n 0, 1) := by decide +kernel
theorem d0_net_56 : decode c0_net 56 = .ok (.getfield 38, 3) := by decide +kernel
theorem d0_net_59 : decode c0_net 59 = .ok (.invokevirtual 61, 3) := by decide +kernel
theorem d0_net_62 : decode c0_net 62 = .ok (.aload_n 0, 1) := by decide +kernel
theorem d0_net_63 : decode c0_net 63 = .ok (.getfield 38, 3) := by decide +kernel
theorem d0_net_66 : decode c0_net 66 = .ok (.iload_n 1, 1) := by decide +kernel
theorem d0_net_67 : decode c0_net 67 = .ok (.aload_n 0, 1) := by decide +kernel
theorem d0_net_68 : decode c0_net 68 = .ok (.getfield 48, 3) := by decide +kernel
theorem d0_net_71 : decode c0_net 71 = .ok (.aload_n 0, 1) := by decide +kernel
theorem d0_net_72 : decode c0_net 72 = .ok (.getfield 51, 3) := by decide +kernel
theorem d0_net_75 : decode c0_net 75 = .ok (.aload_n 0, 1) := by decide +kernel
theorem d0_net_76 : decode c0_net 76 = .ok (.getfield 48, 3) := by decide +kernel
theorem d0_net_79 : decode c0_net 79 = .ok (.aload_n 0, 1) := by decide +kernel
theorem d0_net_80 : decode c0_net 80 = .ok (.getfield 51, 3) := by decide +kernel
theorem d0_net_83 : decode c0_net 83 = .ok (.invokevirtual 157, 3) := by decide +kernel
theorem d0_net_86 : decode c0_net 86 = .ok (.invokevirtual 161, 3) := by decide +kernel
theorem d0_net_89 : decode c0_net 89 = .ok (.aload_n 0, 1) := by decide +kernel
theorem d0_net_90 : decode c0_net 90 = .ok (.getfield 38, 3) := by decide +kernel
theorem d0_net_93 : decode c0_net 93 = .ok (.getfield 123, 3) := by decide +kernel
theorem d0_net_96 : decode c0_net 96 = .ok (.ireturn, 1) := by decide +kernel
theorem d0_copy_0 : decode c0_copy 0 = .ok (.aload_n 0, 1) := by decide +kernel
theorem d0_copy_1 : decode c0_copy 1 = .ok (.iload_n 1, 1) := by decide +kernel
theorem d0_copy_2 : decode c0_copy 2 = .ok (.invokevirtual 69, 3) := by decide +kernel
theorem d0_copy_5 : decode c0_copy 5 = .ok (.ifCond .eq 18, 3) := by decide +kernel
theorem d0_copy_8 : decode c0_copy 8 = .ok (.iload_n 2, 1) := by decide +kernel
theorem d0_copy_9 : decode c0_copy 9 = .ok (.iconst 0, 1) := by decide +kernel
theorem d0_copy_10 : decode c0_copy 10 = .ok (.aload_n 0, 1) := by decide +kernel
theorem d0_copy_11 : decode c0_copy 11 = .ok (.getfield 31, 3) := by decide +kernel
theorem d0_copy_14 : decode c0_copy 14 = .ok (.getfield 123, 3) := by decide +kernel
theorem d0_copy_17 : decode c0_copy 17 = .ok (.invokestatic 73, 3) := by decide +kernel
theorem d0_copy_20 : decode c0_copy 20 = .ok (.ifCond .ne 6, 3) := by decide +kernel
theorem d0_copy_23 : decode c0_copy 23 = .ok (.bipush (-2), 2) := by decide +kernel
theorem d0_copy_25 : decode c0_copy 25 = .ok (.ireturn, 1) := by decide +kernel
theorem d0_copy_26 : decode c0_copy 26 = .ok (.aload_n 0, 1) := by decide +kernel
theorem d0_copy_27 : decode c0_copy 27 = .ok (.iload_n 1, 1) := by decide +kernel
theorem d0_copy_28 : decode c0_copy 28 = .ok (.iload_n 2, 1) := by decide +kernel
theorem d0_copy_29 : decode c0_copy 29 = .ok (.aload_n 0, 1) := by decide +kernel
theorem d0_copy_30 : decode c0_copy 30 = .ok (.getfield 44, 3) := by decide +kernel
theorem d0_copy_33 : decode c0_copy 33 = .ok (.invokevirtual 153, 3) := by decide +kernel
theorem d0_copy_36 : decode c0_copy 36 = .ok (.aload_n 0, 1) := by decide +kernel
theorem d0_copy_37 : decode c0_copy 37 = .ok (.getfield 44, 3) := by decide +kernel
theorem d0_copy_40 : decode c0_copy 40 = .ok (.invokevirtual 165, 3) := by decide +kernel
theorem d0_copy_43 : decode c0_copy 43 = .ok (.ireturn, 1) := by decide +kernel
theorem d0_brokenBy_0 : decode c0_brokenBy 0 = .ok (.iload_n 1, 1) := by decide +kernel
theorem d0_brokenBy_1 : decode c0_brokenBy 1 = .ok (.ifCond .ne 20, 3) := by decide +kernel
theorem d0_brokenBy_4 : decode c0_brokenBy 4 = .ok (.aload_n 0, 1) := by decide +kernel
theorem d0_brokenBy_5 : decode c0_brokenBy 5 = .ok (.getfield 44, 3) := by decide +kernel
theorem d0_brokenBy_8 : decode c0_brokenBy 8 = .ok (.iload_n 2, 1) := by decide +kernel
theorem d0_brokenBy_9 : decode c0_brokenBy 9 = .ok (.invokevirtual 178, 3) := by decide +kernel
theorem d0_brokenBy_12 : decode c0_brokenBy 12 = .ok (.ifCond .eq 7, 3) := by decide +kernel
theorem d0_brokenBy_15 : decode c0_brokenBy 15 = .ok (.iconst 1, 1) := by decide +kernel
theorem d0_brokenBy_16 : decode c0_brokenBy 16 = .ok (.goto 4, 3) := by decide +kernel
theorem d0_brokenBy_19 : decode c0_brokenBy 19 = .ok (.iconst 0, 1) := by decide +kernel
theorem d0_brokenBy_20 : decode c0_brokenBy 20 = .ok (.ireturn, 1) := by decide +kernel
theorem d0_brokenBy_21 : decode c0_brokenBy 21 = .ok (.aload_n 0, 1) := by decide +kernel
theorem d0_brokenBy_22 : decode c0_brokenBy 22 = .ok (.getfield 44, 3) := by decide +kernel
theorem d0_brokenBy_25 : decode c0_brokenBy 25 = .ok (.iload_n 2, 1) := by decide +kernel
theorem d0_brokenBy_26 : decode c0_brokenBy 26 = .ok (.invokevirtual 178, 3) := by decide +kernel
theorem d0_brokenBy_29 : decode c0_brokenBy 29 = .ok (.ifCond .ne 5, 3) := by decide +kernel
theorem d0_brokenBy_32 : decode c0_brokenBy 32 = .ok (.iconst 2, 1) := by decide +kernel
theorem d0_brokenBy_33 : decode c0_brokenBy 33 = .ok (.ireturn, 1) := by decide +kernel
theorem d0_brokenBy_34 : decode c0_brokenBy 34 = .ok (.aload_n 0, 1) := by decide +kernel
theorem d0_brokenBy_35 : decode c0_brokenBy 35 = .ok (.getfield 44, 3) := by decide +kernel
theorem d0_brokenBy_38 : decode c0_brokenBy 38 = .ok (.getfield 181, 3) := by decide +kernel
theorem d0_brokenBy_41 : decode c0_brokenBy 41 = .ok (.iload_n 2, 1) := by decide +kernel
theorem d0_brokenBy_42 : decode c0_brokenBy 42 = .ok (.laload, 1) := by decide +kernel
theorem d0_brokenBy_43 : decode c0_brokenBy 43 = .ok (.lload_n 3, 1) := by decide +kernel
theorem d0_brokenBy_44 : decode c0_brokenBy 44 = .ok (.lcmp, 1) := by decide +kernel
theorem d0_brokenBy_45 : decode c0_brokenBy 45 = .ok (.ifCond .ne 7, 3) := by decide +kernel
theorem d0_brokenBy_48 : decode c0_brokenBy 48 = .ok (.iconst 0, 1) := by decide +kernel
theorem d0_brokenBy_49 : decode c0_brokenBy 49 = .ok (.goto 4, 3) := by decide +kernel
theorem d0_brokenBy_52 : decode c0_brokenBy 52 = .ok (.iconst 3, 1) := by decide +kernel
theorem d0_brokenBy_53 : decode c0_brokenBy 53 = .ok (.ireturn, 1) := by decide +kernel
theorem d0_take_0 : decode c0_take 0 = .ok (.iload_n 1, 1) := by decide +kernel
theorem d0_take_1 : decode c0_take 1 = .ok (.iconst 0, 1) := by decide +kernel
theorem d0_take_2 : decode c0_take 2 = .ok (.iconst 2, 1) := by decide +kernel
theorem d0_take_3 : decode c0_take 3 = .ok (.invokestatic 73, 3) := by decide +kernel
theorem d0_take_6 : decode c0_take 6 = .ok (.ifCond .eq 10, 3) := by decide +kernel
theorem d0_take_9 : decode c0_take 9 = .ok (.iload_n 2, 1) := by decide +kernel
theorem d0_take_10 : decode c0_take 10 = .ok (.invokestatic 80, 3) := by decide +kernel
theorem d0_take_13 : decode c0_take 13 = .ok (.ifCond .ne 6, 3) := by decide +kernel
theorem d0_take_16 : decode c0_take 16 = .ok (.bipush (-2), 2) := by decide +kernel
theorem d0_take_18 : decode c0_take 18 = .ok (.ireturn, 1) := by decide +kernel
theorem d0_take_19 : decode c0_take 19 = .ok (.aload_n 0, 1) := by decide +kernel
theorem d0_take_20 : decode c0_take 20 = .ok (.iload_n 1, 1) := by decide +kernel
theorem d0_take_21 : decode c0_take 21 = .ok (.iload_n 2, 1) := by decide +kernel
theorem d0_take_22 : decode c0_take 22 = .ok (.lload_n 3, 1) := by decide +kernel
theorem d0_take_23 : decode c0_take 23 = .ok (.invokevirtual 167, 3) := by decide +kernel
theorem d0_take_26 : decode c0_take 26 = .ok (.istore 7, 2) := by decide +kernel
theorem d0_take_28 : decode c0_take 28 = .ok (.iload 7, 2) := by decide +kernel
theorem d0_take_30 : decode c0_take 30 = .ok (.ifCond .ne 23, 3) := by decide +kernel
theorem d0_take_33 : decode c0_take 33 = .ok (.aload_n 0, 1) := by decide +kernel
theorem d0_take_34 : decode c0_take 34 = .ok (.getfield 44, 3) := by decide +kernel
theorem d0_take_37 : decode c0_take 37 = .ok (.iload_n 2, 1) := by decide +kernel
theorem d0_take_38 : decode c0_take 38 = .ok (.iload_n 1, 1) := by decide +kernel
theorem d0_take_39 : decode c0_take 39 = .ok (.iconst 2, 1) := by decide +kernel
theorem d0_take_40 : decode c0_take 40 = .ok (.if_icmp .eq 7, 3) := by decide +kernel
theorem d0_take_43 : decode c0_take 43 = .ok (.iconst 1, 1) := by decide +kernel
theorem d0_take_44 : decode c0_take 44 = .ok (.goto 4, 3) := by decide +kernel
theorem d0_take_47 : decode c0_take 47 = .ok (.iconst 0, 1) := by decide +kernel
theorem d0_take_48 : decode c0_take 48 = .ok (.lload 5, 2) := by decide +kernel
theorem d0_take_50 : decode c0_take 50 = .ok (.invokevirtual 115, 3) := by decide +kernel
theorem d0_take_53 : decode c0_take 53 = .ok (.iload 7, 2) := by decide +kernel
theorem d0_take_55 : decode c0_take 55 = .ok (.ireturn, 1) := by decide +kernel
theorem d0_same_0 : decode c0_same 0 = .ok (.aload_n 0, 1) := by decide +kernel
theorem d0_same_1 : decode c0_same 1 = .ok (.iload_n 1, 1) := by decide +kernel
theorem d0_same_2 : decode c0_same 2 = .ok (.invokevirtual 69, 3) := by decide +kernel
theorem d0_same_5 : decode c0_same 5 = .ok (.ifCond .ne 6, 3) := by decide +kernel
theorem d0_same_8 : decode c0_same 8 = .ok (.bipush (-2), 2) := by decide +kernel
theorem d0_same_10 : decode c0_same 10 = .ok (.ireturn, 1) := by decide +kernel
theorem d0_same_11 : decode c0_same 11 = .ok (.aload_n 0, 1) := by decide +kernel
theorem d0_same_12 : decode c0_same 12 = .ok (.getfield 44, 3) := by decide +kernel
theorem d0_same_15 : decode c0_same 15 = .ok (.aload_n 0, 1) := by decide +kernel
theorem d0_same_16 : decode c0_same 16 = .ok (.getfield 11, 3) := by decide +kernel
theorem d0_same_19 : decode c0_same 19 = .ok (.iload_n 1, 1) := by decide +kernel
theorem d0_same_20 : decode c0_same 20 = .ok (.aaload, 1) := by decide +kernel
theorem d0_same_21 : decode c0_same 21 = .ok (.getfield 147, 3) := by decide +kernel
theorem d0_same_24 : decode c0_same 24 = .ok (.invokevirtual 157, 3) := by decide +kernel
theorem d0_same_27 : decode c0_same 27 = .ok (.lconst 0, 1) := by decide +kernel
theorem d0_same_28 : decode c0_same 28 = .ok (.lcmp, 1) := by decide +kernel
theorem d0_same_29 : decode c0_same 29 = .ok (.ifCond .ne 7, 3) := by decide +kernel
theorem d0_same_32 : decode c0_same 32 = .ok (.iconst 1, 1) := by decide +kernel
theorem d0_same_33 : decode c0_same 33 = .ok (.goto 4, 3) := by decide +kernel
theorem d0_same_36 : decode c0_same 36 = .ok (.iconst 0, 1) := by decide +kernel
theorem d0_same_37 : decode c0_same 37 = .ok (.ireturn, 1) := by decide +kernel
theorem d0_isTableOrCopy_0 : decode c0_isTableOrCopy 0 = .ok (.iload_n 1, 1) := by decide +kernel
theorem d0_isTableOrCopy_1 : decode c0_isTableOrCopy 1 = .ok (.iconst (-1), 1) := by decide +kernel
theorem d0_isTableOrCopy_2 : decode c0_isTableOrCopy 2 = .ok (.if_icmp .eq 11, 3) := by decide +kernel
theorem d0_isTableOrCopy_5 : decode c0_isTableOrCopy 5 = .ok (.aload_n 0, 1) := by decide +kernel
theorem d0_isTableOrCopy_6 : decode c0_isTableOrCopy 6 = .ok (.iload_n 1, 1) := by decide +kernel
theorem d0_isTableOrCopy_7 : decode c0_isTableOrCopy 7 = .ok (.invokevirtual 69, 3) := by decide +kernel
theorem d0_isTableOrCopy_10 : decode c0_isTableOrCopy 10 = .ok (.ifCond .eq 7, 3) := by decide +kernel
theorem d0_isTableOrCopy_13 : decode c0_isTableOrCopy 13 = .ok (.iconst 1, 1) := by decide +kernel
theorem d0_isTableOrCopy_14 : decode c0_isTableOrCopy 14 = .ok (.goto 4, 3) := by decide +kernel
theorem d0_isTableOrCopy_17 : decode c0_isTableOrCopy 17 = .ok (.iconst 0, 1) := by decide +kernel
theorem d0_isTableOrCopy_18 : decode c0_isTableOrCopy 18 = .ok (.ireturn, 1) := by decide +kernel
theorem d0_rowsOf_0 : decode c0_rowsOf 0 = .ok (.iload_n 1, 1) := by decide +kernel
theorem d0_rowsOf_1 : decode c0_rowsOf 1 = .ok (.iconst (-1), 1) := by decide +kernel
theorem d0_rowsOf_2 : decode c0_rowsOf 2 = .ok (.if_icmp .ne 10, 3) := by decide +kernel
theorem d0_rowsOf_5 : decode c0_rowsOf 5 = .ok (.aload_n 0, 1) := by decide +kernel
theorem d0_rowsOf_6 : decode c0_rowsOf 6 = .ok (.getfield 44, 3) := by decide +kernel
theorem d0_rowsOf_9 : decode c0_rowsOf 9 = .ok (.goto 12, 3) := by decide +kernel
theorem d0_rowsOf_12 : decode c0_rowsOf 12 = .ok (.aload_n 0, 1) := by decide +kernel
theorem d0_rowsOf_13 : decode c0_rowsOf 13 = .ok (.getfield 11, 3) := by decide +kernel
theorem d0_rowsOf_16 : decode c0_rowsOf 16 = .ok (.iload_n 1, 1) := by decide +kernel
theorem d0_rowsOf_17 : decode c0_rowsOf 17 = .ok (.aaload, 1) := by decide +kernel
theorem d0_rowsOf_18 : decode c0_rowsOf 18 = .ok (.getfield 147, 3) := by decide +kernel
theorem d0_rowsOf_21 : decode c0_rowsOf 21 = .ok (.areturn, 1) := by decide +kernel
theorem d0_has_0 : decode c0_has 0 = .ok (.aload_n 0, 1) := by decide +kernel
theorem d0_has_1 : decode c0_has 1 = .ok (.iload_n 1, 1) := by decide +kernel
theorem d0_has_2 : decode c0_has 2 = .ok (.invokevirtual 171, 3) := by decide +kernel
theorem d0_has_5 : decode c0_has 5 = .ok (.ifCond .eq 10, 3) := by decide +kernel
theorem d0_has_8 : decode c0_has 8 = .ok (.iload_n 2, 1) := by decide +kernel
theorem d0_has_9 : decode c0_has 9 = .ok (.invokestatic 80, 3) := by decide +kernel
theorem d0_has_12 : decode c0_has 12 = .ok (.ifCond .ne 6, 3) := by decide +kernel
theorem d0_has_15 : decode c0_has 15 = .ok (.bipush (-2), 2) := by decide +kernel
theorem d0_has_17 : decode c0_has 17 = .ok (.ireturn, 1) := by decide +kernel
theorem d0_has_18 : decode c0_has 18 = .ok (.aload_n 0, 1) := by decide +kernel
theorem d0_has_19 : decode c0_has 19 = .ok (.iload_n 1, 1) := by decide +kernel
theorem d0_has_20 : decode c0_has 20 = .ok (.invokevirtual 174, 3) := by decide +kernel
theorem d0_has_23 : decode c0_has 23 = .ok (.iload_n 2, 1) := by decide +kernel
theorem d0_has_24 : decode c0_has 24 = .ok (.invokevirtual 178, 3) := by decide +kernel
theorem d0_has_27 : decode c0_has 27 = .ok (.ifCond .eq 7, 3) := by decide +kernel
theorem d0_has_30 : decode c0_has 30 = .ok (.iconst 1, 1) := by decide +kernel
theorem d0_has_31 : decode c0_has 31 = .ok (.goto 4, 3) := by decide +kernel
theorem d0_has_34 : decode c0_has 34 = .ok (.iconst 0, 1) := by decide +kernel
theorem d0_has_35 : decode c0_has 35 = .ok (.ireturn, 1) := by decide +kernel
theorem d0_at_0 : decode c0_at 0 = .ok (.aload_n 0, 1) := by decide +kernel
theorem d0_at_1 : decode c0_at 1 = .ok (.iload_n 1, 1) := by decide +kernel
theorem d0_at_2 : decode c0_at 2 = .ok (.invokevirtual 171, 3) := by decide +kernel
theorem d0_at_5 : decode c0_at 5 = .ok (.ifCond .eq 10, 3) := by decide +kernel
theorem d0_at_8 : decode c0_at 8 = .ok (.iload_n 2, 1) := by decide +kernel
theorem d0_at_9 : decode c0_at 9 = .ok (.invokestatic 80, 3) := by decide +kernel
theorem d0_at_12 : decode c0_at 12 = .ok (.ifCond .ne 5, 3) := by decide +kernel
theorem d0_at_15 : decode c0_at 15 = .ok (.lconst 0, 1) := by decide +kernel
theorem d0_at_16 : decode c0_at 16 = .ok (.lreturn, 1) := by decide +kernel
theorem d0_at_17 : decode c0_at 17 = .ok (.aload_n 0, 1) := by decide +kernel
theorem d0_at_18 : decode c0_at 18 = .ok (.iload_n 1, 1) := by decide +kernel
theorem d0_at_19 : decode c0_at 19 = .ok (.invokevirtual 174, 3) := by decide +kernel
theorem d0_at_22 : decode c0_at 22 = .ok (.getfield 181, 3) := by decide +kernel
theorem d0_at_25 : decode c0_at 25 = .ok (.iload_n 2, 1) := by decide +kernel
theorem d0_at_26 : decode c0_at 26 = .ok (.laload, 1) := by decide +kernel
theorem d0_at_27 : decode c0_at 27 = .ok (.lreturn, 1) := by decide +kernel
theorem d0_of_0 : decode c0_of 0 = .ok (.aload_n 0, 1) := by decide +kernel
theorem d0_of_1 : decode c0_of 1 = .ok (.iload_n 1, 1) := by decide +kernel
theorem d0_of_2 : decode c0_of 2 = .ok (.invokevirtual 69, 3) := by decide +kernel
theorem d0_of_5 : decode c0_of 5 = .ok (.ifCond .ne 6, 3) := by decide +kernel
theorem d0_of_8 : decode c0_of 8 = .ok (.bipush (-2), 2) := by decide +kernel
theorem d0_of_10 : decode c0_of 10 = .ok (.ireturn, 1) := by decide +kernel
theorem d0_of_11 : decode c0_of 11 = .ok (.aload_n 0, 1) := by decide +kernel
theorem d0_of_12 : decode c0_of 12 = .ok (.getfield 11, 3) := by decide +kernel
theorem d0_of_15 : decode c0_of 15 = .ok (.iload_n 1, 1) := by decide +kernel
theorem d0_of_16 : decode c0_of 16 = .ok (.aaload, 1) := by decide +kernel
theorem d0_of_17 : decode c0_of 17 = .ok (.astore_n 3, 1) := by decide +kernel
theorem d0_of_18 : decode c0_of 18 = .ok (.iload_n 2, 1) := by decide +kernel
theorem d0_of_19 : decode c0_of 19 = .ok (.tableswitch 52 0 3 #[29, 34, 39, 44], 29) := by decide +kernel
theorem d0_of_48 : decode c0_of 48 = .ok (.aload_n 3, 1) := by decide +kernel
theorem d0_of_49 : decode c0_of 49 = .ok (.getfield 184, 3) := by decide +kernel
theorem d0_of_52 : decode c0_of 52 = .ok (.ireturn, 1) := by decide +kernel
theorem d0_of_53 : decode c0_of 53 = .ok (.aload_n 3, 1) := by decide +kernel
theorem d0_of_54 : decode c0_of 54 = .ok (.getfield 187, 3) := by decide +kernel
theorem d0_of_57 : decode c0_of 57 = .ok (.ireturn, 1) := by decide +kernel
theorem d0_of_58 : decode c0_of 58 = .ok (.aload_n 3, 1) := by decide +kernel
theorem d0_of_59 : decode c0_of 59 = .ok (.getfield 190, 3) := by decide +kernel
theorem d0_of_62 : decode c0_of 62 = .ok (.ireturn, 1) := by decide +kernel
theorem d0_of_63 : decode c0_of 63 = .ok (.aload_n 3, 1) := by decide +kernel
theorem d0_of_64 : decode c0_of 64 = .ok (.getfield 147, 3) := by decide +kernel
theorem d0_of_67 : decode c0_of 67 = .ok (.invokevirtual 165, 3) := by decide +kernel
theorem d0_of_70 : decode c0_of 70 = .ok (.ireturn, 1) := by decide +kernel
theorem d0_of_71 : decode c0_of 71 = .ok (.bipush (-2), 2) := by decide +kernel
theorem d0_of_73 : decode c0_of 73 = .ok (.ireturn, 1) := by decide +kernel
theorem d0_count_0 : decode c0_count 0 = .ok (.iload_n 1, 1) := by decide +kernel
theorem d0_count_1 : decode c0_count 1 = .ok (.tableswitch 62 0 2 #[27, 32, 54], 27) := by decide +kernel
theorem d0_count_28 : decode c0_count 28 = .ok (.aload_n 0, 1) := by decide +kernel
theorem d0_count_29 : decode c0_count 29 = .ok (.getfield 15, 3) := by decide +kernel
theorem d0_count_32 : decode c0_count 32 = .ok (.ireturn, 1) := by decide +kernel
theorem d0_count_33 : decode c0_count 33 = .ok (.aload_n 0, 1) := by decide +kernel
theorem d0_count_34 : decode c0_count 34 = .ok (.getfield 22, 3) := by decide +kernel
theorem d0_count_37 : decode c0_count 37 = .ok (.getfield 87, 3) := by decide +kernel
theorem d0_count_40 : decode c0_count 40 = .ok (.ifCond .eq 13, 3) := by decide +kernel
theorem d0_count_43 : decode c0_count 43 = .ok (.aload_n 0, 1) := by decide +kernel
theorem d0_count_44 : decode c0_count 44 = .ok (.getfield 22, 3) := by decide +kernel
theorem d0_count_47 : decode c0_count 47 = .ok (.getfield 94, 3) := by decide +kernel
theorem d0_count_50 : decode c0_count 50 = .ok (.goto 4, 3) := by decide +kernel
theorem d0_count_53 : decode c0_count 53 = .ok (.iconst (-1), 1) := by decide +kernel
theorem d0_count_54 : decode c0_count 54 = .ok (.ireturn, 1) := by decide +kernel
theorem d0_count_55 : decode c0_count 55 = .ok (.aload_n 0, 1) := by decide +kernel
theorem d0_count_56 : decode c0_count 56 = .ok (.getfield 44, 3) := by decide +kernel
theorem d0_count_59 : decode c0_count 59 = .ok (.invokevirtual 165, 3) := by decide +kernel
theorem d0_count_62 : decode c0_count 62 = .ok (.ireturn, 1) := by decide +kernel
theorem d0_count_63 : decode c0_count 63 = .ok (.bipush (-2), 2) := by decide +kernel
theorem d0_count_65 : decode c0_count 65 = .ok (.ireturn, 1) := by decide +kernel
