theorem d1_close_0 : decode c1_close 0 = .ok (.aload_n 0, 1) := by decide +kernel
theorem d1_close_1 : decode c1_close 1 = .ok (.iconst 0, 1) := by decide +kernel
theorem d1_close_2 : decode c1_close 2 = .ok (.putfield 9, 3) := by decide +kernel
theorem d1_close_5 : decode c1_close 5 = .ok (.return_, 1) := by decide +kernel
theorem d2_reset_0 : decode c2_reset 0 = .ok (.aload_n 0, 1) := by decide +kernel
theorem d2_reset_1 : decode c2_reset 1 = .ok (.iconst 0, 1) := by decide +kernel
theorem d2_reset_2 : decode c2_reset 2 = .ok (.putfield 9, 3) := by decide +kernel
theorem d2_reset_5 : decode c2_reset 5 = .ok (.return_, 1) := by decide +kernel
theorem dA_fill_0 : decode cA_fill 0 = .ok (.iconst 0, 1) := by decide +kernel
theorem dA_fill_1 : decode cA_fill 1 = .ok (.istore_n 3, 1) := by decide +kernel
theorem dA_fill_2 : decode cA_fill 2 = .ok (.aload_n 0, 1) := by decide +kernel
theorem dA_fill_3 : decode cA_fill 3 = .ok (.arraylength, 1) := by decide +kernel
theorem dA_fill_4 : decode cA_fill 4 = .ok (.istore 4, 2) := by decide +kernel
theorem dA_fill_6 : decode cA_fill 6 = .ok (.iload_n 3, 1) := by decide +kernel
theorem dA_fill_7 : decode cA_fill 7 = .ok (.iload 4, 2) := by decide +kernel
theorem dA_fill_9 : decode cA_fill 9 = .ok (.if_icmp .ge 13, 3) := by decide +kernel
theorem dA_fill_12 : decode cA_fill 12 = .ok (.aload_n 0, 1) := by decide +kernel
theorem dA_fill_13 : decode cA_fill 13 = .ok (.iload_n 3, 1) := by decide +kernel
theorem dA_fill_14 : decode cA_fill 14 = .ok (.lload_n 1, 1) := by decide +kernel
theorem dA_fill_15 : decode cA_fill 15 = .ok (.lastore, 1) := by decide +kernel
theorem dA_fill_16 : decode cA_fill 16 = .ok (.iinc 3 1, 3) := by decide +kernel
theorem dA_fill_19 : decode cA_fill 19 = .ok (.goto (-13), 3) := by decide +kernel
theorem dA_fill_22 : decode cA_fill 22 = .ok (.return_, 1) := by decide +kernel
theorem d3_reset_0 : decode c3_reset 0 = .ok (.aload_n 0, 1) := by decide +kernel
theorem d3_reset_1 : decode c3_reset 1 = .ok (.lconst 0, 1) := by decide +kernel
theorem d3_reset_2 : decode c3_reset 2 = .ok (.putfield 9, 3) := by decide +kernel
theorem d3_reset_5 : decode c3_reset 5 = .ok (.aload_n 0, 1) := by decide +kernel
theorem d3_reset_6 : decode c3_reset 6 = .ok (.getfield 15, 3) := by decide +kernel
theorem d3_reset_9 : decode c3_reset 9 = .ok (.lconst 0, 1) := by decide +kernel
theorem d3_reset_10 : decode c3_reset 10 = .ok (.invokestatic 25, 3) := by decide +kernel
theorem d3_reset_13 : decode c3_reset 13 = .ok (.return_, 1) := by decide +kernel
theorem d4_define_0 : decode c4_define 0 = .ok (.aload_n 0, 1) := by decide +kernel
theorem d4_define_1 : decode c4_define 1 = .ok (.iload_n 1, 1) := by decide +kernel
theorem d4_define_2 : decode c4_define 2 = .ok (.putfield 9, 3) := by decide +kernel
theorem d4_define_5 : decode c4_define 5 = .ok (.aload_n 0, 1) := by decide +kernel
theorem d4_define_6 : decode c4_define 6 = .ok (.iload_n 2, 1) := by decide +kernel
theorem d4_define_7 : decode c4_define 7 = .ok (.putfield 15, 3) := by decide +kernel
theorem d4_define_10 : decode c4_define 10 = .ok (.aload_n 0, 1) := by decide +kernel
theorem d4_define_11 : decode c4_define 11 = .ok (.iload_n 3, 1) := by decide +kernel
theorem d4_define_12 : decode c4_define 12 = .ok (.putfield 18, 3) := by decide +kernel
theorem d4_define_15 : decode c4_define 15 = .ok (.aload_n 0, 1) := by decide +kernel
theorem d4_define_16 : decode c4_define 16 = .ok (.lload 4, 2) := by decide +kernel
theorem d4_define_18 : decode c4_define 18 = .ok (.putfield 21, 3) := by decide +kernel
theorem d4_define_21 : decode c4_define 21 = .ok (.aload_n 0, 1) := by decide +kernel
theorem d4_define_22 : decode c4_define 22 = .ok (.lload 6, 2) := by decide +kernel
theorem d4_define_24 : decode c4_define 24 = .ok (.putfield 25, 3) := by decide +kernel
theorem d4_define_27 : decode c4_define 27 = .ok (.return_, 1) := by decide +kernel
theorem d3_holds_0 : decode c3_holds 0 = .ok (.aload_n 0, 1) := by decide +kernel
theorem d3_holds_1 : decode c3_holds 1 = .ok (.getfield 9, 3) := by decide +kernel
theorem d3_holds_4 : decode c3_holds 4 = .ok (.iload_n 1, 1) := by decide +kernel
theorem d3_holds_5 : decode c3_holds 5 = .ok (.lushr, 1) := by decide +kernel
theorem d3_holds_6 : decode c3_holds 6 = .ok (.lconst 1, 1) := by decide +kernel
theorem d3_holds_7 : decode c3_holds 7 = .ok (.land, 1) := by decide +kernel
theorem d3_holds_8 : decode c3_holds 8 = .ok (.lconst 0, 1) := by decide +kernel
theorem d3_holds_9 : decode c3_holds 9 = .ok (.lcmp, 1) := by decide +kernel
theorem d3_holds_10 : decode c3_holds 10 = .ok (.ifCond .eq 7, 3) := by decide +kernel
theorem d3_holds_13 : decode c3_holds 13 = .ok (.iconst 1, 1) := by decide +kernel
theorem d3_holds_14 : decode c3_holds 14 = .ok (.goto 4, 3) := by decide +kernel
theorem d3_holds_17 : decode c3_holds 17 = .ok (.iconst 0, 1) := by decide +kernel
theorem d3_holds_18 : decode c3_holds 18 = .ok (.ireturn, 1) := by decide +kernel
theorem d3_set_0 : decode c3_set 0 = .ok (.aload_n 0, 1) := by decide +kernel
theorem d3_set_1 : decode c3_set 1 = .ok (.dup, 1) := by decide +kernel
theorem d3_set_2 : decode c3_set 2 = .ok (.getfield 9, 3) := by decide +kernel
theorem d3_set_5 : decode c3_set 5 = .ok (.lconst 1, 1) := by decide +kernel
theorem d3_set_6 : decode c3_set 6 = .ok (.iload_n 1, 1) := by decide +kernel
theorem d3_set_7 : decode c3_set 7 = .ok (.lshl, 1) := by decide +kernel
theorem d3_set_8 : decode c3_set 8 = .ok (.lor, 1) := by decide +kernel
theorem d3_set_9 : decode c3_set 9 = .ok (.putfield 9, 3) := by decide +kernel
theorem d3_set_12 : decode c3_set 12 = .ok (.aload_n 0, 1) := by decide +kernel
theorem d3_set_13 : decode c3_set 13 = .ok (.getfield 15, 3) := by decide +kernel
theorem d3_set_16 : decode c3_set 16 = .ok (.iload_n 1, 1) := by decide +kernel
theorem d3_set_17 : decode c3_set 17 = .ok (.lload_n 2, 1) := by decide +kernel
theorem d3_set_18 : decode c3_set 18 = .ok (.lastore, 1) := by decide +kernel
theorem d3_set_19 : decode c3_set 19 = .ok (.return_, 1) := by decide +kernel
theorem d4_deriveFilter_0 : decode c4_deriveFilter 0 = .ok (.iconst 0, 1) := by decide +kernel
theorem d4_deriveFilter_1 : decode c4_deriveFilter 1 = .ok (.istore_n 2, 1) := by decide +kernel
theorem d4_deriveFilter_2 : decode c4_deriveFilter 2 = .ok (.iload_n 2, 1) := by decide +kernel
theorem d4_deriveFilter_3 : decode c4_deriveFilter 3 = .ok (.bipush 64, 2) := by decide +kernel
theorem d4_deriveFilter_5 : decode c4_deriveFilter 5 = .ok (.if_icmp .ge 51, 3) := by decide +kernel
theorem d4_deriveFilter_8 : decode c4_deriveFilter 8 = .ok (.aload_n 1, 1) := by decide +kernel
theorem d4_deriveFilter_9 : decode c4_deriveFilter 9 = .ok (.getfield 74, 3) := by decide +kernel
theorem d4_deriveFilter_12 : decode c4_deriveFilter 12 = .ok (.iload_n 2, 1) := by decide +kernel
theorem d4_deriveFilter_13 : decode c4_deriveFilter 13 = .ok (.laload, 1) := by decide +kernel
theorem d4_deriveFilter_14 : decode c4_deriveFilter 14 = .ok (.lstore_n 3, 1) := by decide +kernel
theorem d4_deriveFilter_15 : decode c4_deriveFilter 15 = .ok (.aload_n 1, 1) := by decide +kernel
theorem d4_deriveFilter_16 : decode c4_deriveFilter 16 = .ok (.iload_n 2, 1) := by decide +kernel
theorem d4_deriveFilter_17 : decode c4_deriveFilter 17 = .ok (.invokevirtual 78, 3) := by decide +kernel
theorem d4_deriveFilter_20 : decode c4_deriveFilter 20 = .ok (.ifCond .eq 30, 3) := by decide +kernel
theorem d4_deriveFilter_23 : decode c4_deriveFilter 23 = .ok (.lload_n 3, 1) := by decide +kernel
theorem d4_deriveFilter_24 : decode c4_deriveFilter 24 = .ok (.aload_n 0, 1) := by decide +kernel
theorem d4_deriveFilter_25 : decode c4_deriveFilter 25 = .ok (.getfield 21, 3) := by decide +kernel
theorem d4_deriveFilter_28 : decode c4_deriveFilter 28 = .ok (.lcmp, 1) := by decide +kernel
theorem d4_deriveFilter_29 : decode c4_deriveFilter 29 = .ok (.ifCond .lt 21, 3) := by decide +kernel
theorem d4_deriveFilter_32 : decode c4_deriveFilter 32 = .ok (.lload_n 3, 1) := by decide +kernel
theorem d4_deriveFilter_33 : decode c4_deriveFilter 33 = .ok (.aload_n 0, 1) := by decide +kernel
theorem d4_deriveFilter_34 : decode c4_deriveFilter 34 = .ok (.getfield 25, 3) := by decide +kernel
theorem d4_deriveFilter_37 : decode c4_deriveFilter 37 = .ok (.lcmp, 1) := by decide +kernel
theorem d4_deriveFilter_38 : decode c4_deriveFilter 38 = .ok (.ifCond .gt 12, 3) := by decide +kernel
theorem d4_deriveFilter_41 : decode c4_deriveFilter 41 = .ok (.aload_n 0, 1) := by decide +kernel
theorem d4_deriveFilter_42 : decode c4_deriveFilter 42 = .ok (.getfield 35, 3) := by decide +kernel
theorem d4_deriveFilter_45 : decode c4_deriveFilter 45 = .ok (.iload_n 2, 1) := by decide +kernel
theorem d4_deriveFilter_46 : decode c4_deriveFilter 46 = .ok (.lload_n 3, 1) := by decide +kernel
theorem d4_deriveFilter_47 : decode c4_deriveFilter 47 = .ok (.invokevirtual 82, 3) := by decide +kernel
theorem d4_deriveFilter_50 : decode c4_deriveFilter 50 = .ok (.iinc 2 1, 3) := by decide +kernel
theorem d4_deriveFilter_53 : decode c4_deriveFilter 53 = .ok (.goto (-51), 3) := by decide +kernel
theorem d4_deriveFilter_56 : decode c4_deriveFilter 56 = .ok (.return_, 1) := by decide +kernel
theorem d4_deriveMap_0 : decode c4_deriveMap 0 = .ok (.iconst 0, 1) := by decide +kernel
theorem d4_deriveMap_1 : decode c4_deriveMap 1 = .ok (.istore_n 2, 1) := by decide +kernel
theorem d4_deriveMap_2 : decode c4_deriveMap 2 = .ok (.iload_n 2, 1) := by decide +kernel
theorem d4_deriveMap_3 : decode c4_deriveMap 3 = .ok (.bipush 64, 2) := by decide +kernel
theorem d4_deriveMap_5 : decode c4_deriveMap 5 = .ok (.if_icmp .ge 41, 3) := by decide +kernel
theorem d4_deriveMap_8 : decode c4_deriveMap 8 = .ok (.aload_n 1, 1) := by decide +kernel
theorem d4_deriveMap_9 : decode c4_deriveMap 9 = .ok (.iload_n 2, 1) := by decide +kernel
theorem d4_deriveMap_10 : decode c4_deriveMap 10 = .ok (.invokevirtual 78, 3) := by decide +kernel
theorem d4_deriveMap_13 : decode c4_deriveMap 13 = .ok (.ifCond .eq 27, 3) := by decide +kernel
theorem d4_deriveMap_16 : decode c4_deriveMap 16 = .ok (.aload_n 0, 1) := by decide +kernel
theorem d4_deriveMap_17 : decode c4_deriveMap 17 = .ok (.getfield 35, 3) := by decide +kernel
theorem d4_deriveMap_20 : decode c4_deriveMap 20 = .ok (.iload_n 2, 1) := by decide +kernel
theorem d4_deriveMap_21 : decode c4_deriveMap 21 = .ok (.aload_n 0, 1) := by decide +kernel
theorem d4_deriveMap_22 : decode c4_deriveMap 22 = .ok (.getfield 21, 3) := by decide +kernel
theorem d4_deriveMap_25 : decode c4_deriveMap 25 = .ok (.aload_n 1, 1) := by decide +kernel
theorem d4_deriveMap_26 : decode c4_deriveMap 26 = .ok (.getfield 74, 3) := by decide +kernel
theorem d4_deriveMap_29 : decode c4_deriveMap 29 = .ok (.iload_n 2, 1) := by decide +kernel
theorem d4_deriveMap_30 : decode c4_deriveMap 30 = .ok (.laload, 1) := by decide +kernel
theorem d4_deriveMap_31 : decode c4_deriveMap 31 = .ok (.lmul, 1) := by decide +kernel
theorem d4_deriveMap_32 : decode c4_deriveMap 32 = .ok (.aload_n 0, 1) := by decide +kernel
theorem d4_deriveMap_33 : decode c4_deriveMap 33 = .ok (.getfield 25, 3) := by decide +kernel
theorem d4_deriveMap_36 : decode c4_deriveMap 36 = .ok (.ladd, 1) := by decide +kernel
theorem d4_deriveMap_37 : decode c4_deriveMap 37 = .ok (.invokevirtual 82, 3) := by decide +kernel
theorem d4_deriveMap_40 : decode c4_deriveMap 40 = .ok (.iinc 2 1, 3) := by decide +kernel
theorem d4_deriveMap_43 : decode c4_deriveMap 43 = .ok (.goto (-41), 3) := by decide +kernel
theorem d4_deriveMap_46 : decode c4_deriveMap 46 = .ok (.return_, 1) := by decide +kernel
theorem d4_folded_0 : decode c4_folded 0 = .ok (.aload_n 0, 1) := by decide +kernel
theorem d4_folded_1 : decode c4_folded 1 = .ok (.getfield 21, 3) := by decide +kernel
theorem d4_folded_4 : decode c4_folded 4 = .ok (.l2i, 1) := by decide +kernel
theorem d4_folded_5 : decode c4_folded 5 = .ok (.tableswitch 76 0 3 #[31, 35, 40, 58], 31) := by decide +kernel
theorem d4_folded_36 : decode c4_folded 36 = .ok (.lload_n 2, 1) := by decide +kernel
theorem d4_folded_37 : decode c4_folded 37 = .ok (.lconst 1, 1) := by decide +kernel
theorem d4_folded_38 : decode c4_folded 38 = .ok (.ladd, 1) := by decide +kernel
theorem d4_folded_39 : decode c4_folded 39 = .ok (.lreturn, 1) := by decide +kernel
theorem d4_folded_40 : decode c4_folded 40 = .ok (.lload_n 2, 1) := by decide +kernel
theorem d4_folded_41 : decode c4_folded 41 = .ok (.lload 5, 2) := by decide +kernel
theorem d4_folded_43 : decode c4_folded 43 = .ok (.ladd, 1) := by decide +kernel
theorem d4_folded_44 : decode c4_folded 44 = .ok (.lreturn, 1) := by decide +kernel
theorem d4_folded_45 : decode c4_folded 45 = .ok (.iload_n 1, 1) := by decide +kernel
theorem d4_folded_46 : decode c4_folded 46 = .ok (.ifCond .ne 10, 3) := by decide +kernel
theorem d4_folded_49 : decode c4_folded 49 = .ok (.lload 5, 2) := by decide +kernel
theorem d4_folded_51 : decode c4_folded 51 = .ok (.lload_n 2, 1) := by decide +kernel
theorem d4_folded_52 : decode c4_folded 52 = .ok (.lcmp, 1) := by decide +kernel
theorem d4_folded_53 : decode c4_folded 53 = .ok (.ifCond .ge 8, 3) := by decide +kernel
theorem d4_folded_56 : decode c4_folded 56 = .ok (.lload 5, 2) := by decide +kernel
theorem d4_folded_58 : decode c4_folded 58 = .ok (.goto 4, 3) := by decide +kernel
theorem d4_folded_61 : decode c4_folded 61 = .ok (.lload_n 2, 1) := by decide +kernel
theorem d4_folded_62 : decode c4_folded 62 = .ok (.lreturn, 1) := by decide +kernel
theorem d4_folded_63 : decode c4_folded 63 = .ok (.iload_n 1, 1) := by decide +kernel
theorem d4_folded_64 : decode c4_folded 64 = .ok (.ifCond .ne 10, 3) := by decide +kernel
theorem d4_folded_67 : decode c4_folded 67 = .ok (.lload 5, 2) := by decide +kernel
theorem d4_folded_69 : decode c4_folded 69 = .ok (.lload_n 2, 1) := by decide +kernel
theorem d4_folded_70 : decode c4_folded 70 = .ok (.lcmp, 1) := by decide +kernel
theorem d4_folded_71 : decode c4_folded 71 = .ok (.ifCond .le 8, 3) := by decide +kernel
theorem d4_folded_74 : decode c4_folded 74 = .ok (.lload 5, 2) := by decide +kernel
theorem d4_folded_76 : decode c4_folded 76 = .ok (.goto 4, 3) := by decide +kernel
theorem d4_folded_79 : decode c4_folded 79 = .ok (.lload_n 2, 1) := by decide +kernel
theorem d4_folded_80 : decode c4_folded 80 = .ok (.lreturn, 1) := by decide +kernel
theorem d4_folded_81 : decode c4_folded 81 = .ok (.iload 4, 2) := by decide +kernel
theorem d4_folded_83 : decode c4_folded 83 = .ok (.i2l, 1) := by decide +kernel
theorem d4_folded_84 : decode c4_folded 84 = .ok (.lreturn, 1) := by decide +kernel
theorem d4_deriveFold_0 : decode c4_deriveFold 0 = .ok (.iconst 0, 1) := by decide +kernel
theorem d4_deriveFold_1 : decode c4_deriveFold 1 = .ok (.istore_n 2, 1) := by decide +kernel
theorem d4_deriveFold_2 : decode c4_deriveFold 2 = .ok (.iconst 0, 1) := by decide +kernel
theorem d4_deriveFold_3 : decode c4_deriveFold 3 = .ok (.istore_n 3, 1) := by decide +kernel
theorem d4_deriveFold_4 : decode c4_deriveFold 4 = .ok (.iload_n 3, 1) := by decide +kernel
theorem d4_deriveFold_5 : decode c4_deriveFold 5 = .ok (.bipush 64, 2) := by decide +kernel
theorem d4_deriveFold_7 : decode c4_deriveFold 7 = .ok (.if_icmp .ge 81, 3) := by decide +kernel
theorem d4_deriveFold_10 : decode c4_deriveFold 10 = .ok (.aload_n 1, 1) := by decide +kernel
theorem d4_deriveFold_11 : decode c4_deriveFold 11 = .ok (.iload_n 3, 1) := by decide +kernel
theorem d4_deriveFold_12 : decode c4_deriveFold 12 = .ok (.invokevirtual 78, 3) := by decide +kernel
theorem d4_deriveFold_15 : decode c4_deriveFold 15 = .ok (.ifCond .eq 47, 3) := by decide +kernel
theorem d4_deriveFold_18 : decode c4_deriveFold 18 = .ok (.aload_n 0, 1) := by decide +kernel
theorem d4_deriveFold_19 : decode c4_deriveFold 19 = .ok (.getfield 35, 3) := by decide +kernel
theorem d4_deriveFold_22 : decode c4_deriveFold 22 = .ok (.iload_n 2, 1) := by decide +kernel
theorem d4_deriveFold_23 : decode c4_deriveFold 23 = .ok (.aload_n 0, 1) := by decide +kernel
theorem d4_deriveFold_24 : decode c4_deriveFold 24 = .ok (.aload_n 0, 1) := by decide +kernel
theorem d4_deriveFold_25 : decode c4_deriveFold 25 = .ok (.getfield 35, 3) := by decide +kernel
theorem d4_deriveFold_28 : decode c4_deriveFold 28 = .ok (.iload_n 2, 1) := by decide +kernel
theorem d4_deriveFold_29 : decode c4_deriveFold 29 = .ok (.invokevirtual 78, 3) := by decide +kernel
theorem d4_deriveFold_32 : decode c4_deriveFold 32 = .ok (.ifCond .ne 7, 3) := by decide +kernel
theorem d4_deriveFold_35 : decode c4_deriveFold 35 = .ok (.iconst 1, 1) := by decide +kernel
theorem d4_deriveFold_36 : decode c4_deriveFold 36 = .ok (.goto 4, 3) := by decide +kernel
theorem d4_deriveFold_39 : decode c4_deriveFold 39 = .ok (.iconst 0, 1) := by decide +kernel
theorem d4_deriveFold_40 : decode c4_deriveFold 40 = .ok (.aload_n 0, 1) := by decide +kernel
theorem d4_deriveFold_41 : decode c4_deriveFold 41 = .ok (.getfield 35, 3) := by decide +kernel
theorem d4_deriveFold_44 : decode c4_deriveFold 44 = .ok (.getfield 74, 3) := by decide +kernel
theorem d4_deriveFold_47 : decode c4_deriveFold 47 = .ok (.iload_n 2, 1) := by decide +kernel
theorem d4_deriveFold_48 : decode c4_deriveFold 48 = .ok (.laload, 1) := by decide +kernel
theorem d4_deriveFold_49 : decode c4_deriveFold 49 = .ok (.iload_n 3, 1) := by decide +kernel
theorem d4_deriveFold_50 : decode c4_deriveFold 50 = .ok (.aload_n 1, 1) := by decide +kernel
theorem d4_deriveFold_51 : decode c4_deriveFold 51 = .ok (.getfield 74, 3) := by decide +kernel
theorem d4_deriveFold_54 : decode c4_deriveFold 54 = .ok (.iload_n 3, 1) := by decide +kernel
theorem d4_deriveFold_55 : decode c4_deriveFold 55 = .ok (.laload, 1) := by decide +kernel
theorem d4_deriveFold_56 : decode c4_deriveFold 56 = .ok (.invokevirtual 86, 3) := by decide +kernel
theorem d4_deriveFold_59 : decode c4_deriveFold 59 = .ok (.invokevirtual 82, 3) := by decide +kernel
theorem d4_deriveFold_62 : decode c4_deriveFold 62 = .ok (.iload_n 2, 1) := by decide +kernel
theorem d4_deriveFold_63 : decode c4_deriveFold 63 = .ok (.iconst 1, 1) := by decide +kernel
theorem d4_deriveFold_64 : decode c4_deriveFold 64 = .ok (.iadd, 1) := by decide +kernel
theorem d4_deriveFold_65 : decode c4_deriveFold 65 = .ok (.i2l, 1) := by decide +kernel
theorem d4_deriveFold_66 : decode c4_deriveFold 66 = .ok (.aload_n 0, 1) := by decide +kernel
theorem d4_deriveFold_67 : decode c4_deriveFold 67 = .ok (.getfield 25, 3) := by decide +kernel
theorem d4_deriveFold_70 : decode c4_deriveFold 70 = .ok (.lcmp, 1) := by decide +kernel
theorem d4_deriveFold_71 : decode c4_deriveFold 71 = .ok (.ifCond .ge 9, 3) := by decide +kernel
theorem d4_deriveFold_74 : decode c4_deriveFold 74 = .ok (.iload_n 2, 1) := by decide +kernel
theorem d4_deriveFold_75 : decode c4_deriveFold 75 = .ok (.iconst 1, 1) := by decide +kernel
theorem d4_deriveFold_76 : decode c4_deriveFold 76 = .ok (.iadd, 1) := by decide +kernel
theorem d4_deriveFold_77 : decode c4_deriveFold 77 = .ok (.goto 4, 3) := by decide +kernel
theorem d4_deriveFold_80 : decode c4_deriveFold 80 = .ok (.iconst 0, 1) := by decide +kernel
theorem d4_deriveFold_81 : decode c4_deriveFold 81 = .ok (.istore_n 2, 1) := by decide +kernel
theorem d4_deriveFold_82 : decode c4_deriveFold 82 = .ok (.iinc 3 1, 3) := by decide +kernel
theorem d4_deriveFold_85 : decode c4_deriveFold 85 = .ok (.goto (-81), 3) := by decide +kernel
theorem d4_deriveFold_88 : decode c4_deriveFold 88 = .ok (.return_, 1) := by decide +kernel
theorem d4_deriveJoin_0 : decode c4_deriveJoin 0 = .ok (.iconst 0, 1) := by decide +kernel
theorem d4_deriveJoin_1 : decode c4_deriveJoin 1 = .ok (.istore_n 3, 1) := by decide +kernel
theorem d4_deriveJoin_2 : decode c4_deriveJoin 2 = .ok (.iload_n 3, 1) := by decide +kernel
theorem d4_deriveJoin_3 : decode c4_deriveJoin 3 = .ok (.bipush 64, 2) := by decide +kernel
theorem d4_deriveJoin_5 : decode c4_deriveJoin 5 = .ok (.if_icmp .ge 55, 3) := by decide +kernel
theorem d4_deriveJoin_8 : decode c4_deriveJoin 8 = .ok (.aload_n 1, 1) := by decide +kernel
theorem d4_deriveJoin_9 : decode c4_deriveJoin 9 = .ok (.iload_n 3, 1) := by decide +kernel
theorem d4_deriveJoin_10 : decode c4_deriveJoin 10 = .ok (.invokevirtual 78, 3) := by decide +kernel
theorem d4_deriveJoin_13 : decode c4_deriveJoin 13 = .ok (.ifCond .eq 41, 3) := by decide +kernel
theorem d4_deriveJoin_16 : decode c4_deriveJoin 16 = .ok (.aload_n 2, 1) := by decide +kernel
theorem d4_deriveJoin_17 : decode c4_deriveJoin 17 = .ok (.iload_n 3, 1) := by decide +kernel
theorem d4_deriveJoin_18 : decode c4_deriveJoin 18 = .ok (.invokevirtual 78, 3) := by decide +kernel
theorem d4_deriveJoin_21 : decode c4_deriveJoin 21 = .ok (.ifCond .ne 12, 3) := by decide +kernel
theorem d4_deriveJoin_24 : decode c4_deriveJoin 24 = .ok (.aload_n 0, 1) := by decide +kernel
theorem d4_deriveJoin_25 : decode c4_deriveJoin 25 = .ok (.getfield 21, 3) := by decide +kernel
theorem d4_deriveJoin_28 : decode c4_deriveJoin 28 = .ok (.lconst 1, 1) := by decide +kernel
theorem d4_deriveJoin_29 : decode c4_deriveJoin 29 = .ok (.lcmp, 1) := by decide +kernel
theorem d4_deriveJoin_30 : decode c4_deriveJoin 30 = .ok (.ifCond .ne 24, 3) := by decide +kernel
theorem d4_deriveJoin_33 : decode c4_deriveJoin 33 = .ok (.aload_n 0, 1) := by decide +kernel
theorem d4_deriveJoin_34 : decode c4_deriveJoin 34 = .ok (.getfield 35, 3) := by decide +kernel
theorem d4_deriveJoin_37 : decode c4_deriveJoin 37 = .ok (.iload_n 3, 1) := by decide +kernel
theorem d4_deriveJoin_38 : decode c4_deriveJoin 38 = .ok (.aload_n 1, 1) := by decide +kernel
theorem d4_deriveJoin_39 : decode c4_deriveJoin 39 = .ok (.getfield 74, 3) := by decide +kernel
theorem d4_deriveJoin_42 : decode c4_deriveJoin 42 = .ok (.iload_n 3, 1) := by decide +kernel
theorem d4_deriveJoin_43 : decode c4_deriveJoin 43 = .ok (.laload, 1) := by decide +kernel
theorem d4_deriveJoin_44 : decode c4_deriveJoin 44 = .ok (.aload_n 2, 1) := by decide +kernel
theorem d4_deriveJoin_45 : decode c4_deriveJoin 45 = .ok (.getfield 74, 3) := by decide +kernel
theorem d4_deriveJoin_48 : decode c4_deriveJoin 48 = .ok (.iload_n 3, 1) := by decide +kernel
theorem d4_deriveJoin_49 : decode c4_deriveJoin 49 = .ok (.laload, 1) := by decide +kernel
theorem d4_deriveJoin_50 : decode c4_deriveJoin 50 = .ok (.ladd, 1) := by decide +kernel
theorem d4_deriveJoin_51 : decode c4_deriveJoin 51 = .ok (.invokevirtual 82, 3) := by decide +kernel
theorem d4_deriveJoin_54 : decode c4_deriveJoin 54 = .ok (.iinc 3 1, 3) := by decide +kernel
theorem d4_deriveJoin_57 : decode c4_deriveJoin 57 = .ok (.goto (-55), 3) := by decide +kernel
theorem d4_deriveJoin_60 : decode c4_deriveJoin 60 = .ok (.return_, 1) := by decide +kernel
theorem d4_deriveMerge_0 : decode c4_deriveMerge 0 = .ok (.iconst 0, 1) := by decide +kernel
theorem d4_deriveMerge_1 : decode c4_deriveMerge 1 = .ok (.istore_n 3, 1) := by decide +kernel
theorem d4_deriveMerge_2 : decode c4_deriveMerge 2 = .ok (.iload_n 3, 1) := by decide +kernel
theorem d4_deriveMerge_3 : decode c4_deriveMerge 3 = .ok (.bipush 64, 2) := by decide +kernel
theorem d4_deriveMerge_5 : decode c4_deriveMerge 5 = .ok (.if_icmp .ge 56, 3) := by decide +kernel
theorem d4_deriveMerge_8 : decode c4_deriveMerge 8 = .ok (.aload_n 1, 1) := by decide +kernel
theorem d4_deriveMerge_9 : decode c4_deriveMerge 9 = .ok (.iload_n 3, 1) := by decide +kernel
theorem d4_deriveMerge_10 : decode c4_deriveMerge 10 = .ok (.invokevirtual 78, 3) := by decide +kernel
theorem d4_deriveMerge_13 : decode c4_deriveMerge 13 = .ok (.ifCond .eq 20, 3) := by decide +kernel
theorem d4_deriveMerge_16 : decode c4_deriveMerge 16 = .ok (.aload_n 0, 1) := by decide +kernel
theorem d4_deriveMerge_17 : decode c4_deriveMerge 17 = .ok (.getfield 35, 3) := by decide +kernel
theorem d4_deriveMerge_20 : decode c4_deriveMerge 20 = .ok (.iload_n 3, 1) := by decide +kernel
theorem d4_deriveMerge_21 : decode c4_deriveMerge 21 = .ok (.aload_n 1, 1) := by decide +kernel
theorem d4_deriveMerge_22 : decode c4_deriveMerge 22 = .ok (.getfield 74, 3) := by decide +kernel
theorem d4_deriveMerge_25 : decode c4_deriveMerge 25 = .ok (.iload_n 3, 1) := by decide +kernel
theorem d4_deriveMerge_26 : decode c4_deriveMerge 26 = .ok (.laload, 1) := by decide +kernel
theorem d4_deriveMerge_27 : decode c4_deriveMerge 27 = .ok (.invokevirtual 82, 3) := by decide +kernel
theorem d4_deriveMerge_30 : decode c4_deriveMerge 30 = .ok (.goto 25, 3) := by decide +kernel
theorem d4_deriveMerge_33 : decode c4_deriveMerge 33 = .ok (.aload_n 2, 1) := by decide +kernel
theorem d4_deriveMerge_34 : decode c4_deriveMerge 34 = .ok (.iload_n 3, 1) := by decide +kernel
theorem d4_deriveMerge_35 : decode c4_deriveMerge 35 = .ok (.invokevirtual 78, 3) := by decide +kernel
theorem d4_deriveMerge_38 : decode c4_deriveMerge 38 = .ok (.ifCond .eq 17, 3) := by decide +kernel
theorem d4_deriveMerge_41 : decode c4_deriveMerge 41 = .ok (.aload_n 0, 1) := by decide +kernel
theorem d4_deriveMerge_42 : decode c4_deriveMerge 42 = .ok (.getfield 35, 3) := by decide +kernel
theorem d4_deriveMerge_45 : decode c4_deriveMerge 45 = .ok (.iload_n 3, 1) := by decide +kernel
theorem d4_deriveMerge_46 : decode c4_deriveMerge 46 = .ok (.aload_n 2, 1) := by decide +kernel
theorem d4_deriveMerge_47 : decode c4_deriveMerge 47 = .ok (.getfield 74, 3) := by decide +kernel
theorem d4_deriveMerge_50 : decode c4_deriveMerge 50 = .ok (.iload_n 3, 1) := by decide +kernel
theorem d4_deriveMerge_51 : decode c4_deriveMerge 51 = .ok (.laload, 1) := by decide +kernel
theorem d4_deriveMerge_52 : decode c4_deriveMerge 52 = .ok (.invokevirtual 82, 3) := by decide +kernel
theorem d4_deriveMerge_55 : decode c4_deriveMerge 55 = .ok (.iinc 3 1, 3) := by decide +kernel
theorem d4_deriveMerge_58 : decode c4_deriveMerge 58 = .ok (.goto (-56), 3) := by decide +kernel
theorem d4_deriveMerge_61 : decode c4_deriveMerge 61 = .ok (.return_, 1) := by decide +kernel
theorem d4_insertKey_0 : decode c4_insertKey 0 = .ok (.iload_n 3, 1) := by decide +kernel
theorem d4_insertKey_1 : decode c4_insertKey 1 = .ok (.istore 4, 2) := by decide +kernel
theorem d4_insertKey_3 : decode c4_insertKey 3 = .ok (.iload 4, 2) := by decide +kernel
theorem d4_insertKey_5 : decode c4_insertKey 5 = .ok (.ifCond .le 43, 3) := by decide +kernel
theorem d4_insertKey_8 : decode c4_insertKey 8 = .ok (.aload_n 2, 1) := by decide +kernel
theorem d4_insertKey_9 : decode c4_insertKey 9 = .ok (.aload_n 0, 1) := by decide +kernel
theorem d4_insertKey_10 : decode c4_insertKey 10 = .ok (.getfield 41, 3) := by decide +kernel
theorem d4_insertKey_13 : decode c4_insertKey 13 = .ok (.iload 4, 2) := by decide +kernel
theorem d4_insertKey_15 : decode c4_insertKey 15 = .ok (.iconst 1, 1) := by decide +kernel
theorem d4_insertKey_16 : decode c4_insertKey 16 = .ok (.isub, 1) := by decide +kernel
theorem d4_insertKey_17 : decode c4_insertKey 17 = .ok (.iaload, 1) := by decide +kernel
theorem d4_insertKey_18 : decode c4_insertKey 18 = .ok (.laload, 1) := by decide +kernel
theorem d4_insertKey_19 : decode c4_insertKey 19 = .ok (.aload_n 2, 1) := by decide +kernel
theorem d4_insertKey_20 : decode c4_insertKey 20 = .ok (.iload_n 1, 1) := by decide +kernel
theorem d4_insertKey_21 : decode c4_insertKey 21 = .ok (.laload, 1) := by decide +kernel
theorem d4_insertKey_22 : decode c4_insertKey 22 = .ok (.lcmp, 1) := by decide +kernel
theorem d4_insertKey_23 : decode c4_insertKey 23 = .ok (.ifCond .ge 25, 3) := by decide +kernel
theorem d4_insertKey_26 : decode c4_insertKey 26 = .ok (.aload_n 0, 1) := by decide +kernel
theorem d4_insertKey_27 : decode c4_insertKey 27 = .ok (.getfield 41, 3) := by decide +kernel
theorem d4_insertKey_30 : decode c4_insertKey 30 = .ok (.iload 4, 2) := by decide +kernel
theorem d4_insertKey_32 : decode c4_insertKey 32 = .ok (.aload_n 0, 1) := by decide +kernel
theorem d4_insertKey_33 : decode c4_insertKey 33 = .ok (.getfield 41, 3) := by decide +kernel
theorem d4_insertKey_36 : decode c4_insertKey 36 = .ok (.iload 4, 2) := by decide +kernel
theorem d4_insertKey_38 : decode c4_insertKey 38 = .ok (.iconst 1, 1) := by decide +kernel
theorem d4_insertKey_39 : decode c4_insertKey 39 = .ok (.isub, 1) := by decide +kernel
theorem d4_insertKey_40 : decode c4_insertKey 40 = .ok (.iaload, 1) := by decide +kernel
theorem d4_insertKey_41 : decode c4_insertKey 41 = .ok (.iastore, 1) := by decide +kernel
theorem d4_insertKey_42 : decode c4_insertKey 42 = .ok (.iinc 4 (-1), 3) := by decide +kernel
theorem d4_insertKey_45 : decode c4_insertKey 45 = .ok (.goto (-42), 3) := by decide +kernel
theorem d4_insertKey_48 : decode c4_insertKey 48 = .ok (.aload_n 0, 1) := by decide +kernel
theorem d4_insertKey_49 : decode c4_insertKey 49 = .ok (.getfield 41, 3) := by decide +kernel
theorem d4_insertKey_52 : decode c4_insertKey 52 = .ok (.iload 4, 2) := by decide +kernel
theorem d4_insertKey_54 : decode c4_insertKey 54 = .ok (.iload_n 1, 1) := by decide +kernel
theorem d4_insertKey_55 : decode c4_insertKey 55 = .ok (.iastore, 1) := by decide +kernel
theorem d4_insertKey_56 : decode c4_insertKey 56 = .ok (.return_, 1) := by decide +kernel
theorem d4_deriveBest_0 : decode c4_deriveBest 0 = .ok (.iconst 0, 1) := by decide +kernel
theorem d4_deriveBest_1 : decode c4_deriveBest 1 = .ok (.istore_n 2, 1) := by decide +kernel
theorem d4_deriveBest_2 : decode c4_deriveBest 2 = .ok (.iconst 0, 1) := by decide +kernel
theorem d4_deriveBest_3 : decode c4_deriveBest 3 = .ok (.istore_n 3, 1) := by decide +kernel
theorem d4_deriveBest_4 : decode c4_deriveBest 4 = .ok (.iload_n 3, 1) := by decide +kernel
theorem d4_deriveBest_5 : decode c4_deriveBest 5 = .ok (.bipush 64, 2) := by decide +kernel
theorem d4_deriveBest_7 : decode c4_deriveBest 7 = .ok (.if_icmp .ge 30, 3) := by decide +kernel
theorem d4_deriveBest_10 : decode c4_deriveBest 10 = .ok (.aload_n 1, 1) := by decide +kernel
theorem d4_deriveBest_11 : decode c4_deriveBest 11 = .ok (.iload_n 3, 1) := by decide +kernel
theorem d4_deriveBest_12 : decode c4_deriveBest 12 = .ok (.invokevirtual 78, 3) := by decide +kernel
theorem d4_deriveBest_15 : decode c4_deriveBest 15 = .ok (.ifCond .eq 16, 3) := by decide +kernel
theorem d4_deriveBest_18 : decode c4_deriveBest 18 = .ok (.aload_n 0, 1) := by decide +kernel
theorem d4_deriveBest_19 : decode c4_deriveBest 19 = .ok (.iload_n 3, 1) := by decide +kernel
theorem d4_deriveBest_20 : decode c4_deriveBest 20 = .ok (.aload_n 1, 1) := by decide +kernel
theorem d4_deriveBest_21 : decode c4_deriveBest 21 = .ok (.getfield 74, 3) := by decide +kernel
theorem d4_deriveBest_24 : decode c4_deriveBest 24 = .ok (.iload_n 2, 1) := by decide +kernel
theorem d4_deriveBest_25 : decode c4_deriveBest 25 = .ok (.invokevirtual 90, 3) := by decide +kernel
theorem d4_deriveBest_28 : decode c4_deriveBest 28 = .ok (.iinc 2 1, 3) := by decide +kernel
theorem d4_deriveBest_31 : decode c4_deriveBest 31 = .ok (.iinc 3 1, 3) := by decide +kernel
theorem d4_deriveBest_34 : decode c4_deriveBest 34 = .ok (.goto (-30), 3) := by decide +kernel
theorem d4_deriveBest_37 : decode c4_deriveBest 37 = .ok (.iconst 0, 1) := by decide +kernel
theorem d4_deriveBest_38 : decode c4_deriveBest 38 = .ok (.istore_n 3, 1) := by decide +kernel
theorem d4_deriveBest_39 : decode c4_deriveBest 39 = .ok (.iload_n 3, 1) := by decide +kernel
theorem d4_deriveBest_40 : decode c4_deriveBest 40 = .ok (.iload_n 2, 1) := by decide +kernel
theorem d4_deriveBest_41 : decode c4_deriveBest 41 = .ok (.if_icmp .ge 43, 3) := by decide +kernel
theorem d4_deriveBest_44 : decode c4_deriveBest 44 = .ok (.iload_n 3, 1) := by decide +kernel
theorem d4_deriveBest_45 : decode c4_deriveBest 45 = .ok (.i2l, 1) := by decide +kernel
theorem d4_deriveBest_46 : decode c4_deriveBest 46 = .ok (.aload_n 0, 1) := by decide +kernel
theorem d4_deriveBest_47 : decode c4_deriveBest 47 = .ok (.getfield 21, 3) := by decide +kernel
theorem d4_deriveBest_50 : decode c4_deriveBest 50 = .ok (.lcmp, 1) := by decide +kernel
theorem d4_deriveBest_51 : decode c4_deriveBest 51 = .ok (.ifCond .ge 33, 3) := by decide +kernel
theorem d4_deriveBest_54 : decode c4_deriveBest 54 = .ok (.aload_n 0, 1) := by decide +kernel
theorem d4_deriveBest_55 : decode c4_deriveBest 55 = .ok (.getfield 35, 3) := by decide +kernel
theorem d4_deriveBest_58 : decode c4_deriveBest 58 = .ok (.aload_n 0, 1) := by decide +kernel
theorem d4_deriveBest_59 : decode c4_deriveBest 59 = .ok (.getfield 41, 3) := by decide +kernel
theorem d4_deriveBest_62 : decode c4_deriveBest 62 = .ok (.iload_n 3, 1) := by decide +kernel
theorem d4_deriveBest_63 : decode c4_deriveBest 63 = .ok (.iaload, 1) := by decide +kernel
theorem d4_deriveBest_64 : decode c4_deriveBest 64 = .ok (.aload_n 1, 1) := by decide +kernel
theorem d4_deriveBest_65 : decode c4_deriveBest 65 = .ok (.getfield 74, 3) := by decide +kernel
theorem d4_deriveBest_68 : decode c4_deriveBest 68 = .ok (.aload_n 0, 1) := by decide +kernel
theorem d4_deriveBest_69 : decode c4_deriveBest 69 = .ok (.getfield 41, 3) := by decide +kernel
theorem d4_deriveBest_72 : decode c4_deriveBest 72 = .ok (.iload_n 3, 1) := by decide +kernel
theorem d4_deriveBest_73 : decode c4_deriveBest 73 = .ok (.iaload, 1) := by decide +kernel
theorem d4_deriveBest_74 : decode c4_deriveBest 74 = .ok (.laload, 1) := by decide +kernel
theorem d4_deriveBest_75 : decode c4_deriveBest 75 = .ok (.invokevirtual 82, 3) := by decide +kernel
theorem d4_deriveBest_78 : decode c4_deriveBest 78 = .ok (.iinc 3 1, 3) := by decide +kernel
theorem d4_deriveBest_81 : decode c4_deriveBest 81 = .ok (.goto (-42), 3) := by decide +kernel
theorem d4_deriveBest_84 : decode c4_deriveBest 84 = .ok (.return_, 1) := by decide +kernel
theorem d4_deriveLook_0 : decode c4_deriveLook 0 = .ok (.iconst 0, 1) := by decide +kernel
theorem d4_deriveLook_1 : decode c4_deriveLook 1 = .ok (.istore_n 3, 1) := by decide +kernel
theorem d4_deriveLook_2 : decode c4_deriveLook 2 = .ok (.iload_n 3, 1) := by decide +kernel
theorem d4_deriveLook_3 : decode c4_deriveLook 3 = .ok (.bipush 64, 2) := by decide +kernel
theorem d4_deriveLook_5 : decode c4_deriveLook 5 = .ok (.if_icmp .ge 54, 3) := by decide +kernel
theorem d4_deriveLook_8 : decode c4_deriveLook 8 = .ok (.aload_n 1, 1) := by decide +kernel
theorem d4_deriveLook_9 : decode c4_deriveLook 9 = .ok (.getfield 74, 3) := by decide +kernel
theorem d4_deriveLook_12 : decode c4_deriveLook 12 = .ok (.iload_n 3, 1) := by decide +kernel
theorem d4_deriveLook_13 : decode c4_deriveLook 13 = .ok (.laload, 1) := by decide +kernel
theorem d4_deriveLook_14 : decode c4_deriveLook 14 = .ok (.ldc2_w 94, 3) := by decide +kernel
theorem d4_deriveLook_17 : decode c4_deriveLook 17 = .ok (.land, 1) := by decide +kernel
theorem d4_deriveLook_18 : decode c4_deriveLook 18 = .ok (.l2i, 1) := by decide +kernel
theorem d4_deriveLook_19 : decode c4_deriveLook 19 = .ok (.istore 4, 2) := by decide +kernel
theorem d4_deriveLook_21 : decode c4_deriveLook 21 = .ok (.aload_n 1, 1) := by decide +kernel
theorem d4_deriveLook_22 : decode c4_deriveLook 22 = .ok (.iload_n 3, 1) := by decide +kernel
theorem d4_deriveLook_23 : decode c4_deriveLook 23 = .ok (.invokevirtual 78, 3) := by decide +kernel
theorem d4_deriveLook_26 : decode c4_deriveLook 26 = .ok (.ifCond .eq 27, 3) := by decide +kernel
theorem d4_deriveLook_29 : decode c4_deriveLook 29 = .ok (.aload_n 2, 1) := by decide +kernel
theorem d4_deriveLook_30 : decode c4_deriveLook 30 = .ok (.iload 4, 2) := by decide +kernel
theorem d4_deriveLook_32 : decode c4_deriveLook 32 = .ok (.invokevirtual 78, 3) := by decide +kernel
theorem d4_deriveLook_35 : decode c4_deriveLook 35 = .ok (.ifCond .eq 18, 3) := by decide +kernel
theorem d4_deriveLook_38 : decode c4_deriveLook 38 = .ok (.aload_n 0, 1) := by decide +kernel
theorem d4_deriveLook_39 : decode c4_deriveLook 39 = .ok (.getfield 35, 3) := by decide +kernel
theorem d4_deriveLook_42 : decode c4_deriveLook 42 = .ok (.iload_n 3, 1) := by decide +kernel
theorem d4_deriveLook_43 : decode c4_deriveLook 43 = .ok (.aload_n 2, 1) := by decide +kernel
theorem d4_deriveLook_44 : decode c4_deriveLook 44 = .ok (.getfield 74, 3) := by decide +kernel
theorem d4_deriveLook_47 : decode c4_deriveLook 47 = .ok (.iload 4, 2) := by decide +kernel
theorem d4_deriveLook_49 : decode c4_deriveLook 49 = .ok (.laload, 1) := by decide +kernel
theorem d4_deriveLook_50 : decode c4_deriveLook 50 = .ok (.invokevirtual 82, 3) := by decide +kernel
theorem d4_deriveLook_53 : decode c4_deriveLook 53 = .ok (.iinc 3 1, 3) := by decide +kernel
theorem d4_deriveLook_56 : decode c4_deriveLook 56 = .ok (.goto (-54), 3) := by decide +kernel
theorem d4_deriveLook_59 : decode c4_deriveLook 59 = .ok (.return_, 1) := by decide +kernel
theorem d4_derive_0 : decode c4_derive 0 = .ok (.aload_n 0, 1) := by decide +kernel
theorem d4_derive_1 : decode c4_derive 1 = .ok (.getfield 35, 3) := by decide +kernel
theorem d4_derive_4 : decode c4_derive 4 = .ok (.invokevirtual 48, 3) := by decide +kernel
theorem d4_derive_7 : decode c4_derive 7 = .ok (.aload_n 0, 1) := by decide +kernel
theorem d4_derive_8 : decode c4_derive 8 = .ok (.getfield 9, 3) := by decide +kernel
theorem d4_derive_11 : decode c4_derive 11 = .ok (.tableswitch 100 1 7 #[41, 49, 57, 65, 74, 83, 91], 41) := by decide +kernel
theorem d4_derive_52 : decode c4_derive 52 = .ok (.aload_n 0, 1) := by decide +kernel
theorem d4_derive_53 : decode c4_derive 53 = .ok (.aload_n 1, 1) := by decide +kernel
theorem d4_derive_54 : decode c4_derive 54 = .ok (.invokevirtual 51, 3) := by decide +kernel
theorem d4_derive_57 : decode c4_derive 57 = .ok (.goto 54, 3) := by decide +kernel
theorem d4_derive_60 : decode c4_derive 60 = .ok (.aload_n 0, 1) := by decide +kernel
theorem d4_derive_61 : decode c4_derive 61 = .ok (.aload_n 1, 1) := by decide +kernel
theorem d4_derive_62 : decode c4_derive 62 = .ok (.invokevirtual 55, 3) := by decide +kernel
theorem d4_derive_65 : decode c4_derive 65 = .ok (.goto 46, 3) := by decide +kernel
theorem d4_derive_68 : decode c4_derive 68 = .ok (.aload_n 0, 1) := by decide +kernel
theorem d4_derive_69 : decode c4_derive 69 = .ok (.aload_n 1, 1) := by decide +kernel
theorem d4_derive_70 : decode c4_derive 70 = .ok (.invokevirtual 58, 3) := by decide +kernel
theorem d4_derive_73 : decode c4_derive 73 = .ok (.goto 38, 3) := by decide +kernel
theorem d4_derive_76 : decode c4_derive 76 = .ok (.aload_n 0, 1) := by decide +kernel
theorem d4_derive_77 : decode c4_derive 77 = .ok (.aload_n 1, 1) := by decide +kernel
theorem d4_derive_78 : decode c4_derive 78 = .ok (.aload_n 2, 1) := by decide +kernel
theorem d4_derive_79 : decode c4_derive 79 = .ok (.invokevirtual 61, 3) := by decide +kernel
theorem d4_derive_82 : decode c4_derive 82 = .ok (.goto 29, 3) := by decide +kernel
theorem d4_derive_85 : decode c4_derive 85 = .ok (.aload_n 0, 1) := by decide +kernel
theorem d4_derive_86 : decode c4_derive 86 = .ok (.aload_n 1, 1) := by decide +kernel
theorem d4_derive_87 : decode c4_derive 87 = .ok (.aload_n 2, 1) := by decide +kernel
theorem d4_derive_88 : decode c4_derive 88 = .ok (.invokevirtual 65, 3) := by decide +kernel
theorem d4_derive_91 : decode c4_derive 91 = .ok (.goto 20, 3) := by decide +kernel
theorem d4_derive_94 : decode c4_derive 94 = .ok (.aload_n 0, 1) := by decide +kernel
theorem d4_derive_95 : decode c4_derive 95 = .ok (.aload_n 1, 1) := by decide +kernel
theorem d4_derive_96 : decode c4_derive 96 = .ok (.invokevirtual 68, 3) := by decide +kernel
theorem d4_derive_99 : decode c4_derive 99 = .ok (.goto 12, 3) := by decide +kernel
theorem d4_derive_102 : decode c4_derive 102 = .ok (.aload_n 0, 1) := by decide +kernel
theorem d4_derive_103 : decode c4_derive 103 = .ok (.aload_n 1, 1) := by decide +kernel
theorem d4_derive_104 : decode c4_derive 104 = .ok (.aload_n 2, 1) := by decide +kernel
theorem d4_derive_105 : decode c4_derive 105 = .ok (.invokevirtual 71, 3) := by decide +kernel
theorem d4_derive_108 : decode c4_derive 108 = .ok (.goto 3, 3) := by decide +kernel
theorem d4_derive_111 : decode c4_derive 111 = .ok (.return_, 1) := by decide +kernel
theorem d3_become_0 : decode c3_become 0 = .ok (.aload_n 0, 1) := by decide +kernel
theorem d3_become_1 : decode c3_become 1 = .ok (.aload_n 1, 1) := by decide +kernel
theorem d3_become_2 : decode c3_become 2 = .ok (.getfield 9, 3) := by decide +kernel
theorem d3_become_5 : decode c3_become 5 = .ok (.putfield 9, 3) := by decide +kernel
theorem d3_become_8 : decode c3_become 8 = .ok (.aload_n 1, 1) := by decide +kernel
theorem d3_become_9 : decode c3_become 9 = .ok (.getfield 15, 3) := by decide +kernel
theorem d3_become_12 : decode c3_become 12 = .ok (.iconst 0, 1) := by decide +kernel
theorem d3_become_13 : decode c3_become 13 = .ok (.aload_n 0, 1) := by decide +kernel
theorem d3_become_14 : decode c3_become 14 = .ok (.getfield 15, 3) := by decide +kernel
theorem d3_become_17 : decode c3_become 17 = .ok (.iconst 0, 1) := by decide +kernel
theorem d3_become_18 : decode c3_become 18 = .ok (.bipush 64, 2) := by decide +kernel
theorem d3_become_20 : decode c3_become 20 = .ok (.invokestatic 31, 3) := by decide +kernel
theorem d3_become_23 : decode c3_become 23 = .ok (.return_, 1) := by decide +kernel
theorem d1_gather_0 : decode c1_gather 0 = .ok (.aload_n 0, 1) := by decide +kernel
theorem d1_gather_1 : decode c1_gather 1 = .ok (.getfield 15, 3) := by decide +kernel
theorem d1_gather_4 : decode c1_gather 4 = .ok (.bipush 40, 2) := by decide +kernel
theorem d1_gather_6 : decode c1_gather 6 = .ok (.if_icmp .lt 6, 3) := by decide +kernel
theorem d1_gather_9 : decode c1_gather 9 = .ok (.bipush (-3), 2) := by decide +kernel
theorem d1_gather_11 : decode c1_gather 11 = .ok (.ireturn, 1) := by decide +kernel
theorem d1_gather_12 : decode c1_gather 12 = .ok (.aload_n 0, 1) := by decide +kernel
theorem d1_gather_13 : decode c1_gather 13 = .ok (.getfield 19, 3) := by decide +kernel
theorem d1_gather_16 : decode c1_gather 16 = .ok (.aload_n 0, 1) := by decide +kernel
theorem d1_gather_17 : decode c1_gather 17 = .ok (.getfield 15, 3) := by decide +kernel
theorem d1_gather_20 : decode c1_gather 20 = .ok (.iload_n 1, 1) := by decide +kernel
theorem d1_gather_21 : decode c1_gather 21 = .ok (.iastore, 1) := by decide +kernel
theorem d1_gather_22 : decode c1_gather 22 = .ok (.aload_n 0, 1) := by decide +kernel
theorem d1_gather_23 : decode c1_gather 23 = .ok (.getfield 23, 3) := by decide +kernel
theorem d1_gather_26 : decode c1_gather 26 = .ok (.aload_n 0, 1) := by decide +kernel
theorem d1_gather_27 : decode c1_gather 27 = .ok (.getfield 15, 3) := by decide +kernel
theorem d1_gather_30 : decode c1_gather 30 = .ok (.iload_n 2, 1) := by decide +kernel
theorem d1_gather_31 : decode c1_gather 31 = .ok (.iastore, 1) := by decide +kernel
theorem d1_gather_32 : decode c1_gather 32 = .ok (.aload_n 0, 1) := by decide +kernel
theorem d1_gather_33 : decode c1_gather 33 = .ok (.getfield 26, 3) := by decide +kernel
theorem d1_gather_36 : decode c1_gather 36 = .ok (.aload_n 0, 1) := by decide +kernel
theorem d1_gather_37 : decode c1_gather 37 = .ok (.getfield 15, 3) := by decide +kernel
theorem d1_gather_40 : decode c1_gather 40 = .ok (.iload_n 3, 1) := by decide +kernel
theorem d1_gather_41 : decode c1_gather 41 = .ok (.bastore, 1) := by decide +kernel
theorem d1_gather_42 : decode c1_gather 42 = .ok (.aload_n 0, 1) := by decide +kernel
theorem d1_gather_43 : decode c1_gather 43 = .ok (.getfield 30, 3) := by decide +kernel
theorem d1_gather_46 : decode c1_gather 46 = .ok (.aload_n 0, 1) := by decide +kernel
theorem d1_gather_47 : decode c1_gather 47 = .ok (.getfield 15, 3) := by decide +kernel
theorem d1_gather_50 : decode c1_gather 50 = .ok (.lload 4, 2) := by decide +kernel
theorem d1_gather_52 : decode c1_gather 52 = .ok (.lastore, 1) := by decide +kernel
theorem d1_gather_53 : decode c1_gather 53 = .ok (.aload_n 0, 1) := by decide +kernel
theorem d1_gather_54 : decode c1_gather 54 = .ok (.dup, 1) := by decide +kernel
theorem d1_gather_55 : decode c1_gather 55 = .ok (.getfield 15, 3) := by decide +kernel
theorem d1_gather_58 : decode c1_gather 58 = .ok (.iconst 1, 1) := by decide +kernel
theorem d1_gather_59 : decode c1_gather 59 = .ok (.iadd, 1) := by decide +kernel
theorem d1_gather_60 : decode c1_gather 60 = .ok (.putfield 15, 3) := by decide +kernel
theorem d1_gather_63 : decode c1_gather 63 = .ok (.aload_n 0, 1) := by decide +kernel
theorem d1_gather_64 : decode c1_gather 64 = .ok (.getfield 15, 3) := by decide +kernel
theorem d1_gather_67 : decode c1_gather 67 = .ok (.ireturn, 1) := by decide +kernel
theorem d3_write_0 : decode c3_write 0 = .ok (.iload_n 2, 1) := by decide +kernel
theorem d3_write_1 : decode c3_write 1 = .ok (.ifCond .eq 12, 3) := by decide +kernel
theorem d3_write_4 : decode c3_write 4 = .ok (.aload_n 0, 1) := by decide +kernel
theorem d3_write_5 : decode c3_write 5 = .ok (.iload_n 1, 1) := by decide +kernel
theorem d3_write_6 : decode c3_write 6 = .ok (.lload_n 3, 1) := by decide +kernel
theorem d3_write_7 : decode c3_write 7 = .ok (.invokevirtual 37, 3) := by decide +kernel
theorem d3_write_10 : decode c3_write 10 = .ok (.goto 26, 3) := by decide +kernel
theorem d3_write_13 : decode c3_write 13 = .ok (.aload_n 0, 1) := by decide +kernel
theorem d3_write_14 : decode c3_write 14 = .ok (.dup, 1) := by decide +kernel
theorem d3_write_15 : decode c3_write 15 = .ok (.getfield 9, 3) := by decide +kernel
theorem d3_write_18 : decode c3_write 18 = .ok (.lconst 1, 1) := by decide +kernel
theorem d3_write_19 : decode c3_write 19 = .ok (.iload_n 1, 1) := by decide +kernel
theorem d3_write_20 : decode c3_write 20 = .ok (.lshl, 1) := by decide +kernel
theorem d3_write_21 : decode c3_write 21 = .ok (.ldc2_w 41, 3) := by decide +kernel
theorem d3_write_24 : decode c3_write 24 = .ok (.lxor, 1) := by decide +kernel
theorem d3_write_25 : decode c3_write 25 = .ok (.land, 1) := by decide +kernel
theorem d3_write_26 : decode c3_write 26 = .ok (.putfield 9, 3) := by decide +kernel
theorem d3_write_29 : decode c3_write 29 = .ok (.aload_n 0, 1) := by decide +kernel
theorem d3_write_30 : decode c3_write 30 = .ok (.getfield 15, 3) := by decide +kernel
theorem d3_write_33 : decode c3_write 33 = .ok (.iload_n 1, 1) := by decide +kernel
theorem d3_write_34 : decode c3_write 34 = .ok (.lconst 0, 1) := by decide +kernel
theorem d3_write_35 : decode c3_write 35 = .ok (.lastore, 1) := by decide +kernel
theorem d3_write_36 : decode c3_write 36 = .ok (.return_, 1) := by decide +kernel
theorem d3_differing_0 : decode c3_differing 0 = .ok (.aload_n 0, 1) := by decide +kernel
theorem d3_differing_1 : decode c3_differing 1 = .ok (.getfield 9, 3) := by decide +kernel
theorem d3_differing_4 : decode c3_differing 4 = .ok (.aload_n 1, 1) := by decide +kernel
theorem d3_differing_5 : decode c3_differing 5 = .ok (.getfield 9, 3) := by decide +kernel
theorem d3_differing_8 : decode c3_differing 8 = .ok (.lxor, 1) := by decide +kernel
theorem d3_differing_9 : decode c3_differing 9 = .ok (.lstore_n 2, 1) := by decide +kernel
theorem d3_differing_10 : decode c3_differing 10 = .ok (.iconst 0, 1) := by decide +kernel
theorem d3_differing_11 : decode c3_differing 11 = .ok (.istore 4, 2) := by decide +kernel
theorem d3_differing_13 : decode c3_differing 13 = .ok (.iload 4, 2) := by decide +kernel
theorem d3_differing_15 : decode c3_differing 15 = .ok (.bipush 64, 2) := by decide +kernel
theorem d3_differing_17 : decode c3_differing 17 = .ok (.if_icmp .ge 34, 3) := by decide +kernel
theorem d3_differing_20 : decode c3_differing 20 = .ok (.aload_n 0, 1) := by decide +kernel
theorem d3_differing_21 : decode c3_differing 21 = .ok (.getfield 15, 3) := by decide +kernel
theorem d3_differing_24 : decode c3_differing 24 = .ok (.iload 4, 2) := by decide +kernel
theorem d3_differing_26 : decode c3_differing 26 = .ok (.laload, 1) := by decide +kernel
theorem d3_differing_27 : decode c3_differing 27 = .ok (.aload_n 1, 1) := by decide +kernel
theorem d3_differing_28 : decode c3_differing 28 = .ok (.getfield 15, 3) := by decide +kernel
theorem d3_differing_31 : decode c3_differing 31 = .ok (.iload 4, 2) := by decide +kernel
theorem d3_differing_33 : decode c3_differing 33 = .ok (.laload, 1) := by decide +kernel
theorem d3_differing_34 : decode c3_differing 34 = .ok (.lcmp, 1) := by decide +kernel
theorem d3_differing_35 : decode c3_differing 35 = .ok (.ifCond .eq 10, 3) := by decide +kernel
theorem d3_differing_38 : decode c3_differing 38 = .ok (.lload_n 2, 1) := by decide +kernel
theorem d3_differing_39 : decode c3_differing 39 = .ok (.lconst 1, 1) := by decide +kernel
theorem d3_differing_40 : decode c3_differing 40 = .ok (.iload 4, 2) := by decide +kernel
theorem d3_differing_42 : decode c3_differing 42 = .ok (.lshl, 1) := by decide +kernel
theorem d3_differing_43 : decode c3_differing 43 = .ok (.lor, 1) := by decide +kernel
theorem d3_differing_44 : decode c3_differing 44 = .ok (.lstore_n 2, 1) := by decide +kernel
theorem d3_differing_45 : decode c3_differing 45 = .ok (.iinc 4 1, 3) := by decide +kernel
theorem d3_differing_48 : decode c3_differing 48 = .ok (.goto (-35), 3) := by decide +kernel
theorem d3_differing_51 : decode c3_differing 51 = .ok (.lload_n 2, 1) := by decide +kernel
theorem d3_differing_52 : decode c3_differing 52 = .ok (.lreturn, 1) := by decide +kernel
theorem dL_bitCount_0 : decode cL_bitCount 0 = .ok (.lload_n 0, 1) := by decide +kernel
theorem dL_bitCount_1 : decode cL_bitCount 1 = .ok (.lload_n 0, 1) := by decide +kernel
theorem dL_bitCount_2 : decode cL_bitCount 2 = .ok (.iconst 1, 1) := by decide +kernel
theorem dL_bitCount_3 : decode cL_bitCount 3 = .ok (.lushr, 1) := by decide +kernel
theorem dL_bitCount_4 : decode cL_bitCount 4 = .ok (.ldc2_w 314, 3) := by decide +kernel
theorem dL_bitCount_7 : decode cL_bitCount 7 = .ok (.land, 1) := by decide +kernel
theorem dL_bitCount_8 : decode cL_bitCount 8 = .ok (.lsub, 1) := by decide +kernel
theorem dL_bitCount_9 : decode cL_bitCount 9 = .ok (.lstore_n 0, 1) := by decide +kernel
theorem dL_bitCount_10 : decode cL_bitCount 10 = .ok (.lload_n 0, 1) := by decide +kernel
theorem dL_bitCount_11 : decode cL_bitCount 11 = .ok (.ldc2_w 316, 3) := by decide +kernel
theorem dL_bitCount_14 : decode cL_bitCount 14 = .ok (.land, 1) := by decide +kernel
theorem dL_bitCount_15 : decode cL_bitCount 15 = .ok (.lload_n 0, 1) := by decide +kernel
theorem dL_bitCount_16 : decode cL_bitCount 16 = .ok (.iconst 2, 1) := by decide +kernel
theorem dL_bitCount_17 : decode cL_bitCount 17 = .ok (.lushr, 1) := by decide +kernel
theorem dL_bitCount_18 : decode cL_bitCount 18 = .ok (.ldc2_w 316, 3) := by decide +kernel
theorem dL_bitCount_21 : decode cL_bitCount 21 = .ok (.land, 1) := by decide +kernel
theorem dL_bitCount_22 : decode cL_bitCount 22 = .ok (.ladd, 1) := by decide +kernel
theorem dL_bitCount_23 : decode cL_bitCount 23 = .ok (.lstore_n 0, 1) := by decide +kernel
theorem dL_bitCount_24 : decode cL_bitCount 24 = .ok (.lload_n 0, 1) := by decide +kernel
theorem dL_bitCount_25 : decode cL_bitCount 25 = .ok (.lload_n 0, 1) := by decide +kernel
theorem dL_bitCount_26 : decode cL_bitCount 26 = .ok (.iconst 4, 1) := by decide +kernel
theorem dL_bitCount_27 : decode cL_bitCount 27 = .ok (.lushr, 1) := by decide +kernel
theorem dL_bitCount_28 : decode cL_bitCount 28 = .ok (.ladd, 1) := by decide +kernel
theorem dL_bitCount_29 : decode cL_bitCount 29 = .ok (.ldc2_w 318, 3) := by decide +kernel
theorem dL_bitCount_32 : decode cL_bitCount 32 = .ok (.land, 1) := by decide +kernel
theorem dL_bitCount_33 : decode cL_bitCount 33 = .ok (.lstore_n 0, 1) := by decide +kernel
theorem dL_bitCount_34 : decode cL_bitCount 34 = .ok (.lload_n 0, 1) := by decide +kernel
theorem dL_bitCount_35 : decode cL_bitCount 35 = .ok (.lload_n 0, 1) := by decide +kernel
theorem dL_bitCount_36 : decode cL_bitCount 36 = .ok (.bipush 8, 2) := by decide +kernel
theorem dL_bitCount_38 : decode cL_bitCount 38 = .ok (.lushr, 1) := by decide +kernel
theorem dL_bitCount_39 : decode cL_bitCount 39 = .ok (.ladd, 1) := by decide +kernel
theorem dL_bitCount_40 : decode cL_bitCount 40 = .ok (.lstore_n 0, 1) := by decide +kernel
theorem dL_bitCount_41 : decode cL_bitCount 41 = .ok (.lload_n 0, 1) := by decide +kernel
theorem dL_bitCount_42 : decode cL_bitCount 42 = .ok (.lload_n 0, 1) := by decide +kernel
theorem dL_bitCount_43 : decode cL_bitCount 43 = .ok (.bipush 16, 2) := by decide +kernel
theorem dL_bitCount_45 : decode cL_bitCount 45 = .ok (.lushr, 1) := by decide +kernel
theorem dL_bitCount_46 : decode cL_bitCount 46 = .ok (.ladd, 1) := by decide +kernel
theorem dL_bitCount_47 : decode cL_bitCount 47 = .ok (.lstore_n 0, 1) := by decide +kernel
theorem dL_bitCount_48 : decode cL_bitCount 48 = .ok (.lload_n 0, 1) := by decide +kernel
theorem dL_bitCount_49 : decode cL_bitCount 49 = .ok (.lload_n 0, 1) := by decide +kernel
theorem dL_bitCount_50 : decode cL_bitCount 50 = .ok (.bipush 32, 2) := by decide +kernel
theorem dL_bitCount_52 : decode cL_bitCount 52 = .ok (.lushr, 1) := by decide +kernel
theorem dL_bitCount_53 : decode cL_bitCount 53 = .ok (.ladd, 1) := by decide +kernel
theorem dL_bitCount_54 : decode cL_bitCount 54 = .ok (.lstore_n 0, 1) := by decide +kernel
theorem dL_bitCount_55 : decode cL_bitCount 55 = .ok (.lload_n 0, 1) := by decide +kernel
theorem dL_bitCount_56 : decode cL_bitCount 56 = .ok (.l2i, 1) := by decide +kernel
theorem dL_bitCount_57 : decode cL_bitCount 57 = .ok (.bipush 127, 2) := by decide +kernel
theorem dL_bitCount_59 : decode cL_bitCount 59 = .ok (.iand, 1) := by decide +kernel
theorem dL_bitCount_60 : decode cL_bitCount 60 = .ok (.ireturn, 1) := by decide +kernel
theorem d2_addSteps_0 : decode c2_addSteps 0 = .ok (.iconst 0, 1) := by decide +kernel
theorem d2_addSteps_1 : decode c2_addSteps 1 = .ok (.istore 6, 2) := by decide +kernel
theorem d2_addSteps_3 : decode c2_addSteps 3 = .ok (.iload 6, 2) := by decide +kernel
theorem d2_addSteps_5 : decode c2_addSteps 5 = .ok (.bipush 64, 2) := by decide +kernel
theorem d2_addSteps_7 : decode c2_addSteps 7 = .ok (.if_icmp .ge 126, 3) := by decide +kernel
theorem d2_addSteps_10 : decode c2_addSteps 10 = .ok (.lload 4, 2) := by decide +kernel
theorem d2_addSteps_12 : decode c2_addSteps 12 = .ok (.iload 6, 2) := by decide +kernel
theorem d2_addSteps_14 : decode c2_addSteps 14 = .ok (.lushr, 1) := by decide +kernel
theorem d2_addSteps_15 : decode c2_addSteps 15 = .ok (.lconst 1, 1) := by decide +kernel
theorem d2_addSteps_16 : decode c2_addSteps 16 = .ok (.land, 1) := by decide +kernel
theorem d2_addSteps_17 : decode c2_addSteps 17 = .ok (.lconst 0, 1) := by decide +kernel
theorem d2_addSteps_18 : decode c2_addSteps 18 = .ok (.lcmp, 1) := by decide +kernel
theorem d2_addSteps_19 : decode c2_addSteps 19 = .ok (.ifCond .eq 108, 3) := by decide +kernel
theorem d2_addSteps_22 : decode c2_addSteps 22 = .ok (.aload_n 0, 1) := by decide +kernel
theorem d2_addSteps_23 : decode c2_addSteps 23 = .ok (.getfield 9, 3) := by decide +kernel
theorem d2_addSteps_26 : decode c2_addSteps 26 = .ok (.aload_n 0, 1) := by decide +kernel
theorem d2_addSteps_27 : decode c2_addSteps 27 = .ok (.getfield 21, 3) := by decide +kernel
theorem d2_addSteps_30 : decode c2_addSteps 30 = .ok (.arraylength, 1) := by decide +kernel
theorem d2_addSteps_31 : decode c2_addSteps 31 = .ok (.if_icmp .ge 96, 3) := by decide +kernel
theorem d2_addSteps_34 : decode c2_addSteps 34 = .ok (.aload_n 2, 1) := by decide +kernel
theorem d2_addSteps_35 : decode c2_addSteps 35 = .ok (.iload 6, 2) := by decide +kernel
theorem d2_addSteps_37 : decode c2_addSteps 37 = .ok (.invokevirtual 32, 3) := by decide +kernel
theorem d2_addSteps_40 : decode c2_addSteps 40 = .ok (.ifCond .ne 7, 3) := by decide +kernel
theorem d2_addSteps_43 : decode c2_addSteps 43 = .ok (.iconst 0, 1) := by decide +kernel
theorem d2_addSteps_44 : decode c2_addSteps 44 = .ok (.goto 17, 3) := by decide +kernel
theorem d2_addSteps_47 : decode c2_addSteps 47 = .ok (.aload_n 3, 1) := by decide +kernel
theorem d2_addSteps_48 : decode c2_addSteps 48 = .ok (.iload 6, 2) := by decide +kernel
theorem d2_addSteps_50 : decode c2_addSteps 50 = .ok (.invokevirtual 32, 3) := by decide +kernel
theorem d2_addSteps_53 : decode c2_addSteps 53 = .ok (.ifCond .eq 7, 3) := by decide +kernel
theorem d2_addSteps_56 : decode c2_addSteps 56 = .ok (.iconst 1, 1) := by decide +kernel
theorem d2_addSteps_57 : decode c2_addSteps 57 = .ok (.goto 4, 3) := by decide +kernel
theorem d2_addSteps_60 : decode c2_addSteps 60 = .ok (.iconst 2, 1) := by decide +kernel
theorem d2_addSteps_61 : decode c2_addSteps 61 = .ok (.istore 7, 2) := by decide +kernel
theorem d2_addSteps_63 : decode c2_addSteps 63 = .ok (.aload_n 0, 1) := by decide +kernel
theorem d2_addSteps_64 : decode c2_addSteps 64 = .ok (.getfield 21, 3) := by decide +kernel
theorem d2_addSteps_67 : decode c2_addSteps 67 = .ok (.aload_n 0, 1) := by decide +kernel
theorem d2_addSteps_68 : decode c2_addSteps 68 = .ok (.getfield 9, 3) := by decide +kernel
theorem d2_addSteps_71 : decode c2_addSteps 71 = .ok (.iload_n 1, 1) := by decide +kernel
theorem d2_addSteps_72 : decode c2_addSteps 72 = .ok (.bipush 8, 2) := by decide +kernel
theorem d2_addSteps_74 : decode c2_addSteps 74 = .ok (.ishl, 1) := by decide +kernel
theorem d2_addSteps_75 : decode c2_addSteps 75 = .ok (.iload 7, 2) := by decide +kernel
theorem d2_addSteps_77 : decode c2_addSteps 77 = .ok (.bipush 6, 2) := by decide +kernel
theorem d2_addSteps_79 : decode c2_addSteps 79 = .ok (.ishl, 1) := by decide +kernel
theorem d2_addSteps_80 : decode c2_addSteps 80 = .ok (.ior, 1) := by decide +kernel
theorem d2_addSteps_81 : decode c2_addSteps 81 = .ok (.iload 6, 2) := by decide +kernel
theorem d2_addSteps_83 : decode c2_addSteps 83 = .ok (.ior, 1) := by decide +kernel
theorem d2_addSteps_84 : decode c2_addSteps 84 = .ok (.iastore, 1) := by decide +kernel
theorem d2_addSteps_85 : decode c2_addSteps 85 = .ok (.aload_n 0, 1) := by decide +kernel
theorem d2_addSteps_86 : decode c2_addSteps 86 = .ok (.getfield 25, 3) := by decide +kernel
theorem d2_addSteps_89 : decode c2_addSteps 89 = .ok (.aload_n 0, 1) := by decide +kernel
theorem d2_addSteps_90 : decode c2_addSteps 90 = .ok (.getfield 9, 3) := by decide +kernel
theorem d2_addSteps_93 : decode c2_addSteps 93 = .ok (.aload_n 2, 1) := by decide +kernel
theorem d2_addSteps_94 : decode c2_addSteps 94 = .ok (.getfield 38, 3) := by decide +kernel
theorem d2_addSteps_97 : decode c2_addSteps 97 = .ok (.iload 6, 2) := by decide +kernel
theorem d2_addSteps_99 : decode c2_addSteps 99 = .ok (.laload, 1) := by decide +kernel
theorem d2_addSteps_100 : decode c2_addSteps 100 = .ok (.lastore, 1) := by decide +kernel
theorem d2_addSteps_101 : decode c2_addSteps 101 = .ok (.aload_n 0, 1) := by decide +kernel
theorem d2_addSteps_102 : decode c2_addSteps 102 = .ok (.getfield 29, 3) := by decide +kernel
theorem d2_addSteps_105 : decode c2_addSteps 105 = .ok (.aload_n 0, 1) := by decide +kernel
theorem d2_addSteps_106 : decode c2_addSteps 106 = .ok (.getfield 9, 3) := by decide +kernel
theorem d2_addSteps_109 : decode c2_addSteps 109 = .ok (.aload_n 3, 1) := by decide +kernel
theorem d2_addSteps_110 : decode c2_addSteps 110 = .ok (.getfield 38, 3) := by decide +kernel
theorem d2_addSteps_113 : decode c2_addSteps 113 = .ok (.iload 6, 2) := by decide +kernel
theorem d2_addSteps_115 : decode c2_addSteps 115 = .ok (.laload, 1) := by decide +kernel
theorem d2_addSteps_116 : decode c2_addSteps 116 = .ok (.lastore, 1) := by decide +kernel
theorem d2_addSteps_117 : decode c2_addSteps 117 = .ok (.aload_n 0, 1) := by decide +kernel
theorem d2_addSteps_118 : decode c2_addSteps 118 = .ok (.dup, 1) := by decide +kernel
theorem d2_addSteps_119 : decode c2_addSteps 119 = .ok (.getfield 9, 3) := by decide +kernel
theorem d2_addSteps_122 : decode c2_addSteps 122 = .ok (.iconst 1, 1) := by decide +kernel
theorem d2_addSteps_123 : decode c2_addSteps 123 = .ok (.iadd, 1) := by decide +kernel
theorem d2_addSteps_124 : decode c2_addSteps 124 = .ok (.putfield 9, 3) := by decide +kernel
theorem d2_addSteps_127 : decode c2_addSteps 127 = .ok (.iinc 6 1, 3) := by decide +kernel
theorem d2_addSteps_130 : decode c2_addSteps 130 = .ok (.goto (-127), 3) := by decide +kernel
theorem d2_addSteps_133 : decode c2_addSteps 133 = .ok (.return_, 1) := by decide +kernel
theorem d2_addAll_0 : decode c2_addAll 0 = .ok (.aload_n 1, 1) := by decide +kernel
theorem d2_addAll_1 : decode c2_addAll 1 = .ok (.getfield 9, 3) := by decide +kernel
theorem d2_addAll_4 : decode c2_addAll 4 = .ok (.aload_n 0, 1) := by decide +kernel
theorem d2_addAll_5 : decode c2_addAll 5 = .ok (.getfield 21, 3) := by decide +kernel
theorem d2_addAll_8 : decode c2_addAll 8 = .ok (.arraylength, 1) := by decide +kernel
theorem d2_addAll_9 : decode c2_addAll 9 = .ok (.aload_n 0, 1) := by decide +kernel
theorem d2_addAll_10 : decode c2_addAll 10 = .ok (.getfield 9, 3) := by decide +kernel
theorem d2_addAll_13 : decode c2_addAll 13 = .ok (.isub, 1) := by decide +kernel
theorem d2_addAll_14 : decode c2_addAll 14 = .ok (.invokestatic 41, 3) := by decide +kernel
theorem d2_addAll_17 : decode c2_addAll 17 = .ok (.istore_n 2, 1) := by decide +kernel
theorem d2_addAll_18 : decode c2_addAll 18 = .ok (.aload_n 1, 1) := by decide +kernel
theorem d2_addAll_19 : decode c2_addAll 19 = .ok (.getfield 21, 3) := by decide +kernel
theorem d2_addAll_22 : decode c2_addAll 22 = .ok (.iconst 0, 1) := by decide +kernel
theorem d2_addAll_23 : decode c2_addAll 23 = .ok (.aload_n 0, 1) := by decide +kernel
theorem d2_addAll_24 : decode c2_addAll 24 = .ok (.getfield 21, 3) := by decide +kernel
theorem d2_addAll_27 : decode c2_addAll 27 = .ok (.aload_n 0, 1) := by decide +kernel
theorem d2_addAll_28 : decode c2_addAll 28 = .ok (.getfield 9, 3) := by decide +kernel
theorem d2_addAll_31 : decode c2_addAll 31 = .ok (.iload_n 2, 1) := by decide +kernel
theorem d2_addAll_32 : decode c2_addAll 32 = .ok (.invokestatic 44, 3) := by decide +kernel
theorem d2_addAll_35 : decode c2_addAll 35 = .ok (.aload_n 1, 1) := by decide +kernel
theorem d2_addAll_36 : decode c2_addAll 36 = .ok (.getfield 25, 3) := by decide +kernel
theorem d2_addAll_39 : decode c2_addAll 39 = .ok (.iconst 0, 1) := by decide +kernel
theorem d2_addAll_40 : decode c2_addAll 40 = .ok (.aload_n 0, 1) := by decide +kernel
theorem d2_addAll_41 : decode c2_addAll 41 = .ok (.getfield 25, 3) := by decide +kernel
theorem d2_addAll_44 : decode c2_addAll 44 = .ok (.aload_n 0, 1) := by decide +kernel
theorem d2_addAll_45 : decode c2_addAll 45 = .ok (.getfield 9, 3) := by decide +kernel
theorem d2_addAll_48 : decode c2_addAll 48 = .ok (.iload_n 2, 1) := by decide +kernel
theorem d2_addAll_49 : decode c2_addAll 49 = .ok (.invokestatic 44, 3) := by decide +kernel
theorem d2_addAll_52 : decode c2_addAll 52 = .ok (.aload_n 1, 1) := by decide +kernel
theorem d2_addAll_53 : decode c2_addAll 53 = .ok (.getfield 29, 3) := by decide +kernel
theorem d2_addAll_56 : decode c2_addAll 56 = .ok (.iconst 0, 1) := by decide +kernel
theorem d2_addAll_57 : decode c2_addAll 57 = .ok (.aload_n 0, 1) := by decide +kernel
theorem d2_addAll_58 : decode c2_addAll 58 = .ok (.getfield 29, 3) := by decide +kernel
theorem d2_addAll_61 : decode c2_addAll 61 = .ok (.aload_n 0, 1) := by decide +kernel
theorem d2_addAll_62 : decode c2_addAll 62 = .ok (.getfield 9, 3) := by decide +kernel
theorem d2_addAll_65 : decode c2_addAll 65 = .ok (.iload_n 2, 1) := by decide +kernel
theorem d2_addAll_66 : decode c2_addAll 66 = .ok (.invokestatic 44, 3) := by decide +kernel
theorem d2_addAll_69 : decode c2_addAll 69 = .ok (.aload_n 0, 1) := by decide +kernel
theorem d2_addAll_70 : decode c2_addAll 70 = .ok (.dup, 1) := by decide +kernel
theorem d2_addAll_71 : decode c2_addAll 71 = .ok (.getfield 9, 3) := by decide +kernel
theorem d2_addAll_74 : decode c2_addAll 74 = .ok (.iload_n 2, 1) := by decide +kernel
theorem d2_addAll_75 : decode c2_addAll 75 = .ok (.iadd, 1) := by decide +kernel
theorem d2_addAll_76 : decode c2_addAll 76 = .ok (.putfield 9, 3) := by decide +kernel
theorem d2_addAll_79 : decode c2_addAll 79 = .ok (.return_, 1) := by decide +kernel
theorem d1_open_0 : decode c1_open 0 = .ok (.aload_n 0, 1) := by decide +kernel
theorem d1_open_1 : decode c1_open 1 = .ok (.iconst 1, 1) := by decide +kernel
theorem d1_open_2 : decode c1_open 2 = .ok (.putfield 9, 3) := by decide +kernel
theorem d1_open_5 : decode c1_open 5 = .ok (.aload_n 0, 1) := by decide +kernel
theorem d1_open_6 : decode c1_open 6 = .ok (.iconst 0, 1) := by decide +kernel
theorem d1_open_7 : decode c1_open 7 = .ok (.putfield 15, 3) := by decide +kernel
theorem d1_open_10 : decode c1_open 10 = .ok (.return_, 1) := by decide +kernel
theorem d2_tableOf_0 : decode c2_tableOf 0 = .ok (.aload_n 0, 1) := by decide +kernel
theorem d2_tableOf_1 : decode c2_tableOf 1 = .ok (.getfield 21, 3) := by decide +kernel
theorem d2_tableOf_4 : decode c2_tableOf 4 = .ok (.iload_n 1, 1) := by decide +kernel
theorem d2_tableOf_5 : decode c2_tableOf 5 = .ok (.iaload, 1) := by decide +kernel
theorem d2_tableOf_6 : decode c2_tableOf 6 = .ok (.bipush 8, 2) := by decide +kernel
theorem d2_tableOf_8 : decode c2_tableOf 8 = .ok (.ishr, 1) := by decide +kernel
theorem d2_tableOf_9 : decode c2_tableOf 9 = .ok (.ireturn, 1) := by decide +kernel
theorem d2_sortOf_0 : decode c2_sortOf 0 = .ok (.aload_n 0, 1) := by decide +kernel
theorem d2_sortOf_1 : decode c2_sortOf 1 = .ok (.getfield 21, 3) := by decide +kernel
theorem d2_sortOf_4 : decode c2_sortOf 4 = .ok (.iload_n 1, 1) := by decide +kernel
theorem d2_sortOf_5 : decode c2_sortOf 5 = .ok (.iaload, 1) := by decide +kernel
theorem d2_sortOf_6 : decode c2_sortOf 6 = .ok (.bipush 6, 2) := by decide +kernel
theorem d2_sortOf_8 : decode c2_sortOf 8 = .ok (.ishr, 1) := by decide +kernel
theorem d2_sortOf_9 : decode c2_sortOf 9 = .ok (.iconst 3, 1) := by decide +kernel
theorem d2_sortOf_10 : decode c2_sortOf 10 = .ok (.iand, 1) := by decide +kernel
theorem d2_sortOf_11 : decode c2_sortOf 11 = .ok (.ireturn, 1) := by decide +kernel
theorem d2_keyOf_0 : decode c2_keyOf 0 = .ok (.aload_n 0, 1) := by decide +kernel
theorem d2_keyOf_1 : decode c2_keyOf 1 = .ok (.getfield 21, 3) := by decide +kernel
theorem d2_keyOf_4 : decode c2_keyOf 4 = .ok (.iload_n 1, 1) := by decide +kernel
theorem d2_keyOf_5 : decode c2_keyOf 5 = .ok (.iaload, 1) := by decide +kernel
theorem d2_keyOf_6 : decode c2_keyOf 6 = .ok (.bipush 63, 2) := by decide +kernel
theorem d2_keyOf_8 : decode c2_keyOf 8 = .ok (.iand, 1) := by decide +kernel
theorem d2_keyOf_9 : decode c2_keyOf 9 = .ok (.ireturn, 1) := by decide +kernel
theorem d3_size_0 : decode c3_size 0 = .ok (.aload_n 0, 1) := by decide +kernel
theorem d3_size_1 : decode c3_size 1 = .ok (.getfield 9, 3) := by decide +kernel
theorem d3_size_4 : decode c3_size 4 = .ok (.invokestatic 19, 3) := by decide +kernel
theorem d3_size_7 : decode c3_size 7 = .ok (.ireturn, 1) := by decide +kernel
