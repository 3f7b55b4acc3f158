theorem dX10_setSmall_0 : decode cX10_setSmall 0 = .ok (.aload_n 0, 1) := by decide +kernel
theorem dX10_setSmall_1 : decode cX10_setSmall 1 = .ok (.getfield 44, 3) := by decide +kernel
theorem dX10_setSmall_4 : decode cX10_setSmall 4 = .ok (.iload_n 1, 1) := by decide +kernel
theorem dX10_setSmall_5 : decode cX10_setSmall 5 = .ok (.lload_n 2, 1) := by decide +kernel
theorem dX10_setSmall_6 : decode cX10_setSmall 6 = .ok (.lconst 0, 1) := by decide +kernel
theorem dX10_setSmall_7 : decode cX10_setSmall 7 = .ok (.lcmp, 1) := by decide +kernel
theorem dX10_setSmall_8 : decode cX10_setSmall 8 = .ok (.ifCond .ge 7, 3) := by decide +kernel
theorem dX10_setSmall_11 : decode cX10_setSmall 11 = .ok (.iconst (-1), 1) := by decide +kernel
theorem dX10_setSmall_12 : decode cX10_setSmall 12 = .ok (.goto 14, 3) := by decide +kernel
theorem dX10_setSmall_15 : decode cX10_setSmall 15 = .ok (.lload_n 2, 1) := by decide +kernel
theorem dX10_setSmall_16 : decode cX10_setSmall 16 = .ok (.lconst 0, 1) := by decide +kernel
theorem dX10_setSmall_17 : decode cX10_setSmall 17 = .ok (.lcmp, 1) := by decide +kernel
theorem dX10_setSmall_18 : decode cX10_setSmall 18 = .ok (.ifCond .le 7, 3) := by decide +kernel
theorem dX10_setSmall_21 : decode cX10_setSmall 21 = .ok (.iconst 1, 1) := by decide +kernel
theorem dX10_setSmall_22 : decode cX10_setSmall 22 = .ok (.goto 4, 3) := by decide +kernel
theorem dX10_setSmall_25 : decode cX10_setSmall 25 = .ok (.iconst 0, 1) := by decide +kernel
theorem dX10_setSmall_26 : decode cX10_setSmall 26 = .ok (.iastore, 1) := by decide +kernel
theorem dX10_setSmall_27 : decode cX10_setSmall 27 = .ok (.lload_n 2, 1) := by decide +kernel
theorem dX10_setSmall_28 : decode cX10_setSmall 28 = .ok (.lconst 0, 1) := by decide +kernel
theorem dX10_setSmall_29 : decode cX10_setSmall 29 = .ok (.lcmp, 1) := by decide +kernel
theorem dX10_setSmall_30 : decode cX10_setSmall 30 = .ok (.ifCond .ge 8, 3) := by decide +kernel
theorem dX10_setSmall_33 : decode cX10_setSmall 33 = .ok (.lload_n 2, 1) := by decide +kernel
theorem dX10_setSmall_34 : decode cX10_setSmall 34 = .ok (.lneg, 1) := by decide +kernel
theorem dX10_setSmall_35 : decode cX10_setSmall 35 = .ok (.goto 4, 3) := by decide +kernel
theorem dX10_setSmall_38 : decode cX10_setSmall 38 = .ok (.lload_n 2, 1) := by decide +kernel
theorem dX10_setSmall_39 : decode cX10_setSmall 39 = .ok (.lstore 4, 2) := by decide +kernel
theorem dX10_setSmall_41 : decode cX10_setSmall 41 = .ok (.iconst 0, 1) := by decide +kernel
theorem dX10_setSmall_42 : decode cX10_setSmall 42 = .ok (.istore 6, 2) := by decide +kernel
theorem dX10_setSmall_44 : decode cX10_setSmall 44 = .ok (.lload 4, 2) := by decide +kernel
theorem dX10_setSmall_46 : decode cX10_setSmall 46 = .ok (.lconst 0, 1) := by decide +kernel
theorem dX10_setSmall_47 : decode cX10_setSmall 47 = .ok (.lcmp, 1) := by decide +kernel
theorem dX10_setSmall_48 : decode cX10_setSmall 48 = .ok (.ifCond .le 35, 3) := by decide +kernel
theorem dX10_setSmall_51 : decode cX10_setSmall 51 = .ok (.aload_n 0, 1) := by decide +kernel
theorem dX10_setSmall_52 : decode cX10_setSmall 52 = .ok (.getfield 38, 3) := by decide +kernel
theorem dX10_setSmall_55 : decode cX10_setSmall 55 = .ok (.bipush 64, 2) := by decide +kernel
theorem dX10_setSmall_57 : decode cX10_setSmall 57 = .ok (.iload_n 1, 1) := by decide +kernel
theorem dX10_setSmall_58 : decode cX10_setSmall 58 = .ok (.imul, 1) := by decide +kernel
theorem dX10_setSmall_59 : decode cX10_setSmall 59 = .ok (.iload 6, 2) := by decide +kernel
theorem dX10_setSmall_61 : decode cX10_setSmall 61 = .ok (.iadd, 1) := by decide +kernel
theorem dX10_setSmall_62 : decode cX10_setSmall 62 = .ok (.lload 4, 2) := by decide +kernel
theorem dX10_setSmall_64 : decode cX10_setSmall 64 = .ok (.ldc2_w 59, 3) := by decide +kernel
theorem dX10_setSmall_67 : decode cX10_setSmall 67 = .ok (.land, 1) := by decide +kernel
theorem dX10_setSmall_68 : decode cX10_setSmall 68 = .ok (.l2i, 1) := by decide +kernel
theorem dX10_setSmall_69 : decode cX10_setSmall 69 = .ok (.iastore, 1) := by decide +kernel
theorem dX10_setSmall_70 : decode cX10_setSmall 70 = .ok (.lload 4, 2) := by decide +kernel
theorem dX10_setSmall_72 : decode cX10_setSmall 72 = .ok (.bipush 28, 2) := by decide +kernel
theorem dX10_setSmall_74 : decode cX10_setSmall 74 = .ok (.lshr, 1) := by decide +kernel
theorem dX10_setSmall_75 : decode cX10_setSmall 75 = .ok (.lstore 4, 2) := by decide +kernel
theorem dX10_setSmall_77 : decode cX10_setSmall 77 = .ok (.iinc 6 1, 3) := by decide +kernel
theorem dX10_setSmall_80 : decode cX10_setSmall 80 = .ok (.goto (-36), 3) := by decide +kernel
theorem dX10_setSmall_83 : decode cX10_setSmall 83 = .ok (.aload_n 0, 1) := by decide +kernel
theorem dX10_setSmall_84 : decode cX10_setSmall 84 = .ok (.getfield 41, 3) := by decide +kernel
theorem dX10_setSmall_87 : decode cX10_setSmall 87 = .ok (.iload_n 1, 1) := by decide +kernel
theorem dX10_setSmall_88 : decode cX10_setSmall 88 = .ok (.iload 6, 2) := by decide +kernel
theorem dX10_setSmall_90 : decode cX10_setSmall 90 = .ok (.iastore, 1) := by decide +kernel
theorem dX10_setSmall_91 : decode cX10_setSmall 91 = .ok (.return_, 1) := by decide +kernel
theorem dX10_copy_0 : decode cX10_copy 0 = .ok (.aload_n 0, 1) := by decide +kernel
theorem dX10_copy_1 : decode cX10_copy 1 = .ok (.getfield 44, 3) := by decide +kernel
theorem dX10_copy_4 : decode cX10_copy 4 = .ok (.iload_n 2, 1) := by decide +kernel
theorem dX10_copy_5 : decode cX10_copy 5 = .ok (.aload_n 0, 1) := by decide +kernel
theorem dX10_copy_6 : decode cX10_copy 6 = .ok (.getfield 44, 3) := by decide +kernel
theorem dX10_copy_9 : decode cX10_copy 9 = .ok (.iload_n 1, 1) := by decide +kernel
theorem dX10_copy_10 : decode cX10_copy 10 = .ok (.iaload, 1) := by decide +kernel
theorem dX10_copy_11 : decode cX10_copy 11 = .ok (.iastore, 1) := by decide +kernel
theorem dX10_copy_12 : decode cX10_copy 12 = .ok (.aload_n 0, 1) := by decide +kernel
theorem dX10_copy_13 : decode cX10_copy 13 = .ok (.getfield 41, 3) := by decide +kernel
theorem dX10_copy_16 : decode cX10_copy 16 = .ok (.iload_n 2, 1) := by decide +kernel
theorem dX10_copy_17 : decode cX10_copy 17 = .ok (.aload_n 0, 1) := by decide +kernel
theorem dX10_copy_18 : decode cX10_copy 18 = .ok (.getfield 41, 3) := by decide +kernel
theorem dX10_copy_21 : decode cX10_copy 21 = .ok (.iload_n 1, 1) := by decide +kernel
theorem dX10_copy_22 : decode cX10_copy 22 = .ok (.iaload, 1) := by decide +kernel
theorem dX10_copy_23 : decode cX10_copy 23 = .ok (.iastore, 1) := by decide +kernel
theorem dX10_copy_24 : decode cX10_copy 24 = .ok (.iconst 0, 1) := by decide +kernel
theorem dX10_copy_25 : decode cX10_copy 25 = .ok (.istore_n 3, 1) := by decide +kernel
theorem dX10_copy_26 : decode cX10_copy 26 = .ok (.iload_n 3, 1) := by decide +kernel
theorem dX10_copy_27 : decode cX10_copy 27 = .ok (.aload_n 0, 1) := by decide +kernel
theorem dX10_copy_28 : decode cX10_copy 28 = .ok (.getfield 41, 3) := by decide +kernel
theorem dX10_copy_31 : decode cX10_copy 31 = .ok (.iload_n 1, 1) := by decide +kernel
theorem dX10_copy_32 : decode cX10_copy 32 = .ok (.iaload, 1) := by decide +kernel
theorem dX10_copy_33 : decode cX10_copy 33 = .ok (.if_icmp .ge 31, 3) := by decide +kernel
theorem dX10_copy_36 : decode cX10_copy 36 = .ok (.aload_n 0, 1) := by decide +kernel
theorem dX10_copy_37 : decode cX10_copy 37 = .ok (.getfield 38, 3) := by decide +kernel
theorem dX10_copy_40 : decode cX10_copy 40 = .ok (.bipush 64, 2) := by decide +kernel
theorem dX10_copy_42 : decode cX10_copy 42 = .ok (.iload_n 2, 1) := by decide +kernel
theorem dX10_copy_43 : decode cX10_copy 43 = .ok (.imul, 1) := by decide +kernel
theorem dX10_copy_44 : decode cX10_copy 44 = .ok (.iload_n 3, 1) := by decide +kernel
theorem dX10_copy_45 : decode cX10_copy 45 = .ok (.iadd, 1) := by decide +kernel
theorem dX10_copy_46 : decode cX10_copy 46 = .ok (.aload_n 0, 1) := by decide +kernel
theorem dX10_copy_47 : decode cX10_copy 47 = .ok (.getfield 38, 3) := by decide +kernel
theorem dX10_copy_50 : decode cX10_copy 50 = .ok (.bipush 64, 2) := by decide +kernel
theorem dX10_copy_52 : decode cX10_copy 52 = .ok (.iload_n 1, 1) := by decide +kernel
theorem dX10_copy_53 : decode cX10_copy 53 = .ok (.imul, 1) := by decide +kernel
theorem dX10_copy_54 : decode cX10_copy 54 = .ok (.iload_n 3, 1) := by decide +kernel
theorem dX10_copy_55 : decode cX10_copy 55 = .ok (.iadd, 1) := by decide +kernel
theorem dX10_copy_56 : decode cX10_copy 56 = .ok (.iaload, 1) := by decide +kernel
theorem dX10_copy_57 : decode cX10_copy 57 = .ok (.iastore, 1) := by decide +kernel
theorem dX10_copy_58 : decode cX10_copy 58 = .ok (.iinc 3 1, 3) := by decide +kernel
theorem dX10_copy_61 : decode cX10_copy 61 = .ok (.goto (-35), 3) := by decide +kernel
theorem dX10_copy_64 : decode cX10_copy 64 = .ok (.return_, 1) := by decide +kernel
theorem dX10_compareSizes_0 : decode cX10_compareSizes 0 = .ok (.aload_n 0, 1) := by decide +kernel
theorem dX10_compareSizes_1 : decode cX10_compareSizes 1 = .ok (.getfield 41, 3) := by decide +kernel
theorem dX10_compareSizes_4 : decode cX10_compareSizes 4 = .ok (.iload_n 1, 1) := by decide +kernel
theorem dX10_compareSizes_5 : decode cX10_compareSizes 5 = .ok (.iaload, 1) := by decide +kernel
theorem dX10_compareSizes_6 : decode cX10_compareSizes 6 = .ok (.aload_n 0, 1) := by decide +kernel
theorem dX10_compareSizes_7 : decode cX10_compareSizes 7 = .ok (.getfield 41, 3) := by decide +kernel
theorem dX10_compareSizes_10 : decode cX10_compareSizes 10 = .ok (.iload_n 2, 1) := by decide +kernel
theorem dX10_compareSizes_11 : decode cX10_compareSizes 11 = .ok (.iaload, 1) := by decide +kernel
theorem dX10_compareSizes_12 : decode cX10_compareSizes 12 = .ok (.if_icmp .eq 24, 3) := by decide +kernel
theorem dX10_compareSizes_15 : decode cX10_compareSizes 15 = .ok (.aload_n 0, 1) := by decide +kernel
theorem dX10_compareSizes_16 : decode cX10_compareSizes 16 = .ok (.getfield 41, 3) := by decide +kernel
theorem dX10_compareSizes_19 : decode cX10_compareSizes 19 = .ok (.iload_n 1, 1) := by decide +kernel
theorem dX10_compareSizes_20 : decode cX10_compareSizes 20 = .ok (.iaload, 1) := by decide +kernel
theorem dX10_compareSizes_21 : decode cX10_compareSizes 21 = .ok (.aload_n 0, 1) := by decide +kernel
theorem dX10_compareSizes_22 : decode cX10_compareSizes 22 = .ok (.getfield 41, 3) := by decide +kernel
theorem dX10_compareSizes_25 : decode cX10_compareSizes 25 = .ok (.iload_n 2, 1) := by decide +kernel
theorem dX10_compareSizes_26 : decode cX10_compareSizes 26 = .ok (.iaload, 1) := by decide +kernel
theorem dX10_compareSizes_27 : decode cX10_compareSizes 27 = .ok (.if_icmp .ge 7, 3) := by decide +kernel
theorem dX10_compareSizes_30 : decode cX10_compareSizes 30 = .ok (.iconst (-1), 1) := by decide +kernel
theorem dX10_compareSizes_31 : decode cX10_compareSizes 31 = .ok (.goto 4, 3) := by decide +kernel
theorem dX10_compareSizes_34 : decode cX10_compareSizes 34 = .ok (.iconst 1, 1) := by decide +kernel
theorem dX10_compareSizes_35 : decode cX10_compareSizes 35 = .ok (.ireturn, 1) := by decide +kernel
theorem dX10_compareSizes_36 : decode cX10_compareSizes 36 = .ok (.aload_n 0, 1) := by decide +kernel
theorem dX10_compareSizes_37 : decode cX10_compareSizes 37 = .ok (.getfield 41, 3) := by decide +kernel
theorem dX10_compareSizes_40 : decode cX10_compareSizes 40 = .ok (.iload_n 1, 1) := by decide +kernel
theorem dX10_compareSizes_41 : decode cX10_compareSizes 41 = .ok (.iaload, 1) := by decide +kernel
theorem dX10_compareSizes_42 : decode cX10_compareSizes 42 = .ok (.iconst 1, 1) := by decide +kernel
theorem dX10_compareSizes_43 : decode cX10_compareSizes 43 = .ok (.isub, 1) := by decide +kernel
theorem dX10_compareSizes_44 : decode cX10_compareSizes 44 = .ok (.istore_n 3, 1) := by decide +kernel
theorem dX10_compareSizes_45 : decode cX10_compareSizes 45 = .ok (.iload_n 3, 1) := by decide +kernel
theorem dX10_compareSizes_46 : decode cX10_compareSizes 46 = .ok (.ifCond .lt 34, 3) := by decide +kernel
theorem dX10_compareSizes_49 : decode cX10_compareSizes 49 = .ok (.aload_n 0, 1) := by decide +kernel
theorem dX10_compareSizes_50 : decode cX10_compareSizes 50 = .ok (.getfield 38, 3) := by decide +kernel
theorem dX10_compareSizes_53 : decode cX10_compareSizes 53 = .ok (.bipush 64, 2) := by decide +kernel
theorem dX10_compareSizes_55 : decode cX10_compareSizes 55 = .ok (.iload_n 1, 1) := by decide +kernel
theorem dX10_compareSizes_56 : decode cX10_compareSizes 56 = .ok (.imul, 1) := by decide +kernel
theorem dX10_compareSizes_57 : decode cX10_compareSizes 57 = .ok (.iload_n 3, 1) := by decide +kernel
theorem dX10_compareSizes_58 : decode cX10_compareSizes 58 = .ok (.iadd, 1) := by decide +kernel
theorem dX10_compareSizes_59 : decode cX10_compareSizes 59 = .ok (.iaload, 1) := by decide +kernel
theorem dX10_compareSizes_60 : decode cX10_compareSizes 60 = .ok (.aload_n 0, 1) := by decide +kernel
theorem dX10_compareSizes_61 : decode cX10_compareSizes 61 = .ok (.getfield 38, 3) := by decide +kernel
theorem dX10_compareSizes_64 : decode cX10_compareSizes 64 = .ok (.bipush 64, 2) := by decide +kernel
theorem dX10_compareSizes_66 : decode cX10_compareSizes 66 = .ok (.iload_n 2, 1) := by decide +kernel
theorem dX10_compareSizes_67 : decode cX10_compareSizes 67 = .ok (.imul, 1) := by decide +kernel
theorem dX10_compareSizes_68 : decode cX10_compareSizes 68 = .ok (.iload_n 3, 1) := by decide +kernel
theorem dX10_compareSizes_69 : decode cX10_compareSizes 69 = .ok (.iadd, 1) := by decide +kernel
theorem dX10_compareSizes_70 : decode cX10_compareSizes 70 = .ok (.iaload, 1) := by decide +kernel
theorem dX10_compareSizes_71 : decode cX10_compareSizes 71 = .ok (.if_icmp .ne 9, 3) := by decide +kernel
theorem dX10_compareSizes_74 : decode cX10_compareSizes 74 = .ok (.iinc 3 (-1), 3) := by decide +kernel
theorem dX10_compareSizes_77 : decode cX10_compareSizes 77 = .ok (.goto (-32), 3) := by decide +kernel
theorem dX10_compareSizes_80 : decode cX10_compareSizes 80 = .ok (.iload_n 3, 1) := by decide +kernel
theorem dX10_compareSizes_81 : decode cX10_compareSizes 81 = .ok (.ifCond .ge 7, 3) := by decide +kernel
theorem dX10_compareSizes_84 : decode cX10_compareSizes 84 = .ok (.iconst 0, 1) := by decide +kernel
theorem dX10_compareSizes_85 : decode cX10_compareSizes 85 = .ok (.goto 33, 3) := by decide +kernel
theorem dX10_compareSizes_88 : decode cX10_compareSizes 88 = .ok (.aload_n 0, 1) := by decide +kernel
theorem dX10_compareSizes_89 : decode cX10_compareSizes 89 = .ok (.getfield 38, 3) := by decide +kernel
theorem dX10_compareSizes_92 : decode cX10_compareSizes 92 = .ok (.bipush 64, 2) := by decide +kernel
theorem dX10_compareSizes_94 : decode cX10_compareSizes 94 = .ok (.iload_n 1, 1) := by decide +kernel
theorem dX10_compareSizes_95 : decode cX10_compareSizes 95 = .ok (.imul, 1) := by decide +kernel
theorem dX10_compareSizes_96 : decode cX10_compareSizes 96 = .ok (.iload_n 3, 1) := by decide +kernel
theorem dX10_compareSizes_97 : decode cX10_compareSizes 97 = .ok (.iadd, 1) := by decide +kernel
theorem dX10_compareSizes_98 : decode cX10_compareSizes 98 = .ok (.iaload, 1) := by decide +kernel
theorem dX10_compareSizes_99 : decode cX10_compareSizes 99 = .ok (.aload_n 0, 1) := by decide +kernel
theorem dX10_compareSizes_100 : decode cX10_compareSizes 100 = .ok (.getfield 38, 3) := by decide +kernel
theorem dX10_compareSizes_103 : decode cX10_compareSizes 103 = .ok (.bipush 64, 2) := by decide +kernel
theorem dX10_compareSizes_105 : decode cX10_compareSizes 105 = .ok (.iload_n 2, 1) := by decide +kernel
theorem dX10_compareSizes_106 : decode cX10_compareSizes 106 = .ok (.imul, 1) := by decide +kernel
theorem dX10_compareSizes_107 : decode cX10_compareSizes 107 = .ok (.iload_n 3, 1) := by decide +kernel
theorem dX10_compareSizes_108 : decode cX10_compareSizes 108 = .ok (.iadd, 1) := by decide +kernel
theorem dX10_compareSizes_109 : decode cX10_compareSizes 109 = .ok (.iaload, 1) := by decide +kernel
theorem dX10_compareSizes_110 : decode cX10_compareSizes 110 = .ok (.if_icmp .ge 7, 3) := by decide +kernel
theorem dX10_compareSizes_113 : decode cX10_compareSizes 113 = .ok (.iconst (-1), 1) := by decide +kernel
theorem dX10_compareSizes_114 : decode cX10_compareSizes 114 = .ok (.goto 4, 3) := by decide +kernel
theorem dX10_compareSizes_117 : decode cX10_compareSizes 117 = .ok (.iconst 1, 1) := by decide +kernel
theorem dX10_compareSizes_118 : decode cX10_compareSizes 118 = .ok (.ireturn, 1) := by decide +kernel
set_option maxRecDepth 20000 in
theorem ggX10_compare_X10_compareSizes : GoodIn wsX10_compare wsX10_compareSizes := goodIn_r _ [6, 7, 8, 9, 10, 11, 12, 13, 14, 15, 16, 17, 18, 19, 20, 21, 22, 23, 24, 25, 26, 27, 28] rfl rfl
set_option maxRecDepth 20000 in
theorem gX10_compare_X10_compareSizes : GoodIn wsX10_compare (wsV RX10 61 RX10 yX10_compareSizes wsX10_compareSizes) := goodIn_app (goodIn_of _ (by decide +kernel)) ggX10_compare_X10_compareSizes
theorem dX10_compare_0 : decode cX10_compare 0 = .ok (.aload_n 0, 1) := by decide +kernel
theorem dX10_compare_1 : decode cX10_compare 1 = .ok (.getfield 44, 3) := by decide +kernel
theorem dX10_compare_4 : decode cX10_compare 4 = .ok (.iload_n 1, 1) := by decide +kernel
theorem dX10_compare_5 : decode cX10_compare 5 = .ok (.iaload, 1) := by decide +kernel
theorem dX10_compare_6 : decode cX10_compare 6 = .ok (.aload_n 0, 1) := by decide +kernel
theorem dX10_compare_7 : decode cX10_compare 7 = .ok (.getfield 44, 3) := by decide +kernel
theorem dX10_compare_10 : decode cX10_compare 10 = .ok (.iload_n 2, 1) := by decide +kernel
theorem dX10_compare_11 : decode cX10_compare 11 = .ok (.iaload, 1) := by decide +kernel
theorem dX10_compare_12 : decode cX10_compare 12 = .ok (.if_icmp .eq 24, 3) := by decide +kernel
theorem dX10_compare_15 : decode cX10_compare 15 = .ok (.aload_n 0, 1) := by decide +kernel
theorem dX10_compare_16 : decode cX10_compare 16 = .ok (.getfield 44, 3) := by decide +kernel
theorem dX10_compare_19 : decode cX10_compare 19 = .ok (.iload_n 1, 1) := by decide +kernel
theorem dX10_compare_20 : decode cX10_compare 20 = .ok (.iaload, 1) := by decide +kernel
theorem dX10_compare_21 : decode cX10_compare 21 = .ok (.aload_n 0, 1) := by decide +kernel
theorem dX10_compare_22 : decode cX10_compare 22 = .ok (.getfield 44, 3) := by decide +kernel
theorem dX10_compare_25 : decode cX10_compare 25 = .ok (.iload_n 2, 1) := by decide +kernel
theorem dX10_compare_26 : decode cX10_compare 26 = .ok (.iaload, 1) := by decide +kernel
theorem dX10_compare_27 : decode cX10_compare 27 = .ok (.if_icmp .ge 7, 3) := by decide +kernel
theorem dX10_compare_30 : decode cX10_compare 30 = .ok (.iconst (-1), 1) := by decide +kernel
theorem dX10_compare_31 : decode cX10_compare 31 = .ok (.goto 4, 3) := by decide +kernel
theorem dX10_compare_34 : decode cX10_compare 34 = .ok (.iconst 1, 1) := by decide +kernel
theorem dX10_compare_35 : decode cX10_compare 35 = .ok (.ireturn, 1) := by decide +kernel
theorem dX10_compare_36 : decode cX10_compare 36 = .ok (.aload_n 0, 1) := by decide +kernel
theorem dX10_compare_37 : decode cX10_compare 37 = .ok (.getfield 44, 3) := by decide +kernel
theorem dX10_compare_40 : decode cX10_compare 40 = .ok (.iload_n 1, 1) := by decide +kernel
theorem dX10_compare_41 : decode cX10_compare 41 = .ok (.iaload, 1) := by decide +kernel
theorem dX10_compare_42 : decode cX10_compare 42 = .ok (.aload_n 0, 1) := by decide +kernel
theorem dX10_compare_43 : decode cX10_compare 43 = .ok (.iload_n 1, 1) := by decide +kernel
theorem dX10_compare_44 : decode cX10_compare 44 = .ok (.iload_n 2, 1) := by decide +kernel
theorem dX10_compare_45 : decode cX10_compare 45 = .ok (.invokevirtual 61, 3) := by decide +kernel
theorem dX10_compare_48 : decode cX10_compare 48 = .ok (.imul, 1) := by decide +kernel
theorem dX10_compare_49 : decode cX10_compare 49 = .ok (.ireturn, 1) := by decide +kernel
theorem dX10_trim_0 : decode cX10_trim 0 = .ok (.iload_n 2, 1) := by decide +kernel
theorem dX10_trim_1 : decode cX10_trim 1 = .ok (.istore_n 3, 1) := by decide +kernel
theorem dX10_trim_2 : decode cX10_trim 2 = .ok (.iload_n 3, 1) := by decide +kernel
theorem dX10_trim_3 : decode cX10_trim 3 = .ok (.ifCond .le 25, 3) := by decide +kernel
theorem dX10_trim_6 : decode cX10_trim 6 = .ok (.aload_n 0, 1) := by decide +kernel
theorem dX10_trim_7 : decode cX10_trim 7 = .ok (.getfield 38, 3) := by decide +kernel
theorem dX10_trim_10 : decode cX10_trim 10 = .ok (.bipush 64, 2) := by decide +kernel
theorem dX10_trim_12 : decode cX10_trim 12 = .ok (.iload_n 1, 1) := by decide +kernel
theorem dX10_trim_13 : decode cX10_trim 13 = .ok (.imul, 1) := by decide +kernel
theorem dX10_trim_14 : decode cX10_trim 14 = .ok (.iload_n 3, 1) := by decide +kernel
theorem dX10_trim_15 : decode cX10_trim 15 = .ok (.iadd, 1) := by decide +kernel
theorem dX10_trim_16 : decode cX10_trim 16 = .ok (.iconst 1, 1) := by decide +kernel
theorem dX10_trim_17 : decode cX10_trim 17 = .ok (.isub, 1) := by decide +kernel
theorem dX10_trim_18 : decode cX10_trim 18 = .ok (.iaload, 1) := by decide +kernel
theorem dX10_trim_19 : decode cX10_trim 19 = .ok (.ifCond .ne 9, 3) := by decide +kernel
theorem dX10_trim_22 : decode cX10_trim 22 = .ok (.iinc 3 (-1), 3) := by decide +kernel
theorem dX10_trim_25 : decode cX10_trim 25 = .ok (.goto (-23), 3) := by decide +kernel
theorem dX10_trim_28 : decode cX10_trim 28 = .ok (.aload_n 0, 1) := by decide +kernel
theorem dX10_trim_29 : decode cX10_trim 29 = .ok (.getfield 41, 3) := by decide +kernel
theorem dX10_trim_32 : decode cX10_trim 32 = .ok (.iload_n 1, 1) := by decide +kernel
theorem dX10_trim_33 : decode cX10_trim 33 = .ok (.iload_n 3, 1) := by decide +kernel
theorem dX10_trim_34 : decode cX10_trim 34 = .ok (.iastore, 1) := by decide +kernel
theorem dX10_trim_35 : decode cX10_trim 35 = .ok (.aload_n 0, 1) := by decide +kernel
theorem dX10_trim_36 : decode cX10_trim 36 = .ok (.getfield 44, 3) := by decide +kernel
theorem dX10_trim_39 : decode cX10_trim 39 = .ok (.iload_n 1, 1) := by decide +kernel
theorem dX10_trim_40 : decode cX10_trim 40 = .ok (.iload_n 3, 1) := by decide +kernel
theorem dX10_trim_41 : decode cX10_trim 41 = .ok (.ifCond .ne 7, 3) := by decide +kernel
theorem dX10_trim_44 : decode cX10_trim 44 = .ok (.iconst 0, 1) := by decide +kernel
theorem dX10_trim_45 : decode cX10_trim 45 = .ok (.goto 9, 3) := by decide +kernel
theorem dX10_trim_48 : decode cX10_trim 48 = .ok (.aload_n 0, 1) := by decide +kernel
theorem dX10_trim_49 : decode cX10_trim 49 = .ok (.getfield 44, 3) := by decide +kernel
theorem dX10_trim_52 : decode cX10_trim 52 = .ok (.iload_n 1, 1) := by decide +kernel
theorem dX10_trim_53 : decode cX10_trim 53 = .ok (.iaload, 1) := by decide +kernel
theorem dX10_trim_54 : decode cX10_trim 54 = .ok (.iastore, 1) := by decide +kernel
theorem dX10_trim_55 : decode cX10_trim 55 = .ok (.return_, 1) := by decide +kernel
theorem dX10_limb_0 : decode cX10_limb 0 = .ok (.iload_n 2, 1) := by decide +kernel
theorem dX10_limb_1 : decode cX10_limb 1 = .ok (.aload_n 0, 1) := by decide +kernel
theorem dX10_limb_2 : decode cX10_limb 2 = .ok (.getfield 41, 3) := by decide +kernel
theorem dX10_limb_5 : decode cX10_limb 5 = .ok (.iload_n 1, 1) := by decide +kernel
theorem dX10_limb_6 : decode cX10_limb 6 = .ok (.iaload, 1) := by decide +kernel
theorem dX10_limb_7 : decode cX10_limb 7 = .ok (.if_icmp .ge 17, 3) := by decide +kernel
theorem dX10_limb_10 : decode cX10_limb 10 = .ok (.aload_n 0, 1) := by decide +kernel
theorem dX10_limb_11 : decode cX10_limb 11 = .ok (.getfield 38, 3) := by decide +kernel
theorem dX10_limb_14 : decode cX10_limb 14 = .ok (.bipush 64, 2) := by decide +kernel
theorem dX10_limb_16 : decode cX10_limb 16 = .ok (.iload_n 1, 1) := by decide +kernel
theorem dX10_limb_17 : decode cX10_limb 17 = .ok (.imul, 1) := by decide +kernel
theorem dX10_limb_18 : decode cX10_limb 18 = .ok (.iload_n 2, 1) := by decide +kernel
theorem dX10_limb_19 : decode cX10_limb 19 = .ok (.iadd, 1) := by decide +kernel
theorem dX10_limb_20 : decode cX10_limb 20 = .ok (.iaload, 1) := by decide +kernel
theorem dX10_limb_21 : decode cX10_limb 21 = .ok (.goto 4, 3) := by decide +kernel
theorem dX10_limb_24 : decode cX10_limb 24 = .ok (.iconst 0, 1) := by decide +kernel
theorem dX10_limb_25 : decode cX10_limb 25 = .ok (.ireturn, 1) := by decide +kernel
set_option maxRecDepth 20000 in
theorem ggX10_plus_X10_limb : GoodIn wsX10_plus wsX10_limb := goodIn_r _ [10, 2, 3, 19, 20, 21, 22, 23, 24, 25, 26, 27, 28, 29, 30, 31, 32, 33, 34, 35, 36, 37, 38] rfl rfl
set_option maxRecDepth 20000 in
theorem gX10_plus_X10_limb : GoodIn wsX10_plus (wsV RX10 65 RX10 yX10_limb wsX10_limb) := goodIn_app (goodIn_of _ (by decide +kernel)) ggX10_plus_X10_limb
set_option maxRecDepth 20000 in
theorem ggX10_plus_X10_trim : GoodIn wsX10_plus wsX10_trim := goodIn_r _ [14, 3, 2, 1, 19, 20, 21, 22, 23, 24, 25, 26, 27, 28, 29, 30, 31, 32, 33, 34, 35, 36, 37, 38] rfl rfl
set_option maxRecDepth 20000 in
theorem gX10_plus_X10_trim : GoodIn wsX10_plus (wsV RX10 69 RX10 yX10_trim wsX10_trim) := goodIn_app (goodIn_of _ (by decide +kernel)) ggX10_plus_X10_trim
set_option maxRecDepth 20000 in
theorem ggX10_plus_X10_compareSizes : GoodIn wsX10_plus wsX10_compareSizes := goodIn_r _ [18, 2, 3, 19, 20, 21, 22, 23, 24, 25, 26, 27, 28, 29, 30, 31, 32, 33, 34, 35, 36, 37, 38] rfl rfl
set_option maxRecDepth 20000 in
theorem gX10_plus_X10_compareSizes : GoodIn wsX10_plus (wsV RX10 61 RX10 yX10_compareSizes wsX10_compareSizes) := goodIn_app (goodIn_of _ (by decide +kernel)) ggX10_plus_X10_compareSizes
theorem dX10_plus_0 : decode cX10_plus 0 = .ok (.iload_n 3, 1) := by decide +kernel
theorem dX10_plus_1 : decode cX10_plus 1 = .ok (.aload_n 0, 1) := by decide +kernel
theorem dX10_plus_2 : decode cX10_plus 2 = .ok (.getfield 44, 3) := by decide +kernel
theorem dX10_plus_5 : decode cX10_plus 5 = .ok (.iload_n 2, 1) := by decide +kernel
theorem dX10_plus_6 : decode cX10_plus 6 = .ok (.iaload, 1) := by decide +kernel
theorem dX10_plus_7 : decode cX10_plus 7 = .ok (.imul, 1) := by decide +kernel
theorem dX10_plus_8 : decode cX10_plus 8 = .ok (.istore 4, 2) := by decide +kernel
theorem dX10_plus_10 : decode cX10_plus 10 = .ok (.iload 4, 2) := by decide +kernel
theorem dX10_plus_12 : decode cX10_plus 12 = .ok (.ifCond .ne 4, 3) := by decide +kernel
theorem dX10_plus_15 : decode cX10_plus 15 = .ok (.return_, 1) := by decide +kernel
theorem dX10_plus_16 : decode cX10_plus 16 = .ok (.aload_n 0, 1) := by decide +kernel
theorem dX10_plus_17 : decode cX10_plus 17 = .ok (.getfield 41, 3) := by decide +kernel
theorem dX10_plus_20 : decode cX10_plus 20 = .ok (.iload_n 1, 1) := by decide +kernel
theorem dX10_plus_21 : decode cX10_plus 21 = .ok (.iaload, 1) := by decide +kernel
theorem dX10_plus_22 : decode cX10_plus 22 = .ok (.aload_n 0, 1) := by decide +kernel
theorem dX10_plus_23 : decode cX10_plus 23 = .ok (.getfield 41, 3) := by decide +kernel
theorem dX10_plus_26 : decode cX10_plus 26 = .ok (.iload_n 2, 1) := by decide +kernel
theorem dX10_plus_27 : decode cX10_plus 27 = .ok (.iaload, 1) := by decide +kernel
theorem dX10_plus_28 : decode cX10_plus 28 = .ok (.if_icmp .le 12, 3) := by decide +kernel
theorem dX10_plus_31 : decode cX10_plus 31 = .ok (.aload_n 0, 1) := by decide +kernel
theorem dX10_plus_32 : decode cX10_plus 32 = .ok (.getfield 41, 3) := by decide +kernel
theorem dX10_plus_35 : decode cX10_plus 35 = .ok (.iload_n 1, 1) := by decide +kernel
theorem dX10_plus_36 : decode cX10_plus 36 = .ok (.iaload, 1) := by decide +kernel
theorem dX10_plus_37 : decode cX10_plus 37 = .ok (.goto 9, 3) := by decide +kernel
theorem dX10_plus_40 : decode cX10_plus 40 = .ok (.aload_n 0, 1) := by decide +kernel
theorem dX10_plus_41 : decode cX10_plus 41 = .ok (.getfield 41, 3) := by decide +kernel
theorem dX10_plus_44 : decode cX10_plus 44 = .ok (.iload_n 2, 1) := by decide +kernel
theorem dX10_plus_45 : decode cX10_plus 45 = .ok (.iaload, 1) := by decide +kernel
theorem dX10_plus_46 : decode cX10_plus 46 = .ok (.istore 5, 2) := by decide +kernel
theorem dX10_plus_48 : decode cX10_plus 48 = .ok (.aload_n 0, 1) := by decide +kernel
theorem dX10_plus_49 : decode cX10_plus 49 = .ok (.getfield 44, 3) := by decide +kernel
theorem dX10_plus_52 : decode cX10_plus 52 = .ok (.iload_n 1, 1) := by decide +kernel
theorem dX10_plus_53 : decode cX10_plus 53 = .ok (.iaload, 1) := by decide +kernel
theorem dX10_plus_54 : decode cX10_plus 54 = .ok (.ifCond .eq 14, 3) := by decide +kernel
theorem dX10_plus_57 : decode cX10_plus 57 = .ok (.aload_n 0, 1) := by decide +kernel
theorem dX10_plus_58 : decode cX10_plus 58 = .ok (.getfield 44, 3) := by decide +kernel
theorem dX10_plus_61 : decode cX10_plus 61 = .ok (.iload_n 1, 1) := by decide +kernel
theorem dX10_plus_62 : decode cX10_plus 62 = .ok (.iaload, 1) := by decide +kernel
theorem dX10_plus_63 : decode cX10_plus 63 = .ok (.iload 4, 2) := by decide +kernel
theorem dX10_plus_65 : decode cX10_plus 65 = .ok (.if_icmp .ne 128, 3) := by decide +kernel
theorem dX10_plus_68 : decode cX10_plus 68 = .ok (.iconst 0, 1) := by decide +kernel
theorem dX10_plus_69 : decode cX10_plus 69 = .ok (.istore 6, 2) := by decide +kernel
theorem dX10_plus_71 : decode cX10_plus 71 = .ok (.iconst 0, 1) := by decide +kernel
theorem dX10_plus_72 : decode cX10_plus 72 = .ok (.istore 7, 2) := by decide +kernel
theorem dX10_plus_74 : decode cX10_plus 74 = .ok (.iload 7, 2) := by decide +kernel
theorem dX10_plus_76 : decode cX10_plus 76 = .ok (.iload 5, 2) := by decide +kernel
theorem dX10_plus_78 : decode cX10_plus 78 = .ok (.if_icmp .ge 83, 3) := by decide +kernel
theorem dX10_plus_81 : decode cX10_plus 81 = .ok (.aload_n 0, 1) := by decide +kernel
theorem dX10_plus_82 : decode cX10_plus 82 = .ok (.iload_n 1, 1) := by decide +kernel
theorem dX10_plus_83 : decode cX10_plus 83 = .ok (.iload 7, 2) := by decide +kernel
theorem dX10_plus_85 : decode cX10_plus 85 = .ok (.invokevirtual 65, 3) := by decide +kernel
theorem dX10_plus_88 : decode cX10_plus 88 = .ok (.aload_n 0, 1) := by decide +kernel
theorem dX10_plus_89 : decode cX10_plus 89 = .ok (.iload_n 2, 1) := by decide +kernel
theorem dX10_plus_90 : decode cX10_plus 90 = .ok (.iload 7, 2) := by decide +kernel
theorem dX10_plus_92 : decode cX10_plus 92 = .ok (.invokevirtual 65, 3) := by decide +kernel
theorem dX10_plus_95 : decode cX10_plus 95 = .ok (.iadd, 1) := by decide +kernel
theorem dX10_plus_96 : decode cX10_plus 96 = .ok (.iload 6, 2) := by decide +kernel
theorem dX10_plus_98 : decode cX10_plus 98 = .ok (.iadd, 1) := by decide +kernel
theorem dX10_plus_99 : decode cX10_plus 99 = .ok (.istore 8, 2) := by decide +kernel
theorem dX10_plus_101 : decode cX10_plus 101 = .ok (.iload 8, 2) := by decide +kernel
theorem dX10_plus_103 : decode cX10_plus 103 = .ok (.bipush 28, 2) := by decide +kernel
theorem dX10_plus_105 : decode cX10_plus 105 = .ok (.ishr, 1) := by decide +kernel
theorem dX10_plus_106 : decode cX10_plus 106 = .ok (.istore 6, 2) := by decide +kernel
theorem dX10_plus_108 : decode cX10_plus 108 = .ok (.aload_n 0, 1) := by decide +kernel
theorem dX10_plus_109 : decode cX10_plus 109 = .ok (.getfield 38, 3) := by decide +kernel
theorem dX10_plus_112 : decode cX10_plus 112 = .ok (.bipush 64, 2) := by decide +kernel
theorem dX10_plus_114 : decode cX10_plus 114 = .ok (.iload_n 1, 1) := by decide +kernel
theorem dX10_plus_115 : decode cX10_plus 115 = .ok (.imul, 1) := by decide +kernel
theorem dX10_plus_116 : decode cX10_plus 116 = .ok (.iload 7, 2) := by decide +kernel
theorem dX10_plus_118 : decode cX10_plus 118 = .ok (.iadd, 1) := by decide +kernel
theorem dX10_plus_119 : decode cX10_plus 119 = .ok (.iload 8, 2) := by decide +kernel
theorem dX10_plus_121 : decode cX10_plus 121 = .ok (.ldc 68, 2) := by decide +kernel
theorem dX10_plus_123 : decode cX10_plus 123 = .ok (.iand, 1) := by decide +kernel
theorem dX10_plus_124 : decode cX10_plus 124 = .ok (.iastore, 1) := by decide +kernel
theorem dX10_plus_125 : decode cX10_plus 125 = .ok (.aload_n 0, 1) := by decide +kernel
theorem dX10_plus_126 : decode cX10_plus 126 = .ok (.getfield 41, 3) := by decide +kernel
theorem dX10_plus_129 : decode cX10_plus 129 = .ok (.iload_n 1, 1) := by decide +kernel
theorem dX10_plus_130 : decode cX10_plus 130 = .ok (.aload_n 0, 1) := by decide +kernel
theorem dX10_plus_131 : decode cX10_plus 131 = .ok (.getfield 41, 3) := by decide +kernel
theorem dX10_plus_134 : decode cX10_plus 134 = .ok (.iload_n 1, 1) := by decide +kernel
theorem dX10_plus_135 : decode cX10_plus 135 = .ok (.iaload, 1) := by decide +kernel
theorem dX10_plus_136 : decode cX10_plus 136 = .ok (.iload 7, 2) := by decide +kernel
theorem dX10_plus_138 : decode cX10_plus 138 = .ok (.if_icmp .gt 10, 3) := by decide +kernel
theorem dX10_plus_141 : decode cX10_plus 141 = .ok (.iload 7, 2) := by decide +kernel
theorem dX10_plus_143 : decode cX10_plus 143 = .ok (.iconst 1, 1) := by decide +kernel
theorem dX10_plus_144 : decode cX10_plus 144 = .ok (.iadd, 1) := by decide +kernel
theorem dX10_plus_145 : decode cX10_plus 145 = .ok (.goto 9, 3) := by decide +kernel
theorem dX10_plus_148 : decode cX10_plus 148 = .ok (.aload_n 0, 1) := by decide +kernel
theorem dX10_plus_149 : decode cX10_plus 149 = .ok (.getfield 41, 3) := by decide +kernel
theorem dX10_plus_152 : decode cX10_plus 152 = .ok (.iload_n 1, 1) := by decide +kernel
theorem dX10_plus_153 : decode cX10_plus 153 = .ok (.iaload, 1) := by decide +kernel
theorem dX10_plus_154 : decode cX10_plus 154 = .ok (.iastore, 1) := by decide +kernel
theorem dX10_plus_155 : decode cX10_plus 155 = .ok (.iinc 7 1, 3) := by decide +kernel
theorem dX10_plus_158 : decode cX10_plus 158 = .ok (.goto (-84), 3) := by decide +kernel
theorem dX10_plus_161 : decode cX10_plus 161 = .ok (.aload_n 0, 1) := by decide +kernel
theorem dX10_plus_162 : decode cX10_plus 162 = .ok (.getfield 38, 3) := by decide +kernel
theorem dX10_plus_165 : decode cX10_plus 165 = .ok (.bipush 64, 2) := by decide +kernel
theorem dX10_plus_167 : decode cX10_plus 167 = .ok (.iload_n 1, 1) := by decide +kernel
theorem dX10_plus_168 : decode cX10_plus 168 = .ok (.imul, 1) := by decide +kernel
theorem dX10_plus_169 : decode cX10_plus 169 = .ok (.iload 5, 2) := by decide +kernel
theorem dX10_plus_171 : decode cX10_plus 171 = .ok (.iadd, 1) := by decide +kernel
theorem dX10_plus_172 : decode cX10_plus 172 = .ok (.iload 6, 2) := by decide +kernel
theorem dX10_plus_174 : decode cX10_plus 174 = .ok (.iastore, 1) := by decide +kernel
theorem dX10_plus_175 : decode cX10_plus 175 = .ok (.aload_n 0, 1) := by decide +kernel
theorem dX10_plus_176 : decode cX10_plus 176 = .ok (.getfield 44, 3) := by decide +kernel
theorem dX10_plus_179 : decode cX10_plus 179 = .ok (.iload_n 1, 1) := by decide +kernel
theorem dX10_plus_180 : decode cX10_plus 180 = .ok (.iload 4, 2) := by decide +kernel
theorem dX10_plus_182 : decode cX10_plus 182 = .ok (.iastore, 1) := by decide +kernel
theorem dX10_plus_183 : decode cX10_plus 183 = .ok (.aload_n 0, 1) := by decide +kernel
theorem dX10_plus_184 : decode cX10_plus 184 = .ok (.iload_n 1, 1) := by decide +kernel
theorem dX10_plus_185 : decode cX10_plus 185 = .ok (.iload 5, 2) := by decide +kernel
theorem dX10_plus_187 : decode cX10_plus 187 = .ok (.iconst 1, 1) := by decide +kernel
theorem dX10_plus_188 : decode cX10_plus 188 = .ok (.iadd, 1) := by decide +kernel
theorem dX10_plus_189 : decode cX10_plus 189 = .ok (.invokevirtual 69, 3) := by decide +kernel
theorem dX10_plus_192 : decode cX10_plus 192 = .ok (.return_, 1) := by decide +kernel
theorem dX10_plus_193 : decode cX10_plus 193 = .ok (.aload_n 0, 1) := by decide +kernel
theorem dX10_plus_194 : decode cX10_plus 194 = .ok (.iload_n 1, 1) := by decide +kernel
theorem dX10_plus_195 : decode cX10_plus 195 = .ok (.iload_n 2, 1) := by decide +kernel
theorem dX10_plus_196 : decode cX10_plus 196 = .ok (.invokevirtual 61, 3) := by decide +kernel
theorem dX10_plus_199 : decode cX10_plus 199 = .ok (.istore 6, 2) := by decide +kernel
theorem dX10_plus_201 : decode cX10_plus 201 = .ok (.iconst 0, 1) := by decide +kernel
theorem dX10_plus_202 : decode cX10_plus 202 = .ok (.istore 7, 2) := by decide +kernel
theorem dX10_plus_204 : decode cX10_plus 204 = .ok (.iconst 0, 1) := by decide +kernel
theorem dX10_plus_205 : decode cX10_plus 205 = .ok (.istore 8, 2) := by decide +kernel
theorem dX10_plus_207 : decode cX10_plus 207 = .ok (.iload 8, 2) := by decide +kernel
theorem dX10_plus_209 : decode cX10_plus 209 = .ok (.iload 5, 2) := by decide +kernel
theorem dX10_plus_211 : decode cX10_plus 211 = .ok (.if_icmp .ge 121, 3) := by decide +kernel
theorem dX10_plus_214 : decode cX10_plus 214 = .ok (.iload 6, 2) := by decide +kernel
theorem dX10_plus_216 : decode cX10_plus 216 = .ok (.ifCond .lt 21, 3) := by decide +kernel
theorem dX10_plus_219 : decode cX10_plus 219 = .ok (.aload_n 0, 1) := by decide +kernel
theorem dX10_plus_220 : decode cX10_plus 220 = .ok (.iload_n 1, 1) := by decide +kernel
theorem dX10_plus_221 : decode cX10_plus 221 = .ok (.iload 8, 2) := by decide +kernel
theorem dX10_plus_223 : decode cX10_plus 223 = .ok (.invokevirtual 65, 3) := by decide +kernel
theorem dX10_plus_226 : decode cX10_plus 226 = .ok (.aload_n 0, 1) := by decide +kernel
theorem dX10_plus_227 : decode cX10_plus 227 = .ok (.iload_n 2, 1) := by decide +kernel
theorem dX10_plus_228 : decode cX10_plus 228 = .ok (.iload 8, 2) := by decide +kernel
theorem dX10_plus_230 : decode cX10_plus 230 = .ok (.invokevirtual 65, 3) := by decide +kernel
theorem dX10_plus_233 : decode cX10_plus 233 = .ok (.isub, 1) := by decide +kernel
theorem dX10_plus_234 : decode cX10_plus 234 = .ok (.goto 18, 3) := by decide +kernel
theorem dX10_plus_237 : decode cX10_plus 237 = .ok (.aload_n 0, 1) := by decide +kernel
theorem dX10_plus_238 : decode cX10_plus 238 = .ok (.iload_n 2, 1) := by decide +kernel
theorem dX10_plus_239 : decode cX10_plus 239 = .ok (.iload 8, 2) := by decide +kernel
theorem dX10_plus_241 : decode cX10_plus 241 = .ok (.invokevirtual 65, 3) := by decide +kernel
theorem dX10_plus_244 : decode cX10_plus 244 = .ok (.aload_n 0, 1) := by decide +kernel
theorem dX10_plus_245 : decode cX10_plus 245 = .ok (.iload_n 1, 1) := by decide +kernel
theorem dX10_plus_246 : decode cX10_plus 246 = .ok (.iload 8, 2) := by decide +kernel
theorem dX10_plus_248 : decode cX10_plus 248 = .ok (.invokevirtual 65, 3) := by decide +kernel
theorem dX10_plus_251 : decode cX10_plus 251 = .ok (.isub, 1) := by decide +kernel
theorem dX10_plus_252 : decode cX10_plus 252 = .ok (.iload 7, 2) := by decide +kernel
theorem dX10_plus_254 : decode cX10_plus 254 = .ok (.isub, 1) := by decide +kernel
theorem dX10_plus_255 : decode cX10_plus 255 = .ok (.istore 9, 2) := by decide +kernel
theorem dX10_plus_257 : decode cX10_plus 257 = .ok (.iload 9, 2) := by decide +kernel
theorem dX10_plus_259 : decode cX10_plus 259 = .ok (.ifCond .ge 7, 3) := by decide +kernel
theorem dX10_plus_262 : decode cX10_plus 262 = .ok (.iconst 1, 1) := by decide +kernel
theorem dX10_plus_263 : decode cX10_plus 263 = .ok (.goto 4, 3) := by decide +kernel
theorem dX10_plus_266 : decode cX10_plus 266 = .ok (.iconst 0, 1) := by decide +kernel
theorem dX10_plus_267 : decode cX10_plus 267 = .ok (.istore 7, 2) := by decide +kernel
theorem dX10_plus_269 : decode cX10_plus 269 = .ok (.aload_n 0, 1) := by decide +kernel
theorem dX10_plus_270 : decode cX10_plus 270 = .ok (.getfield 38, 3) := by decide +kernel
theorem dX10_plus_273 : decode cX10_plus 273 = .ok (.bipush 64, 2) := by decide +kernel
theorem dX10_plus_275 : decode cX10_plus 275 = .ok (.iload_n 1, 1) := by decide +kernel
theorem dX10_plus_276 : decode cX10_plus 276 = .ok (.imul, 1) := by decide +kernel
theorem dX10_plus_277 : decode cX10_plus 277 = .ok (.iload 8, 2) := by decide +kernel
theorem dX10_plus_279 : decode cX10_plus 279 = .ok (.iadd, 1) := by decide +kernel
theorem dX10_plus_280 : decode cX10_plus 280 = .ok (.iload 9, 2) := by decide +kernel
theorem dX10_plus_282 : decode cX10_plus 282 = .ok (.iload 7, 2) := by decide +kernel
theorem dX10_plus_284 : decode cX10_plus 284 = .ok (.iconst 1, 1) := by decide +kernel
theorem dX10_plus_285 : decode cX10_plus 285 = .ok (.if_icmp .ne 8, 3) := by decide +kernel
theorem dX10_plus_288 : decode cX10_plus 288 = .ok (.ldc 73, 2) := by decide +kernel
theorem dX10_plus_290 : decode cX10_plus 290 = .ok (.goto 4, 3) := by decide +kernel
theorem dX10_plus_293 : decode cX10_plus 293 = .ok (.iconst 0, 1) := by decide +kernel
theorem dX10_plus_294 : decode cX10_plus 294 = .ok (.iadd, 1) := by decide +kernel
theorem dX10_plus_295 : decode cX10_plus 295 = .ok (.iastore, 1) := by decide +kernel
theorem dX10_plus_296 : decode cX10_plus 296 = .ok (.aload_n 0, 1) := by decide +kernel
theorem dX10_plus_297 : decode cX10_plus 297 = .ok (.getfield 41, 3) := by decide +kernel
theorem dX10_plus_300 : decode cX10_plus 300 = .ok (.iload_n 1, 1) := by decide +kernel
theorem dX10_plus_301 : decode cX10_plus 301 = .ok (.aload_n 0, 1) := by decide +kernel
theorem dX10_plus_302 : decode cX10_plus 302 = .ok (.getfield 41, 3) := by decide +kernel
theorem dX10_plus_305 : decode cX10_plus 305 = .ok (.iload_n 1, 1) := by decide +kernel
theorem dX10_plus_306 : decode cX10_plus 306 = .ok (.iaload, 1) := by decide +kernel
theorem dX10_plus_307 : decode cX10_plus 307 = .ok (.iload 8, 2) := by decide +kernel
theorem dX10_plus_309 : decode cX10_plus 309 = .ok (.if_icmp .gt 10, 3) := by decide +kernel
theorem dX10_plus_312 : decode cX10_plus 312 = .ok (.iload 8, 2) := by decide +kernel
theorem dX10_plus_314 : decode cX10_plus 314 = .ok (.iconst 1, 1) := by decide +kernel
theorem dX10_plus_315 : decode cX10_plus 315 = .ok (.iadd, 1) := by decide +kernel
theorem dX10_plus_316 : decode cX10_plus 316 = .ok (.goto 9, 3) := by decide +kernel
theorem dX10_plus_319 : decode cX10_plus 319 = .ok (.aload_n 0, 1) := by decide +kernel
theorem dX10_plus_320 : decode cX10_plus 320 = .ok (.getfield 41, 3) := by decide +kernel
theorem dX10_plus_323 : decode cX10_plus 323 = .ok (.iload_n 1, 1) := by decide +kernel
theorem dX10_plus_324 : decode cX10_plus 324 = .ok (.iaload, 1) := by decide +kernel
theorem dX10_plus_325 : decode cX10_plus 325 = .ok (.iastore, 1) := by decide +kernel
theorem dX10_plus_326 : decode cX10_plus 326 = .ok (.iinc 8 1, 3) := by decide +kernel
theorem dX10_plus_329 : decode cX10_plus 329 = .ok (.goto (-122), 3) := by decide +kernel
theorem dX10_plus_332 : decode cX10_plus 332 = .ok (.aload_n 0, 1) := by decide +kernel
theorem dX10_plus_333 : decode cX10_plus 333 = .ok (.getfield 44, 3) := by decide +kernel
theorem dX10_plus_336 : decode cX10_plus 336 = .ok (.iload_n 1, 1) := by decide +kernel
theorem dX10_plus_337 : decode cX10_plus 337 = .ok (.iload 6, 2) := by decide +kernel
theorem dX10_plus_339 : decode cX10_plus 339 = .ok (.ifCond .lt 12, 3) := by decide +kernel
theorem dX10_plus_342 : decode cX10_plus 342 = .ok (.aload_n 0, 1) := by decide +kernel
theorem dX10_plus_343 : decode cX10_plus 343 = .ok (.getfield 44, 3) := by decide +kernel
theorem dX10_plus_346 : decode cX10_plus 346 = .ok (.iload_n 1, 1) := by decide +kernel
theorem dX10_plus_347 : decode cX10_plus 347 = .ok (.iaload, 1) := by decide +kernel
theorem dX10_plus_348 : decode cX10_plus 348 = .ok (.goto 5, 3) := by decide +kernel
theorem dX10_plus_351 : decode cX10_plus 351 = .ok (.iload 4, 2) := by decide +kernel
theorem dX10_plus_353 : decode cX10_plus 353 = .ok (.iastore, 1) := by decide +kernel
theorem dX10_plus_354 : decode cX10_plus 354 = .ok (.aload_n 0, 1) := by decide +kernel
theorem dX10_plus_355 : decode cX10_plus 355 = .ok (.iload_n 1, 1) := by decide +kernel
theorem dX10_plus_356 : decode cX10_plus 356 = .ok (.iload 5, 2) := by decide +kernel
theorem dX10_plus_358 : decode cX10_plus 358 = .ok (.invokevirtual 69, 3) := by decide +kernel
theorem dX10_plus_361 : decode cX10_plus 361 = .ok (.return_, 1) := by decide +kernel
set_option maxRecDepth 20000 in
theorem ggX10_times_X10_trim : GoodIn wsX10_times wsX10_trim := goodIn_r _ [9, 2, 1, 4, 10, 11, 12, 13, 14, 15, 16, 17, 18, 19, 20, 21, 22, 23, 24, 25, 26, 27, 28, 29] rfl rfl
set_option maxRecDepth 20000 in
theorem gX10_times_X10_trim : GoodIn wsX10_times (wsV RX10 69 RX10 yX10_trim wsX10_trim) := goodIn_app (goodIn_of _ (by decide +kernel)) ggX10_times_X10_trim
theorem dX10_times_0 : decode cX10_times 0 = .ok (.iload_n 2, 1) := by decide +kernel
theorem dX10_times_1 : decode cX10_times 1 = .ok (.ifCond .ge 9, 3) := by decide +kernel
theorem dX10_times_4 : decode cX10_times 4 = .ok (.iload_n 2, 1) := by decide +kernel
theorem dX10_times_5 : decode cX10_times 5 = .ok (.i2l, 1) := by decide +kernel
theorem dX10_times_6 : decode cX10_times 6 = .ok (.lneg, 1) := by decide +kernel
theorem dX10_times_7 : decode cX10_times 7 = .ok (.goto 5, 3) := by decide +kernel
theorem dX10_times_10 : decode cX10_times 10 = .ok (.iload_n 2, 1) := by decide +kernel
theorem dX10_times_11 : decode cX10_times 11 = .ok (.i2l, 1) := by decide +kernel
theorem dX10_times_12 : decode cX10_times 12 = .ok (.lstore_n 3, 1) := by decide +kernel
theorem dX10_times_13 : decode cX10_times 13 = .ok (.lconst 0, 1) := by decide +kernel
theorem dX10_times_14 : decode cX10_times 14 = .ok (.lstore 5, 2) := by decide +kernel
theorem dX10_times_16 : decode cX10_times 16 = .ok (.aload_n 0, 1) := by decide +kernel
theorem dX10_times_17 : decode cX10_times 17 = .ok (.getfield 41, 3) := by decide +kernel
theorem dX10_times_20 : decode cX10_times 20 = .ok (.iload_n 1, 1) := by decide +kernel
theorem dX10_times_21 : decode cX10_times 21 = .ok (.iaload, 1) := by decide +kernel
theorem dX10_times_22 : decode cX10_times 22 = .ok (.istore 7, 2) := by decide +kernel
theorem dX10_times_24 : decode cX10_times 24 = .ok (.iconst 0, 1) := by decide +kernel
theorem dX10_times_25 : decode cX10_times 25 = .ok (.istore 8, 2) := by decide +kernel
theorem dX10_times_27 : decode cX10_times 27 = .ok (.iload 8, 2) := by decide +kernel
theorem dX10_times_29 : decode cX10_times 29 = .ok (.iload 7, 2) := by decide +kernel
theorem dX10_times_31 : decode cX10_times 31 = .ok (.if_icmp .ge 55, 3) := by decide +kernel
theorem dX10_times_34 : decode cX10_times 34 = .ok (.aload_n 0, 1) := by decide +kernel
theorem dX10_times_35 : decode cX10_times 35 = .ok (.getfield 38, 3) := by decide +kernel
theorem dX10_times_38 : decode cX10_times 38 = .ok (.bipush 64, 2) := by decide +kernel
theorem dX10_times_40 : decode cX10_times 40 = .ok (.iload_n 1, 1) := by decide +kernel
theorem dX10_times_41 : decode cX10_times 41 = .ok (.imul, 1) := by decide +kernel
theorem dX10_times_42 : decode cX10_times 42 = .ok (.iload 8, 2) := by decide +kernel
theorem dX10_times_44 : decode cX10_times 44 = .ok (.iadd, 1) := by decide +kernel
theorem dX10_times_45 : decode cX10_times 45 = .ok (.iaload, 1) := by decide +kernel
theorem dX10_times_46 : decode cX10_times 46 = .ok (.i2l, 1) := by decide +kernel
theorem dX10_times_47 : decode cX10_times 47 = .ok (.lload_n 3, 1) := by decide +kernel
theorem dX10_times_48 : decode cX10_times 48 = .ok (.lmul, 1) := by decide +kernel
theorem dX10_times_49 : decode cX10_times 49 = .ok (.lload 5, 2) := by decide +kernel
theorem dX10_times_51 : decode cX10_times 51 = .ok (.ladd, 1) := by decide +kernel
theorem dX10_times_52 : decode cX10_times 52 = .ok (.lstore 9, 2) := by decide +kernel
theorem dX10_times_54 : decode cX10_times 54 = .ok (.aload_n 0, 1) := by decide +kernel
theorem dX10_times_55 : decode cX10_times 55 = .ok (.getfield 38, 3) := by decide +kernel
theorem dX10_times_58 : decode cX10_times 58 = .ok (.bipush 64, 2) := by decide +kernel
theorem dX10_times_60 : decode cX10_times 60 = .ok (.iload_n 1, 1) := by decide +kernel
theorem dX10_times_61 : decode cX10_times 61 = .ok (.imul, 1) := by decide +kernel
theorem dX10_times_62 : decode cX10_times 62 = .ok (.iload 8, 2) := by decide +kernel
theorem dX10_times_64 : decode cX10_times 64 = .ok (.iadd, 1) := by decide +kernel
theorem dX10_times_65 : decode cX10_times 65 = .ok (.lload 9, 2) := by decide +kernel
theorem dX10_times_67 : decode cX10_times 67 = .ok (.ldc2_w 59, 3) := by decide +kernel
theorem dX10_times_70 : decode cX10_times 70 = .ok (.land, 1) := by decide +kernel
theorem dX10_times_71 : decode cX10_times 71 = .ok (.l2i, 1) := by decide +kernel
theorem dX10_times_72 : decode cX10_times 72 = .ok (.iastore, 1) := by decide +kernel
theorem dX10_times_73 : decode cX10_times 73 = .ok (.lload 9, 2) := by decide +kernel
theorem dX10_times_75 : decode cX10_times 75 = .ok (.bipush 28, 2) := by decide +kernel
theorem dX10_times_77 : decode cX10_times 77 = .ok (.lshr, 1) := by decide +kernel
theorem dX10_times_78 : decode cX10_times 78 = .ok (.lstore 5, 2) := by decide +kernel
theorem dX10_times_80 : decode cX10_times 80 = .ok (.iinc 8 1, 3) := by decide +kernel
theorem dX10_times_83 : decode cX10_times 83 = .ok (.goto (-56), 3) := by decide +kernel
theorem dX10_times_86 : decode cX10_times 86 = .ok (.lload 5, 2) := by decide +kernel
theorem dX10_times_88 : decode cX10_times 88 = .ok (.lconst 0, 1) := by decide +kernel
theorem dX10_times_89 : decode cX10_times 89 = .ok (.lcmp, 1) := by decide +kernel
theorem dX10_times_90 : decode cX10_times 90 = .ok (.ifCond .le 35, 3) := by decide +kernel
theorem dX10_times_93 : decode cX10_times 93 = .ok (.aload_n 0, 1) := by decide +kernel
theorem dX10_times_94 : decode cX10_times 94 = .ok (.getfield 38, 3) := by decide +kernel
theorem dX10_times_97 : decode cX10_times 97 = .ok (.bipush 64, 2) := by decide +kernel
theorem dX10_times_99 : decode cX10_times 99 = .ok (.iload_n 1, 1) := by decide +kernel
theorem dX10_times_100 : decode cX10_times 100 = .ok (.imul, 1) := by decide +kernel
theorem dX10_times_101 : decode cX10_times 101 = .ok (.iload 7, 2) := by decide +kernel
theorem dX10_times_103 : decode cX10_times 103 = .ok (.iadd, 1) := by decide +kernel
theorem dX10_times_104 : decode cX10_times 104 = .ok (.lload 5, 2) := by decide +kernel
theorem dX10_times_106 : decode cX10_times 106 = .ok (.ldc2_w 59, 3) := by decide +kernel
theorem dX10_times_109 : decode cX10_times 109 = .ok (.land, 1) := by decide +kernel
theorem dX10_times_110 : decode cX10_times 110 = .ok (.l2i, 1) := by decide +kernel
theorem dX10_times_111 : decode cX10_times 111 = .ok (.iastore, 1) := by decide +kernel
theorem dX10_times_112 : decode cX10_times 112 = .ok (.lload 5, 2) := by decide +kernel
theorem dX10_times_114 : decode cX10_times 114 = .ok (.bipush 28, 2) := by decide +kernel
theorem dX10_times_116 : decode cX10_times 116 = .ok (.lshr, 1) := by decide +kernel
theorem dX10_times_117 : decode cX10_times 117 = .ok (.lstore 5, 2) := by decide +kernel
theorem dX10_times_119 : decode cX10_times 119 = .ok (.iinc 7 1, 3) := by decide +kernel
theorem dX10_times_122 : decode cX10_times 122 = .ok (.goto (-36), 3) := by decide +kernel
theorem dX10_times_125 : decode cX10_times 125 = .ok (.aload_n 0, 1) := by decide +kernel
theorem dX10_times_126 : decode cX10_times 126 = .ok (.getfield 44, 3) := by decide +kernel
theorem dX10_times_129 : decode cX10_times 129 = .ok (.iload_n 1, 1) := by decide +kernel
theorem dX10_times_130 : decode cX10_times 130 = .ok (.iload_n 2, 1) := by decide +kernel
theorem dX10_times_131 : decode cX10_times 131 = .ok (.ifCond .ge 13, 3) := by decide +kernel
theorem dX10_times_134 : decode cX10_times 134 = .ok (.aload_n 0, 1) := by decide +kernel
theorem dX10_times_135 : decode cX10_times 135 = .ok (.getfield 44, 3) := by decide +kernel
theorem dX10_times_138 : decode cX10_times 138 = .ok (.iload_n 1, 1) := by decide +kernel
theorem dX10_times_139 : decode cX10_times 139 = .ok (.iaload, 1) := by decide +kernel
theorem dX10_times_140 : decode cX10_times 140 = .ok (.ineg, 1) := by decide +kernel
theorem dX10_times_141 : decode cX10_times 141 = .ok (.goto 9, 3) := by decide +kernel
theorem dX10_times_144 : decode cX10_times 144 = .ok (.aload_n 0, 1) := by decide +kernel
theorem dX10_times_145 : decode cX10_times 145 = .ok (.getfield 44, 3) := by decide +kernel
theorem dX10_times_148 : decode cX10_times 148 = .ok (.iload_n 1, 1) := by decide +kernel
theorem dX10_times_149 : decode cX10_times 149 = .ok (.iaload, 1) := by decide +kernel
theorem dX10_times_150 : decode cX10_times 150 = .ok (.iastore, 1) := by decide +kernel
theorem dX10_times_151 : decode cX10_times 151 = .ok (.aload_n 0, 1) := by decide +kernel
theorem dX10_times_152 : decode cX10_times 152 = .ok (.iload_n 1, 1) := by decide +kernel
theorem dX10_times_153 : decode cX10_times 153 = .ok (.iload 7, 2) := by decide +kernel
theorem dX10_times_155 : decode cX10_times 155 = .ok (.invokevirtual 69, 3) := by decide +kernel
theorem dX10_times_158 : decode cX10_times 158 = .ok (.return_, 1) := by decide +kernel
