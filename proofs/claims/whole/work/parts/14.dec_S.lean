theorem dX0_init_0 : decode cX0_init 0 = .ok (.aload_n 0, 1) := by decide +kernel
theorem dX0_init_1 : decode cX0_init 1 = .ok (.invokespecial 3, 3) := by decide +kernel
theorem dX0_init_4 : decode cX0_init 4 = .ok (.aload_n 0, 1) := by decide +kernel
theorem dX0_init_5 : decode cX0_init 5 = .ok (.bipush 6, 2) := by decide +kernel
theorem dX0_init_7 : decode cX0_init 7 = .ok (.newarray .int, 2) := by decide +kernel
theorem dX0_init_9 : decode cX0_init 9 = .ok (.putfield 9, 3) := by decide +kernel
theorem dX0_init_12 : decode cX0_init 12 = .ok (.aload_n 0, 1) := by decide +kernel
theorem dX0_init_13 : decode cX0_init 13 = .ok (.iconst 0, 1) := by decide +kernel
theorem dX0_init_14 : decode cX0_init 14 = .ok (.putfield 15, 3) := by decide +kernel
theorem dX0_init_17 : decode cX0_init 17 = .ok (.aload_n 0, 1) := by decide +kernel
theorem dX0_init_18 : decode cX0_init 18 = .ok (.iconst 1, 1) := by decide +kernel
theorem dX0_init_19 : decode cX0_init 19 = .ok (.putfield 19, 3) := by decide +kernel
theorem dX0_init_22 : decode cX0_init 22 = .ok (.aload_n 0, 1) := by decide +kernel
theorem dX0_init_23 : decode cX0_init 23 = .ok (.iconst 0, 1) := by decide +kernel
theorem dX0_init_24 : decode cX0_init 24 = .ok (.putfield 22, 3) := by decide +kernel
theorem dX0_init_27 : decode cX0_init 27 = .ok (.return_, 1) := by decide +kernel
set_option maxRecDepth 20000 in
theorem ggX1_init_X4_init : GoodIn wsX1_init wsX4_init := goodIn_r _ [15, 16, 2, 3, 17, 10, 11, 18, 19, 20, 21, 22, 23, 24, 25, 26, 27, 34, 35, 36, 29, 30] rfl rfl
set_option maxRecDepth 20000 in
theorem gX1_init_X4_init : GoodIn wsX1_init (wsX4_init) := ggX1_init_X4_init
set_option maxRecDepth 20000 in
theorem ggX1_init_X8_init : GoodIn wsX1_init wsX8_init := goodIn_r _ [22, 23, 2, 3, 24, 25, 26, 27, 34, 35, 36] rfl rfl
set_option maxRecDepth 20000 in
theorem gX1_init_X8_init : GoodIn wsX1_init (wsX8_init) := ggX1_init_X8_init
theorem dX1_init_0 : decode cX1_init 0 = .ok (.aload_n 0, 1) := by decide +kernel
theorem dX1_init_1 : decode cX1_init 1 = .ok (.invokespecial 3, 3) := by decide +kernel
theorem dX1_init_4 : decode cX1_init 4 = .ok (.aload_n 0, 1) := by decide +kernel
theorem dX1_init_5 : decode cX1_init 5 = .ok (.new 9, 3) := by decide +kernel
theorem dX1_init_8 : decode cX1_init 8 = .ok (.dup, 1) := by decide +kernel
theorem dX1_init_9 : decode cX1_init 9 = .ok (.invokespecial 11, 3) := by decide +kernel
theorem dX1_init_12 : decode cX1_init 12 = .ok (.putfield 12, 3) := by decide +kernel
theorem dX1_init_15 : decode cX1_init 15 = .ok (.aload_n 0, 1) := by decide +kernel
theorem dX1_init_16 : decode cX1_init 16 = .ok (.new 9, 3) := by decide +kernel
theorem dX1_init_19 : decode cX1_init 19 = .ok (.dup, 1) := by decide +kernel
theorem dX1_init_20 : decode cX1_init 20 = .ok (.invokespecial 11, 3) := by decide +kernel
theorem dX1_init_23 : decode cX1_init 23 = .ok (.putfield 18, 3) := by decide +kernel
theorem dX1_init_26 : decode cX1_init 26 = .ok (.aload_n 0, 1) := by decide +kernel
theorem dX1_init_27 : decode cX1_init 27 = .ok (.new 21, 3) := by decide +kernel
theorem dX1_init_30 : decode cX1_init 30 = .ok (.dup, 1) := by decide +kernel
theorem dX1_init_31 : decode cX1_init 31 = .ok (.bipush 24, 2) := by decide +kernel
theorem dX1_init_33 : decode cX1_init 33 = .ok (.invokespecial 23, 3) := by decide +kernel
theorem dX1_init_36 : decode cX1_init 36 = .ok (.putfield 26, 3) := by decide +kernel
theorem dX1_init_39 : decode cX1_init 39 = .ok (.return_, 1) := by decide +kernel
set_option maxRecDepth 20000 in
theorem ggX1_greatest_X6_find : GoodIn wsX1_greatest wsX6_find := goodIn_r _ [8, 9, 79, 80, 81, 82, 83] rfl rfl
set_option maxRecDepth 20000 in
theorem gX1_greatest_X6_find : GoodIn wsX1_greatest (wsV RX1 30 RX6 yX6_find wsX6_find) := goodIn_app (goodIn_of _ (by decide +kernel)) ggX1_greatest_X6_find
set_option maxRecDepth 20000 in
theorem ggX1_greatest_X4_weigh : GoodIn wsX1_greatest wsX4_weigh := goodIn_r _ [14, 15, 16, 17, 18, 19, 20, 21, 22, 23, 24, 25, 26, 27, 28, 29, 30, 31, 32, 33, 34, 35, 36, 37, 38, 39, 40, 41, 42, 43, 44, 45, 46, 47, 48, 49, 50, 51, 52, 53, 54, 55, 56, 57, 58, 59, 60, 61, 62, 63, 84, 85, 86, 87, 79, 80, 81, 82, 83, 88, 89, 90, 91, 92, 93, 94] rfl rfl
set_option maxRecDepth 20000 in
theorem gX1_greatest_X4_weigh : GoodIn wsX1_greatest (wsV RX1 36 RX4 yX4_weigh wsX4_weigh) := goodIn_app (goodIn_of _ (by decide +kernel)) ggX1_greatest_X4_weigh
set_option maxRecDepth 20000 in
theorem ggX1_greatest_X1_rivalIsMore : GoodIn wsX1_greatest wsX1_rivalIsMore := goodIn_r _ [68, 69, 3, 70, 1, 71, 72, 73, 27, 28, 29, 30, 31, 32, 33, 34, 35, 36, 37, 74, 39, 40, 41, 42, 43, 44, 45, 75, 47, 48, 49, 50, 51, 52, 53, 54, 55, 56, 57, 58, 59, 60, 61, 62, 63, 76, 77, 78, 88, 89, 92, 93, 94] rfl rfl
set_option maxRecDepth 20000 in
theorem gX1_greatest_X1_rivalIsMore : GoodIn wsX1_greatest (wsV RX1 44 RX1 yX1_rivalIsMore wsX1_rivalIsMore) := goodIn_app (goodIn_of _ (by decide +kernel)) ggX1_greatest_X1_rivalIsMore
theorem dX1_greatest_0 : decode cX1_greatest 0 = .ok (.iload_n 3, 1) := by decide +kernel
theorem dX1_greatest_1 : decode cX1_greatest 1 = .ok (.istore 5, 2) := by decide +kernel
theorem dX1_greatest_3 : decode cX1_greatest 3 = .ok (.aload_n 0, 1) := by decide +kernel
theorem dX1_greatest_4 : decode cX1_greatest 4 = .ok (.getfield 12, 3) := by decide +kernel
theorem dX1_greatest_7 : decode cX1_greatest 7 = .ok (.aload_n 1, 1) := by decide +kernel
theorem dX1_greatest_8 : decode cX1_greatest 8 = .ok (.aload_n 1, 1) := by decide +kernel
theorem dX1_greatest_9 : decode cX1_greatest 9 = .ok (.iload_n 2, 1) := by decide +kernel
theorem dX1_greatest_10 : decode cX1_greatest 10 = .ok (.iload_n 3, 1) := by decide +kernel
theorem dX1_greatest_11 : decode cX1_greatest 11 = .ok (.invokevirtual 30, 3) := by decide +kernel
theorem dX1_greatest_14 : decode cX1_greatest 14 = .ok (.aload 4, 2) := by decide +kernel
theorem dX1_greatest_16 : decode cX1_greatest 16 = .ok (.invokevirtual 36, 3) := by decide +kernel
theorem dX1_greatest_19 : decode cX1_greatest 19 = .ok (.iconst 0, 1) := by decide +kernel
theorem dX1_greatest_20 : decode cX1_greatest 20 = .ok (.istore 6, 2) := by decide +kernel
theorem dX1_greatest_22 : decode cX1_greatest 22 = .ok (.iload 6, 2) := by decide +kernel
theorem dX1_greatest_24 : decode cX1_greatest 24 = .ok (.aload_n 1, 1) := by decide +kernel
theorem dX1_greatest_25 : decode cX1_greatest 25 = .ok (.getfield 40, 3) := by decide +kernel
theorem dX1_greatest_28 : decode cX1_greatest 28 = .ok (.iload_n 2, 1) := by decide +kernel
theorem dX1_greatest_29 : decode cX1_greatest 29 = .ok (.iaload, 1) := by decide +kernel
theorem dX1_greatest_30 : decode cX1_greatest 30 = .ok (.if_icmp .ge 63, 3) := by decide +kernel
theorem dX1_greatest_33 : decode cX1_greatest 33 = .ok (.iload 6, 2) := by decide +kernel
theorem dX1_greatest_35 : decode cX1_greatest 35 = .ok (.iload_n 3, 1) := by decide +kernel
theorem dX1_greatest_36 : decode cX1_greatest 36 = .ok (.if_icmp .eq 51, 3) := by decide +kernel
theorem dX1_greatest_39 : decode cX1_greatest 39 = .ok (.aload_n 0, 1) := by decide +kernel
theorem dX1_greatest_40 : decode cX1_greatest 40 = .ok (.getfield 18, 3) := by decide +kernel
theorem dX1_greatest_43 : decode cX1_greatest 43 = .ok (.aload_n 1, 1) := by decide +kernel
theorem dX1_greatest_44 : decode cX1_greatest 44 = .ok (.aload_n 1, 1) := by decide +kernel
theorem dX1_greatest_45 : decode cX1_greatest 45 = .ok (.iload_n 2, 1) := by decide +kernel
theorem dX1_greatest_46 : decode cX1_greatest 46 = .ok (.iload 6, 2) := by decide +kernel
theorem dX1_greatest_48 : decode cX1_greatest 48 = .ok (.invokevirtual 30, 3) := by decide +kernel
theorem dX1_greatest_51 : decode cX1_greatest 51 = .ok (.aload 4, 2) := by decide +kernel
theorem dX1_greatest_53 : decode cX1_greatest 53 = .ok (.invokevirtual 36, 3) := by decide +kernel
theorem dX1_greatest_56 : decode cX1_greatest 56 = .ok (.aload_n 0, 1) := by decide +kernel
theorem dX1_greatest_57 : decode cX1_greatest 57 = .ok (.invokevirtual 44, 3) := by decide +kernel
theorem dX1_greatest_60 : decode cX1_greatest 60 = .ok (.ifCond .eq 27, 3) := by decide +kernel
theorem dX1_greatest_63 : decode cX1_greatest 63 = .ok (.aload_n 0, 1) := by decide +kernel
theorem dX1_greatest_64 : decode cX1_greatest 64 = .ok (.getfield 12, 3) := by decide +kernel
theorem dX1_greatest_67 : decode cX1_greatest 67 = .ok (.astore 7, 2) := by decide +kernel
theorem dX1_greatest_69 : decode cX1_greatest 69 = .ok (.aload_n 0, 1) := by decide +kernel
theorem dX1_greatest_70 : decode cX1_greatest 70 = .ok (.aload_n 0, 1) := by decide +kernel
theorem dX1_greatest_71 : decode cX1_greatest 71 = .ok (.getfield 18, 3) := by decide +kernel
theorem dX1_greatest_74 : decode cX1_greatest 74 = .ok (.putfield 12, 3) := by decide +kernel
theorem dX1_greatest_77 : decode cX1_greatest 77 = .ok (.aload_n 0, 1) := by decide +kernel
theorem dX1_greatest_78 : decode cX1_greatest 78 = .ok (.aload 7, 2) := by decide +kernel
theorem dX1_greatest_80 : decode cX1_greatest 80 = .ok (.putfield 18, 3) := by decide +kernel
theorem dX1_greatest_83 : decode cX1_greatest 83 = .ok (.iload 6, 2) := by decide +kernel
theorem dX1_greatest_85 : decode cX1_greatest 85 = .ok (.istore 5, 2) := by decide +kernel
theorem dX1_greatest_87 : decode cX1_greatest 87 = .ok (.iinc 6 1, 3) := by decide +kernel
theorem dX1_greatest_90 : decode cX1_greatest 90 = .ok (.goto (-68), 3) := by decide +kernel
theorem dX1_greatest_93 : decode cX1_greatest 93 = .ok (.iload 5, 2) := by decide +kernel
theorem dX1_greatest_95 : decode cX1_greatest 95 = .ok (.ireturn, 1) := by decide +kernel
set_option maxRecDepth 20000 in
theorem ggX1_rivalIsMore_X8_clear : GoodIn wsX1_rivalIsMore wsX8_clear := goodIn_r _ [11, 12, 13, 14, 15, 16, 17, 18, 50, 51, 52] rfl rfl
set_option maxRecDepth 20000 in
theorem gX1_rivalIsMore_X8_clear : GoodIn wsX1_rivalIsMore (wsV RX1 48 RX8 yX8_clear wsX8_clear) := goodIn_app (goodIn_of _ (by decide +kernel)) ggX1_rivalIsMore_X8_clear
set_option maxRecDepth 20000 in
theorem ggX1_rivalIsMore_X8_add : GoodIn wsX1_rivalIsMore wsX8_add := goodIn_r _ [22, 13, 12, 23, 24, 25, 26, 50, 51, 52] rfl rfl
set_option maxRecDepth 20000 in
theorem gX1_rivalIsMore_X8_add : GoodIn wsX1_rivalIsMore (wsV RX1 58 RX8 yX8_add wsX8_add) := goodIn_app (goodIn_of _ (by decide +kernel)) ggX1_rivalIsMore_X8_add
set_option maxRecDepth 20000 in
theorem ggX1_rivalIsMore_X8_settle : GoodIn wsX1_rivalIsMore wsX8_settle := goodIn_r _ [30, 12, 31, 32, 33, 34, 35, 36, 37, 38, 10, 39, 40, 41, 42, 43, 44, 13, 14, 50, 51, 52] rfl rfl
set_option maxRecDepth 20000 in
theorem gX1_rivalIsMore_X8_settle : GoodIn wsX1_rivalIsMore (wsV RX1 62 RX8 yX8_settle wsX8_settle) := goodIn_app (goodIn_of _ (by decide +kernel)) ggX1_rivalIsMore_X8_settle
theorem dX1_rivalIsMore_0 : decode cX1_rivalIsMore 0 = .ok (.aload_n 0, 1) := by decide +kernel
theorem dX1_rivalIsMore_1 : decode cX1_rivalIsMore 1 = .ok (.getfield 26, 3) := by decide +kernel
theorem dX1_rivalIsMore_4 : decode cX1_rivalIsMore 4 = .ok (.invokevirtual 48, 3) := by decide +kernel
theorem dX1_rivalIsMore_7 : decode cX1_rivalIsMore 7 = .ok (.aload_n 0, 1) := by decide +kernel
theorem dX1_rivalIsMore_8 : decode cX1_rivalIsMore 8 = .ok (.getfield 26, 3) := by decide +kernel
theorem dX1_rivalIsMore_11 : decode cX1_rivalIsMore 11 = .ok (.aload_n 0, 1) := by decide +kernel
theorem dX1_rivalIsMore_12 : decode cX1_rivalIsMore 12 = .ok (.getfield 18, 3) := by decide +kernel
theorem dX1_rivalIsMore_15 : decode cX1_rivalIsMore 15 = .ok (.getfield 51, 3) := by decide +kernel
theorem dX1_rivalIsMore_18 : decode cX1_rivalIsMore 18 = .ok (.aload_n 0, 1) := by decide +kernel
theorem dX1_rivalIsMore_19 : decode cX1_rivalIsMore 19 = .ok (.getfield 12, 3) := by decide +kernel
theorem dX1_rivalIsMore_22 : decode cX1_rivalIsMore 22 = .ok (.getfield 54, 3) := by decide +kernel
theorem dX1_rivalIsMore_25 : decode cX1_rivalIsMore 25 = .ok (.i2l, 1) := by decide +kernel
theorem dX1_rivalIsMore_26 : decode cX1_rivalIsMore 26 = .ok (.invokevirtual 58, 3) := by decide +kernel
theorem dX1_rivalIsMore_29 : decode cX1_rivalIsMore 29 = .ok (.aload_n 0, 1) := by decide +kernel
theorem dX1_rivalIsMore_30 : decode cX1_rivalIsMore 30 = .ok (.getfield 26, 3) := by decide +kernel
theorem dX1_rivalIsMore_33 : decode cX1_rivalIsMore 33 = .ok (.aload_n 0, 1) := by decide +kernel
theorem dX1_rivalIsMore_34 : decode cX1_rivalIsMore 34 = .ok (.getfield 12, 3) := by decide +kernel
theorem dX1_rivalIsMore_37 : decode cX1_rivalIsMore 37 = .ok (.getfield 51, 3) := by decide +kernel
theorem dX1_rivalIsMore_40 : decode cX1_rivalIsMore 40 = .ok (.aload_n 0, 1) := by decide +kernel
theorem dX1_rivalIsMore_41 : decode cX1_rivalIsMore 41 = .ok (.getfield 18, 3) := by decide +kernel
theorem dX1_rivalIsMore_44 : decode cX1_rivalIsMore 44 = .ok (.getfield 54, 3) := by decide +kernel
theorem dX1_rivalIsMore_47 : decode cX1_rivalIsMore 47 = .ok (.ineg, 1) := by decide +kernel
theorem dX1_rivalIsMore_48 : decode cX1_rivalIsMore 48 = .ok (.i2l, 1) := by decide +kernel
theorem dX1_rivalIsMore_49 : decode cX1_rivalIsMore 49 = .ok (.invokevirtual 58, 3) := by decide +kernel
theorem dX1_rivalIsMore_52 : decode cX1_rivalIsMore 52 = .ok (.aload_n 0, 1) := by decide +kernel
theorem dX1_rivalIsMore_53 : decode cX1_rivalIsMore 53 = .ok (.getfield 26, 3) := by decide +kernel
theorem dX1_rivalIsMore_56 : decode cX1_rivalIsMore 56 = .ok (.invokevirtual 62, 3) := by decide +kernel
theorem dX1_rivalIsMore_59 : decode cX1_rivalIsMore 59 = .ok (.aload_n 0, 1) := by decide +kernel
theorem dX1_rivalIsMore_60 : decode cX1_rivalIsMore 60 = .ok (.getfield 26, 3) := by decide +kernel
theorem dX1_rivalIsMore_63 : decode cX1_rivalIsMore 63 = .ok (.getfield 65, 3) := by decide +kernel
theorem dX1_rivalIsMore_66 : decode cX1_rivalIsMore 66 = .ok (.ifCond .le 7, 3) := by decide +kernel
theorem dX1_rivalIsMore_69 : decode cX1_rivalIsMore 69 = .ok (.iconst 1, 1) := by decide +kernel
theorem dX1_rivalIsMore_70 : decode cX1_rivalIsMore 70 = .ok (.goto 4, 3) := by decide +kernel
theorem dX1_rivalIsMore_73 : decode cX1_rivalIsMore 73 = .ok (.iconst 0, 1) := by decide +kernel
theorem dX1_rivalIsMore_74 : decode cX1_rivalIsMore 74 = .ok (.ireturn, 1) := by decide +kernel
set_option maxRecDepth 20000 in
theorem ggX2_init_X8_init : GoodIn wsX2_init wsX8_init := goodIn_r _ [13, 14, 2, 3, 15, 16, 17, 18, 21, 22, 23] rfl rfl
set_option maxRecDepth 20000 in
theorem gX2_init_X8_init : GoodIn wsX2_init (wsX8_init) := ggX2_init_X8_init
theorem dX2_init_0 : decode cX2_init 0 = .ok (.aload_n 0, 1) := by decide +kernel
theorem dX2_init_1 : decode cX2_init 1 = .ok (.invokespecial 3, 3) := by decide +kernel
theorem dX2_init_4 : decode cX2_init 4 = .ok (.aload_n 0, 1) := by decide +kernel
theorem dX2_init_5 : decode cX2_init 5 = .ok (.bipush 6, 2) := by decide +kernel
theorem dX2_init_7 : decode cX2_init 7 = .ok (.bipush 7, 2) := by decide +kernel
theorem dX2_init_9 : decode cX2_init 9 = .ok (.multianewarray 9 2, 4) := by decide +kernel
theorem dX2_init_13 : decode cX2_init 13 = .ok (.putfield 11, 3) := by decide +kernel
theorem dX2_init_16 : decode cX2_init 16 = .ok (.aload_n 0, 1) := by decide +kernel
theorem dX2_init_17 : decode cX2_init 17 = .ok (.sipush 128, 3) := by decide +kernel
theorem dX2_init_20 : decode cX2_init 20 = .ok (.anewarray 16, 3) := by decide +kernel
theorem dX2_init_23 : decode cX2_init 23 = .ok (.putfield 18, 3) := by decide +kernel
theorem dX2_init_26 : decode cX2_init 26 = .ok (.iconst 0, 1) := by decide +kernel
theorem dX2_init_27 : decode cX2_init 27 = .ok (.istore_n 1, 1) := by decide +kernel
theorem dX2_init_28 : decode cX2_init 28 = .ok (.iload_n 1, 1) := by decide +kernel
theorem dX2_init_29 : decode cX2_init 29 = .ok (.aload_n 0, 1) := by decide +kernel
theorem dX2_init_30 : decode cX2_init 30 = .ok (.getfield 18, 3) := by decide +kernel
theorem dX2_init_33 : decode cX2_init 33 = .ok (.arraylength, 1) := by decide +kernel
theorem dX2_init_34 : decode cX2_init 34 = .ok (.if_icmp .ge 24, 3) := by decide +kernel
theorem dX2_init_37 : decode cX2_init 37 = .ok (.aload_n 0, 1) := by decide +kernel
theorem dX2_init_38 : decode cX2_init 38 = .ok (.getfield 18, 3) := by decide +kernel
theorem dX2_init_41 : decode cX2_init 41 = .ok (.iload_n 1, 1) := by decide +kernel
theorem dX2_init_42 : decode cX2_init 42 = .ok (.new 16, 3) := by decide +kernel
theorem dX2_init_45 : decode cX2_init 45 = .ok (.dup, 1) := by decide +kernel
theorem dX2_init_46 : decode cX2_init 46 = .ok (.bipush 8, 2) := by decide +kernel
theorem dX2_init_48 : decode cX2_init 48 = .ok (.invokespecial 22, 3) := by decide +kernel
theorem dX2_init_51 : decode cX2_init 51 = .ok (.aastore, 1) := by decide +kernel
theorem dX2_init_52 : decode cX2_init 52 = .ok (.iinc 1 1, 3) := by decide +kernel
theorem dX2_init_55 : decode cX2_init 55 = .ok (.goto (-27), 3) := by decide +kernel
theorem dX2_init_58 : decode cX2_init 58 = .ok (.return_, 1) := by decide +kernel
set_option maxRecDepth 20000 in
theorem ggX2_findValues_X6_find : GoodIn wsX2_findValues wsX6_find := goodIn_r _ [10, 11, 91, 92, 93, 94, 95] rfl rfl
set_option maxRecDepth 20000 in
theorem gX2_findValues_X6_find : GoodIn wsX2_findValues (wsV RX2 31 RX6 yX6_find wsX6_find) := goodIn_app (goodIn_of _ (by decide +kernel)) ggX2_findValues_X6_find
set_option maxRecDepth 20000 in
theorem ggX2_findValues_X2_writeRow : GoodIn wsX2_findValues wsX2_writeRow := goodIn_r _ [16, 17, 1, 18, 19, 20, 21, 22, 23, 96, 97, 91, 92, 93, 94, 95, 100, 101, 102, 103] rfl rfl
set_option maxRecDepth 20000 in
theorem gX2_findValues_X2_writeRow : GoodIn wsX2_findValues (wsV RX2 35 RX2 yX2_writeRow wsX2_writeRow) := goodIn_app (goodIn_of _ (by decide +kernel)) ggX2_findValues_X2_writeRow
set_option maxRecDepth 20000 in
theorem ggX2_findValues_X8_put : GoodIn wsX2_findValues wsX8_put := goodIn_r _ [28, 29, 30, 31, 32, 27, 33, 34, 35, 36, 37, 38, 39, 40, 41, 42, 43, 44, 45, 46, 47, 48, 49, 50, 51, 52, 53, 54, 55, 56, 57, 104, 105, 106] rfl rfl
set_option maxRecDepth 20000 in
theorem gX2_findValues_X8_put : GoodIn wsX2_findValues (wsV RX2 39 RX8 yX8_put wsX8_put) := goodIn_app (goodIn_of _ (by decide +kernel)) ggX2_findValues_X8_put
set_option maxRecDepth 20000 in
theorem ggX2_findValues_X2_expand : GoodIn wsX2_findValues wsX2_expand := goodIn_r _ [61, 17, 2, 62, 63, 64, 65, 66, 67, 68, 69, 31, 32, 27, 33, 29, 34, 35, 36, 37, 38, 39, 70, 71, 72, 73, 74, 75, 76, 77, 78, 41, 42, 43, 44, 45, 46, 47, 48, 49, 50, 51, 52, 53, 54, 55, 56, 57, 96, 97, 104, 105, 106] rfl rfl
set_option maxRecDepth 20000 in
theorem gX2_findValues_X2_expand : GoodIn wsX2_findValues (wsV RX2 43 RX2 yX2_expand wsX2_expand) := goodIn_app (goodIn_of _ (by decide +kernel)) ggX2_findValues_X2_expand
set_option maxRecDepth 20000 in
theorem ggX2_findValues_X8_copy : GoodIn wsX2_findValues wsX8_copy := goodIn_r _ [82, 34, 29, 74, 75, 76, 77, 83, 84, 85, 86, 35, 30, 31, 32, 27, 33, 36, 37, 38, 39, 104, 105, 106] rfl rfl
set_option maxRecDepth 20000 in
theorem gX2_findValues_X8_copy : GoodIn wsX2_findValues (wsV RX2 53 RX8 yX8_copy wsX8_copy) := goodIn_app (goodIn_of _ (by decide +kernel)) ggX2_findValues_X8_copy
set_option maxRecDepth 20000 in
theorem ggX2_findValues_X8_multiply : GoodIn wsX2_findValues wsX8_multiply := goodIn_r _ [90, 34, 29, 40, 41, 42, 27, 43, 44, 45, 46, 47, 48, 49, 50, 51, 52, 53, 54, 55, 56, 57, 35, 104, 105, 106] rfl rfl
set_option maxRecDepth 20000 in
theorem gX2_findValues_X8_multiply : GoodIn wsX2_findValues (wsV RX2 62 RX8 yX8_multiply wsX8_multiply) := goodIn_app (goodIn_of _ (by decide +kernel)) ggX2_findValues_X8_multiply
theorem dX2_findValues_0 : decode cX2_findValues 0 = .ok (.aload_n 1, 1) := by decide +kernel
theorem dX2_findValues_1 : decode cX2_findValues 1 = .ok (.getfield 25, 3) := by decide +kernel
theorem dX2_findValues_4 : decode cX2_findValues 4 = .ok (.istore 4, 2) := by decide +kernel
theorem dX2_findValues_6 : decode cX2_findValues 6 = .ok (.iconst 0, 1) := by decide +kernel
theorem dX2_findValues_7 : decode cX2_findValues 7 = .ok (.istore 5, 2) := by decide +kernel
theorem dX2_findValues_9 : decode cX2_findValues 9 = .ok (.iload 5, 2) := by decide +kernel
theorem dX2_findValues_11 : decode cX2_findValues 11 = .ok (.iload 4, 2) := by decide +kernel
theorem dX2_findValues_13 : decode cX2_findValues 13 = .ok (.if_icmp .ge 26, 3) := by decide +kernel
theorem dX2_findValues_16 : decode cX2_findValues 16 = .ok (.aload_n 0, 1) := by decide +kernel
theorem dX2_findValues_17 : decode cX2_findValues 17 = .ok (.aload_n 1, 1) := by decide +kernel
theorem dX2_findValues_18 : decode cX2_findValues 18 = .ok (.iload 5, 2) := by decide +kernel
theorem dX2_findValues_20 : decode cX2_findValues 20 = .ok (.aload_n 1, 1) := by decide +kernel
theorem dX2_findValues_21 : decode cX2_findValues 21 = .ok (.iload 5, 2) := by decide +kernel
theorem dX2_findValues_23 : decode cX2_findValues 23 = .ok (.aload_n 2, 1) := by decide +kernel
theorem dX2_findValues_24 : decode cX2_findValues 24 = .ok (.iload 5, 2) := by decide +kernel
theorem dX2_findValues_26 : decode cX2_findValues 26 = .ok (.iaload, 1) := by decide +kernel
theorem dX2_findValues_27 : decode cX2_findValues 27 = .ok (.invokevirtual 31, 3) := by decide +kernel
theorem dX2_findValues_30 : decode cX2_findValues 30 = .ok (.invokevirtual 35, 3) := by decide +kernel
theorem dX2_findValues_33 : decode cX2_findValues 33 = .ok (.iinc 5 1, 3) := by decide +kernel
theorem dX2_findValues_36 : decode cX2_findValues 36 = .ok (.goto (-27), 3) := by decide +kernel
theorem dX2_findValues_39 : decode cX2_findValues 39 = .ok (.iconst 1, 1) := by decide +kernel
theorem dX2_findValues_40 : decode cX2_findValues 40 = .ok (.iload 4, 2) := by decide +kernel
theorem dX2_findValues_42 : decode cX2_findValues 42 = .ok (.iconst 1, 1) := by decide +kernel
theorem dX2_findValues_43 : decode cX2_findValues 43 = .ok (.iadd, 1) := by decide +kernel
theorem dX2_findValues_44 : decode cX2_findValues 44 = .ok (.ishl, 1) := by decide +kernel
theorem dX2_findValues_45 : decode cX2_findValues 45 = .ok (.iconst 1, 1) := by decide +kernel
theorem dX2_findValues_46 : decode cX2_findValues 46 = .ok (.isub, 1) := by decide +kernel
theorem dX2_findValues_47 : decode cX2_findValues 47 = .ok (.istore 5, 2) := by decide +kernel
theorem dX2_findValues_49 : decode cX2_findValues 49 = .ok (.aload_n 0, 1) := by decide +kernel
theorem dX2_findValues_50 : decode cX2_findValues 50 = .ok (.getfield 18, 3) := by decide +kernel
theorem dX2_findValues_53 : decode cX2_findValues 53 = .ok (.iconst 0, 1) := by decide +kernel
theorem dX2_findValues_54 : decode cX2_findValues 54 = .ok (.aaload, 1) := by decide +kernel
theorem dX2_findValues_55 : decode cX2_findValues 55 = .ok (.lconst 1, 1) := by decide +kernel
theorem dX2_findValues_56 : decode cX2_findValues 56 = .ok (.invokevirtual 39, 3) := by decide +kernel
theorem dX2_findValues_59 : decode cX2_findValues 59 = .ok (.iconst 1, 1) := by decide +kernel
theorem dX2_findValues_60 : decode cX2_findValues 60 = .ok (.istore 6, 2) := by decide +kernel
theorem dX2_findValues_62 : decode cX2_findValues 62 = .ok (.iload 6, 2) := by decide +kernel
theorem dX2_findValues_64 : decode cX2_findValues 64 = .ok (.iload 5, 2) := by decide +kernel
theorem dX2_findValues_66 : decode cX2_findValues 66 = .ok (.if_icmp .ge 17, 3) := by decide +kernel
theorem dX2_findValues_69 : decode cX2_findValues 69 = .ok (.aload_n 0, 1) := by decide +kernel
theorem dX2_findValues_70 : decode cX2_findValues 70 = .ok (.iload 6, 2) := by decide +kernel
theorem dX2_findValues_72 : decode cX2_findValues 72 = .ok (.iload 4, 2) := by decide +kernel
theorem dX2_findValues_74 : decode cX2_findValues 74 = .ok (.invokevirtual 43, 3) := by decide +kernel
theorem dX2_findValues_77 : decode cX2_findValues 77 = .ok (.iinc 6 1, 3) := by decide +kernel
theorem dX2_findValues_80 : decode cX2_findValues 80 = .ok (.goto (-18), 3) := by decide +kernel
theorem dX2_findValues_83 : decode cX2_findValues 83 = .ok (.aload_n 3, 1) := by decide +kernel
theorem dX2_findValues_84 : decode cX2_findValues 84 = .ok (.getfield 47, 3) := by decide +kernel
theorem dX2_findValues_87 : decode cX2_findValues 87 = .ok (.aload_n 0, 1) := by decide +kernel
theorem dX2_findValues_88 : decode cX2_findValues 88 = .ok (.getfield 18, 3) := by decide +kernel
theorem dX2_findValues_91 : decode cX2_findValues 91 = .ok (.iload 5, 2) := by decide +kernel
theorem dX2_findValues_93 : decode cX2_findValues 93 = .ok (.iconst 1, 1) := by decide +kernel
theorem dX2_findValues_94 : decode cX2_findValues 94 = .ok (.ishr, 1) := by decide +kernel
theorem dX2_findValues_95 : decode cX2_findValues 95 = .ok (.aaload, 1) := by decide +kernel
theorem dX2_findValues_96 : decode cX2_findValues 96 = .ok (.invokevirtual 53, 3) := by decide +kernel
theorem dX2_findValues_99 : decode cX2_findValues 99 = .ok (.iconst 0, 1) := by decide +kernel
theorem dX2_findValues_100 : decode cX2_findValues 100 = .ok (.istore 6, 2) := by decide +kernel
theorem dX2_findValues_102 : decode cX2_findValues 102 = .ok (.iload 6, 2) := by decide +kernel
theorem dX2_findValues_104 : decode cX2_findValues 104 = .ok (.iload 4, 2) := by decide +kernel
theorem dX2_findValues_106 : decode cX2_findValues 106 = .ok (.if_icmp .ge 55, 3) := by decide +kernel
theorem dX2_findValues_109 : decode cX2_findValues 109 = .ok (.aload_n 3, 1) := by decide +kernel
theorem dX2_findValues_110 : decode cX2_findValues 110 = .ok (.getfield 57, 3) := by decide +kernel
theorem dX2_findValues_113 : decode cX2_findValues 113 = .ok (.iload 6, 2) := by decide +kernel
theorem dX2_findValues_115 : decode cX2_findValues 115 = .ok (.aaload, 1) := by decide +kernel
theorem dX2_findValues_116 : decode cX2_findValues 116 = .ok (.astore 7, 2) := by decide +kernel
theorem dX2_findValues_118 : decode cX2_findValues 118 = .ok (.aload 7, 2) := by decide +kernel
theorem dX2_findValues_120 : decode cX2_findValues 120 = .ok (.aload_n 0, 1) := by decide +kernel
theorem dX2_findValues_121 : decode cX2_findValues 121 = .ok (.getfield 18, 3) := by decide +kernel
theorem dX2_findValues_124 : decode cX2_findValues 124 = .ok (.iload 5, 2) := by decide +kernel
theorem dX2_findValues_126 : decode cX2_findValues 126 = .ok (.iconst 1, 1) := by decide +kernel
theorem dX2_findValues_127 : decode cX2_findValues 127 = .ok (.iload 6, 2) := by decide +kernel
theorem dX2_findValues_129 : decode cX2_findValues 129 = .ok (.ishl, 1) := by decide +kernel
theorem dX2_findValues_130 : decode cX2_findValues 130 = .ok (.ixor, 1) := by decide +kernel
theorem dX2_findValues_131 : decode cX2_findValues 131 = .ok (.aaload, 1) := by decide +kernel
theorem dX2_findValues_132 : decode cX2_findValues 132 = .ok (.invokevirtual 53, 3) := by decide +kernel
theorem dX2_findValues_135 : decode cX2_findValues 135 = .ok (.iload 4, 2) := by decide +kernel
theorem dX2_findValues_137 : decode cX2_findValues 137 = .ok (.iconst 1, 1) := by decide +kernel
theorem dX2_findValues_138 : decode cX2_findValues 138 = .ok (.isub, 1) := by decide +kernel
theorem dX2_findValues_139 : decode cX2_findValues 139 = .ok (.iload 6, 2) := by decide +kernel
theorem dX2_findValues_141 : decode cX2_findValues 141 = .ok (.isub, 1) := by decide +kernel
theorem dX2_findValues_142 : decode cX2_findValues 142 = .ok (.iconst 2, 1) := by decide +kernel
theorem dX2_findValues_143 : decode cX2_findValues 143 = .ok (.irem, 1) := by decide +kernel
theorem dX2_findValues_144 : decode cX2_findValues 144 = .ok (.ifCond .eq 11, 3) := by decide +kernel
theorem dX2_findValues_147 : decode cX2_findValues 147 = .ok (.aload 7, 2) := by decide +kernel
theorem dX2_findValues_149 : decode cX2_findValues 149 = .ok (.ldc2_w 60, 3) := by decide +kernel
theorem dX2_findValues_152 : decode cX2_findValues 152 = .ok (.invokevirtual 62, 3) := by decide +kernel
theorem dX2_findValues_155 : decode cX2_findValues 155 = .ok (.iinc 6 1, 3) := by decide +kernel
theorem dX2_findValues_158 : decode cX2_findValues 158 = .ok (.goto (-56), 3) := by decide +kernel
theorem dX2_findValues_161 : decode cX2_findValues 161 = .ok (.return_, 1) := by decide +kernel
theorem dX2_writeRow_0 : decode cX2_writeRow 0 = .ok (.aload_n 0, 1) := by decide +kernel
theorem dX2_writeRow_1 : decode cX2_writeRow 1 = .ok (.getfield 11, 3) := by decide +kernel
theorem dX2_writeRow_4 : decode cX2_writeRow 4 = .ok (.iload_n 2, 1) := by decide +kernel
theorem dX2_writeRow_5 : decode cX2_writeRow 5 = .ok (.aaload, 1) := by decide +kernel
theorem dX2_writeRow_6 : decode cX2_writeRow 6 = .ok (.astore 4, 2) := by decide +kernel
theorem dX2_writeRow_8 : decode cX2_writeRow 8 = .ok (.iconst 0, 1) := by decide +kernel
theorem dX2_writeRow_9 : decode cX2_writeRow 9 = .ok (.istore 5, 2) := by decide +kernel
theorem dX2_writeRow_11 : decode cX2_writeRow 11 = .ok (.iload 5, 2) := by decide +kernel
theorem dX2_writeRow_13 : decode cX2_writeRow 13 = .ok (.aload_n 1, 1) := by decide +kernel
theorem dX2_writeRow_14 : decode cX2_writeRow 14 = .ok (.getfield 25, 3) := by decide +kernel
theorem dX2_writeRow_17 : decode cX2_writeRow 17 = .ok (.if_icmp .ge 32, 3) := by decide +kernel
theorem dX2_writeRow_20 : decode cX2_writeRow 20 = .ok (.aload 4, 2) := by decide +kernel
theorem dX2_writeRow_22 : decode cX2_writeRow 22 = .ok (.iload 5, 2) := by decide +kernel
theorem dX2_writeRow_24 : decode cX2_writeRow 24 = .ok (.aload_n 3, 1) := by decide +kernel
theorem dX2_writeRow_25 : decode cX2_writeRow 25 = .ok (.getfield 65, 3) := by decide +kernel
theorem dX2_writeRow_28 : decode cX2_writeRow 28 = .ok (.ineg, 1) := by decide +kernel
theorem dX2_writeRow_29 : decode cX2_writeRow 29 = .ok (.aload_n 1, 1) := by decide +kernel
theorem dX2_writeRow_30 : decode cX2_writeRow 30 = .ok (.getfield 69, 3) := by decide +kernel
theorem dX2_writeRow_33 : decode cX2_writeRow 33 = .ok (.imul, 1) := by decide +kernel
theorem dX2_writeRow_34 : decode cX2_writeRow 34 = .ok (.aload_n 3, 1) := by decide +kernel
theorem dX2_writeRow_35 : decode cX2_writeRow 35 = .ok (.getfield 72, 3) := by decide +kernel
theorem dX2_writeRow_38 : decode cX2_writeRow 38 = .ok (.iload 5, 2) := by decide +kernel
theorem dX2_writeRow_40 : decode cX2_writeRow 40 = .ok (.iaload, 1) := by decide +kernel
theorem dX2_writeRow_41 : decode cX2_writeRow 41 = .ok (.imul, 1) := by decide +kernel
theorem dX2_writeRow_42 : decode cX2_writeRow 42 = .ok (.iastore, 1) := by decide +kernel
theorem dX2_writeRow_43 : decode cX2_writeRow 43 = .ok (.iinc 5 1, 3) := by decide +kernel
theorem dX2_writeRow_46 : decode cX2_writeRow 46 = .ok (.goto (-35), 3) := by decide +kernel
theorem dX2_writeRow_49 : decode cX2_writeRow 49 = .ok (.aload 4, 2) := by decide +kernel
theorem dX2_writeRow_51 : decode cX2_writeRow 51 = .ok (.iload_n 2, 1) := by decide +kernel
theorem dX2_writeRow_52 : decode cX2_writeRow 52 = .ok (.dup2, 1) := by decide +kernel
theorem dX2_writeRow_53 : decode cX2_writeRow 53 = .ok (.iaload, 1) := by decide +kernel
theorem dX2_writeRow_54 : decode cX2_writeRow 54 = .ok (.aload_n 3, 1) := by decide +kernel
theorem dX2_writeRow_55 : decode cX2_writeRow 55 = .ok (.getfield 65, 3) := by decide +kernel
theorem dX2_writeRow_58 : decode cX2_writeRow 58 = .ok (.aload_n 1, 1) := by decide +kernel
theorem dX2_writeRow_59 : decode cX2_writeRow 59 = .ok (.getfield 76, 3) := by decide +kernel
theorem dX2_writeRow_62 : decode cX2_writeRow 62 = .ok (.imul, 1) := by decide +kernel
theorem dX2_writeRow_63 : decode cX2_writeRow 63 = .ok (.aload_n 3, 1) := by decide +kernel
theorem dX2_writeRow_64 : decode cX2_writeRow 64 = .ok (.getfield 79, 3) := by decide +kernel
theorem dX2_writeRow_67 : decode cX2_writeRow 67 = .ok (.imul, 1) := by decide +kernel
theorem dX2_writeRow_68 : decode cX2_writeRow 68 = .ok (.iadd, 1) := by decide +kernel
theorem dX2_writeRow_69 : decode cX2_writeRow 69 = .ok (.iastore, 1) := by decide +kernel
theorem dX2_writeRow_70 : decode cX2_writeRow 70 = .ok (.aload 4, 2) := by decide +kernel
theorem dX2_writeRow_72 : decode cX2_writeRow 72 = .ok (.aload_n 1, 1) := by decide +kernel
theorem dX2_writeRow_73 : decode cX2_writeRow 73 = .ok (.getfield 25, 3) := by decide +kernel
theorem dX2_writeRow_76 : decode cX2_writeRow 76 = .ok (.aload_n 3, 1) := by decide +kernel
theorem dX2_writeRow_77 : decode cX2_writeRow 77 = .ok (.getfield 82, 3) := by decide +kernel
theorem dX2_writeRow_80 : decode cX2_writeRow 80 = .ok (.aload_n 1, 1) := by decide +kernel
theorem dX2_writeRow_81 : decode cX2_writeRow 81 = .ok (.getfield 76, 3) := by decide +kernel
theorem dX2_writeRow_84 : decode cX2_writeRow 84 = .ok (.imul, 1) := by decide +kernel
theorem dX2_writeRow_85 : decode cX2_writeRow 85 = .ok (.aload_n 3, 1) := by decide +kernel
theorem dX2_writeRow_86 : decode cX2_writeRow 86 = .ok (.getfield 79, 3) := by decide +kernel
theorem dX2_writeRow_89 : decode cX2_writeRow 89 = .ok (.imul, 1) := by decide +kernel
theorem dX2_writeRow_90 : decode cX2_writeRow 90 = .ok (.iastore, 1) := by decide +kernel
theorem dX2_writeRow_91 : decode cX2_writeRow 91 = .ok (.return_, 1) := by decide +kernel
set_option maxRecDepth 20000 in
theorem ggX2_expand_J6_bitCount_0f7a4 : GoodIn wsX2_expand wsJ6_bitCount_0f7a4 := goodIn_r _ [6, 7, 8, 9] rfl rfl
set_option maxRecDepth 20000 in
theorem gX2_expand_J6_bitCount_0f7a4 : GoodIn wsX2_expand (va_wsS RX2 84 yJ6_bitCount_0f7a4 wsJ6_bitCount_0f7a4) := goodIn_app (goodIn_of _ (by decide +kernel)) ggX2_expand_J6_bitCount_0f7a4
set_option maxRecDepth 20000 in
theorem ggX2_expand_X8_clear : GoodIn wsX2_expand wsX8_clear := goodIn_r _ [14, 15, 16, 17, 18, 19, 20, 21, 50, 51, 52] rfl rfl
set_option maxRecDepth 20000 in
theorem gX2_expand_X8_clear : GoodIn wsX2_expand (wsV RX2 90 RX8 yX8_clear wsX8_clear) := goodIn_app (goodIn_of _ (by decide +kernel)) ggX2_expand_X8_clear
set_option maxRecDepth 20000 in
theorem ggX2_expand_X8_add : GoodIn wsX2_expand wsX8_add := goodIn_r _ [25, 16, 15, 26, 27, 28, 29, 50, 51, 52] rfl rfl
set_option maxRecDepth 20000 in
theorem gX2_expand_X8_add : GoodIn wsX2_expand (wsV RX2 93 RX8 yX8_add wsX8_add) := goodIn_app (goodIn_of _ (by decide +kernel)) ggX2_expand_X8_add
set_option maxRecDepth 20000 in
theorem ggX2_expand_X8_settle : GoodIn wsX2_expand wsX8_settle := goodIn_r _ [33, 15, 34, 35, 36, 37, 38, 39, 40, 41, 13, 42, 43, 44, 45, 46, 47, 16, 17, 50, 51, 52] rfl rfl
set_option maxRecDepth 20000 in
theorem gX2_expand_X8_settle : GoodIn wsX2_expand (wsV RX2 97 RX8 yX8_settle wsX8_settle) := goodIn_app (goodIn_of _ (by decide +kernel)) ggX2_expand_X8_settle
theorem dX2_expand_0 : decode cX2_expand 0 = .ok (.aload_n 0, 1) := by decide +kernel
theorem dX2_expand_1 : decode cX2_expand 1 = .ok (.getfield 11, 3) := by decide +kernel
theorem dX2_expand_4 : decode cX2_expand 4 = .ok (.iload_n 1, 1) := by decide +kernel
theorem dX2_expand_5 : decode cX2_expand 5 = .ok (.invokestatic 84, 3) := by decide +kernel
theorem dX2_expand_8 : decode cX2_expand 8 = .ok (.iconst 1, 1) := by decide +kernel
theorem dX2_expand_9 : decode cX2_expand 9 = .ok (.isub, 1) := by decide +kernel
theorem dX2_expand_10 : decode cX2_expand 10 = .ok (.aaload, 1) := by decide +kernel
theorem dX2_expand_11 : decode cX2_expand 11 = .ok (.astore_n 3, 1) := by decide +kernel
theorem dX2_expand_12 : decode cX2_expand 12 = .ok (.aload_n 0, 1) := by decide +kernel
theorem dX2_expand_13 : decode cX2_expand 13 = .ok (.getfield 18, 3) := by decide +kernel
theorem dX2_expand_16 : decode cX2_expand 16 = .ok (.iload_n 1, 1) := by decide +kernel
theorem dX2_expand_17 : decode cX2_expand 17 = .ok (.aaload, 1) := by decide +kernel
theorem dX2_expand_18 : decode cX2_expand 18 = .ok (.astore 4, 2) := by decide +kernel
theorem dX2_expand_20 : decode cX2_expand 20 = .ok (.aload 4, 2) := by decide +kernel
theorem dX2_expand_22 : decode cX2_expand 22 = .ok (.invokevirtual 90, 3) := by decide +kernel
theorem dX2_expand_25 : decode cX2_expand 25 = .ok (.iconst 1, 1) := by decide +kernel
theorem dX2_expand_26 : decode cX2_expand 26 = .ok (.istore 5, 2) := by decide +kernel
theorem dX2_expand_28 : decode cX2_expand 28 = .ok (.iload_n 2, 1) := by decide +kernel
theorem dX2_expand_29 : decode cX2_expand 29 = .ok (.istore 6, 2) := by decide +kernel
theorem dX2_expand_31 : decode cX2_expand 31 = .ok (.iload 6, 2) := by decide +kernel
theorem dX2_expand_33 : decode cX2_expand 33 = .ok (.ifCond .lt 55, 3) := by decide +kernel
theorem dX2_expand_36 : decode cX2_expand 36 = .ok (.iload_n 1, 1) := by decide +kernel
theorem dX2_expand_37 : decode cX2_expand 37 = .ok (.iload 6, 2) := by decide +kernel
theorem dX2_expand_39 : decode cX2_expand 39 = .ok (.ishr, 1) := by decide +kernel
theorem dX2_expand_40 : decode cX2_expand 40 = .ok (.iconst 1, 1) := by decide +kernel
theorem dX2_expand_41 : decode cX2_expand 41 = .ok (.iand, 1) := by decide +kernel
theorem dX2_expand_42 : decode cX2_expand 42 = .ok (.ifCond .eq 40, 3) := by decide +kernel
theorem dX2_expand_45 : decode cX2_expand 45 = .ok (.aload_n 3, 1) := by decide +kernel
theorem dX2_expand_46 : decode cX2_expand 46 = .ok (.iload 6, 2) := by decide +kernel
theorem dX2_expand_48 : decode cX2_expand 48 = .ok (.iaload, 1) := by decide +kernel
theorem dX2_expand_49 : decode cX2_expand 49 = .ok (.ifCond .eq 28, 3) := by decide +kernel
theorem dX2_expand_52 : decode cX2_expand 52 = .ok (.aload 4, 2) := by decide +kernel
theorem dX2_expand_54 : decode cX2_expand 54 = .ok (.aload_n 0, 1) := by decide +kernel
theorem dX2_expand_55 : decode cX2_expand 55 = .ok (.getfield 18, 3) := by decide +kernel
theorem dX2_expand_58 : decode cX2_expand 58 = .ok (.iload_n 1, 1) := by decide +kernel
theorem dX2_expand_59 : decode cX2_expand 59 = .ok (.iconst 1, 1) := by decide +kernel
theorem dX2_expand_60 : decode cX2_expand 60 = .ok (.iload 6, 2) := by decide +kernel
theorem dX2_expand_62 : decode cX2_expand 62 = .ok (.ishl, 1) := by decide +kernel
theorem dX2_expand_63 : decode cX2_expand 63 = .ok (.ixor, 1) := by decide +kernel
theorem dX2_expand_64 : decode cX2_expand 64 = .ok (.aaload, 1) := by decide +kernel
theorem dX2_expand_65 : decode cX2_expand 65 = .ok (.iload 5, 2) := by decide +kernel
theorem dX2_expand_67 : decode cX2_expand 67 = .ok (.i2l, 1) := by decide +kernel
theorem dX2_expand_68 : decode cX2_expand 68 = .ok (.aload_n 3, 1) := by decide +kernel
theorem dX2_expand_69 : decode cX2_expand 69 = .ok (.iload 6, 2) := by decide +kernel
theorem dX2_expand_71 : decode cX2_expand 71 = .ok (.iaload, 1) := by decide +kernel
theorem dX2_expand_72 : decode cX2_expand 72 = .ok (.i2l, 1) := by decide +kernel
theorem dX2_expand_73 : decode cX2_expand 73 = .ok (.lmul, 1) := by decide +kernel
theorem dX2_expand_74 : decode cX2_expand 74 = .ok (.invokevirtual 93, 3) := by decide +kernel
theorem dX2_expand_77 : decode cX2_expand 77 = .ok (.iload 5, 2) := by decide +kernel
theorem dX2_expand_79 : decode cX2_expand 79 = .ok (.ineg, 1) := by decide +kernel
theorem dX2_expand_80 : decode cX2_expand 80 = .ok (.istore 5, 2) := by decide +kernel
theorem dX2_expand_82 : decode cX2_expand 82 = .ok (.iinc 6 (-1), 3) := by decide +kernel
theorem dX2_expand_85 : decode cX2_expand 85 = .ok (.goto (-54), 3) := by decide +kernel
theorem dX2_expand_88 : decode cX2_expand 88 = .ok (.aload 4, 2) := by decide +kernel
theorem dX2_expand_90 : decode cX2_expand 90 = .ok (.invokevirtual 97, 3) := by decide +kernel
theorem dX2_expand_93 : decode cX2_expand 93 = .ok (.return_, 1) := by decide +kernel
set_option maxRecDepth 20000 in
theorem ggX3_init_X8_init : GoodIn wsX3_init wsX8_init := goodIn_r _ [14, 15, 2, 3, 16, 17, 18, 19, 20, 21, 22] rfl rfl
set_option maxRecDepth 20000 in
theorem gX3_init_X8_init : GoodIn wsX3_init (wsX8_init) := ggX3_init_X8_init
theorem dX3_init_0 : decode cX3_init 0 = .ok (.aload_n 0, 1) := by decide +kernel
theorem dX3_init_1 : decode cX3_init 1 = .ok (.invokespecial 3, 3) := by decide +kernel
theorem dX3_init_4 : decode cX3_init 4 = .ok (.aload_n 0, 1) := by decide +kernel
theorem dX3_init_5 : decode cX3_init 5 = .ok (.new 9, 3) := by decide +kernel
theorem dX3_init_8 : decode cX3_init 8 = .ok (.dup, 1) := by decide +kernel
theorem dX3_init_9 : decode cX3_init 9 = .ok (.bipush 24, 2) := by decide +kernel
theorem dX3_init_11 : decode cX3_init 11 = .ok (.invokespecial 11, 3) := by decide +kernel
theorem dX3_init_14 : decode cX3_init 14 = .ok (.putfield 14, 3) := by decide +kernel
theorem dX3_init_17 : decode cX3_init 17 = .ok (.aload_n 0, 1) := by decide +kernel
theorem dX3_init_18 : decode cX3_init 18 = .ok (.new 9, 3) := by decide +kernel
theorem dX3_init_21 : decode cX3_init 21 = .ok (.dup, 1) := by decide +kernel
theorem dX3_init_22 : decode cX3_init 22 = .ok (.bipush 24, 2) := by decide +kernel
theorem dX3_init_24 : decode cX3_init 24 = .ok (.invokespecial 11, 3) := by decide +kernel
theorem dX3_init_27 : decode cX3_init 27 = .ok (.putfield 20, 3) := by decide +kernel
theorem dX3_init_30 : decode cX3_init 30 = .ok (.aload_n 0, 1) := by decide +kernel
theorem dX3_init_31 : decode cX3_init 31 = .ok (.new 9, 3) := by decide +kernel
theorem dX3_init_34 : decode cX3_init 34 = .ok (.dup, 1) := by decide +kernel
theorem dX3_init_35 : decode cX3_init 35 = .ok (.bipush 24, 2) := by decide +kernel
theorem dX3_init_37 : decode cX3_init 37 = .ok (.invokespecial 11, 3) := by decide +kernel
theorem dX3_init_40 : decode cX3_init 40 = .ok (.putfield 23, 3) := by decide +kernel
theorem dX3_init_43 : decode cX3_init 43 = .ok (.aload_n 0, 1) := by decide +kernel
theorem dX3_init_44 : decode cX3_init 44 = .ok (.new 9, 3) := by decide +kernel
theorem dX3_init_47 : decode cX3_init 47 = .ok (.dup, 1) := by decide +kernel
theorem dX3_init_48 : decode cX3_init 48 = .ok (.bipush 24, 2) := by decide +kernel
theorem dX3_init_50 : decode cX3_init 50 = .ok (.invokespecial 11, 3) := by decide +kernel
theorem dX3_init_53 : decode cX3_init 53 = .ok (.putfield 26, 3) := by decide +kernel
theorem dX3_init_56 : decode cX3_init 56 = .ok (.aload_n 0, 1) := by decide +kernel
theorem dX3_init_57 : decode cX3_init 57 = .ok (.new 9, 3) := by decide +kernel
theorem dX3_init_60 : decode cX3_init 60 = .ok (.dup, 1) := by decide +kernel
theorem dX3_init_61 : decode cX3_init 61 = .ok (.bipush 24, 2) := by decide +kernel
theorem dX3_init_63 : decode cX3_init 63 = .ok (.invokespecial 11, 3) := by decide +kernel
theorem dX3_init_66 : decode cX3_init 66 = .ok (.putfield 29, 3) := by decide +kernel
theorem dX3_init_69 : decode cX3_init 69 = .ok (.return_, 1) := by decide +kernel
set_option maxRecDepth 20000 in
theorem ggX3_tell_X3_reduce : GoodIn wsX3_tell wsX3_reduce := goodIn_r _ [8, 1, 9, 3, 10, 11, 12, 13, 14, 15, 16, 17, 18, 19, 20, 7, 21, 22, 23, 24, 25, 26, 27, 28, 29, 30, 31, 32, 33, 34, 35, 36, 37, 38, 39, 40, 41, 42, 43, 44, 45, 46, 47, 48, 49, 50, 51, 52, 53, 54, 55, 56, 57, 58, 59, 60, 61, 62, 63, 64, 65, 66, 67, 68, 69, 70, 71, 72, 73, 74, 75, 76, 81, 82, 83, 84, 85, 86, 87, 88] rfl rfl
set_option maxRecDepth 20000 in
theorem gX3_tell_X3_reduce : GoodIn wsX3_tell (wsV RX3 36 RX3 yX3_reduce wsX3_reduce) := goodIn_app (goodIn_of _ (by decide +kernel)) ggX3_tell_X3_reduce
set_option maxRecDepth 20000 in
theorem ggX3_tell_X8_eighteen : GoodIn wsX3_tell wsX8_eighteen := goodIn_r _ [80, 17, 60, 61, 62, 63, 13, 64, 16, 86, 87, 88] rfl rfl
set_option maxRecDepth 20000 in
theorem gX3_tell_X8_eighteen : GoodIn wsX3_tell (wsV RX3 39 RX8 yX8_eighteen wsX8_eighteen) := goodIn_app (goodIn_of _ (by decide +kernel)) ggX3_tell_X8_eighteen
theorem dX3_tell_0 : decode cX3_tell 0 = .ok (.iload_n 1, 1) := by decide +kernel
theorem dX3_tell_1 : decode cX3_tell 1 = .ok (.iconst (-1), 1) := by decide +kernel
theorem dX3_tell_2 : decode cX3_tell 2 = .ok (.if_icmp .ne 12, 3) := by decide +kernel
theorem dX3_tell_5 : decode cX3_tell 5 = .ok (.aload_n 0, 1) := by decide +kernel
theorem dX3_tell_6 : decode cX3_tell 6 = .ok (.getfield 14, 3) := by decide +kernel
theorem dX3_tell_9 : decode cX3_tell 9 = .ok (.getfield 32, 3) := by decide +kernel
theorem dX3_tell_12 : decode cX3_tell 12 = .ok (.i2l, 1) := by decide +kernel
theorem dX3_tell_13 : decode cX3_tell 13 = .ok (.lreturn, 1) := by decide +kernel
theorem dX3_tell_14 : decode cX3_tell 14 = .ok (.aload_n 0, 1) := by decide +kernel
theorem dX3_tell_15 : decode cX3_tell 15 = .ok (.invokevirtual 36, 3) := by decide +kernel
theorem dX3_tell_18 : decode cX3_tell 18 = .ok (.iload_n 1, 1) := by decide +kernel
theorem dX3_tell_19 : decode cX3_tell 19 = .ok (.iconst 2, 1) := by decide +kernel
theorem dX3_tell_20 : decode cX3_tell 20 = .ok (.irem, 1) := by decide +kernel
theorem dX3_tell_21 : decode cX3_tell 21 = .ok (.ifCond .ne 16, 3) := by decide +kernel
theorem dX3_tell_24 : decode cX3_tell 24 = .ok (.aload_n 0, 1) := by decide +kernel
theorem dX3_tell_25 : decode cX3_tell 25 = .ok (.getfield 14, 3) := by decide +kernel
theorem dX3_tell_28 : decode cX3_tell 28 = .ok (.iload_n 1, 1) := by decide +kernel
theorem dX3_tell_29 : decode cX3_tell 29 = .ok (.iconst 2, 1) := by decide +kernel
theorem dX3_tell_30 : decode cX3_tell 30 = .ok (.idiv, 1) := by decide +kernel
theorem dX3_tell_31 : decode cX3_tell 31 = .ok (.invokevirtual 39, 3) := by decide +kernel
theorem dX3_tell_34 : decode cX3_tell 34 = .ok (.goto 13, 3) := by decide +kernel
theorem dX3_tell_37 : decode cX3_tell 37 = .ok (.aload_n 0, 1) := by decide +kernel
theorem dX3_tell_38 : decode cX3_tell 38 = .ok (.getfield 20, 3) := by decide +kernel
theorem dX3_tell_41 : decode cX3_tell 41 = .ok (.iload_n 1, 1) := by decide +kernel
theorem dX3_tell_42 : decode cX3_tell 42 = .ok (.iconst 2, 1) := by decide +kernel
theorem dX3_tell_43 : decode cX3_tell 43 = .ok (.idiv, 1) := by decide +kernel
theorem dX3_tell_44 : decode cX3_tell 44 = .ok (.invokevirtual 39, 3) := by decide +kernel
theorem dX3_tell_47 : decode cX3_tell 47 = .ok (.lreturn, 1) := by decide +kernel
set_option maxRecDepth 20000 in
theorem ggX3_reduce_X8_dropSign : GoodIn wsX3_reduce wsX8_dropSign := goodIn_r _ [8, 9, 10, 11, 77, 78, 79] rfl rfl
set_option maxRecDepth 20000 in
theorem gX3_reduce_X8_dropSign : GoodIn wsX3_reduce (wsV RX3 43 RX8 yX8_dropSign wsX8_dropSign) := goodIn_app (goodIn_of _ (by decide +kernel)) ggX3_reduce_X8_dropSign
set_option maxRecDepth 20000 in
theorem ggX3_reduce_X3_commonDivisor : GoodIn wsX3_reduce wsX3_commonDivisor := goodIn_r _ [16, 17, 18, 1, 3, 19, 2, 20, 21, 22, 7, 23, 10, 11, 24, 25, 26, 27, 28, 29, 30, 31, 9, 32, 33, 34, 35, 36, 37, 38, 39, 40, 41, 42, 43, 44, 45, 46, 47, 48, 49, 50, 51, 52, 53, 54, 55, 56, 57, 58, 59, 60, 61, 62, 63, 64, 65, 66, 67, 68, 69, 70, 71, 72, 73, 74, 75, 76, 77, 78, 79] rfl rfl
set_option maxRecDepth 20000 in
theorem gX3_reduce_X3_commonDivisor : GoodIn wsX3_reduce (wsV RX3 46 RX3 yX3_commonDivisor wsX3_commonDivisor) := goodIn_app (goodIn_of _ (by decide +kernel)) ggX3_reduce_X3_commonDivisor
set_option maxRecDepth 20000 in
theorem ggX3_reduce_X8_divide : GoodIn wsX3_reduce wsX8_divide := goodIn_r _ [43, 10, 44, 45, 26, 46, 11, 32, 33, 34, 7, 35, 9, 36, 37, 38, 39, 47, 48, 49, 50, 51, 52, 53, 54, 55, 56, 57, 58, 59, 60, 61, 62, 63, 64, 65, 66, 67, 68, 69, 70, 71, 77, 78, 79] rfl rfl
set_option maxRecDepth 20000 in
theorem gX3_reduce_X8_divide : GoodIn wsX3_reduce (wsV RX3 50 RX8 yX8_divide wsX8_divide) := goodIn_app (goodIn_of _ (by decide +kernel)) ggX3_reduce_X8_divide
set_option maxRecDepth 20000 in
theorem ggX3_reduce_X8_copy : GoodIn wsX3_reduce wsX8_copy := goodIn_r _ [23, 10, 11, 24, 25, 26, 27, 28, 29, 30, 31, 9, 32, 33, 34, 7, 35, 36, 37, 38, 39, 77, 78, 79] rfl rfl
set_option maxRecDepth 20000 in
theorem gX3_reduce_X8_copy : GoodIn wsX3_reduce (wsV RX3 54 RX8 yX8_copy wsX8_copy) := goodIn_app (goodIn_of _ (by decide +kernel)) ggX3_reduce_X8_copy
theorem dX3_reduce_0 : decode cX3_reduce 0 = .ok (.aload_n 0, 1) := by decide +kernel
theorem dX3_reduce_1 : decode cX3_reduce 1 = .ok (.getfield 14, 3) := by decide +kernel
theorem dX3_reduce_4 : decode cX3_reduce 4 = .ok (.invokevirtual 43, 3) := by decide +kernel
theorem dX3_reduce_7 : decode cX3_reduce 7 = .ok (.aload_n 0, 1) := by decide +kernel
theorem dX3_reduce_8 : decode cX3_reduce 8 = .ok (.invokevirtual 46, 3) := by decide +kernel
theorem dX3_reduce_11 : decode cX3_reduce 11 = .ok (.astore_n 1, 1) := by decide +kernel
theorem dX3_reduce_12 : decode cX3_reduce 12 = .ok (.aload_n 0, 1) := by decide +kernel
theorem dX3_reduce_13 : decode cX3_reduce 13 = .ok (.getfield 14, 3) := by decide +kernel
theorem dX3_reduce_16 : decode cX3_reduce 16 = .ok (.aload_n 1, 1) := by decide +kernel
theorem dX3_reduce_17 : decode cX3_reduce 17 = .ok (.aload_n 0, 1) := by decide +kernel
theorem dX3_reduce_18 : decode cX3_reduce 18 = .ok (.getfield 29, 3) := by decide +kernel
theorem dX3_reduce_21 : decode cX3_reduce 21 = .ok (.invokevirtual 50, 3) := by decide +kernel
theorem dX3_reduce_24 : decode cX3_reduce 24 = .ok (.aload_n 0, 1) := by decide +kernel
theorem dX3_reduce_25 : decode cX3_reduce 25 = .ok (.getfield 14, 3) := by decide +kernel
theorem dX3_reduce_28 : decode cX3_reduce 28 = .ok (.aload_n 0, 1) := by decide +kernel
theorem dX3_reduce_29 : decode cX3_reduce 29 = .ok (.getfield 29, 3) := by decide +kernel
theorem dX3_reduce_32 : decode cX3_reduce 32 = .ok (.invokevirtual 54, 3) := by decide +kernel
theorem dX3_reduce_35 : decode cX3_reduce 35 = .ok (.aload_n 0, 1) := by decide +kernel
theorem dX3_reduce_36 : decode cX3_reduce 36 = .ok (.getfield 20, 3) := by decide +kernel
theorem dX3_reduce_39 : decode cX3_reduce 39 = .ok (.aload_n 1, 1) := by decide +kernel
theorem dX3_reduce_40 : decode cX3_reduce 40 = .ok (.aload_n 0, 1) := by decide +kernel
theorem dX3_reduce_41 : decode cX3_reduce 41 = .ok (.getfield 29, 3) := by decide +kernel
theorem dX3_reduce_44 : decode cX3_reduce 44 = .ok (.invokevirtual 50, 3) := by decide +kernel
theorem dX3_reduce_47 : decode cX3_reduce 47 = .ok (.aload_n 0, 1) := by decide +kernel
theorem dX3_reduce_48 : decode cX3_reduce 48 = .ok (.getfield 20, 3) := by decide +kernel
theorem dX3_reduce_51 : decode cX3_reduce 51 = .ok (.aload_n 0, 1) := by decide +kernel
theorem dX3_reduce_52 : decode cX3_reduce 52 = .ok (.getfield 29, 3) := by decide +kernel
theorem dX3_reduce_55 : decode cX3_reduce 55 = .ok (.invokevirtual 54, 3) := by decide +kernel
theorem dX3_reduce_58 : decode cX3_reduce 58 = .ok (.return_, 1) := by decide +kernel
set_option maxRecDepth 20000 in
theorem ggX3_commonDivisor_X8_copy : GoodIn wsX3_commonDivisor wsX8_copy := goodIn_r _ [11, 12, 13, 14, 15, 16, 17, 18, 19, 20, 21, 22, 23, 24, 25, 10, 26, 27, 28, 29, 30, 68, 69, 70] rfl rfl
set_option maxRecDepth 20000 in
theorem gX3_commonDivisor_X8_copy : GoodIn wsX3_commonDivisor (wsV RX3 54 RX8 yX8_copy wsX8_copy) := goodIn_app (goodIn_of _ (by decide +kernel)) ggX3_commonDivisor_X8_copy
set_option maxRecDepth 20000 in
theorem ggX3_commonDivisor_X8_divide : GoodIn wsX3_commonDivisor wsX8_divide := goodIn_r _ [34, 12, 35, 36, 16, 37, 13, 23, 24, 25, 10, 26, 22, 27, 28, 29, 30, 38, 39, 40, 41, 42, 43, 44, 45, 46, 47, 48, 49, 50, 51, 52, 53, 54, 55, 56, 57, 58, 59, 60, 61, 62, 68, 69, 70] rfl rfl
set_option maxRecDepth 20000 in
theorem gX3_commonDivisor_X8_divide : GoodIn wsX3_commonDivisor (wsV RX3 50 RX8 yX8_divide wsX8_divide) := goodIn_app (goodIn_of _ (by decide +kernel)) ggX3_commonDivisor_X8_divide
theorem dX3_commonDivisor_0 : decode cX3_commonDivisor 0 = .ok (.aload_n 0, 1) := by decide +kernel
theorem dX3_commonDivisor_1 : decode cX3_commonDivisor 1 = .ok (.getfield 23, 3) := by decide +kernel
theorem dX3_commonDivisor_4 : decode cX3_commonDivisor 4 = .ok (.astore_n 1, 1) := by decide +kernel
theorem dX3_commonDivisor_5 : decode cX3_commonDivisor 5 = .ok (.aload_n 0, 1) := by decide +kernel
theorem dX3_commonDivisor_6 : decode cX3_commonDivisor 6 = .ok (.getfield 26, 3) := by decide +kernel
theorem dX3_commonDivisor_9 : decode cX3_commonDivisor 9 = .ok (.astore_n 2, 1) := by decide +kernel
theorem dX3_commonDivisor_10 : decode cX3_commonDivisor 10 = .ok (.aload_n 1, 1) := by decide +kernel
theorem dX3_commonDivisor_11 : decode cX3_commonDivisor 11 = .ok (.aload_n 0, 1) := by decide +kernel
theorem dX3_commonDivisor_12 : decode cX3_commonDivisor 12 = .ok (.getfield 14, 3) := by decide +kernel
theorem dX3_commonDivisor_15 : decode cX3_commonDivisor 15 = .ok (.invokevirtual 54, 3) := by decide +kernel
theorem dX3_commonDivisor_18 : decode cX3_commonDivisor 18 = .ok (.aload_n 2, 1) := by decide +kernel
theorem dX3_commonDivisor_19 : decode cX3_commonDivisor 19 = .ok (.aload_n 0, 1) := by decide +kernel
theorem dX3_commonDivisor_20 : decode cX3_commonDivisor 20 = .ok (.getfield 20, 3) := by decide +kernel
theorem dX3_commonDivisor_23 : decode cX3_commonDivisor 23 = .ok (.invokevirtual 54, 3) := by decide +kernel
theorem dX3_commonDivisor_26 : decode cX3_commonDivisor 26 = .ok (.iconst 0, 1) := by decide +kernel
theorem dX3_commonDivisor_27 : decode cX3_commonDivisor 27 = .ok (.istore_n 3, 1) := by decide +kernel
theorem dX3_commonDivisor_28 : decode cX3_commonDivisor 28 = .ok (.iload_n 3, 1) := by decide +kernel
theorem dX3_commonDivisor_29 : decode cX3_commonDivisor 29 = .ok (.sipush 1000, 3) := by decide +kernel
theorem dX3_commonDivisor_32 : decode cX3_commonDivisor 32 = .ok (.if_icmp .ge 33, 3) := by decide +kernel
theorem dX3_commonDivisor_35 : decode cX3_commonDivisor 35 = .ok (.aload_n 2, 1) := by decide +kernel
theorem dX3_commonDivisor_36 : decode cX3_commonDivisor 36 = .ok (.getfield 58, 3) := by decide +kernel
theorem dX3_commonDivisor_39 : decode cX3_commonDivisor 39 = .ok (.ifCond .le 26, 3) := by decide +kernel
theorem dX3_commonDivisor_42 : decode cX3_commonDivisor 42 = .ok (.aload_n 1, 1) := by decide +kernel
theorem dX3_commonDivisor_43 : decode cX3_commonDivisor 43 = .ok (.aload_n 2, 1) := by decide +kernel
theorem dX3_commonDivisor_44 : decode cX3_commonDivisor 44 = .ok (.aload_n 0, 1) := by decide +kernel
theorem dX3_commonDivisor_45 : decode cX3_commonDivisor 45 = .ok (.getfield 29, 3) := by decide +kernel
theorem dX3_commonDivisor_48 : decode cX3_commonDivisor 48 = .ok (.invokevirtual 50, 3) := by decide +kernel
theorem dX3_commonDivisor_51 : decode cX3_commonDivisor 51 = .ok (.aload_n 1, 1) := by decide +kernel
theorem dX3_commonDivisor_52 : decode cX3_commonDivisor 52 = .ok (.astore 4, 2) := by decide +kernel
theorem dX3_commonDivisor_54 : decode cX3_commonDivisor 54 = .ok (.aload_n 2, 1) := by decide +kernel
theorem dX3_commonDivisor_55 : decode cX3_commonDivisor 55 = .ok (.astore_n 1, 1) := by decide +kernel
theorem dX3_commonDivisor_56 : decode cX3_commonDivisor 56 = .ok (.aload 4, 2) := by decide +kernel
theorem dX3_commonDivisor_58 : decode cX3_commonDivisor 58 = .ok (.astore_n 2, 1) := by decide +kernel
theorem dX3_commonDivisor_59 : decode cX3_commonDivisor 59 = .ok (.iinc 3 1, 3) := by decide +kernel
theorem dX3_commonDivisor_62 : decode cX3_commonDivisor 62 = .ok (.goto (-34), 3) := by decide +kernel
theorem dX3_commonDivisor_65 : decode cX3_commonDivisor 65 = .ok (.aload_n 1, 1) := by decide +kernel
theorem dX3_commonDivisor_66 : decode cX3_commonDivisor 66 = .ok (.areturn, 1) := by decide +kernel
set_option maxRecDepth 20000 in
theorem ggX4_init_X8_init : GoodIn wsX4_init wsX8_init := goodIn_r _ [11, 12, 2, 3, 13, 14, 15, 16, 17, 18, 19] rfl rfl
set_option maxRecDepth 20000 in
theorem gX4_init_X8_init : GoodIn wsX4_init (wsX8_init) := ggX4_init_X8_init
theorem dX4_init_0 : decode cX4_init 0 = .ok (.aload_n 0, 1) := by decide +kernel
theorem dX4_init_1 : decode cX4_init 1 = .ok (.invokespecial 3, 3) := by decide +kernel
theorem dX4_init_4 : decode cX4_init 4 = .ok (.aload_n 0, 1) := by decide +kernel
theorem dX4_init_5 : decode cX4_init 5 = .ok (.new 9, 3) := by decide +kernel
theorem dX4_init_8 : decode cX4_init 8 = .ok (.dup, 1) := by decide +kernel
theorem dX4_init_9 : decode cX4_init 9 = .ok (.bipush 24, 2) := by decide +kernel
theorem dX4_init_11 : decode cX4_init 11 = .ok (.invokespecial 11, 3) := by decide +kernel
theorem dX4_init_14 : decode cX4_init 14 = .ok (.putfield 14, 3) := by decide +kernel
theorem dX4_init_17 : decode cX4_init 17 = .ok (.aload_n 0, 1) := by decide +kernel
theorem dX4_init_18 : decode cX4_init 18 = .ok (.iconst 1, 1) := by decide +kernel
theorem dX4_init_19 : decode cX4_init 19 = .ok (.putfield 20, 3) := by decide +kernel
theorem dX4_init_22 : decode cX4_init 22 = .ok (.return_, 1) := by decide +kernel
set_option maxRecDepth 20000 in
theorem ggX4_weigh_X8_clear : GoodIn wsX4_weigh wsX8_clear := goodIn_r _ [16, 17, 18, 19, 20, 21, 22, 23, 63, 64, 65] rfl rfl
set_option maxRecDepth 20000 in
theorem gX4_weigh_X8_clear : GoodIn wsX4_weigh (wsV RX4 37 RX8 yX8_clear wsX8_clear) := goodIn_app (goodIn_of _ (by decide +kernel)) ggX4_weigh_X8_clear
set_option maxRecDepth 20000 in
theorem ggX4_weigh_X8_add : GoodIn wsX4_weigh wsX8_add := goodIn_r _ [27, 18, 17, 28, 29, 30, 31, 63, 64, 65] rfl rfl
set_option maxRecDepth 20000 in
theorem gX4_weigh_X8_add : GoodIn wsX4_weigh (wsV RX4 46 RX8 yX8_add wsX8_add) := goodIn_app (goodIn_of _ (by decide +kernel)) ggX4_weigh_X8_add
set_option maxRecDepth 20000 in
theorem ggX4_weigh_X8_settle : GoodIn wsX4_weigh wsX8_settle := goodIn_r _ [35, 17, 36, 37, 38, 39, 40, 41, 42, 43, 15, 44, 45, 46, 47, 48, 49, 18, 19, 63, 64, 65] rfl rfl
set_option maxRecDepth 20000 in
theorem gX4_weigh_X8_settle : GoodIn wsX4_weigh (wsV RX4 63 RX8 yX8_settle wsX8_settle) := goodIn_app (goodIn_of _ (by decide +kernel)) ggX4_weigh_X8_settle
theorem dX4_weigh_0 : decode cX4_weigh 0 = .ok (.aload_n 0, 1) := by decide +kernel
theorem dX4_weigh_1 : decode cX4_weigh 1 = .ok (.aload_n 2, 1) := by decide +kernel
theorem dX4_weigh_2 : decode cX4_weigh 2 = .ok (.getfield 24, 3) := by decide +kernel
theorem dX4_weigh_5 : decode cX4_weigh 5 = .ok (.aload_n 1, 1) := by decide +kernel
theorem dX4_weigh_6 : decode cX4_weigh 6 = .ok (.getfield 29, 3) := by decide +kernel
theorem dX4_weigh_9 : decode cX4_weigh 9 = .ok (.imul, 1) := by decide +kernel
theorem dX4_weigh_10 : decode cX4_weigh 10 = .ok (.aload_n 2, 1) := by decide +kernel
theorem dX4_weigh_11 : decode cX4_weigh 11 = .ok (.getfield 34, 3) := by decide +kernel
theorem dX4_weigh_14 : decode cX4_weigh 14 = .ok (.imul, 1) := by decide +kernel
theorem dX4_weigh_15 : decode cX4_weigh 15 = .ok (.putfield 20, 3) := by decide +kernel
theorem dX4_weigh_18 : decode cX4_weigh 18 = .ok (.aload_n 0, 1) := by decide +kernel
theorem dX4_weigh_19 : decode cX4_weigh 19 = .ok (.getfield 14, 3) := by decide +kernel
theorem dX4_weigh_22 : decode cX4_weigh 22 = .ok (.invokevirtual 37, 3) := by decide +kernel
theorem dX4_weigh_25 : decode cX4_weigh 25 = .ok (.aload_n 0, 1) := by decide +kernel
theorem dX4_weigh_26 : decode cX4_weigh 26 = .ok (.getfield 14, 3) := by decide +kernel
theorem dX4_weigh_29 : decode cX4_weigh 29 = .ok (.aload_n 3, 1) := by decide +kernel
theorem dX4_weigh_30 : decode cX4_weigh 30 = .ok (.getfield 40, 3) := by decide +kernel
theorem dX4_weigh_33 : decode cX4_weigh 33 = .ok (.aload_n 2, 1) := by decide +kernel
theorem dX4_weigh_34 : decode cX4_weigh 34 = .ok (.getfield 44, 3) := by decide +kernel
theorem dX4_weigh_37 : decode cX4_weigh 37 = .ok (.i2l, 1) := by decide +kernel
theorem dX4_weigh_38 : decode cX4_weigh 38 = .ok (.aload_n 1, 1) := by decide +kernel
theorem dX4_weigh_39 : decode cX4_weigh 39 = .ok (.getfield 29, 3) := by decide +kernel
theorem dX4_weigh_42 : decode cX4_weigh 42 = .ok (.i2l, 1) := by decide +kernel
theorem dX4_weigh_43 : decode cX4_weigh 43 = .ok (.lmul, 1) := by decide +kernel
theorem dX4_weigh_44 : decode cX4_weigh 44 = .ok (.aload_n 2, 1) := by decide +kernel
theorem dX4_weigh_45 : decode cX4_weigh 45 = .ok (.getfield 34, 3) := by decide +kernel
theorem dX4_weigh_48 : decode cX4_weigh 48 = .ok (.i2l, 1) := by decide +kernel
theorem dX4_weigh_49 : decode cX4_weigh 49 = .ok (.lmul, 1) := by decide +kernel
theorem dX4_weigh_50 : decode cX4_weigh 50 = .ok (.invokevirtual 46, 3) := by decide +kernel
theorem dX4_weigh_53 : decode cX4_weigh 53 = .ok (.iconst 0, 1) := by decide +kernel
theorem dX4_weigh_54 : decode cX4_weigh 54 = .ok (.istore 4, 2) := by decide +kernel
theorem dX4_weigh_56 : decode cX4_weigh 56 = .ok (.iload 4, 2) := by decide +kernel
theorem dX4_weigh_58 : decode cX4_weigh 58 = .ok (.aload_n 1, 1) := by decide +kernel
theorem dX4_weigh_59 : decode cX4_weigh 59 = .ok (.getfield 50, 3) := by decide +kernel
theorem dX4_weigh_62 : decode cX4_weigh 62 = .ok (.if_icmp .ge 43, 3) := by decide +kernel
theorem dX4_weigh_65 : decode cX4_weigh 65 = .ok (.aload_n 0, 1) := by decide +kernel
theorem dX4_weigh_66 : decode cX4_weigh 66 = .ok (.getfield 14, 3) := by decide +kernel
theorem dX4_weigh_69 : decode cX4_weigh 69 = .ok (.aload_n 3, 1) := by decide +kernel
theorem dX4_weigh_70 : decode cX4_weigh 70 = .ok (.getfield 53, 3) := by decide +kernel
theorem dX4_weigh_73 : decode cX4_weigh 73 = .ok (.iload 4, 2) := by decide +kernel
theorem dX4_weigh_75 : decode cX4_weigh 75 = .ok (.aaload, 1) := by decide +kernel
theorem dX4_weigh_76 : decode cX4_weigh 76 = .ok (.aload_n 2, 1) := by decide +kernel
theorem dX4_weigh_77 : decode cX4_weigh 77 = .ok (.getfield 24, 3) := by decide +kernel
theorem dX4_weigh_80 : decode cX4_weigh 80 = .ok (.i2l, 1) := by decide +kernel
theorem dX4_weigh_81 : decode cX4_weigh 81 = .ok (.aload_n 1, 1) := by decide +kernel
theorem dX4_weigh_82 : decode cX4_weigh 82 = .ok (.getfield 56, 3) := by decide +kernel
theorem dX4_weigh_85 : decode cX4_weigh 85 = .ok (.i2l, 1) := by decide +kernel
theorem dX4_weigh_86 : decode cX4_weigh 86 = .ok (.lmul, 1) := by decide +kernel
theorem dX4_weigh_87 : decode cX4_weigh 87 = .ok (.aload_n 2, 1) := by decide +kernel
theorem dX4_weigh_88 : decode cX4_weigh 88 = .ok (.getfield 59, 3) := by decide +kernel
theorem dX4_weigh_91 : decode cX4_weigh 91 = .ok (.iload 4, 2) := by decide +kernel
theorem dX4_weigh_93 : decode cX4_weigh 93 = .ok (.iaload, 1) := by decide +kernel
theorem dX4_weigh_94 : decode cX4_weigh 94 = .ok (.i2l, 1) := by decide +kernel
theorem dX4_weigh_95 : decode cX4_weigh 95 = .ok (.lmul, 1) := by decide +kernel
theorem dX4_weigh_96 : decode cX4_weigh 96 = .ok (.invokevirtual 46, 3) := by decide +kernel
theorem dX4_weigh_99 : decode cX4_weigh 99 = .ok (.iinc 4 1, 3) := by decide +kernel
theorem dX4_weigh_102 : decode cX4_weigh 102 = .ok (.goto (-46), 3) := by decide +kernel
theorem dX4_weigh_105 : decode cX4_weigh 105 = .ok (.aload_n 0, 1) := by decide +kernel
theorem dX4_weigh_106 : decode cX4_weigh 106 = .ok (.getfield 14, 3) := by decide +kernel
theorem dX4_weigh_109 : decode cX4_weigh 109 = .ok (.invokevirtual 63, 3) := by decide +kernel
theorem dX4_weigh_112 : decode cX4_weigh 112 = .ok (.return_, 1) := by decide +kernel
set_option maxRecDepth 20000 in
theorem ggX5_init_X7_init : GoodIn wsX5_init wsX7_init := goodIn_r _ [14, 15, 2, 3, 16, 17, 18, 19, 20, 21, 22, 23, 24, 25, 26, 27, 28, 32, 33, 34, 35, 36] rfl rfl
set_option maxRecDepth 20000 in
theorem gX5_init_X7_init : GoodIn wsX5_init (wsX7_init) := ggX5_init_X7_init
theorem dX5_init_0 : decode cX5_init 0 = .ok (.aload_n 0, 1) := by decide +kernel
theorem dX5_init_1 : decode cX5_init 1 = .ok (.invokespecial 3, 3) := by decide +kernel
theorem dX5_init_4 : decode cX5_init 4 = .ok (.aload_n 0, 1) := by decide +kernel
theorem dX5_init_5 : decode cX5_init 5 = .ok (.bipush 9, 2) := by decide +kernel
theorem dX5_init_7 : decode cX5_init 7 = .ok (.anewarray 9, 3) := by decide +kernel
theorem dX5_init_10 : decode cX5_init 10 = .ok (.putfield 11, 3) := by decide +kernel
theorem dX5_init_13 : decode cX5_init 13 = .ok (.iconst 0, 1) := by decide +kernel
theorem dX5_init_14 : decode cX5_init 14 = .ok (.istore_n 1, 1) := by decide +kernel
theorem dX5_init_15 : decode cX5_init 15 = .ok (.iload_n 1, 1) := by decide +kernel
theorem dX5_init_16 : decode cX5_init 16 = .ok (.bipush 8, 2) := by decide +kernel
theorem dX5_init_18 : decode cX5_init 18 = .ok (.if_icmp .gt 24, 3) := by decide +kernel
theorem dX5_init_21 : decode cX5_init 21 = .ok (.aload_n 0, 1) := by decide +kernel
theorem dX5_init_22 : decode cX5_init 22 = .ok (.getfield 11, 3) := by decide +kernel
theorem dX5_init_25 : decode cX5_init 25 = .ok (.iload_n 1, 1) := by decide +kernel
theorem dX5_init_26 : decode cX5_init 26 = .ok (.new 9, 3) := by decide +kernel
theorem dX5_init_29 : decode cX5_init 29 = .ok (.dup, 1) := by decide +kernel
theorem dX5_init_30 : decode cX5_init 30 = .ok (.bipush 24, 2) := by decide +kernel
theorem dX5_init_32 : decode cX5_init 32 = .ok (.invokespecial 17, 3) := by decide +kernel
theorem dX5_init_35 : decode cX5_init 35 = .ok (.aastore, 1) := by decide +kernel
theorem dX5_init_36 : decode cX5_init 36 = .ok (.iinc 1 1, 3) := by decide +kernel
theorem dX5_init_39 : decode cX5_init 39 = .ok (.goto (-24), 3) := by decide +kernel
theorem dX5_init_42 : decode cX5_init 42 = .ok (.aload_n 0, 1) := by decide +kernel
theorem dX5_init_43 : decode cX5_init 43 = .ok (.bipush 9, 2) := by decide +kernel
theorem dX5_init_45 : decode cX5_init 45 = .ok (.bipush 6, 2) := by decide +kernel
theorem dX5_init_47 : decode cX5_init 47 = .ok (.multianewarray 20 2, 4) := by decide +kernel
theorem dX5_init_51 : decode cX5_init 51 = .ok (.putfield 22, 3) := by decide +kernel
theorem dX5_init_54 : decode cX5_init 54 = .ok (.aload_n 0, 1) := by decide +kernel
theorem dX5_init_55 : decode cX5_init 55 = .ok (.iconst 0, 1) := by decide +kernel
theorem dX5_init_56 : decode cX5_init 56 = .ok (.putfield 25, 3) := by decide +kernel
theorem dX5_init_59 : decode cX5_init 59 = .ok (.return_, 1) := by decide +kernel
set_option maxRecDepth 20000 in
theorem ggX5_climb_X5_begin : GoodIn wsX5_climb wsX5_begin := goodIn_r _ [6, 7, 8, 9, 10, 11, 12, 13, 14, 15, 16, 17, 18, 19, 20, 21, 22, 23, 24, 25, 26, 27, 28, 29, 30, 31, 32, 33, 34, 35, 36, 37, 38, 39, 40, 41, 42, 43, 44, 45, 46, 47, 48, 49, 50, 51, 52, 53, 54, 55, 56, 57, 58, 59, 60, 61, 62, 63, 64, 139, 140, 141, 142, 143, 144, 145, 146, 147, 148, 149, 150, 151, 152, 153, 154, 155] rfl rfl
set_option maxRecDepth 20000 in
theorem gX5_climb_X5_begin : GoodIn wsX5_climb (wsV RX5 29 RX5 yX5_begin wsX5_begin) := goodIn_app (goodIn_of _ (by decide +kernel)) ggX5_climb_X5_begin
set_option maxRecDepth 20000 in
theorem ggX5_climb_X5_step : GoodIn wsX5_climb wsX5_step := goodIn_r _ [68, 7, 69, 70, 71, 8, 72, 73, 74, 75, 39, 40, 41, 9, 76, 77, 78, 79, 80, 81, 82, 83, 84, 85, 31, 32, 25, 33, 34, 86, 87, 88, 89, 90, 91, 92, 93, 94, 95, 96, 97, 98, 99, 100, 101, 102, 11, 12, 13, 14, 15, 16, 17, 18, 19, 20, 21, 103, 104, 105, 106, 107, 108, 109, 110, 48, 49, 50, 51, 52, 53, 54, 55, 56, 57, 58, 59, 60, 61, 62, 63, 64, 111, 112, 113, 114, 115, 116, 117, 118, 119, 120, 121, 122, 123, 124, 125, 126, 127, 128, 129, 130, 46, 131, 132, 133, 134, 135, 136, 137, 138, 47, 139, 140, 141, 147, 148, 149, 150, 151, 152, 153, 154, 155, 142, 143, 156, 157, 158, 159, 160, 144, 145, 146] rfl rfl
set_option maxRecDepth 20000 in
theorem gX5_climb_X5_step : GoodIn wsX5_climb (wsV RX5 33 RX5 yX5_step wsX5_step) := goodIn_app (goodIn_of _ (by decide +kernel)) ggX5_climb_X5_step
theorem dX5_climb_0 : decode cX5_climb 0 = .ok (.aload_n 0, 1) := by decide +kernel
theorem dX5_climb_1 : decode cX5_climb 1 = .ok (.getfield 25, 3) := by decide +kernel
theorem dX5_climb_4 : decode cX5_climb 4 = .ok (.ifCond .ne 13, 3) := by decide +kernel
theorem dX5_climb_7 : decode cX5_climb 7 = .ok (.aload_n 0, 1) := by decide +kernel
theorem dX5_climb_8 : decode cX5_climb 8 = .ok (.aload_n 1, 1) := by decide +kernel
theorem dX5_climb_9 : decode cX5_climb 9 = .ok (.invokevirtual 29, 3) := by decide +kernel
theorem dX5_climb_12 : decode cX5_climb 12 = .ok (.aload_n 0, 1) := by decide +kernel
theorem dX5_climb_13 : decode cX5_climb 13 = .ok (.iconst 1, 1) := by decide +kernel
theorem dX5_climb_14 : decode cX5_climb 14 = .ok (.putfield 25, 3) := by decide +kernel
theorem dX5_climb_17 : decode cX5_climb 17 = .ok (.aload_n 0, 1) := by decide +kernel
theorem dX5_climb_18 : decode cX5_climb 18 = .ok (.getfield 25, 3) := by decide +kernel
theorem dX5_climb_21 : decode cX5_climb 21 = .ok (.iload_n 3, 1) := by decide +kernel
theorem dX5_climb_22 : decode cX5_climb 22 = .ok (.if_icmp .gt 35, 3) := by decide +kernel
theorem dX5_climb_25 : decode cX5_climb 25 = .ok (.aload_n 0, 1) := by decide +kernel
theorem dX5_climb_26 : decode cX5_climb 26 = .ok (.getfield 25, 3) := by decide +kernel
theorem dX5_climb_29 : decode cX5_climb 29 = .ok (.bipush 8, 2) := by decide +kernel
theorem dX5_climb_31 : decode cX5_climb 31 = .ok (.if_icmp .gt 26, 3) := by decide +kernel
theorem dX5_climb_34 : decode cX5_climb 34 = .ok (.aload_n 0, 1) := by decide +kernel
theorem dX5_climb_35 : decode cX5_climb 35 = .ok (.aload_n 1, 1) := by decide +kernel
theorem dX5_climb_36 : decode cX5_climb 36 = .ok (.aload_n 2, 1) := by decide +kernel
theorem dX5_climb_37 : decode cX5_climb 37 = .ok (.aload_n 0, 1) := by decide +kernel
theorem dX5_climb_38 : decode cX5_climb 38 = .ok (.getfield 25, 3) := by decide +kernel
theorem dX5_climb_41 : decode cX5_climb 41 = .ok (.invokevirtual 33, 3) := by decide +kernel
theorem dX5_climb_44 : decode cX5_climb 44 = .ok (.aload_n 0, 1) := by decide +kernel
theorem dX5_climb_45 : decode cX5_climb 45 = .ok (.dup, 1) := by decide +kernel
theorem dX5_climb_46 : decode cX5_climb 46 = .ok (.getfield 25, 3) := by decide +kernel
theorem dX5_climb_49 : decode cX5_climb 49 = .ok (.iconst 1, 1) := by decide +kernel
theorem dX5_climb_50 : decode cX5_climb 50 = .ok (.iadd, 1) := by decide +kernel
theorem dX5_climb_51 : decode cX5_climb 51 = .ok (.putfield 25, 3) := by decide +kernel
theorem dX5_climb_54 : decode cX5_climb 54 = .ok (.goto (-37), 3) := by decide +kernel
theorem dX5_climb_57 : decode cX5_climb 57 = .ok (.return_, 1) := by decide +kernel
set_option maxRecDepth 20000 in
theorem ggX5_begin_X8_clear : GoodIn wsX5_begin wsX8_clear := goodIn_r _ [8, 9, 10, 11, 12, 13, 14, 15, 64, 65, 66] rfl rfl
set_option maxRecDepth 20000 in
theorem gX5_begin_X8_clear : GoodIn wsX5_begin (wsV RX5 41 RX8 yX8_clear wsX8_clear) := goodIn_app (goodIn_of _ (by decide +kernel)) ggX5_begin_X8_clear
set_option maxRecDepth 20000 in
theorem ggX5_begin_X6_commonRewardBelow : GoodIn wsX5_begin wsX6_commonRewardBelow := goodIn_r _ [20, 21, 22, 23, 24, 25, 26, 19, 27, 28, 29, 30, 31, 32, 33, 34, 35, 67, 68, 69, 70, 71, 72, 73, 74, 75] rfl rfl
set_option maxRecDepth 20000 in
theorem gX5_begin_X6_commonRewardBelow : GoodIn wsX5_begin (wsV RX5 50 RX6 yX6_commonRewardBelow wsX6_commonRewardBelow) := goodIn_app (goodIn_of _ (by decide +kernel)) ggX5_begin_X6_commonRewardBelow
set_option maxRecDepth 20000 in
theorem ggX5_begin_X8_put : GoodIn wsX5_begin wsX8_put := goodIn_r _ [39, 9, 40, 5, 6, 7, 8, 10, 11, 12, 13, 14, 15, 41, 42, 43, 44, 45, 46, 47, 48, 49, 50, 51, 52, 53, 54, 55, 56, 57, 58, 64, 65, 66] rfl rfl
set_option maxRecDepth 20000 in
theorem gX5_begin_X8_put : GoodIn wsX5_begin (wsV RX5 56 RX8 yX8_put wsX8_put) := goodIn_app (goodIn_of _ (by decide +kernel)) ggX5_begin_X8_put
theorem dX5_begin_0 : decode cX5_begin 0 = .ok (.iconst 0, 1) := by decide +kernel
theorem dX5_begin_1 : decode cX5_begin 1 = .ok (.istore_n 2, 1) := by decide +kernel
theorem dX5_begin_2 : decode cX5_begin 2 = .ok (.iload_n 2, 1) := by decide +kernel
theorem dX5_begin_3 : decode cX5_begin 3 = .ok (.bipush 6, 2) := by decide +kernel
theorem dX5_begin_5 : decode cX5_begin 5 = .ok (.if_icmp .ge 23, 3) := by decide +kernel
theorem dX5_begin_8 : decode cX5_begin 8 = .ok (.aload_n 0, 1) := by decide +kernel
theorem dX5_begin_9 : decode cX5_begin 9 = .ok (.getfield 11, 3) := by decide +kernel
theorem dX5_begin_12 : decode cX5_begin 12 = .ok (.iconst 0, 1) := by decide +kernel
theorem dX5_begin_13 : decode cX5_begin 13 = .ok (.aaload, 1) := by decide +kernel
theorem dX5_begin_14 : decode cX5_begin 14 = .ok (.getfield 37, 3) := by decide +kernel
theorem dX5_begin_17 : decode cX5_begin 17 = .ok (.iload_n 2, 1) := by decide +kernel
theorem dX5_begin_18 : decode cX5_begin 18 = .ok (.aaload, 1) := by decide +kernel
theorem dX5_begin_19 : decode cX5_begin 19 = .ok (.invokevirtual 41, 3) := by decide +kernel
theorem dX5_begin_22 : decode cX5_begin 22 = .ok (.iinc 2 1, 3) := by decide +kernel
theorem dX5_begin_25 : decode cX5_begin 25 = .ok (.goto (-23), 3) := by decide +kernel
theorem dX5_begin_28 : decode cX5_begin 28 = .ok (.aload_n 0, 1) := by decide +kernel
theorem dX5_begin_29 : decode cX5_begin 29 = .ok (.getfield 11, 3) := by decide +kernel
theorem dX5_begin_32 : decode cX5_begin 32 = .ok (.iconst 0, 1) := by decide +kernel
theorem dX5_begin_33 : decode cX5_begin 33 = .ok (.aaload, 1) := by decide +kernel
theorem dX5_begin_34 : decode cX5_begin 34 = .ok (.getfield 46, 3) := by decide +kernel
theorem dX5_begin_37 : decode cX5_begin 37 = .ok (.aload_n 1, 1) := by decide +kernel
theorem dX5_begin_38 : decode cX5_begin 38 = .ok (.invokevirtual 50, 3) := by decide +kernel
theorem dX5_begin_41 : decode cX5_begin 41 = .ok (.i2l, 1) := by decide +kernel
theorem dX5_begin_42 : decode cX5_begin 42 = .ok (.invokevirtual 56, 3) := by decide +kernel
theorem dX5_begin_45 : decode cX5_begin 45 = .ok (.return_, 1) := by decide +kernel
set_option maxRecDepth 20000 in
theorem ggX5_step_X1_greatest : GoodIn wsX5_step wsX1_greatest := goodIn_r _ [19, 20, 21, 22, 23, 24, 25, 26, 27, 28, 29, 30, 31, 32, 33, 34, 35, 36, 37, 38, 39, 40, 41, 42, 43, 44, 45, 46, 47, 48, 49, 50, 51, 52, 53, 54, 55, 56, 57, 58, 59, 60, 61, 62, 11, 63, 64, 65, 66, 67, 68, 69, 70, 71, 72, 73, 74, 75, 76, 77, 78, 79, 80, 81, 82, 83, 84, 18, 85, 86, 87, 88, 89, 90, 91, 92, 126, 127, 128, 115, 116, 117, 118, 119, 120, 121, 122, 123, 129, 130, 124, 125, 131, 132, 133] rfl rfl
set_option maxRecDepth 20000 in
theorem gX5_step_X1_greatest : GoodIn wsX5_step (wsV RX5 63 RX1 yX1_greatest wsX1_greatest) := goodIn_app (goodIn_of _ (by decide +kernel)) ggX5_step_X1_greatest
set_option maxRecDepth 20000 in
theorem ggX5_step_X6_find : GoodIn wsX5_step wsX6_find := goodIn_r _ [27, 28, 115, 116, 117, 118, 119] rfl rfl
set_option maxRecDepth 20000 in
theorem gX5_step_X6_find : GoodIn wsX5_step (wsV RX5 69 RX6 yX6_find wsX6_find) := goodIn_app (goodIn_of _ (by decide +kernel)) ggX5_step_X6_find
set_option maxRecDepth 20000 in
theorem ggX5_step_X8_copy : GoodIn wsX5_step wsX8_copy := goodIn_r _ [97, 51, 50, 61, 62, 11, 63, 98, 99, 100, 101, 52, 102, 46, 47, 48, 49, 53, 54, 55, 56, 131, 132, 133] rfl rfl
set_option maxRecDepth 20000 in
theorem gX5_step_X8_copy : GoodIn wsX5_step (wsV RX5 86 RX8 yX8_copy wsX8_copy) := goodIn_app (goodIn_of _ (by decide +kernel)) ggX5_step_X8_copy
set_option maxRecDepth 20000 in
theorem ggX5_step_X8_divideSmall : GoodIn wsX5_step wsX8_divideSmall := goodIn_r _ [106, 51, 68, 50, 78, 79, 80, 48, 81, 52, 131, 132, 133] rfl rfl
set_option maxRecDepth 20000 in
theorem gX5_step_X8_divideSmall : GoodIn wsX5_step (wsV RX5 92 RX8 yX8_divideSmall wsX8_divideSmall) := goodIn_app (goodIn_of _ (by decide +kernel)) ggX5_step_X8_divideSmall
set_option maxRecDepth 20000 in
theorem ggX5_step_X8_multiply : GoodIn wsX5_step wsX8_multiply := goodIn_r _ [110, 51, 50, 111, 65, 66, 48, 67, 68, 69, 70, 71, 72, 73, 74, 75, 76, 77, 78, 79, 80, 81, 52, 131, 132, 133] rfl rfl
set_option maxRecDepth 20000 in
theorem gX5_step_X8_multiply : GoodIn wsX5_step (wsV RX5 101 RX8 yX8_multiply wsX8_multiply) := goodIn_app (goodIn_of _ (by decide +kernel)) ggX5_step_X8_multiply
theorem dX5_step_0 : decode cX5_step 0 = .ok (.aload_n 0, 1) := by decide +kernel
theorem dX5_step_1 : decode cX5_step 1 = .ok (.getfield 11, 3) := by decide +kernel
theorem dX5_step_4 : decode cX5_step 4 = .ok (.iload_n 3, 1) := by decide +kernel
theorem dX5_step_5 : decode cX5_step 5 = .ok (.iconst 1, 1) := by decide +kernel
theorem dX5_step_6 : decode cX5_step 6 = .ok (.isub, 1) := by decide +kernel
theorem dX5_step_7 : decode cX5_step 7 = .ok (.aaload, 1) := by decide +kernel
theorem dX5_step_8 : decode cX5_step 8 = .ok (.astore 4, 2) := by decide +kernel
theorem dX5_step_10 : decode cX5_step 10 = .ok (.aload_n 0, 1) := by decide +kernel
theorem dX5_step_11 : decode cX5_step 11 = .ok (.getfield 11, 3) := by decide +kernel
theorem dX5_step_14 : decode cX5_step 14 = .ok (.iload_n 3, 1) := by decide +kernel
theorem dX5_step_15 : decode cX5_step 15 = .ok (.aaload, 1) := by decide +kernel
theorem dX5_step_16 : decode cX5_step 16 = .ok (.astore 5, 2) := by decide +kernel
theorem dX5_step_18 : decode cX5_step 18 = .ok (.lconst 1, 1) := by decide +kernel
theorem dX5_step_19 : decode cX5_step 19 = .ok (.lstore 6, 2) := by decide +kernel
theorem dX5_step_21 : decode cX5_step 21 = .ok (.iconst 0, 1) := by decide +kernel
theorem dX5_step_22 : decode cX5_step 22 = .ok (.istore 8, 2) := by decide +kernel
theorem dX5_step_24 : decode cX5_step 24 = .ok (.iload 8, 2) := by decide +kernel
theorem dX5_step_26 : decode cX5_step 26 = .ok (.aload_n 1, 1) := by decide +kernel
theorem dX5_step_27 : decode cX5_step 27 = .ok (.getfield 60, 3) := by decide +kernel
theorem dX5_step_30 : decode cX5_step 30 = .ok (.if_icmp .ge 87, 3) := by decide +kernel
theorem dX5_step_33 : decode cX5_step 33 = .ok (.aload_n 2, 1) := by decide +kernel
theorem dX5_step_34 : decode cX5_step 34 = .ok (.aload_n 1, 1) := by decide +kernel
theorem dX5_step_35 : decode cX5_step 35 = .ok (.iload 8, 2) := by decide +kernel
theorem dX5_step_37 : decode cX5_step 37 = .ok (.iconst 0, 1) := by decide +kernel
theorem dX5_step_38 : decode cX5_step 38 = .ok (.aload 4, 2) := by decide +kernel
theorem dX5_step_40 : decode cX5_step 40 = .ok (.invokevirtual 63, 3) := by decide +kernel
theorem dX5_step_43 : decode cX5_step 43 = .ok (.istore 9, 2) := by decide +kernel
theorem dX5_step_45 : decode cX5_step 45 = .ok (.aload_n 1, 1) := by decide +kernel
theorem dX5_step_46 : decode cX5_step 46 = .ok (.iload 8, 2) := by decide +kernel
theorem dX5_step_48 : decode cX5_step 48 = .ok (.iload 9, 2) := by decide +kernel
theorem dX5_step_50 : decode cX5_step 50 = .ok (.invokevirtual 69, 3) := by decide +kernel
theorem dX5_step_53 : decode cX5_step 53 = .ok (.astore 10, 2) := by decide +kernel
theorem dX5_step_55 : decode cX5_step 55 = .ok (.aload_n 0, 1) := by decide +kernel
theorem dX5_step_56 : decode cX5_step 56 = .ok (.getfield 22, 3) := by decide +kernel
theorem dX5_step_59 : decode cX5_step 59 = .ok (.iload_n 3, 1) := by decide +kernel
theorem dX5_step_60 : decode cX5_step 60 = .ok (.aaload, 1) := by decide +kernel
theorem dX5_step_61 : decode cX5_step 61 = .ok (.iload 8, 2) := by decide +kernel
theorem dX5_step_63 : decode cX5_step 63 = .ok (.iload 9, 2) := by decide +kernel
theorem dX5_step_65 : decode cX5_step 65 = .ok (.iastore, 1) := by decide +kernel
theorem dX5_step_66 : decode cX5_step 66 = .ok (.lload 6, 2) := by decide +kernel
theorem dX5_step_68 : decode cX5_step 68 = .ok (.aload 10, 2) := by decide +kernel
theorem dX5_step_70 : decode cX5_step 70 = .ok (.getfield 73, 3) := by decide +kernel
theorem dX5_step_73 : decode cX5_step 73 = .ok (.i2l, 1) := by decide +kernel
theorem dX5_step_74 : decode cX5_step 74 = .ok (.lmul, 1) := by decide +kernel
theorem dX5_step_75 : decode cX5_step 75 = .ok (.lstore 6, 2) := by decide +kernel
theorem dX5_step_77 : decode cX5_step 77 = .ok (.aload 5, 2) := by decide +kernel
theorem dX5_step_79 : decode cX5_step 79 = .ok (.getfield 37, 3) := by decide +kernel
theorem dX5_step_82 : decode cX5_step 82 = .ok (.iload 8, 2) := by decide +kernel
theorem dX5_step_84 : decode cX5_step 84 = .ok (.aaload, 1) := by decide +kernel
theorem dX5_step_85 : decode cX5_step 85 = .ok (.aload_n 2, 1) := by decide +kernel
theorem dX5_step_86 : decode cX5_step 86 = .ok (.getfield 78, 3) := by decide +kernel
theorem dX5_step_89 : decode cX5_step 89 = .ok (.getfield 82, 3) := by decide +kernel
theorem dX5_step_92 : decode cX5_step 92 = .ok (.invokevirtual 86, 3) := by decide +kernel
theorem dX5_step_95 : decode cX5_step 95 = .ok (.aload 5, 2) := by decide +kernel
theorem dX5_step_97 : decode cX5_step 97 = .ok (.getfield 37, 3) := by decide +kernel
theorem dX5_step_100 : decode cX5_step 100 = .ok (.iload 8, 2) := by decide +kernel
theorem dX5_step_102 : decode cX5_step 102 = .ok (.aaload, 1) := by decide +kernel
theorem dX5_step_103 : decode cX5_step 103 = .ok (.aload 10, 2) := by decide +kernel
theorem dX5_step_105 : decode cX5_step 105 = .ok (.getfield 90, 3) := by decide +kernel
theorem dX5_step_108 : decode cX5_step 108 = .ok (.invokevirtual 92, 3) := by decide +kernel
theorem dX5_step_111 : decode cX5_step 111 = .ok (.iinc 8 1, 3) := by decide +kernel
theorem dX5_step_114 : decode cX5_step 114 = .ok (.goto (-90), 3) := by decide +kernel
theorem dX5_step_117 : decode cX5_step 117 = .ok (.iconst 0, 1) := by decide +kernel
theorem dX5_step_118 : decode cX5_step 118 = .ok (.istore 8, 2) := by decide +kernel
theorem dX5_step_120 : decode cX5_step 120 = .ok (.iload 8, 2) := by decide +kernel
theorem dX5_step_122 : decode cX5_step 122 = .ok (.aload_n 1, 1) := by decide +kernel
theorem dX5_step_123 : decode cX5_step 123 = .ok (.getfield 60, 3) := by decide +kernel
theorem dX5_step_126 : decode cX5_step 126 = .ok (.if_icmp .ge 50, 3) := by decide +kernel
theorem dX5_step_129 : decode cX5_step 129 = .ok (.aload_n 1, 1) := by decide +kernel
theorem dX5_step_130 : decode cX5_step 130 = .ok (.iload 8, 2) := by decide +kernel
theorem dX5_step_132 : decode cX5_step 132 = .ok (.aload_n 0, 1) := by decide +kernel
theorem dX5_step_133 : decode cX5_step 133 = .ok (.getfield 22, 3) := by decide +kernel
theorem dX5_step_136 : decode cX5_step 136 = .ok (.iload_n 3, 1) := by decide +kernel
theorem dX5_step_137 : decode cX5_step 137 = .ok (.aaload, 1) := by decide +kernel
theorem dX5_step_138 : decode cX5_step 138 = .ok (.iload 8, 2) := by decide +kernel
theorem dX5_step_140 : decode cX5_step 140 = .ok (.iaload, 1) := by decide +kernel
theorem dX5_step_141 : decode cX5_step 141 = .ok (.invokevirtual 69, 3) := by decide +kernel
theorem dX5_step_144 : decode cX5_step 144 = .ok (.getfield 73, 3) := by decide +kernel
theorem dX5_step_147 : decode cX5_step 147 = .ok (.iconst 1, 1) := by decide +kernel
theorem dX5_step_148 : decode cX5_step 148 = .ok (.invokestatic 95, 3) := by decide +kernel
theorem dX5_step_151 : decode cX5_step 151 = .ok (.istore 9, 2) := by decide +kernel
theorem dX5_step_153 : decode cX5_step 153 = .ok (.aload 5, 2) := by decide +kernel
theorem dX5_step_155 : decode cX5_step 155 = .ok (.getfield 37, 3) := by decide +kernel
theorem dX5_step_158 : decode cX5_step 158 = .ok (.iload 8, 2) := by decide +kernel
theorem dX5_step_160 : decode cX5_step 160 = .ok (.aaload, 1) := by decide +kernel
theorem dX5_step_161 : decode cX5_step 161 = .ok (.lload 6, 2) := by decide +kernel
theorem dX5_step_163 : decode cX5_step 163 = .ok (.iload 9, 2) := by decide +kernel
theorem dX5_step_165 : decode cX5_step 165 = .ok (.i2l, 1) := by decide +kernel
theorem dX5_step_166 : decode cX5_step 166 = .ok (.ldiv, 1) := by decide +kernel
theorem dX5_step_167 : decode cX5_step 167 = .ok (.invokevirtual 101, 3) := by decide +kernel
theorem dX5_step_170 : decode cX5_step 170 = .ok (.iinc 8 1, 3) := by decide +kernel
theorem dX5_step_173 : decode cX5_step 173 = .ok (.goto (-53), 3) := by decide +kernel
theorem dX5_step_176 : decode cX5_step 176 = .ok (.aload 5, 2) := by decide +kernel
theorem dX5_step_178 : decode cX5_step 178 = .ok (.getfield 46, 3) := by decide +kernel
theorem dX5_step_181 : decode cX5_step 181 = .ok (.aload 4, 2) := by decide +kernel
theorem dX5_step_183 : decode cX5_step 183 = .ok (.getfield 46, 3) := by decide +kernel
theorem dX5_step_186 : decode cX5_step 186 = .ok (.invokevirtual 86, 3) := by decide +kernel
theorem dX5_step_189 : decode cX5_step 189 = .ok (.aload 5, 2) := by decide +kernel
theorem dX5_step_191 : decode cX5_step 191 = .ok (.getfield 46, 3) := by decide +kernel
theorem dX5_step_194 : decode cX5_step 194 = .ok (.aload_n 1, 1) := by decide +kernel
theorem dX5_step_195 : decode cX5_step 195 = .ok (.getfield 104, 3) := by decide +kernel
theorem dX5_step_198 : decode cX5_step 198 = .ok (.i2l, 1) := by decide +kernel
theorem dX5_step_199 : decode cX5_step 199 = .ok (.invokevirtual 101, 3) := by decide +kernel
theorem dX5_step_202 : decode cX5_step 202 = .ok (.aload 5, 2) := by decide +kernel
theorem dX5_step_204 : decode cX5_step 204 = .ok (.getfield 46, 3) := by decide +kernel
theorem dX5_step_207 : decode cX5_step 207 = .ok (.lload 6, 2) := by decide +kernel
theorem dX5_step_209 : decode cX5_step 209 = .ok (.invokevirtual 101, 3) := by decide +kernel
theorem dX5_step_212 : decode cX5_step 212 = .ok (.return_, 1) := by decide +kernel
set_option maxRecDepth 20000 in
theorem ggX6_init_X0_init : GoodIn wsX6_init wsX0_init := goodIn_r _ [15, 16, 2, 3, 4, 17, 18, 19, 20, 26, 27, 28, 29] rfl rfl
set_option maxRecDepth 20000 in
theorem gX6_init_X0_init : GoodIn wsX6_init (wsX0_init) := ggX6_init_X0_init
theorem dX6_init_0 : decode cX6_init 0 = .ok (.aload_n 0, 1) := by decide +kernel
theorem dX6_init_1 : decode cX6_init 1 = .ok (.invokespecial 3, 3) := by decide +kernel
theorem dX6_init_4 : decode cX6_init 4 = .ok (.aload_n 0, 1) := by decide +kernel
theorem dX6_init_5 : decode cX6_init 5 = .ok (.bipush 6, 2) := by decide +kernel
theorem dX6_init_7 : decode cX6_init 7 = .ok (.newarray .int, 2) := by decide +kernel
theorem dX6_init_9 : decode cX6_init 9 = .ok (.putfield 9, 3) := by decide +kernel
theorem dX6_init_12 : decode cX6_init 12 = .ok (.aload_n 0, 1) := by decide +kernel
theorem dX6_init_13 : decode cX6_init 13 = .ok (.bipush 24, 2) := by decide +kernel
theorem dX6_init_15 : decode cX6_init 15 = .ok (.anewarray 15, 3) := by decide +kernel
theorem dX6_init_18 : decode cX6_init 18 = .ok (.putfield 17, 3) := by decide +kernel
theorem dX6_init_21 : decode cX6_init 21 = .ok (.iconst 0, 1) := by decide +kernel
theorem dX6_init_22 : decode cX6_init 22 = .ok (.istore_n 1, 1) := by decide +kernel
theorem dX6_init_23 : decode cX6_init 23 = .ok (.iload_n 1, 1) := by decide +kernel
theorem dX6_init_24 : decode cX6_init 24 = .ok (.aload_n 0, 1) := by decide +kernel
theorem dX6_init_25 : decode cX6_init 25 = .ok (.getfield 17, 3) := by decide +kernel
theorem dX6_init_28 : decode cX6_init 28 = .ok (.arraylength, 1) := by decide +kernel
theorem dX6_init_29 : decode cX6_init 29 = .ok (.if_icmp .ge 22, 3) := by decide +kernel
theorem dX6_init_32 : decode cX6_init 32 = .ok (.aload_n 0, 1) := by decide +kernel
theorem dX6_init_33 : decode cX6_init 33 = .ok (.getfield 17, 3) := by decide +kernel
theorem dX6_init_36 : decode cX6_init 36 = .ok (.iload_n 1, 1) := by decide +kernel
theorem dX6_init_37 : decode cX6_init 37 = .ok (.new 15, 3) := by decide +kernel
theorem dX6_init_40 : decode cX6_init 40 = .ok (.dup, 1) := by decide +kernel
theorem dX6_init_41 : decode cX6_init 41 = .ok (.invokespecial 21, 3) := by decide +kernel
theorem dX6_init_44 : decode cX6_init 44 = .ok (.aastore, 1) := by decide +kernel
theorem dX6_init_45 : decode cX6_init 45 = .ok (.iinc 1 1, 3) := by decide +kernel
theorem dX6_init_48 : decode cX6_init 48 = .ok (.goto (-25), 3) := by decide +kernel
theorem dX6_init_51 : decode cX6_init 51 = .ok (.aload_n 0, 1) := by decide +kernel
theorem dX6_init_52 : decode cX6_init 52 = .ok (.iconst 0, 1) := by decide +kernel
theorem dX6_init_53 : decode cX6_init 53 = .ok (.putfield 22, 3) := by decide +kernel
theorem dX6_init_56 : decode cX6_init 56 = .ok (.aload_n 0, 1) := by decide +kernel
theorem dX6_init_57 : decode cX6_init 57 = .ok (.iconst 1, 1) := by decide +kernel
theorem dX6_init_58 : decode cX6_init 58 = .ok (.putfield 26, 3) := by decide +kernel
theorem dX6_init_61 : decode cX6_init 61 = .ok (.aload_n 0, 1) := by decide +kernel
theorem dX6_init_62 : decode cX6_init 62 = .ok (.iconst 2, 1) := by decide +kernel
theorem dX6_init_63 : decode cX6_init 63 = .ok (.putfield 29, 3) := by decide +kernel
theorem dX6_init_66 : decode cX6_init 66 = .ok (.return_, 1) := by decide +kernel
theorem dX6_hasState_0 : decode cX6_hasState 0 = .ok (.iload_n 1, 1) := by decide +kernel
theorem dX6_hasState_1 : decode cX6_hasState 1 = .ok (.ifCond .lt 15, 3) := by decide +kernel
theorem dX6_hasState_4 : decode cX6_hasState 4 = .ok (.iload_n 1, 1) := by decide +kernel
theorem dX6_hasState_5 : decode cX6_hasState 5 = .ok (.aload_n 0, 1) := by decide +kernel
theorem dX6_hasState_6 : decode cX6_hasState 6 = .ok (.getfield 22, 3) := by decide +kernel
theorem dX6_hasState_9 : decode cX6_hasState 9 = .ok (.if_icmp .ge 7, 3) := by decide +kernel
theorem dX6_hasState_12 : decode cX6_hasState 12 = .ok (.iconst 1, 1) := by decide +kernel
theorem dX6_hasState_13 : decode cX6_hasState 13 = .ok (.goto 4, 3) := by decide +kernel
theorem dX6_hasState_16 : decode cX6_hasState 16 = .ok (.iconst 0, 1) := by decide +kernel
theorem dX6_hasState_17 : decode cX6_hasState 17 = .ok (.ireturn, 1) := by decide +kernel
set_option maxRecDepth 20000 in
theorem ggX6_hasAction_X6_hasState : GoodIn wsX6_hasAction wsX6_hasState := goodIn_r _ [6, 7, 8, 9, 10, 11, 12] rfl rfl
set_option maxRecDepth 20000 in
theorem gX6_hasAction_X6_hasState : GoodIn wsX6_hasAction (wsV RX6 32 RX6 yX6_hasState wsX6_hasState) := goodIn_app (goodIn_of _ (by decide +kernel)) ggX6_hasAction_X6_hasState
theorem dX6_hasAction_0 : decode cX6_hasAction 0 = .ok (.aload_n 0, 1) := by decide +kernel
theorem dX6_hasAction_1 : decode cX6_hasAction 1 = .ok (.iload_n 1, 1) := by decide +kernel
theorem dX6_hasAction_2 : decode cX6_hasAction 2 = .ok (.invokevirtual 32, 3) := by decide +kernel
theorem dX6_hasAction_5 : decode cX6_hasAction 5 = .ok (.ifCond .eq 21, 3) := by decide +kernel
theorem dX6_hasAction_8 : decode cX6_hasAction 8 = .ok (.iload_n 2, 1) := by decide +kernel
theorem dX6_hasAction_9 : decode cX6_hasAction 9 = .ok (.ifCond .lt 17, 3) := by decide +kernel
theorem dX6_hasAction_12 : decode cX6_hasAction 12 = .ok (.iload_n 2, 1) := by decide +kernel
theorem dX6_hasAction_13 : decode cX6_hasAction 13 = .ok (.aload_n 0, 1) := by decide +kernel
theorem dX6_hasAction_14 : decode cX6_hasAction 14 = .ok (.getfield 9, 3) := by decide +kernel
theorem dX6_hasAction_17 : decode cX6_hasAction 17 = .ok (.iload_n 1, 1) := by decide +kernel
theorem dX6_hasAction_18 : decode cX6_hasAction 18 = .ok (.iaload, 1) := by decide +kernel
theorem dX6_hasAction_19 : decode cX6_hasAction 19 = .ok (.if_icmp .ge 7, 3) := by decide +kernel
theorem dX6_hasAction_22 : decode cX6_hasAction 22 = .ok (.iconst 1, 1) := by decide +kernel
theorem dX6_hasAction_23 : decode cX6_hasAction 23 = .ok (.goto 4, 3) := by decide +kernel
theorem dX6_hasAction_26 : decode cX6_hasAction 26 = .ok (.iconst 0, 1) := by decide +kernel
theorem dX6_hasAction_27 : decode cX6_hasAction 27 = .ok (.ireturn, 1) := by decide +kernel
theorem dX6_find_0 : decode cX6_find 0 = .ok (.aload_n 0, 1) := by decide +kernel
theorem dX6_find_1 : decode cX6_find 1 = .ok (.getfield 17, 3) := by decide +kernel
theorem dX6_find_4 : decode cX6_find 4 = .ok (.iload_n 1, 1) := by decide +kernel
theorem dX6_find_5 : decode cX6_find 5 = .ok (.iconst 4, 1) := by decide +kernel
theorem dX6_find_6 : decode cX6_find 6 = .ok (.imul, 1) := by decide +kernel
theorem dX6_find_7 : decode cX6_find 7 = .ok (.iload_n 2, 1) := by decide +kernel
theorem dX6_find_8 : decode cX6_find 8 = .ok (.iadd, 1) := by decide +kernel
theorem dX6_find_9 : decode cX6_find 9 = .ok (.aaload, 1) := by decide +kernel
theorem dX6_find_10 : decode cX6_find 10 = .ok (.areturn, 1) := by decide +kernel
set_option maxRecDepth 20000 in
theorem ggX6_countActions_X6_find : GoodIn wsX6_countActions wsX6_find := goodIn_r _ [8, 9, 10, 11, 12, 13, 14] rfl rfl
set_option maxRecDepth 20000 in
theorem gX6_countActions_X6_find : GoodIn wsX6_countActions (wsV RX6 36 RX6 yX6_find wsX6_find) := goodIn_app (goodIn_of _ (by decide +kernel)) ggX6_countActions_X6_find
theorem dX6_countActions_0 : decode cX6_countActions 0 = .ok (.iconst 0, 1) := by decide +kernel
theorem dX6_countActions_1 : decode cX6_countActions 1 = .ok (.istore_n 2, 1) := by decide +kernel
theorem dX6_countActions_2 : decode cX6_countActions 2 = .ok (.iconst 0, 1) := by decide +kernel
theorem dX6_countActions_3 : decode cX6_countActions 3 = .ok (.istore_n 3, 1) := by decide +kernel
theorem dX6_countActions_4 : decode cX6_countActions 4 = .ok (.iload_n 3, 1) := by decide +kernel
theorem dX6_countActions_5 : decode cX6_countActions 5 = .ok (.aload_n 0, 1) := by decide +kernel
theorem dX6_countActions_6 : decode cX6_countActions 6 = .ok (.getfield 22, 3) := by decide +kernel
theorem dX6_countActions_9 : decode cX6_countActions 9 = .ok (.if_icmp .ge 49, 3) := by decide +kernel
theorem dX6_countActions_12 : decode cX6_countActions 12 = .ok (.iconst 0, 1) := by decide +kernel
theorem dX6_countActions_13 : decode cX6_countActions 13 = .ok (.istore 4, 2) := by decide +kernel
theorem dX6_countActions_15 : decode cX6_countActions 15 = .ok (.iload 4, 2) := by decide +kernel
theorem dX6_countActions_17 : decode cX6_countActions 17 = .ok (.aload_n 0, 1) := by decide +kernel
theorem dX6_countActions_18 : decode cX6_countActions 18 = .ok (.getfield 9, 3) := by decide +kernel
theorem dX6_countActions_21 : decode cX6_countActions 21 = .ok (.iload_n 3, 1) := by decide +kernel
theorem dX6_countActions_22 : decode cX6_countActions 22 = .ok (.iaload, 1) := by decide +kernel
theorem dX6_countActions_23 : decode cX6_countActions 23 = .ok (.if_icmp .ge 29, 3) := by decide +kernel
theorem dX6_countActions_26 : decode cX6_countActions 26 = .ok (.iload_n 1, 1) := by decide +kernel
theorem dX6_countActions_27 : decode cX6_countActions 27 = .ok (.ifCond .eq 16, 3) := by decide +kernel
theorem dX6_countActions_30 : decode cX6_countActions 30 = .ok (.aload_n 0, 1) := by decide +kernel
theorem dX6_countActions_31 : decode cX6_countActions 31 = .ok (.iload_n 3, 1) := by decide +kernel
theorem dX6_countActions_32 : decode cX6_countActions 32 = .ok (.iload 4, 2) := by decide +kernel
theorem dX6_countActions_34 : decode cX6_countActions 34 = .ok (.invokevirtual 36, 3) := by decide +kernel
theorem dX6_countActions_37 : decode cX6_countActions 37 = .ok (.getfield 40, 3) := by decide +kernel
theorem dX6_countActions_40 : decode cX6_countActions 40 = .ok (.ifCond .le 6, 3) := by decide +kernel
theorem dX6_countActions_43 : decode cX6_countActions 43 = .ok (.iinc 2 1, 3) := by decide +kernel
theorem dX6_countActions_46 : decode cX6_countActions 46 = .ok (.iinc 4 1, 3) := by decide +kernel
theorem dX6_countActions_49 : decode cX6_countActions 49 = .ok (.goto (-34), 3) := by decide +kernel
theorem dX6_countActions_52 : decode cX6_countActions 52 = .ok (.iinc 3 1, 3) := by decide +kernel
theorem dX6_countActions_55 : decode cX6_countActions 55 = .ok (.goto (-51), 3) := by decide +kernel
theorem dX6_countActions_58 : decode cX6_countActions 58 = .ok (.iload_n 2, 1) := by decide +kernel
theorem dX6_countActions_59 : decode cX6_countActions 59 = .ok (.ireturn, 1) := by decide +kernel
set_option maxRecDepth 20000 in
theorem ggX6_allReady_X6_countActions : GoodIn wsX6_allReady wsX6_countActions := goodIn_r _ [7, 1, 2, 8, 9, 10, 11, 6, 12, 13, 14, 15, 16, 17, 18, 19, 20, 21, 22] rfl rfl
set_option maxRecDepth 20000 in
theorem gX6_allReady_X6_countActions : GoodIn wsX6_allReady (wsV RX6 43 RX6 yX6_countActions wsX6_countActions) := goodIn_app (goodIn_of _ (by decide +kernel)) ggX6_allReady_X6_countActions
theorem dX6_allReady_0 : decode cX6_allReady 0 = .ok (.iconst 0, 1) := by decide +kernel
theorem dX6_allReady_1 : decode cX6_allReady 1 = .ok (.istore_n 1, 1) := by decide +kernel
theorem dX6_allReady_2 : decode cX6_allReady 2 = .ok (.iload_n 1, 1) := by decide +kernel
theorem dX6_allReady_3 : decode cX6_allReady 3 = .ok (.aload_n 0, 1) := by decide +kernel
theorem dX6_allReady_4 : decode cX6_allReady 4 = .ok (.getfield 22, 3) := by decide +kernel
theorem dX6_allReady_7 : decode cX6_allReady 7 = .ok (.if_icmp .ge 20, 3) := by decide +kernel
theorem dX6_allReady_10 : decode cX6_allReady 10 = .ok (.aload_n 0, 1) := by decide +kernel
theorem dX6_allReady_11 : decode cX6_allReady 11 = .ok (.getfield 9, 3) := by decide +kernel
theorem dX6_allReady_14 : decode cX6_allReady 14 = .ok (.iload_n 1, 1) := by decide +kernel
theorem dX6_allReady_15 : decode cX6_allReady 15 = .ok (.iaload, 1) := by decide +kernel
theorem dX6_allReady_16 : decode cX6_allReady 16 = .ok (.ifCond .ne 5, 3) := by decide +kernel
theorem dX6_allReady_19 : decode cX6_allReady 19 = .ok (.iconst 0, 1) := by decide +kernel
theorem dX6_allReady_20 : decode cX6_allReady 20 = .ok (.ireturn, 1) := by decide +kernel
theorem dX6_allReady_21 : decode cX6_allReady 21 = .ok (.iinc 1 1, 3) := by decide +kernel
theorem dX6_allReady_24 : decode cX6_allReady 24 = .ok (.goto (-22), 3) := by decide +kernel
theorem dX6_allReady_27 : decode cX6_allReady 27 = .ok (.aload_n 0, 1) := by decide +kernel
theorem dX6_allReady_28 : decode cX6_allReady 28 = .ok (.getfield 22, 3) := by decide +kernel
theorem dX6_allReady_31 : decode cX6_allReady 31 = .ok (.ifCond .le 20, 3) := by decide +kernel
theorem dX6_allReady_34 : decode cX6_allReady 34 = .ok (.aload_n 0, 1) := by decide +kernel
theorem dX6_allReady_35 : decode cX6_allReady 35 = .ok (.iconst 1, 1) := by decide +kernel
theorem dX6_allReady_36 : decode cX6_allReady 36 = .ok (.invokevirtual 43, 3) := by decide +kernel
theorem dX6_allReady_39 : decode cX6_allReady 39 = .ok (.aload_n 0, 1) := by decide +kernel
theorem dX6_allReady_40 : decode cX6_allReady 40 = .ok (.iconst 0, 1) := by decide +kernel
theorem dX6_allReady_41 : decode cX6_allReady 41 = .ok (.invokevirtual 43, 3) := by decide +kernel
theorem dX6_allReady_44 : decode cX6_allReady 44 = .ok (.if_icmp .ne 7, 3) := by decide +kernel
theorem dX6_allReady_47 : decode cX6_allReady 47 = .ok (.iconst 1, 1) := by decide +kernel
theorem dX6_allReady_48 : decode cX6_allReady 48 = .ok (.goto 4, 3) := by decide +kernel
theorem dX6_allReady_51 : decode cX6_allReady 51 = .ok (.iconst 0, 1) := by decide +kernel
theorem dX6_allReady_52 : decode cX6_allReady 52 = .ok (.ireturn, 1) := by decide +kernel
set_option maxRecDepth 20000 in
theorem ggX6_commonRewardBelow_X6_find : GoodIn wsX6_commonRewardBelow wsX6_find := goodIn_r _ [8, 9, 17, 18, 19, 20, 21] rfl rfl
set_option maxRecDepth 20000 in
theorem gX6_commonRewardBelow_X6_find : GoodIn wsX6_commonRewardBelow (wsV RX6 36 RX6 yX6_find wsX6_find) := goodIn_app (goodIn_of _ (by decide +kernel)) ggX6_commonRewardBelow_X6_find
set_option maxRecDepth 20000 in
theorem ggX6_commonRewardBelow_X6_commonDivisor : GoodIn wsX6_commonRewardBelow wsX6_commonDivisor := goodIn_r _ [12, 13, 14, 15, 16] rfl rfl
set_option maxRecDepth 20000 in
theorem gX6_commonRewardBelow_X6_commonDivisor : GoodIn wsX6_commonRewardBelow (va_wsS RX6 50 yX6_commonDivisor wsX6_commonDivisor) := goodIn_app (goodIn_of _ (by decide +kernel)) ggX6_commonRewardBelow_X6_commonDivisor
theorem dX6_commonRewardBelow_0 : decode cX6_commonRewardBelow 0 = .ok (.iconst 1, 1) := by decide +kernel
theorem dX6_commonRewardBelow_1 : decode cX6_commonRewardBelow 1 = .ok (.istore_n 1, 1) := by decide +kernel
theorem dX6_commonRewardBelow_2 : decode cX6_commonRewardBelow 2 = .ok (.iconst 0, 1) := by decide +kernel
theorem dX6_commonRewardBelow_3 : decode cX6_commonRewardBelow 3 = .ok (.istore_n 2, 1) := by decide +kernel
theorem dX6_commonRewardBelow_4 : decode cX6_commonRewardBelow 4 = .ok (.iload_n 2, 1) := by decide +kernel
theorem dX6_commonRewardBelow_5 : decode cX6_commonRewardBelow 5 = .ok (.aload_n 0, 1) := by decide +kernel
theorem dX6_commonRewardBelow_6 : decode cX6_commonRewardBelow 6 = .ok (.getfield 22, 3) := by decide +kernel
theorem dX6_commonRewardBelow_9 : decode cX6_commonRewardBelow 9 = .ok (.if_icmp .ge 50, 3) := by decide +kernel
theorem dX6_commonRewardBelow_12 : decode cX6_commonRewardBelow 12 = .ok (.iconst 0, 1) := by decide +kernel
theorem dX6_commonRewardBelow_13 : decode cX6_commonRewardBelow 13 = .ok (.istore_n 3, 1) := by decide +kernel
theorem dX6_commonRewardBelow_14 : decode cX6_commonRewardBelow 14 = .ok (.iload_n 3, 1) := by decide +kernel
theorem dX6_commonRewardBelow_15 : decode cX6_commonRewardBelow 15 = .ok (.aload_n 0, 1) := by decide +kernel
theorem dX6_commonRewardBelow_16 : decode cX6_commonRewardBelow 16 = .ok (.getfield 9, 3) := by decide +kernel
theorem dX6_commonRewardBelow_19 : decode cX6_commonRewardBelow 19 = .ok (.iload_n 2, 1) := by decide +kernel
theorem dX6_commonRewardBelow_20 : decode cX6_commonRewardBelow 20 = .ok (.iaload, 1) := by decide +kernel
theorem dX6_commonRewardBelow_21 : decode cX6_commonRewardBelow 21 = .ok (.if_icmp .ge 32, 3) := by decide +kernel
theorem dX6_commonRewardBelow_24 : decode cX6_commonRewardBelow 24 = .ok (.aload_n 0, 1) := by decide +kernel
theorem dX6_commonRewardBelow_25 : decode cX6_commonRewardBelow 25 = .ok (.iload_n 2, 1) := by decide +kernel
theorem dX6_commonRewardBelow_26 : decode cX6_commonRewardBelow 26 = .ok (.iload_n 3, 1) := by decide +kernel
theorem dX6_commonRewardBelow_27 : decode cX6_commonRewardBelow 27 = .ok (.invokevirtual 36, 3) := by decide +kernel
theorem dX6_commonRewardBelow_30 : decode cX6_commonRewardBelow 30 = .ok (.getfield 47, 3) := by decide +kernel
theorem dX6_commonRewardBelow_33 : decode cX6_commonRewardBelow 33 = .ok (.istore 4, 2) := by decide +kernel
theorem dX6_commonRewardBelow_35 : decode cX6_commonRewardBelow 35 = .ok (.iload_n 1, 1) := by decide +kernel
theorem dX6_commonRewardBelow_36 : decode cX6_commonRewardBelow 36 = .ok (.iload 4, 2) := by decide +kernel
theorem dX6_commonRewardBelow_38 : decode cX6_commonRewardBelow 38 = .ok (.iload_n 1, 1) := by decide +kernel
theorem dX6_commonRewardBelow_39 : decode cX6_commonRewardBelow 39 = .ok (.iload 4, 2) := by decide +kernel
theorem dX6_commonRewardBelow_41 : decode cX6_commonRewardBelow 41 = .ok (.invokestatic 50, 3) := by decide +kernel
theorem dX6_commonRewardBelow_44 : decode cX6_commonRewardBelow 44 = .ok (.idiv, 1) := by decide +kernel
theorem dX6_commonRewardBelow_45 : decode cX6_commonRewardBelow 45 = .ok (.imul, 1) := by decide +kernel
theorem dX6_commonRewardBelow_46 : decode cX6_commonRewardBelow 46 = .ok (.istore_n 1, 1) := by decide +kernel
theorem dX6_commonRewardBelow_47 : decode cX6_commonRewardBelow 47 = .ok (.iinc 3 1, 3) := by decide +kernel
theorem dX6_commonRewardBelow_50 : decode cX6_commonRewardBelow 50 = .ok (.goto (-36), 3) := by decide +kernel
theorem dX6_commonRewardBelow_53 : decode cX6_commonRewardBelow 53 = .ok (.iinc 2 1, 3) := by decide +kernel
theorem dX6_commonRewardBelow_56 : decode cX6_commonRewardBelow 56 = .ok (.goto (-52), 3) := by decide +kernel
theorem dX6_commonRewardBelow_59 : decode cX6_commonRewardBelow 59 = .ok (.iload_n 1, 1) := by decide +kernel
theorem dX6_commonRewardBelow_60 : decode cX6_commonRewardBelow 60 = .ok (.ireturn, 1) := by decide +kernel
theorem dX6_commonDivisor_0 : decode cX6_commonDivisor 0 = .ok (.iload_n 1, 1) := by decide +kernel
theorem dX6_commonDivisor_1 : decode cX6_commonDivisor 1 = .ok (.istore_n 2, 1) := by decide +kernel
theorem dX6_commonDivisor_2 : decode cX6_commonDivisor 2 = .ok (.iload_n 2, 1) := by decide +kernel
theorem dX6_commonDivisor_3 : decode cX6_commonDivisor 3 = .ok (.iconst 1, 1) := by decide +kernel
theorem dX6_commonDivisor_4 : decode cX6_commonDivisor 4 = .ok (.if_icmp .le 21, 3) := by decide +kernel
theorem dX6_commonDivisor_7 : decode cX6_commonDivisor 7 = .ok (.iload_n 0, 1) := by decide +kernel
theorem dX6_commonDivisor_8 : decode cX6_commonDivisor 8 = .ok (.iload_n 2, 1) := by decide +kernel
theorem dX6_commonDivisor_9 : decode cX6_commonDivisor 9 = .ok (.irem, 1) := by decide +kernel
theorem dX6_commonDivisor_10 : decode cX6_commonDivisor 10 = .ok (.ifCond .ne 9, 3) := by decide +kernel
theorem dX6_commonDivisor_13 : decode cX6_commonDivisor 13 = .ok (.iload_n 1, 1) := by decide +kernel
theorem dX6_commonDivisor_14 : decode cX6_commonDivisor 14 = .ok (.iload_n 2, 1) := by decide +kernel
theorem dX6_commonDivisor_15 : decode cX6_commonDivisor 15 = .ok (.irem, 1) := by decide +kernel
theorem dX6_commonDivisor_16 : decode cX6_commonDivisor 16 = .ok (.ifCond .eq 9, 3) := by decide +kernel
theorem dX6_commonDivisor_19 : decode cX6_commonDivisor 19 = .ok (.iinc 2 (-1), 3) := by decide +kernel
theorem dX6_commonDivisor_22 : decode cX6_commonDivisor 22 = .ok (.goto (-20), 3) := by decide +kernel
theorem dX6_commonDivisor_25 : decode cX6_commonDivisor 25 = .ok (.iload_n 2, 1) := by decide +kernel
theorem dX6_commonDivisor_26 : decode cX6_commonDivisor 26 = .ok (.iconst 1, 1) := by decide +kernel
theorem dX6_commonDivisor_27 : decode cX6_commonDivisor 27 = .ok (.invokestatic 54, 3) := by decide +kernel
theorem dX6_commonDivisor_30 : decode cX6_commonDivisor 30 = .ok (.ireturn, 1) := by decide +kernel
set_option maxRecDepth 20000 in
theorem ggX7_init_X8_init : GoodIn wsX7_init wsX8_init := goodIn_r _ [11, 12, 2, 3, 13, 14, 15, 16, 19, 20, 21] rfl rfl
set_option maxRecDepth 20000 in
theorem gX7_init_X8_init : GoodIn wsX7_init (wsX8_init) := ggX7_init_X8_init
theorem dX7_init_0 : decode cX7_init 0 = .ok (.aload_n 0, 1) := by decide +kernel
theorem dX7_init_1 : decode cX7_init 1 = .ok (.invokespecial 3, 3) := by decide +kernel
theorem dX7_init_4 : decode cX7_init 4 = .ok (.aload_n 0, 1) := by decide +kernel
theorem dX7_init_5 : decode cX7_init 5 = .ok (.bipush 6, 2) := by decide +kernel
theorem dX7_init_7 : decode cX7_init 7 = .ok (.anewarray 9, 3) := by decide +kernel
theorem dX7_init_10 : decode cX7_init 10 = .ok (.putfield 11, 3) := by decide +kernel
theorem dX7_init_13 : decode cX7_init 13 = .ok (.iconst 0, 1) := by decide +kernel
theorem dX7_init_14 : decode cX7_init 14 = .ok (.istore_n 2, 1) := by decide +kernel
theorem dX7_init_15 : decode cX7_init 15 = .ok (.iload_n 2, 1) := by decide +kernel
theorem dX7_init_16 : decode cX7_init 16 = .ok (.bipush 6, 2) := by decide +kernel
theorem dX7_init_18 : decode cX7_init 18 = .ok (.if_icmp .ge 23, 3) := by decide +kernel
theorem dX7_init_21 : decode cX7_init 21 = .ok (.aload_n 0, 1) := by decide +kernel
theorem dX7_init_22 : decode cX7_init 22 = .ok (.getfield 11, 3) := by decide +kernel
theorem dX7_init_25 : decode cX7_init 25 = .ok (.iload_n 2, 1) := by decide +kernel
theorem dX7_init_26 : decode cX7_init 26 = .ok (.new 9, 3) := by decide +kernel
theorem dX7_init_29 : decode cX7_init 29 = .ok (.dup, 1) := by decide +kernel
theorem dX7_init_30 : decode cX7_init 30 = .ok (.iload_n 1, 1) := by decide +kernel
theorem dX7_init_31 : decode cX7_init 31 = .ok (.invokespecial 17, 3) := by decide +kernel
theorem dX7_init_34 : decode cX7_init 34 = .ok (.aastore, 1) := by decide +kernel
theorem dX7_init_35 : decode cX7_init 35 = .ok (.iinc 2 1, 3) := by decide +kernel
theorem dX7_init_38 : decode cX7_init 38 = .ok (.goto (-23), 3) := by decide +kernel
theorem dX7_init_41 : decode cX7_init 41 = .ok (.aload_n 0, 1) := by decide +kernel
theorem dX7_init_42 : decode cX7_init 42 = .ok (.new 9, 3) := by decide +kernel
theorem dX7_init_45 : decode cX7_init 45 = .ok (.dup, 1) := by decide +kernel
theorem dX7_init_46 : decode cX7_init 46 = .ok (.iload_n 1, 1) := by decide +kernel
theorem dX7_init_47 : decode cX7_init 47 = .ok (.invokespecial 17, 3) := by decide +kernel
theorem dX7_init_50 : decode cX7_init 50 = .ok (.putfield 20, 3) := by decide +kernel
theorem dX7_init_53 : decode cX7_init 53 = .ok (.return_, 1) := by decide +kernel
