theorem dX8_init_0 : decode cX8_init 0 = .ok (.aload_n 0, 1) := by decide +kernel
theorem dX8_init_1 : decode cX8_init 1 = .ok (.invokespecial 1, 3) := by decide +kernel
theorem dX8_init_4 : decode cX8_init 4 = .ok (.aload_n 0, 1) := by decide +kernel
theorem dX8_init_5 : decode cX8_init 5 = .ok (.iload_n 1, 1) := by decide +kernel
theorem dX8_init_6 : decode cX8_init 6 = .ok (.newarray .long, 2) := by decide +kernel
theorem dX8_init_8 : decode cX8_init 8 = .ok (.putfield 7, 3) := by decide +kernel
theorem dX8_init_11 : decode cX8_init 11 = .ok (.aload_n 0, 1) := by decide +kernel
theorem dX8_init_12 : decode cX8_init 12 = .ok (.iconst 0, 1) := by decide +kernel
theorem dX8_init_13 : decode cX8_init 13 = .ok (.putfield 13, 3) := by decide +kernel
theorem dX8_init_16 : decode cX8_init 16 = .ok (.aload_n 0, 1) := by decide +kernel
theorem dX8_init_17 : decode cX8_init 17 = .ok (.iconst 0, 1) := by decide +kernel
theorem dX8_init_18 : decode cX8_init 18 = .ok (.putfield 17, 3) := by decide +kernel
theorem dX8_init_21 : decode cX8_init 21 = .ok (.return_, 1) := by decide +kernel
set_option maxRecDepth 20000 in
theorem ggX8_clear_J7_fill_d0a16 : GoodIn wsX8_clear wsJ7_fill_d0a16 := goodIn_r _ [7] rfl rfl
set_option maxRecDepth 20000 in
theorem gX8_clear_J7_fill_d0a16 : GoodIn wsX8_clear (va_wsS RX8 20 yJ7_fill_d0a16 wsJ7_fill_d0a16) := goodIn_app (goodIn_of _ (by decide +kernel)) ggX8_clear_J7_fill_d0a16
theorem dX8_clear_0 : decode cX8_clear 0 = .ok (.aload_n 0, 1) := by decide +kernel
theorem dX8_clear_1 : decode cX8_clear 1 = .ok (.getfield 7, 3) := by decide +kernel
theorem dX8_clear_4 : decode cX8_clear 4 = .ok (.lconst 0, 1) := by decide +kernel
theorem dX8_clear_5 : decode cX8_clear 5 = .ok (.invokestatic 20, 3) := by decide +kernel
theorem dX8_clear_8 : decode cX8_clear 8 = .ok (.aload_n 0, 1) := by decide +kernel
theorem dX8_clear_9 : decode cX8_clear 9 = .ok (.iconst 0, 1) := by decide +kernel
theorem dX8_clear_10 : decode cX8_clear 10 = .ok (.putfield 13, 3) := by decide +kernel
theorem dX8_clear_13 : decode cX8_clear 13 = .ok (.aload_n 0, 1) := by decide +kernel
theorem dX8_clear_14 : decode cX8_clear 14 = .ok (.iconst 0, 1) := by decide +kernel
theorem dX8_clear_15 : decode cX8_clear 15 = .ok (.putfield 17, 3) := by decide +kernel
theorem dX8_clear_18 : decode cX8_clear 18 = .ok (.return_, 1) := by decide +kernel
set_option maxRecDepth 20000 in
theorem ggX8_put_X8_clear : GoodIn wsX8_put wsX8_clear := goodIn_r _ [6, 1, 7, 8, 9, 10, 11, 12, 31, 32, 33] rfl rfl
set_option maxRecDepth 20000 in
theorem gX8_put_X8_clear : GoodIn wsX8_put (wsV RX8 26 RX8 yX8_clear wsX8_clear) := goodIn_app (goodIn_of _ (by decide +kernel)) ggX8_put_X8_clear
set_option maxRecDepth 20000 in
theorem ggX8_put_X8_settle : GoodIn wsX8_put wsX8_settle := goodIn_r _ [16, 1, 17, 18, 19, 20, 21, 22, 23, 24, 5, 25, 26, 27, 28, 29, 30, 7, 8, 31, 32, 33] rfl rfl
set_option maxRecDepth 20000 in
theorem gX8_put_X8_settle : GoodIn wsX8_put (wsV RX8 29 RX8 yX8_settle wsX8_settle) := goodIn_app (goodIn_of _ (by decide +kernel)) ggX8_put_X8_settle
theorem dX8_put_0 : decode cX8_put 0 = .ok (.aload_n 0, 1) := by decide +kernel
theorem dX8_put_1 : decode cX8_put 1 = .ok (.invokevirtual 26, 3) := by decide +kernel
theorem dX8_put_4 : decode cX8_put 4 = .ok (.aload_n 0, 1) := by decide +kernel
theorem dX8_put_5 : decode cX8_put 5 = .ok (.getfield 7, 3) := by decide +kernel
theorem dX8_put_8 : decode cX8_put 8 = .ok (.iconst 0, 1) := by decide +kernel
theorem dX8_put_9 : decode cX8_put 9 = .ok (.lload_n 1, 1) := by decide +kernel
theorem dX8_put_10 : decode cX8_put 10 = .ok (.lastore, 1) := by decide +kernel
theorem dX8_put_11 : decode cX8_put 11 = .ok (.aload_n 0, 1) := by decide +kernel
theorem dX8_put_12 : decode cX8_put 12 = .ok (.invokevirtual 29, 3) := by decide +kernel
theorem dX8_put_15 : decode cX8_put 15 = .ok (.return_, 1) := by decide +kernel
set_option maxRecDepth 20000 in
theorem ggX8_copy_X8_clear : GoodIn wsX8_copy wsX8_clear := goodIn_r _ [16, 2, 1, 11, 17, 18, 19, 20, 21, 22, 23] rfl rfl
set_option maxRecDepth 20000 in
theorem gX8_copy_X8_clear : GoodIn wsX8_copy (wsV RX8 26 RX8 yX8_clear wsX8_clear) := goodIn_app (goodIn_of _ (by decide +kernel)) ggX8_copy_X8_clear
theorem dX8_copy_0 : decode cX8_copy 0 = .ok (.aload_n 0, 1) := by decide +kernel
theorem dX8_copy_1 : decode cX8_copy 1 = .ok (.invokevirtual 26, 3) := by decide +kernel
theorem dX8_copy_4 : decode cX8_copy 4 = .ok (.aload_n 0, 1) := by decide +kernel
theorem dX8_copy_5 : decode cX8_copy 5 = .ok (.aload_n 1, 1) := by decide +kernel
theorem dX8_copy_6 : decode cX8_copy 6 = .ok (.getfield 13, 3) := by decide +kernel
theorem dX8_copy_9 : decode cX8_copy 9 = .ok (.aload_n 0, 1) := by decide +kernel
theorem dX8_copy_10 : decode cX8_copy 10 = .ok (.getfield 7, 3) := by decide +kernel
theorem dX8_copy_13 : decode cX8_copy 13 = .ok (.arraylength, 1) := by decide +kernel
theorem dX8_copy_14 : decode cX8_copy 14 = .ok (.invokestatic 32, 3) := by decide +kernel
theorem dX8_copy_17 : decode cX8_copy 17 = .ok (.putfield 13, 3) := by decide +kernel
theorem dX8_copy_20 : decode cX8_copy 20 = .ok (.aload_n 1, 1) := by decide +kernel
theorem dX8_copy_21 : decode cX8_copy 21 = .ok (.getfield 7, 3) := by decide +kernel
theorem dX8_copy_24 : decode cX8_copy 24 = .ok (.iconst 0, 1) := by decide +kernel
theorem dX8_copy_25 : decode cX8_copy 25 = .ok (.aload_n 0, 1) := by decide +kernel
theorem dX8_copy_26 : decode cX8_copy 26 = .ok (.getfield 7, 3) := by decide +kernel
theorem dX8_copy_29 : decode cX8_copy 29 = .ok (.iconst 0, 1) := by decide +kernel
theorem dX8_copy_30 : decode cX8_copy 30 = .ok (.aload_n 0, 1) := by decide +kernel
theorem dX8_copy_31 : decode cX8_copy 31 = .ok (.getfield 13, 3) := by decide +kernel
theorem dX8_copy_34 : decode cX8_copy 34 = .ok (.invokestatic 38, 3) := by decide +kernel
theorem dX8_copy_37 : decode cX8_copy 37 = .ok (.aload_n 0, 1) := by decide +kernel
theorem dX8_copy_38 : decode cX8_copy 38 = .ok (.aload_n 1, 1) := by decide +kernel
theorem dX8_copy_39 : decode cX8_copy 39 = .ok (.getfield 17, 3) := by decide +kernel
theorem dX8_copy_42 : decode cX8_copy 42 = .ok (.putfield 17, 3) := by decide +kernel
theorem dX8_copy_45 : decode cX8_copy 45 = .ok (.return_, 1) := by decide +kernel
theorem dX8_add_0 : decode cX8_add 0 = .ok (.aload_n 1, 1) := by decide +kernel
theorem dX8_add_1 : decode cX8_add 1 = .ok (.getfield 13, 3) := by decide +kernel
theorem dX8_add_4 : decode cX8_add 4 = .ok (.aload_n 0, 1) := by decide +kernel
theorem dX8_add_5 : decode cX8_add 5 = .ok (.getfield 7, 3) := by decide +kernel
theorem dX8_add_8 : decode cX8_add 8 = .ok (.arraylength, 1) := by decide +kernel
theorem dX8_add_9 : decode cX8_add 9 = .ok (.invokestatic 32, 3) := by decide +kernel
theorem dX8_add_12 : decode cX8_add 12 = .ok (.istore 4, 2) := by decide +kernel
theorem dX8_add_14 : decode cX8_add 14 = .ok (.iconst 0, 1) := by decide +kernel
theorem dX8_add_15 : decode cX8_add 15 = .ok (.istore 5, 2) := by decide +kernel
theorem dX8_add_17 : decode cX8_add 17 = .ok (.iload 5, 2) := by decide +kernel
theorem dX8_add_19 : decode cX8_add 19 = .ok (.iload 4, 2) := by decide +kernel
theorem dX8_add_21 : decode cX8_add 21 = .ok (.if_icmp .ge 28, 3) := by decide +kernel
theorem dX8_add_24 : decode cX8_add 24 = .ok (.aload_n 0, 1) := by decide +kernel
theorem dX8_add_25 : decode cX8_add 25 = .ok (.getfield 7, 3) := by decide +kernel
theorem dX8_add_28 : decode cX8_add 28 = .ok (.iload 5, 2) := by decide +kernel
theorem dX8_add_30 : decode cX8_add 30 = .ok (.dup2, 1) := by decide +kernel
theorem dX8_add_31 : decode cX8_add 31 = .ok (.laload, 1) := by decide +kernel
theorem dX8_add_32 : decode cX8_add 32 = .ok (.lload_n 2, 1) := by decide +kernel
theorem dX8_add_33 : decode cX8_add 33 = .ok (.aload_n 1, 1) := by decide +kernel
theorem dX8_add_34 : decode cX8_add 34 = .ok (.getfield 7, 3) := by decide +kernel
theorem dX8_add_37 : decode cX8_add 37 = .ok (.iload 5, 2) := by decide +kernel
theorem dX8_add_39 : decode cX8_add 39 = .ok (.laload, 1) := by decide +kernel
theorem dX8_add_40 : decode cX8_add 40 = .ok (.lmul, 1) := by decide +kernel
theorem dX8_add_41 : decode cX8_add 41 = .ok (.ladd, 1) := by decide +kernel
theorem dX8_add_42 : decode cX8_add 42 = .ok (.lastore, 1) := by decide +kernel
theorem dX8_add_43 : decode cX8_add 43 = .ok (.iinc 5 1, 3) := by decide +kernel
theorem dX8_add_46 : decode cX8_add 46 = .ok (.goto (-29), 3) := by decide +kernel
theorem dX8_add_49 : decode cX8_add 49 = .ok (.return_, 1) := by decide +kernel
set_option maxRecDepth 20000 in
theorem ggX8_multiply_X8_settle : GoodIn wsX8_multiply wsX8_settle := goodIn_r _ [7, 2, 8, 9, 10, 11, 12, 13, 14, 15, 6, 16, 17, 18, 19, 20, 21, 1, 22, 23, 24, 25] rfl rfl
set_option maxRecDepth 20000 in
theorem gX8_multiply_X8_settle : GoodIn wsX8_multiply (wsV RX8 29 RX8 yX8_settle wsX8_settle) := goodIn_app (goodIn_of _ (by decide +kernel)) ggX8_multiply_X8_settle
theorem dX8_multiply_0 : decode cX8_multiply 0 = .ok (.iconst 0, 1) := by decide +kernel
theorem dX8_multiply_1 : decode cX8_multiply 1 = .ok (.istore_n 3, 1) := by decide +kernel
theorem dX8_multiply_2 : decode cX8_multiply 2 = .ok (.iload_n 3, 1) := by decide +kernel
theorem dX8_multiply_3 : decode cX8_multiply 3 = .ok (.aload_n 0, 1) := by decide +kernel
theorem dX8_multiply_4 : decode cX8_multiply 4 = .ok (.getfield 13, 3) := by decide +kernel
theorem dX8_multiply_7 : decode cX8_multiply 7 = .ok (.if_icmp .ge 19, 3) := by decide +kernel
theorem dX8_multiply_10 : decode cX8_multiply 10 = .ok (.aload_n 0, 1) := by decide +kernel
theorem dX8_multiply_11 : decode cX8_multiply 11 = .ok (.getfield 7, 3) := by decide +kernel
theorem dX8_multiply_14 : decode cX8_multiply 14 = .ok (.iload_n 3, 1) := by decide +kernel
theorem dX8_multiply_15 : decode cX8_multiply 15 = .ok (.dup2, 1) := by decide +kernel
theorem dX8_multiply_16 : decode cX8_multiply 16 = .ok (.laload, 1) := by decide +kernel
theorem dX8_multiply_17 : decode cX8_multiply 17 = .ok (.lload_n 1, 1) := by decide +kernel
theorem dX8_multiply_18 : decode cX8_multiply 18 = .ok (.lmul, 1) := by decide +kernel
theorem dX8_multiply_19 : decode cX8_multiply 19 = .ok (.lastore, 1) := by decide +kernel
theorem dX8_multiply_20 : decode cX8_multiply 20 = .ok (.iinc 3 1, 3) := by decide +kernel
theorem dX8_multiply_23 : decode cX8_multiply 23 = .ok (.goto (-21), 3) := by decide +kernel
theorem dX8_multiply_26 : decode cX8_multiply 26 = .ok (.aload_n 0, 1) := by decide +kernel
theorem dX8_multiply_27 : decode cX8_multiply 27 = .ok (.invokevirtual 29, 3) := by decide +kernel
theorem dX8_multiply_30 : decode cX8_multiply 30 = .ok (.return_, 1) := by decide +kernel
set_option maxRecDepth 20000 in
theorem ggX8_product_X8_clear : GoodIn wsX8_product wsX8_clear := goodIn_r _ [11, 2, 1, 12, 13, 14, 15, 16, 35, 36, 37] rfl rfl
set_option maxRecDepth 20000 in
theorem gX8_product_X8_clear : GoodIn wsX8_product (wsV RX8 26 RX8 yX8_clear wsX8_clear) := goodIn_app (goodIn_of _ (by decide +kernel)) ggX8_product_X8_clear
set_option maxRecDepth 20000 in
theorem ggX8_product_X8_settle : GoodIn wsX8_product wsX8_settle := goodIn_r _ [20, 2, 21, 22, 23, 24, 25, 26, 27, 28, 10, 29, 30, 31, 32, 33, 34, 1, 12, 35, 36, 37] rfl rfl
set_option maxRecDepth 20000 in
theorem gX8_product_X8_settle : GoodIn wsX8_product (wsV RX8 29 RX8 yX8_settle wsX8_settle) := goodIn_app (goodIn_of _ (by decide +kernel)) ggX8_product_X8_settle
theorem dX8_product_0 : decode cX8_product 0 = .ok (.aload_n 0, 1) := by decide +kernel
theorem dX8_product_1 : decode cX8_product 1 = .ok (.invokevirtual 26, 3) := by decide +kernel
theorem dX8_product_4 : decode cX8_product 4 = .ok (.iconst 0, 1) := by decide +kernel
theorem dX8_product_5 : decode cX8_product 5 = .ok (.istore_n 3, 1) := by decide +kernel
theorem dX8_product_6 : decode cX8_product 6 = .ok (.iload_n 3, 1) := by decide +kernel
theorem dX8_product_7 : decode cX8_product 7 = .ok (.aload_n 1, 1) := by decide +kernel
theorem dX8_product_8 : decode cX8_product 8 = .ok (.getfield 13, 3) := by decide +kernel
theorem dX8_product_11 : decode cX8_product 11 = .ok (.if_icmp .ge 67, 3) := by decide +kernel
theorem dX8_product_14 : decode cX8_product 14 = .ok (.aload_n 2, 1) := by decide +kernel
theorem dX8_product_15 : decode cX8_product 15 = .ok (.getfield 13, 3) := by decide +kernel
theorem dX8_product_18 : decode cX8_product 18 = .ok (.aload_n 0, 1) := by decide +kernel
theorem dX8_product_19 : decode cX8_product 19 = .ok (.getfield 7, 3) := by decide +kernel
theorem dX8_product_22 : decode cX8_product 22 = .ok (.arraylength, 1) := by decide +kernel
theorem dX8_product_23 : decode cX8_product 23 = .ok (.iload_n 3, 1) := by decide +kernel
theorem dX8_product_24 : decode cX8_product 24 = .ok (.isub, 1) := by decide +kernel
theorem dX8_product_25 : decode cX8_product 25 = .ok (.invokestatic 32, 3) := by decide +kernel
theorem dX8_product_28 : decode cX8_product 28 = .ok (.istore 4, 2) := by decide +kernel
theorem dX8_product_30 : decode cX8_product 30 = .ok (.iconst 0, 1) := by decide +kernel
theorem dX8_product_31 : decode cX8_product 31 = .ok (.istore 5, 2) := by decide +kernel
theorem dX8_product_33 : decode cX8_product 33 = .ok (.iload 5, 2) := by decide +kernel
theorem dX8_product_35 : decode cX8_product 35 = .ok (.iload 4, 2) := by decide +kernel
theorem dX8_product_37 : decode cX8_product 37 = .ok (.if_icmp .ge 35, 3) := by decide +kernel
theorem dX8_product_40 : decode cX8_product 40 = .ok (.aload_n 0, 1) := by decide +kernel
theorem dX8_product_41 : decode cX8_product 41 = .ok (.getfield 7, 3) := by decide +kernel
theorem dX8_product_44 : decode cX8_product 44 = .ok (.iload_n 3, 1) := by decide +kernel
theorem dX8_product_45 : decode cX8_product 45 = .ok (.iload 5, 2) := by decide +kernel
theorem dX8_product_47 : decode cX8_product 47 = .ok (.iadd, 1) := by decide +kernel
theorem dX8_product_48 : decode cX8_product 48 = .ok (.dup2, 1) := by decide +kernel
theorem dX8_product_49 : decode cX8_product 49 = .ok (.laload, 1) := by decide +kernel
theorem dX8_product_50 : decode cX8_product 50 = .ok (.aload_n 1, 1) := by decide +kernel
theorem dX8_product_51 : decode cX8_product 51 = .ok (.getfield 7, 3) := by decide +kernel
theorem dX8_product_54 : decode cX8_product 54 = .ok (.iload_n 3, 1) := by decide +kernel
theorem dX8_product_55 : decode cX8_product 55 = .ok (.laload, 1) := by decide +kernel
theorem dX8_product_56 : decode cX8_product 56 = .ok (.aload_n 2, 1) := by decide +kernel
theorem dX8_product_57 : decode cX8_product 57 = .ok (.getfield 7, 3) := by decide +kernel
theorem dX8_product_60 : decode cX8_product 60 = .ok (.iload 5, 2) := by decide +kernel
theorem dX8_product_62 : decode cX8_product 62 = .ok (.laload, 1) := by decide +kernel
theorem dX8_product_63 : decode cX8_product 63 = .ok (.lmul, 1) := by decide +kernel
theorem dX8_product_64 : decode cX8_product 64 = .ok (.ladd, 1) := by decide +kernel
theorem dX8_product_65 : decode cX8_product 65 = .ok (.lastore, 1) := by decide +kernel
theorem dX8_product_66 : decode cX8_product 66 = .ok (.iinc 5 1, 3) := by decide +kernel
theorem dX8_product_69 : decode cX8_product 69 = .ok (.goto (-36), 3) := by decide +kernel
theorem dX8_product_72 : decode cX8_product 72 = .ok (.iinc 3 1, 3) := by decide +kernel
theorem dX8_product_75 : decode cX8_product 75 = .ok (.goto (-69), 3) := by decide +kernel
theorem dX8_product_78 : decode cX8_product 78 = .ok (.aload_n 0, 1) := by decide +kernel
theorem dX8_product_79 : decode cX8_product 79 = .ok (.invokevirtual 29, 3) := by decide +kernel
theorem dX8_product_82 : decode cX8_product 82 = .ok (.return_, 1) := by decide +kernel
set_option maxRecDepth 20000 in
theorem ggX8_settle_J9_floorDiv_f86c9 : GoodIn wsX8_settle wsJ9_floorDiv_f86c9 := goodIn_r _ [6] rfl rfl
set_option maxRecDepth 20000 in
theorem gX8_settle_J9_floorDiv_f86c9 : GoodIn wsX8_settle (va_wsS RX8 46 yJ9_floorDiv_f86c9 wsJ9_floorDiv_f86c9) := goodIn_app (goodIn_of _ (by decide +kernel)) ggX8_settle_J9_floorDiv_f86c9
set_option maxRecDepth 20000 in
theorem ggX8_settle_X8_turnNegative : GoodIn wsX8_settle wsX8_turnNegative := goodIn_r _ [11, 1, 12, 2, 19, 20, 21] rfl rfl
set_option maxRecDepth 20000 in
theorem gX8_settle_X8_turnNegative : GoodIn wsX8_settle (wsV RX8 50 RX8 yX8_turnNegative wsX8_turnNegative) := goodIn_app (goodIn_of _ (by decide +kernel)) ggX8_settle_X8_turnNegative
set_option maxRecDepth 20000 in
theorem ggX8_settle_X8_measure : GoodIn wsX8_settle wsX8_measure := goodIn_r _ [16, 1, 17, 18, 19, 20, 21] rfl rfl
set_option maxRecDepth 20000 in
theorem gX8_settle_X8_measure : GoodIn wsX8_settle (wsV RX8 53 RX8 yX8_measure wsX8_measure) := goodIn_app (goodIn_of _ (by decide +kernel)) ggX8_settle_X8_measure
theorem dX8_settle_0 : decode cX8_settle 0 = .ok (.lconst 0, 1) := by decide +kernel
theorem dX8_settle_1 : decode cX8_settle 1 = .ok (.lstore_n 1, 1) := by decide +kernel
theorem dX8_settle_2 : decode cX8_settle 2 = .ok (.iconst 0, 1) := by decide +kernel
theorem dX8_settle_3 : decode cX8_settle 3 = .ok (.istore_n 3, 1) := by decide +kernel
theorem dX8_settle_4 : decode cX8_settle 4 = .ok (.iload_n 3, 1) := by decide +kernel
theorem dX8_settle_5 : decode cX8_settle 5 = .ok (.aload_n 0, 1) := by decide +kernel
theorem dX8_settle_6 : decode cX8_settle 6 = .ok (.getfield 7, 3) := by decide +kernel
theorem dX8_settle_9 : decode cX8_settle 9 = .ok (.arraylength, 1) := by decide +kernel
theorem dX8_settle_10 : decode cX8_settle 10 = .ok (.if_icmp .ge 42, 3) := by decide +kernel
theorem dX8_settle_13 : decode cX8_settle 13 = .ok (.aload_n 0, 1) := by decide +kernel
theorem dX8_settle_14 : decode cX8_settle 14 = .ok (.getfield 7, 3) := by decide +kernel
theorem dX8_settle_17 : decode cX8_settle 17 = .ok (.iload_n 3, 1) := by decide +kernel
theorem dX8_settle_18 : decode cX8_settle 18 = .ok (.laload, 1) := by decide +kernel
theorem dX8_settle_19 : decode cX8_settle 19 = .ok (.lload_n 1, 1) := by decide +kernel
theorem dX8_settle_20 : decode cX8_settle 20 = .ok (.ladd, 1) := by decide +kernel
theorem dX8_settle_21 : decode cX8_settle 21 = .ok (.lstore 4, 2) := by decide +kernel
theorem dX8_settle_23 : decode cX8_settle 23 = .ok (.lload 4, 2) := by decide +kernel
theorem dX8_settle_25 : decode cX8_settle 25 = .ok (.ldc2_w 44, 3) := by decide +kernel
theorem dX8_settle_28 : decode cX8_settle 28 = .ok (.invokestatic 46, 3) := by decide +kernel
theorem dX8_settle_31 : decode cX8_settle 31 = .ok (.lstore_n 1, 1) := by decide +kernel
theorem dX8_settle_32 : decode cX8_settle 32 = .ok (.aload_n 0, 1) := by decide +kernel
theorem dX8_settle_33 : decode cX8_settle 33 = .ok (.getfield 7, 3) := by decide +kernel
theorem dX8_settle_36 : decode cX8_settle 36 = .ok (.iload_n 3, 1) := by decide +kernel
theorem dX8_settle_37 : decode cX8_settle 37 = .ok (.lload 4, 2) := by decide +kernel
theorem dX8_settle_39 : decode cX8_settle 39 = .ok (.lload_n 1, 1) := by decide +kernel
theorem dX8_settle_40 : decode cX8_settle 40 = .ok (.ldc2_w 44, 3) := by decide +kernel
theorem dX8_settle_43 : decode cX8_settle 43 = .ok (.lmul, 1) := by decide +kernel
theorem dX8_settle_44 : decode cX8_settle 44 = .ok (.lsub, 1) := by decide +kernel
theorem dX8_settle_45 : decode cX8_settle 45 = .ok (.lastore, 1) := by decide +kernel
theorem dX8_settle_46 : decode cX8_settle 46 = .ok (.iinc 3 1, 3) := by decide +kernel
theorem dX8_settle_49 : decode cX8_settle 49 = .ok (.goto (-45), 3) := by decide +kernel
theorem dX8_settle_52 : decode cX8_settle 52 = .ok (.lload_n 1, 1) := by decide +kernel
theorem dX8_settle_53 : decode cX8_settle 53 = .ok (.lconst 0, 1) := by decide +kernel
theorem dX8_settle_54 : decode cX8_settle 54 = .ok (.lcmp, 1) := by decide +kernel
theorem dX8_settle_55 : decode cX8_settle 55 = .ok (.ifCond .ge 7, 3) := by decide +kernel
theorem dX8_settle_58 : decode cX8_settle 58 = .ok (.aload_n 0, 1) := by decide +kernel
theorem dX8_settle_59 : decode cX8_settle 59 = .ok (.invokevirtual 50, 3) := by decide +kernel
theorem dX8_settle_62 : decode cX8_settle 62 = .ok (.aload_n 0, 1) := by decide +kernel
theorem dX8_settle_63 : decode cX8_settle 63 = .ok (.invokevirtual 53, 3) := by decide +kernel
theorem dX8_settle_66 : decode cX8_settle 66 = .ok (.return_, 1) := by decide +kernel
theorem dX8_turnNegative_0 : decode cX8_turnNegative 0 = .ok (.iconst 0, 1) := by decide +kernel
theorem dX8_turnNegative_1 : decode cX8_turnNegative 1 = .ok (.istore_n 1, 1) := by decide +kernel
theorem dX8_turnNegative_2 : decode cX8_turnNegative 2 = .ok (.iconst 0, 1) := by decide +kernel
theorem dX8_turnNegative_3 : decode cX8_turnNegative 3 = .ok (.istore_n 2, 1) := by decide +kernel
theorem dX8_turnNegative_4 : decode cX8_turnNegative 4 = .ok (.iload_n 2, 1) := by decide +kernel
theorem dX8_turnNegative_5 : decode cX8_turnNegative 5 = .ok (.aload_n 0, 1) := by decide +kernel
theorem dX8_turnNegative_6 : decode cX8_turnNegative 6 = .ok (.getfield 7, 3) := by decide +kernel
theorem dX8_turnNegative_9 : decode cX8_turnNegative 9 = .ok (.arraylength, 1) := by decide +kernel
theorem dX8_turnNegative_10 : decode cX8_turnNegative 10 = .ok (.if_icmp .ge 53, 3) := by decide +kernel
theorem dX8_turnNegative_13 : decode cX8_turnNegative 13 = .ok (.iload_n 1, 1) := by decide +kernel
theorem dX8_turnNegative_14 : decode cX8_turnNegative 14 = .ok (.ifCond .eq 18, 3) := by decide +kernel
theorem dX8_turnNegative_17 : decode cX8_turnNegative 17 = .ok (.aload_n 0, 1) := by decide +kernel
theorem dX8_turnNegative_18 : decode cX8_turnNegative 18 = .ok (.getfield 7, 3) := by decide +kernel
theorem dX8_turnNegative_21 : decode cX8_turnNegative 21 = .ok (.iload_n 2, 1) := by decide +kernel
theorem dX8_turnNegative_22 : decode cX8_turnNegative 22 = .ok (.dup2, 1) := by decide +kernel
theorem dX8_turnNegative_23 : decode cX8_turnNegative 23 = .ok (.laload, 1) := by decide +kernel
theorem dX8_turnNegative_24 : decode cX8_turnNegative 24 = .ok (.ldc2_w 56, 3) := by decide +kernel
theorem dX8_turnNegative_27 : decode cX8_turnNegative 27 = .ok (.lsub, 1) := by decide +kernel
theorem dX8_turnNegative_28 : decode cX8_turnNegative 28 = .ok (.lastore, 1) := by decide +kernel
theorem dX8_turnNegative_29 : decode cX8_turnNegative 29 = .ok (.goto 28, 3) := by decide +kernel
theorem dX8_turnNegative_32 : decode cX8_turnNegative 32 = .ok (.aload_n 0, 1) := by decide +kernel
theorem dX8_turnNegative_33 : decode cX8_turnNegative 33 = .ok (.getfield 7, 3) := by decide +kernel
theorem dX8_turnNegative_36 : decode cX8_turnNegative 36 = .ok (.iload_n 2, 1) := by decide +kernel
theorem dX8_turnNegative_37 : decode cX8_turnNegative 37 = .ok (.laload, 1) := by decide +kernel
theorem dX8_turnNegative_38 : decode cX8_turnNegative 38 = .ok (.lconst 0, 1) := by decide +kernel
theorem dX8_turnNegative_39 : decode cX8_turnNegative 39 = .ok (.lcmp, 1) := by decide +kernel
theorem dX8_turnNegative_40 : decode cX8_turnNegative 40 = .ok (.ifCond .eq 17, 3) := by decide +kernel
theorem dX8_turnNegative_43 : decode cX8_turnNegative 43 = .ok (.aload_n 0, 1) := by decide +kernel
theorem dX8_turnNegative_44 : decode cX8_turnNegative 44 = .ok (.getfield 7, 3) := by decide +kernel
theorem dX8_turnNegative_47 : decode cX8_turnNegative 47 = .ok (.iload_n 2, 1) := by decide +kernel
theorem dX8_turnNegative_48 : decode cX8_turnNegative 48 = .ok (.dup2, 1) := by decide +kernel
theorem dX8_turnNegative_49 : decode cX8_turnNegative 49 = .ok (.laload, 1) := by decide +kernel
theorem dX8_turnNegative_50 : decode cX8_turnNegative 50 = .ok (.ldc2_w 44, 3) := by decide +kernel
theorem dX8_turnNegative_53 : decode cX8_turnNegative 53 = .ok (.lsub, 1) := by decide +kernel
theorem dX8_turnNegative_54 : decode cX8_turnNegative 54 = .ok (.lastore, 1) := by decide +kernel
theorem dX8_turnNegative_55 : decode cX8_turnNegative 55 = .ok (.iconst 1, 1) := by decide +kernel
theorem dX8_turnNegative_56 : decode cX8_turnNegative 56 = .ok (.istore_n 1, 1) := by decide +kernel
theorem dX8_turnNegative_57 : decode cX8_turnNegative 57 = .ok (.iinc 2 1, 3) := by decide +kernel
theorem dX8_turnNegative_60 : decode cX8_turnNegative 60 = .ok (.goto (-56), 3) := by decide +kernel
theorem dX8_turnNegative_63 : decode cX8_turnNegative 63 = .ok (.return_, 1) := by decide +kernel
theorem dX8_measure_0 : decode cX8_measure 0 = .ok (.aload_n 0, 1) := by decide +kernel
theorem dX8_measure_1 : decode cX8_measure 1 = .ok (.aload_n 0, 1) := by decide +kernel
theorem dX8_measure_2 : decode cX8_measure 2 = .ok (.getfield 7, 3) := by decide +kernel
theorem dX8_measure_5 : decode cX8_measure 5 = .ok (.arraylength, 1) := by decide +kernel
theorem dX8_measure_6 : decode cX8_measure 6 = .ok (.putfield 13, 3) := by decide +kernel
theorem dX8_measure_9 : decode cX8_measure 9 = .ok (.aload_n 0, 1) := by decide +kernel
theorem dX8_measure_10 : decode cX8_measure 10 = .ok (.getfield 13, 3) := by decide +kernel
theorem dX8_measure_13 : decode cX8_measure 13 = .ok (.ifCond .le 32, 3) := by decide +kernel
theorem dX8_measure_16 : decode cX8_measure 16 = .ok (.aload_n 0, 1) := by decide +kernel
theorem dX8_measure_17 : decode cX8_measure 17 = .ok (.getfield 7, 3) := by decide +kernel
theorem dX8_measure_20 : decode cX8_measure 20 = .ok (.aload_n 0, 1) := by decide +kernel
theorem dX8_measure_21 : decode cX8_measure 21 = .ok (.getfield 13, 3) := by decide +kernel
theorem dX8_measure_24 : decode cX8_measure 24 = .ok (.iconst 1, 1) := by decide +kernel
theorem dX8_measure_25 : decode cX8_measure 25 = .ok (.isub, 1) := by decide +kernel
theorem dX8_measure_26 : decode cX8_measure 26 = .ok (.laload, 1) := by decide +kernel
theorem dX8_measure_27 : decode cX8_measure 27 = .ok (.lconst 0, 1) := by decide +kernel
theorem dX8_measure_28 : decode cX8_measure 28 = .ok (.lcmp, 1) := by decide +kernel
theorem dX8_measure_29 : decode cX8_measure 29 = .ok (.ifCond .ne 16, 3) := by decide +kernel
theorem dX8_measure_32 : decode cX8_measure 32 = .ok (.aload_n 0, 1) := by decide +kernel
theorem dX8_measure_33 : decode cX8_measure 33 = .ok (.dup, 1) := by decide +kernel
theorem dX8_measure_34 : decode cX8_measure 34 = .ok (.getfield 13, 3) := by decide +kernel
theorem dX8_measure_37 : decode cX8_measure 37 = .ok (.iconst 1, 1) := by decide +kernel
theorem dX8_measure_38 : decode cX8_measure 38 = .ok (.isub, 1) := by decide +kernel
theorem dX8_measure_39 : decode cX8_measure 39 = .ok (.putfield 13, 3) := by decide +kernel
theorem dX8_measure_42 : decode cX8_measure 42 = .ok (.goto (-33), 3) := by decide +kernel
theorem dX8_measure_45 : decode cX8_measure 45 = .ok (.aload_n 0, 1) := by decide +kernel
theorem dX8_measure_46 : decode cX8_measure 46 = .ok (.aload_n 0, 1) := by decide +kernel
theorem dX8_measure_47 : decode cX8_measure 47 = .ok (.getfield 13, 3) := by decide +kernel
theorem dX8_measure_50 : decode cX8_measure 50 = .ok (.ifCond .ne 7, 3) := by decide +kernel
theorem dX8_measure_53 : decode cX8_measure 53 = .ok (.iconst 0, 1) := by decide +kernel
theorem dX8_measure_54 : decode cX8_measure 54 = .ok (.goto 24, 3) := by decide +kernel
theorem dX8_measure_57 : decode cX8_measure 57 = .ok (.aload_n 0, 1) := by decide +kernel
theorem dX8_measure_58 : decode cX8_measure 58 = .ok (.getfield 7, 3) := by decide +kernel
theorem dX8_measure_61 : decode cX8_measure 61 = .ok (.aload_n 0, 1) := by decide +kernel
theorem dX8_measure_62 : decode cX8_measure 62 = .ok (.getfield 13, 3) := by decide +kernel
theorem dX8_measure_65 : decode cX8_measure 65 = .ok (.iconst 1, 1) := by decide +kernel
theorem dX8_measure_66 : decode cX8_measure 66 = .ok (.isub, 1) := by decide +kernel
theorem dX8_measure_67 : decode cX8_measure 67 = .ok (.laload, 1) := by decide +kernel
theorem dX8_measure_68 : decode cX8_measure 68 = .ok (.lconst 0, 1) := by decide +kernel
theorem dX8_measure_69 : decode cX8_measure 69 = .ok (.lcmp, 1) := by decide +kernel
theorem dX8_measure_70 : decode cX8_measure 70 = .ok (.ifCond .ge 7, 3) := by decide +kernel
theorem dX8_measure_73 : decode cX8_measure 73 = .ok (.iconst (-1), 1) := by decide +kernel
theorem dX8_measure_74 : decode cX8_measure 74 = .ok (.goto 4, 3) := by decide +kernel
theorem dX8_measure_77 : decode cX8_measure 77 = .ok (.iconst 1, 1) := by decide +kernel
theorem dX8_measure_78 : decode cX8_measure 78 = .ok (.putfield 17, 3) := by decide +kernel
theorem dX8_measure_81 : decode cX8_measure 81 = .ok (.return_, 1) := by decide +kernel
theorem dX8_dropSign_0 : decode cX8_dropSign 0 = .ok (.aload_n 0, 1) := by decide +kernel
theorem dX8_dropSign_1 : decode cX8_dropSign 1 = .ok (.getfield 17, 3) := by decide +kernel
theorem dX8_dropSign_4 : decode cX8_dropSign 4 = .ok (.ifCond .ge 37, 3) := by decide +kernel
theorem dX8_dropSign_7 : decode cX8_dropSign 7 = .ok (.iconst 0, 1) := by decide +kernel
theorem dX8_dropSign_8 : decode cX8_dropSign 8 = .ok (.istore_n 1, 1) := by decide +kernel
theorem dX8_dropSign_9 : decode cX8_dropSign 9 = .ok (.iload_n 1, 1) := by decide +kernel
theorem dX8_dropSign_10 : decode cX8_dropSign 10 = .ok (.aload_n 0, 1) := by decide +kernel
theorem dX8_dropSign_11 : decode cX8_dropSign 11 = .ok (.getfield 13, 3) := by decide +kernel
theorem dX8_dropSign_14 : decode cX8_dropSign 14 = .ok (.if_icmp .ge 22, 3) := by decide +kernel
theorem dX8_dropSign_17 : decode cX8_dropSign 17 = .ok (.aload_n 0, 1) := by decide +kernel
theorem dX8_dropSign_18 : decode cX8_dropSign 18 = .ok (.getfield 7, 3) := by decide +kernel
theorem dX8_dropSign_21 : decode cX8_dropSign 21 = .ok (.iload_n 1, 1) := by decide +kernel
theorem dX8_dropSign_22 : decode cX8_dropSign 22 = .ok (.aload_n 0, 1) := by decide +kernel
theorem dX8_dropSign_23 : decode cX8_dropSign 23 = .ok (.getfield 7, 3) := by decide +kernel
theorem dX8_dropSign_26 : decode cX8_dropSign 26 = .ok (.iload_n 1, 1) := by decide +kernel
theorem dX8_dropSign_27 : decode cX8_dropSign 27 = .ok (.laload, 1) := by decide +kernel
theorem dX8_dropSign_28 : decode cX8_dropSign 28 = .ok (.lneg, 1) := by decide +kernel
theorem dX8_dropSign_29 : decode cX8_dropSign 29 = .ok (.lastore, 1) := by decide +kernel
theorem dX8_dropSign_30 : decode cX8_dropSign 30 = .ok (.iinc 1 1, 3) := by decide +kernel
theorem dX8_dropSign_33 : decode cX8_dropSign 33 = .ok (.goto (-24), 3) := by decide +kernel
theorem dX8_dropSign_36 : decode cX8_dropSign 36 = .ok (.aload_n 0, 1) := by decide +kernel
theorem dX8_dropSign_37 : decode cX8_dropSign 37 = .ok (.iconst 1, 1) := by decide +kernel
theorem dX8_dropSign_38 : decode cX8_dropSign 38 = .ok (.putfield 17, 3) := by decide +kernel
theorem dX8_dropSign_41 : decode cX8_dropSign 41 = .ok (.return_, 1) := by decide +kernel
set_option maxRecDepth 20000 in
theorem ggX8_compare_X8_limbAt : GoodIn wsX8_compare wsX8_limbAt := goodIn_r _ [10, 1, 11, 12, 13, 14] rfl rfl
set_option maxRecDepth 20000 in
theorem gX8_compare_X8_limbAt : GoodIn wsX8_compare (wsV RX8 61 RX8 yX8_limbAt wsX8_limbAt) := goodIn_app (goodIn_of _ (by decide +kernel)) ggX8_compare_X8_limbAt
theorem dX8_compare_0 : decode cX8_compare 0 = .ok (.aload_n 0, 1) := by decide +kernel
theorem dX8_compare_1 : decode cX8_compare 1 = .ok (.getfield 13, 3) := by decide +kernel
theorem dX8_compare_4 : decode cX8_compare 4 = .ok (.aload_n 1, 1) := by decide +kernel
theorem dX8_compare_5 : decode cX8_compare 5 = .ok (.getfield 13, 3) := by decide +kernel
theorem dX8_compare_8 : decode cX8_compare 8 = .ok (.invokestatic 58, 3) := by decide +kernel
theorem dX8_compare_11 : decode cX8_compare 11 = .ok (.iconst 1, 1) := by decide +kernel
theorem dX8_compare_12 : decode cX8_compare 12 = .ok (.isub, 1) := by decide +kernel
theorem dX8_compare_13 : decode cX8_compare 13 = .ok (.istore_n 2, 1) := by decide +kernel
theorem dX8_compare_14 : decode cX8_compare 14 = .ok (.iload_n 2, 1) := by decide +kernel
theorem dX8_compare_15 : decode cX8_compare 15 = .ok (.ifCond .lt 42, 3) := by decide +kernel
theorem dX8_compare_18 : decode cX8_compare 18 = .ok (.aload_n 0, 1) := by decide +kernel
theorem dX8_compare_19 : decode cX8_compare 19 = .ok (.iload_n 2, 1) := by decide +kernel
theorem dX8_compare_20 : decode cX8_compare 20 = .ok (.invokevirtual 61, 3) := by decide +kernel
theorem dX8_compare_23 : decode cX8_compare 23 = .ok (.lstore_n 3, 1) := by decide +kernel
theorem dX8_compare_24 : decode cX8_compare 24 = .ok (.aload_n 1, 1) := by decide +kernel
theorem dX8_compare_25 : decode cX8_compare 25 = .ok (.iload_n 2, 1) := by decide +kernel
theorem dX8_compare_26 : decode cX8_compare 26 = .ok (.invokevirtual 61, 3) := by decide +kernel
theorem dX8_compare_29 : decode cX8_compare 29 = .ok (.lstore 5, 2) := by decide +kernel
theorem dX8_compare_31 : decode cX8_compare 31 = .ok (.lload_n 3, 1) := by decide +kernel
theorem dX8_compare_32 : decode cX8_compare 32 = .ok (.lload 5, 2) := by decide +kernel
theorem dX8_compare_34 : decode cX8_compare 34 = .ok (.lcmp, 1) := by decide +kernel
theorem dX8_compare_35 : decode cX8_compare 35 = .ok (.ifCond .eq 16, 3) := by decide +kernel
theorem dX8_compare_38 : decode cX8_compare 38 = .ok (.lload_n 3, 1) := by decide +kernel
theorem dX8_compare_39 : decode cX8_compare 39 = .ok (.lload 5, 2) := by decide +kernel
theorem dX8_compare_41 : decode cX8_compare 41 = .ok (.lcmp, 1) := by decide +kernel
theorem dX8_compare_42 : decode cX8_compare 42 = .ok (.ifCond .ge 7, 3) := by decide +kernel
theorem dX8_compare_45 : decode cX8_compare 45 = .ok (.iconst (-1), 1) := by decide +kernel
theorem dX8_compare_46 : decode cX8_compare 46 = .ok (.goto 4, 3) := by decide +kernel
theorem dX8_compare_49 : decode cX8_compare 49 = .ok (.iconst 1, 1) := by decide +kernel
theorem dX8_compare_50 : decode cX8_compare 50 = .ok (.ireturn, 1) := by decide +kernel
theorem dX8_compare_51 : decode cX8_compare 51 = .ok (.iinc 2 (-1), 3) := by decide +kernel
theorem dX8_compare_54 : decode cX8_compare 54 = .ok (.goto (-40), 3) := by decide +kernel
theorem dX8_compare_57 : decode cX8_compare 57 = .ok (.iconst 0, 1) := by decide +kernel
theorem dX8_compare_58 : decode cX8_compare 58 = .ok (.ireturn, 1) := by decide +kernel
theorem dX8_limbAt_0 : decode cX8_limbAt 0 = .ok (.iload_n 1, 1) := by decide +kernel
theorem dX8_limbAt_1 : decode cX8_limbAt 1 = .ok (.ifCond .lt 20, 3) := by decide +kernel
theorem dX8_limbAt_4 : decode cX8_limbAt 4 = .ok (.iload_n 1, 1) := by decide +kernel
theorem dX8_limbAt_5 : decode cX8_limbAt 5 = .ok (.aload_n 0, 1) := by decide +kernel
theorem dX8_limbAt_6 : decode cX8_limbAt 6 = .ok (.getfield 13, 3) := by decide +kernel
theorem dX8_limbAt_9 : decode cX8_limbAt 9 = .ok (.if_icmp .ge 12, 3) := by decide +kernel
theorem dX8_limbAt_12 : decode cX8_limbAt 12 = .ok (.aload_n 0, 1) := by decide +kernel
theorem dX8_limbAt_13 : decode cX8_limbAt 13 = .ok (.getfield 7, 3) := by decide +kernel
theorem dX8_limbAt_16 : decode cX8_limbAt 16 = .ok (.iload_n 1, 1) := by decide +kernel
theorem dX8_limbAt_17 : decode cX8_limbAt 17 = .ok (.laload, 1) := by decide +kernel
theorem dX8_limbAt_18 : decode cX8_limbAt 18 = .ok (.goto 4, 3) := by decide +kernel
theorem dX8_limbAt_21 : decode cX8_limbAt 21 = .ok (.lconst 0, 1) := by decide +kernel
theorem dX8_limbAt_22 : decode cX8_limbAt 22 = .ok (.lreturn, 1) := by decide +kernel
set_option maxRecDepth 20000 in
theorem ggX8_divideSmall_X8_measure : GoodIn wsX8_divideSmall wsX8_measure := goodIn_r _ [8, 3, 1, 9, 10, 11, 12] rfl rfl
set_option maxRecDepth 20000 in
theorem gX8_divideSmall_X8_measure : GoodIn wsX8_divideSmall (wsV RX8 53 RX8 yX8_measure wsX8_measure) := goodIn_app (goodIn_of _ (by decide +kernel)) ggX8_divideSmall_X8_measure
theorem dX8_divideSmall_0 : decode cX8_divideSmall 0 = .ok (.iload_n 1, 1) := by decide +kernel
theorem dX8_divideSmall_1 : decode cX8_divideSmall 1 = .ok (.iconst 1, 1) := by decide +kernel
theorem dX8_divideSmall_2 : decode cX8_divideSmall 2 = .ok (.if_icmp .ge 4, 3) := by decide +kernel
theorem dX8_divideSmall_5 : decode cX8_divideSmall 5 = .ok (.return_, 1) := by decide +kernel
theorem dX8_divideSmall_6 : decode cX8_divideSmall 6 = .ok (.lconst 0, 1) := by decide +kernel
theorem dX8_divideSmall_7 : decode cX8_divideSmall 7 = .ok (.lstore_n 2, 1) := by decide +kernel
theorem dX8_divideSmall_8 : decode cX8_divideSmall 8 = .ok (.aload_n 0, 1) := by decide +kernel
theorem dX8_divideSmall_9 : decode cX8_divideSmall 9 = .ok (.getfield 13, 3) := by decide +kernel
theorem dX8_divideSmall_12 : decode cX8_divideSmall 12 = .ok (.iconst 1, 1) := by decide +kernel
theorem dX8_divideSmall_13 : decode cX8_divideSmall 13 = .ok (.isub, 1) := by decide +kernel
theorem dX8_divideSmall_14 : decode cX8_divideSmall 14 = .ok (.istore 4, 2) := by decide +kernel
theorem dX8_divideSmall_16 : decode cX8_divideSmall 16 = .ok (.iload 4, 2) := by decide +kernel
theorem dX8_divideSmall_18 : decode cX8_divideSmall 18 = .ok (.ifCond .lt 42, 3) := by decide +kernel
theorem dX8_divideSmall_21 : decode cX8_divideSmall 21 = .ok (.lload_n 2, 1) := by decide +kernel
theorem dX8_divideSmall_22 : decode cX8_divideSmall 22 = .ok (.ldc2_w 44, 3) := by decide +kernel
theorem dX8_divideSmall_25 : decode cX8_divideSmall 25 = .ok (.lmul, 1) := by decide +kernel
theorem dX8_divideSmall_26 : decode cX8_divideSmall 26 = .ok (.aload_n 0, 1) := by decide +kernel
theorem dX8_divideSmall_27 : decode cX8_divideSmall 27 = .ok (.getfield 7, 3) := by decide +kernel
theorem dX8_divideSmall_30 : decode cX8_divideSmall 30 = .ok (.iload 4, 2) := by decide +kernel
theorem dX8_divideSmall_32 : decode cX8_divideSmall 32 = .ok (.laload, 1) := by decide +kernel
theorem dX8_divideSmall_33 : decode cX8_divideSmall 33 = .ok (.ladd, 1) := by decide +kernel
theorem dX8_divideSmall_34 : decode cX8_divideSmall 34 = .ok (.lstore 5, 2) := by decide +kernel
theorem dX8_divideSmall_36 : decode cX8_divideSmall 36 = .ok (.aload_n 0, 1) := by decide +kernel
theorem dX8_divideSmall_37 : decode cX8_divideSmall 37 = .ok (.getfield 7, 3) := by decide +kernel
theorem dX8_divideSmall_40 : decode cX8_divideSmall 40 = .ok (.iload 4, 2) := by decide +kernel
theorem dX8_divideSmall_42 : decode cX8_divideSmall 42 = .ok (.lload 5, 2) := by decide +kernel
theorem dX8_divideSmall_44 : decode cX8_divideSmall 44 = .ok (.iload_n 1, 1) := by decide +kernel
theorem dX8_divideSmall_45 : decode cX8_divideSmall 45 = .ok (.i2l, 1) := by decide +kernel
theorem dX8_divideSmall_46 : decode cX8_divideSmall 46 = .ok (.ldiv, 1) := by decide +kernel
theorem dX8_divideSmall_47 : decode cX8_divideSmall 47 = .ok (.lastore, 1) := by decide +kernel
theorem dX8_divideSmall_48 : decode cX8_divideSmall 48 = .ok (.lload 5, 2) := by decide +kernel
theorem dX8_divideSmall_50 : decode cX8_divideSmall 50 = .ok (.iload_n 1, 1) := by decide +kernel
theorem dX8_divideSmall_51 : decode cX8_divideSmall 51 = .ok (.i2l, 1) := by decide +kernel
theorem dX8_divideSmall_52 : decode cX8_divideSmall 52 = .ok (.lrem, 1) := by decide +kernel
theorem dX8_divideSmall_53 : decode cX8_divideSmall 53 = .ok (.lstore_n 2, 1) := by decide +kernel
theorem dX8_divideSmall_54 : decode cX8_divideSmall 54 = .ok (.iinc 4 (-1), 3) := by decide +kernel
theorem dX8_divideSmall_57 : decode cX8_divideSmall 57 = .ok (.goto (-41), 3) := by decide +kernel
theorem dX8_divideSmall_60 : decode cX8_divideSmall 60 = .ok (.aload_n 0, 1) := by decide +kernel
theorem dX8_divideSmall_61 : decode cX8_divideSmall 61 = .ok (.invokevirtual 53, 3) := by decide +kernel
theorem dX8_divideSmall_64 : decode cX8_divideSmall 64 = .ok (.return_, 1) := by decide +kernel
set_option maxRecDepth 20000 in
theorem ggX8_divide_X8_clear : GoodIn wsX8_divide wsX8_clear := goodIn_r _ [11, 6, 1, 12, 13, 14, 15, 16, 42, 43, 44] rfl rfl
set_option maxRecDepth 20000 in
theorem gX8_divide_X8_clear : GoodIn wsX8_divide (wsV RX8 26 RX8 yX8_clear wsX8_clear) := goodIn_app (goodIn_of _ (by decide +kernel)) ggX8_divide_X8_clear
set_option maxRecDepth 20000 in
theorem ggX8_divide_X8_reaches : GoodIn wsX8_divide wsX8_reaches := goodIn_r _ [20, 1, 6, 42, 43, 44] rfl rfl
set_option maxRecDepth 20000 in
theorem gX8_divide_X8_reaches : GoodIn wsX8_divide (wsV RX8 65 RX8 yX8_reaches wsX8_reaches) := goodIn_app (goodIn_of _ (by decide +kernel)) ggX8_divide_X8_reaches
set_option maxRecDepth 20000 in
theorem ggX8_divide_X8_guess : GoodIn wsX8_divide wsX8_guess := goodIn_r _ [24, 1, 25, 26, 27, 28, 10, 29, 6, 42, 43, 44] rfl rfl
set_option maxRecDepth 20000 in
theorem gX8_divide_X8_guess : GoodIn wsX8_divide (wsV RX8 69 RX8 yX8_guess wsX8_guess) := goodIn_app (goodIn_of _ (by decide +kernel)) ggX8_divide_X8_guess
set_option maxRecDepth 20000 in
theorem ggX8_divide_X8_takeAway : GoodIn wsX8_divide wsX8_takeAway := goodIn_r _ [33, 1, 6, 25, 26, 27, 28, 10, 29, 34, 35, 36, 37, 38, 39, 40, 41, 12, 42, 43, 44] rfl rfl
set_option maxRecDepth 20000 in
theorem gX8_divide_X8_takeAway : GoodIn wsX8_divide (wsV RX8 75 RX8 yX8_takeAway wsX8_takeAway) := goodIn_app (goodIn_of _ (by decide +kernel)) ggX8_divide_X8_takeAway
set_option maxRecDepth 20000 in
theorem ggX8_divide_X8_measure : GoodIn wsX8_divide wsX8_measure := goodIn_r _ [41, 6, 1, 12, 42, 43, 44] rfl rfl
set_option maxRecDepth 20000 in
theorem gX8_divide_X8_measure : GoodIn wsX8_divide (wsV RX8 53 RX8 yX8_measure wsX8_measure) := goodIn_app (goodIn_of _ (by decide +kernel)) ggX8_divide_X8_measure
theorem dX8_divide_0 : decode cX8_divide 0 = .ok (.aload_n 2, 1) := by decide +kernel
theorem dX8_divide_1 : decode cX8_divide 1 = .ok (.invokevirtual 26, 3) := by decide +kernel
theorem dX8_divide_4 : decode cX8_divide 4 = .ok (.aload_n 1, 1) := by decide +kernel
theorem dX8_divide_5 : decode cX8_divide 5 = .ok (.getfield 13, 3) := by decide +kernel
theorem dX8_divide_8 : decode cX8_divide 8 = .ok (.ifCond .ne 4, 3) := by decide +kernel
theorem dX8_divide_11 : decode cX8_divide 11 = .ok (.return_, 1) := by decide +kernel
theorem dX8_divide_12 : decode cX8_divide 12 = .ok (.aload_n 0, 1) := by decide +kernel
theorem dX8_divide_13 : decode cX8_divide 13 = .ok (.getfield 13, 3) := by decide +kernel
theorem dX8_divide_16 : decode cX8_divide 16 = .ok (.aload_n 1, 1) := by decide +kernel
theorem dX8_divide_17 : decode cX8_divide 17 = .ok (.getfield 13, 3) := by decide +kernel
theorem dX8_divide_20 : decode cX8_divide 20 = .ok (.isub, 1) := by decide +kernel
theorem dX8_divide_21 : decode cX8_divide 21 = .ok (.istore_n 3, 1) := by decide +kernel
theorem dX8_divide_22 : decode cX8_divide 22 = .ok (.iload_n 3, 1) := by decide +kernel
theorem dX8_divide_23 : decode cX8_divide 23 = .ok (.ifCond .lt 65, 3) := by decide +kernel
theorem dX8_divide_26 : decode cX8_divide 26 = .ok (.iconst 0, 1) := by decide +kernel
theorem dX8_divide_27 : decode cX8_divide 27 = .ok (.istore 4, 2) := by decide +kernel
theorem dX8_divide_29 : decode cX8_divide 29 = .ok (.iload 4, 2) := by decide +kernel
theorem dX8_divide_31 : decode cX8_divide 31 = .ok (.bipush 8, 2) := by decide +kernel
theorem dX8_divide_33 : decode cX8_divide 33 = .ok (.if_icmp .ge 49, 3) := by decide +kernel
theorem dX8_divide_36 : decode cX8_divide 36 = .ok (.aload_n 0, 1) := by decide +kernel
theorem dX8_divide_37 : decode cX8_divide 37 = .ok (.aload_n 1, 1) := by decide +kernel
theorem dX8_divide_38 : decode cX8_divide 38 = .ok (.iload_n 3, 1) := by decide +kernel
theorem dX8_divide_39 : decode cX8_divide 39 = .ok (.invokevirtual 65, 3) := by decide +kernel
theorem dX8_divide_42 : decode cX8_divide 42 = .ok (.ifCond .eq 40, 3) := by decide +kernel
theorem dX8_divide_45 : decode cX8_divide 45 = .ok (.aload_n 0, 1) := by decide +kernel
theorem dX8_divide_46 : decode cX8_divide 46 = .ok (.aload_n 1, 1) := by decide +kernel
theorem dX8_divide_47 : decode cX8_divide 47 = .ok (.iload_n 3, 1) := by decide +kernel
theorem dX8_divide_48 : decode cX8_divide 48 = .ok (.invokevirtual 69, 3) := by decide +kernel
theorem dX8_divide_51 : decode cX8_divide 51 = .ok (.lconst 1, 1) := by decide +kernel
theorem dX8_divide_52 : decode cX8_divide 52 = .ok (.invokestatic 73, 3) := by decide +kernel
theorem dX8_divide_55 : decode cX8_divide 55 = .ok (.lstore 5, 2) := by decide +kernel
theorem dX8_divide_57 : decode cX8_divide 57 = .ok (.aload_n 0, 1) := by decide +kernel
theorem dX8_divide_58 : decode cX8_divide 58 = .ok (.aload_n 1, 1) := by decide +kernel
theorem dX8_divide_59 : decode cX8_divide 59 = .ok (.iload_n 3, 1) := by decide +kernel
theorem dX8_divide_60 : decode cX8_divide 60 = .ok (.lload 5, 2) := by decide +kernel
theorem dX8_divide_62 : decode cX8_divide 62 = .ok (.invokevirtual 75, 3) := by decide +kernel
theorem dX8_divide_65 : decode cX8_divide 65 = .ok (.aload_n 2, 1) := by decide +kernel
theorem dX8_divide_66 : decode cX8_divide 66 = .ok (.getfield 7, 3) := by decide +kernel
theorem dX8_divide_69 : decode cX8_divide 69 = .ok (.iload_n 3, 1) := by decide +kernel
theorem dX8_divide_70 : decode cX8_divide 70 = .ok (.dup2, 1) := by decide +kernel
theorem dX8_divide_71 : decode cX8_divide 71 = .ok (.laload, 1) := by decide +kernel
theorem dX8_divide_72 : decode cX8_divide 72 = .ok (.lload 5, 2) := by decide +kernel
theorem dX8_divide_74 : decode cX8_divide 74 = .ok (.ladd, 1) := by decide +kernel
theorem dX8_divide_75 : decode cX8_divide 75 = .ok (.lastore, 1) := by decide +kernel
theorem dX8_divide_76 : decode cX8_divide 76 = .ok (.iinc 4 1, 3) := by decide +kernel
theorem dX8_divide_79 : decode cX8_divide 79 = .ok (.goto (-50), 3) := by decide +kernel
theorem dX8_divide_82 : decode cX8_divide 82 = .ok (.iinc 3 (-1), 3) := by decide +kernel
theorem dX8_divide_85 : decode cX8_divide 85 = .ok (.goto (-63), 3) := by decide +kernel
theorem dX8_divide_88 : decode cX8_divide 88 = .ok (.aload_n 2, 1) := by decide +kernel
theorem dX8_divide_89 : decode cX8_divide 89 = .ok (.invokevirtual 53, 3) := by decide +kernel
theorem dX8_divide_92 : decode cX8_divide 92 = .ok (.return_, 1) := by decide +kernel
theorem dX8_reaches_0 : decode cX8_reaches 0 = .ok (.aload_n 0, 1) := by decide +kernel
theorem dX8_reaches_1 : decode cX8_reaches 1 = .ok (.getfield 13, 3) := by decide +kernel
theorem dX8_reaches_4 : decode cX8_reaches 4 = .ok (.aload_n 1, 1) := by decide +kernel
theorem dX8_reaches_5 : decode cX8_reaches 5 = .ok (.getfield 13, 3) := by decide +kernel
theorem dX8_reaches_8 : decode cX8_reaches 8 = .ok (.iload_n 2, 1) := by decide +kernel
theorem dX8_reaches_9 : decode cX8_reaches 9 = .ok (.iadd, 1) := by decide +kernel
theorem dX8_reaches_10 : decode cX8_reaches 10 = .ok (.if_icmp .eq 22, 3) := by decide +kernel
theorem dX8_reaches_13 : decode cX8_reaches 13 = .ok (.aload_n 0, 1) := by decide +kernel
theorem dX8_reaches_14 : decode cX8_reaches 14 = .ok (.getfield 13, 3) := by decide +kernel
theorem dX8_reaches_17 : decode cX8_reaches 17 = .ok (.aload_n 1, 1) := by decide +kernel
theorem dX8_reaches_18 : decode cX8_reaches 18 = .ok (.getfield 13, 3) := by decide +kernel
theorem dX8_reaches_21 : decode cX8_reaches 21 = .ok (.iload_n 2, 1) := by decide +kernel
theorem dX8_reaches_22 : decode cX8_reaches 22 = .ok (.iadd, 1) := by decide +kernel
theorem dX8_reaches_23 : decode cX8_reaches 23 = .ok (.if_icmp .le 7, 3) := by decide +kernel
theorem dX8_reaches_26 : decode cX8_reaches 26 = .ok (.iconst 1, 1) := by decide +kernel
theorem dX8_reaches_27 : decode cX8_reaches 27 = .ok (.goto 4, 3) := by decide +kernel
theorem dX8_reaches_30 : decode cX8_reaches 30 = .ok (.iconst 0, 1) := by decide +kernel
theorem dX8_reaches_31 : decode cX8_reaches 31 = .ok (.ireturn, 1) := by decide +kernel
theorem dX8_reaches_32 : decode cX8_reaches 32 = .ok (.aload_n 1, 1) := by decide +kernel
theorem dX8_reaches_33 : decode cX8_reaches 33 = .ok (.getfield 13, 3) := by decide +kernel
theorem dX8_reaches_36 : decode cX8_reaches 36 = .ok (.iconst 1, 1) := by decide +kernel
theorem dX8_reaches_37 : decode cX8_reaches 37 = .ok (.isub, 1) := by decide +kernel
theorem dX8_reaches_38 : decode cX8_reaches 38 = .ok (.istore_n 3, 1) := by decide +kernel
theorem dX8_reaches_39 : decode cX8_reaches 39 = .ok (.iload_n 3, 1) := by decide +kernel
theorem dX8_reaches_40 : decode cX8_reaches 40 = .ok (.ifCond .lt 51, 3) := by decide +kernel
theorem dX8_reaches_43 : decode cX8_reaches 43 = .ok (.aload_n 0, 1) := by decide +kernel
theorem dX8_reaches_44 : decode cX8_reaches 44 = .ok (.getfield 7, 3) := by decide +kernel
theorem dX8_reaches_47 : decode cX8_reaches 47 = .ok (.iload_n 3, 1) := by decide +kernel
theorem dX8_reaches_48 : decode cX8_reaches 48 = .ok (.iload_n 2, 1) := by decide +kernel
theorem dX8_reaches_49 : decode cX8_reaches 49 = .ok (.iadd, 1) := by decide +kernel
theorem dX8_reaches_50 : decode cX8_reaches 50 = .ok (.laload, 1) := by decide +kernel
theorem dX8_reaches_51 : decode cX8_reaches 51 = .ok (.aload_n 1, 1) := by decide +kernel
theorem dX8_reaches_52 : decode cX8_reaches 52 = .ok (.getfield 7, 3) := by decide +kernel
theorem dX8_reaches_55 : decode cX8_reaches 55 = .ok (.iload_n 3, 1) := by decide +kernel
theorem dX8_reaches_56 : decode cX8_reaches 56 = .ok (.laload, 1) := by decide +kernel
theorem dX8_reaches_57 : decode cX8_reaches 57 = .ok (.lcmp, 1) := by decide +kernel
theorem dX8_reaches_58 : decode cX8_reaches 58 = .ok (.ifCond .eq 27, 3) := by decide +kernel
theorem dX8_reaches_61 : decode cX8_reaches 61 = .ok (.aload_n 0, 1) := by decide +kernel
theorem dX8_reaches_62 : decode cX8_reaches 62 = .ok (.getfield 7, 3) := by decide +kernel
theorem dX8_reaches_65 : decode cX8_reaches 65 = .ok (.iload_n 3, 1) := by decide +kernel
theorem dX8_reaches_66 : decode cX8_reaches 66 = .ok (.iload_n 2, 1) := by decide +kernel
theorem dX8_reaches_67 : decode cX8_reaches 67 = .ok (.iadd, 1) := by decide +kernel
theorem dX8_reaches_68 : decode cX8_reaches 68 = .ok (.laload, 1) := by decide +kernel
theorem dX8_reaches_69 : decode cX8_reaches 69 = .ok (.aload_n 1, 1) := by decide +kernel
theorem dX8_reaches_70 : decode cX8_reaches 70 = .ok (.getfield 7, 3) := by decide +kernel
theorem dX8_reaches_73 : decode cX8_reaches 73 = .ok (.iload_n 3, 1) := by decide +kernel
theorem dX8_reaches_74 : decode cX8_reaches 74 = .ok (.laload, 1) := by decide +kernel
theorem dX8_reaches_75 : decode cX8_reaches 75 = .ok (.lcmp, 1) := by decide +kernel
theorem dX8_reaches_76 : decode cX8_reaches 76 = .ok (.ifCond .le 7, 3) := by decide +kernel
theorem dX8_reaches_79 : decode cX8_reaches 79 = .ok (.iconst 1, 1) := by decide +kernel
theorem dX8_reaches_80 : decode cX8_reaches 80 = .ok (.goto 4, 3) := by decide +kernel
theorem dX8_reaches_83 : decode cX8_reaches 83 = .ok (.iconst 0, 1) := by decide +kernel
theorem dX8_reaches_84 : decode cX8_reaches 84 = .ok (.ireturn, 1) := by decide +kernel
theorem dX8_reaches_85 : decode cX8_reaches 85 = .ok (.iinc 3 (-1), 3) := by decide +kernel
theorem dX8_reaches_88 : decode cX8_reaches 88 = .ok (.goto (-49), 3) := by decide +kernel
theorem dX8_reaches_91 : decode cX8_reaches 91 = .ok (.iconst 1, 1) := by decide +kernel
theorem dX8_reaches_92 : decode cX8_reaches 92 = .ok (.ireturn, 1) := by decide +kernel
set_option maxRecDepth 20000 in
theorem ggX8_guess_X8_limbAt : GoodIn wsX8_guess wsX8_limbAt := goodIn_r _ [7, 1, 8, 9, 10, 11] rfl rfl
set_option maxRecDepth 20000 in
theorem gX8_guess_X8_limbAt : GoodIn wsX8_guess (wsV RX8 61 RX8 yX8_limbAt wsX8_limbAt) := goodIn_app (goodIn_of _ (by decide +kernel)) ggX8_guess_X8_limbAt
theorem dX8_guess_0 : decode cX8_guess 0 = .ok (.aload_n 1, 1) := by decide +kernel
theorem dX8_guess_1 : decode cX8_guess 1 = .ok (.getfield 13, 3) := by decide +kernel
theorem dX8_guess_4 : decode cX8_guess 4 = .ok (.iload_n 2, 1) := by decide +kernel
theorem dX8_guess_5 : decode cX8_guess 5 = .ok (.iadd, 1) := by decide +kernel
theorem dX8_guess_6 : decode cX8_guess 6 = .ok (.istore_n 3, 1) := by decide +kernel
theorem dX8_guess_7 : decode cX8_guess 7 = .ok (.aload_n 0, 1) := by decide +kernel
theorem dX8_guess_8 : decode cX8_guess 8 = .ok (.iload_n 3, 1) := by decide +kernel
theorem dX8_guess_9 : decode cX8_guess 9 = .ok (.invokevirtual 61, 3) := by decide +kernel
theorem dX8_guess_12 : decode cX8_guess 12 = .ok (.ldc2_w 44, 3) := by decide +kernel
theorem dX8_guess_15 : decode cX8_guess 15 = .ok (.lmul, 1) := by decide +kernel
theorem dX8_guess_16 : decode cX8_guess 16 = .ok (.aload_n 0, 1) := by decide +kernel
theorem dX8_guess_17 : decode cX8_guess 17 = .ok (.iload_n 3, 1) := by decide +kernel
theorem dX8_guess_18 : decode cX8_guess 18 = .ok (.iconst 1, 1) := by decide +kernel
theorem dX8_guess_19 : decode cX8_guess 19 = .ok (.isub, 1) := by decide +kernel
theorem dX8_guess_20 : decode cX8_guess 20 = .ok (.invokevirtual 61, 3) := by decide +kernel
theorem dX8_guess_23 : decode cX8_guess 23 = .ok (.ladd, 1) := by decide +kernel
theorem dX8_guess_24 : decode cX8_guess 24 = .ok (.ldc2_w 44, 3) := by decide +kernel
theorem dX8_guess_27 : decode cX8_guess 27 = .ok (.lmul, 1) := by decide +kernel
theorem dX8_guess_28 : decode cX8_guess 28 = .ok (.aload_n 0, 1) := by decide +kernel
theorem dX8_guess_29 : decode cX8_guess 29 = .ok (.iload_n 3, 1) := by decide +kernel
theorem dX8_guess_30 : decode cX8_guess 30 = .ok (.iconst 2, 1) := by decide +kernel
theorem dX8_guess_31 : decode cX8_guess 31 = .ok (.isub, 1) := by decide +kernel
theorem dX8_guess_32 : decode cX8_guess 32 = .ok (.invokevirtual 61, 3) := by decide +kernel
theorem dX8_guess_35 : decode cX8_guess 35 = .ok (.ladd, 1) := by decide +kernel
theorem dX8_guess_36 : decode cX8_guess 36 = .ok (.lstore 4, 2) := by decide +kernel
theorem dX8_guess_38 : decode cX8_guess 38 = .ok (.aload_n 1, 1) := by decide +kernel
theorem dX8_guess_39 : decode cX8_guess 39 = .ok (.aload_n 1, 1) := by decide +kernel
theorem dX8_guess_40 : decode cX8_guess 40 = .ok (.getfield 13, 3) := by decide +kernel
theorem dX8_guess_43 : decode cX8_guess 43 = .ok (.iconst 1, 1) := by decide +kernel
theorem dX8_guess_44 : decode cX8_guess 44 = .ok (.isub, 1) := by decide +kernel
theorem dX8_guess_45 : decode cX8_guess 45 = .ok (.invokevirtual 61, 3) := by decide +kernel
theorem dX8_guess_48 : decode cX8_guess 48 = .ok (.ldc2_w 44, 3) := by decide +kernel
theorem dX8_guess_51 : decode cX8_guess 51 = .ok (.lmul, 1) := by decide +kernel
theorem dX8_guess_52 : decode cX8_guess 52 = .ok (.aload_n 1, 1) := by decide +kernel
theorem dX8_guess_53 : decode cX8_guess 53 = .ok (.aload_n 1, 1) := by decide +kernel
theorem dX8_guess_54 : decode cX8_guess 54 = .ok (.getfield 13, 3) := by decide +kernel
theorem dX8_guess_57 : decode cX8_guess 57 = .ok (.iconst 2, 1) := by decide +kernel
theorem dX8_guess_58 : decode cX8_guess 58 = .ok (.isub, 1) := by decide +kernel
theorem dX8_guess_59 : decode cX8_guess 59 = .ok (.invokevirtual 61, 3) := by decide +kernel
theorem dX8_guess_62 : decode cX8_guess 62 = .ok (.ladd, 1) := by decide +kernel
theorem dX8_guess_63 : decode cX8_guess 63 = .ok (.lconst 1, 1) := by decide +kernel
theorem dX8_guess_64 : decode cX8_guess 64 = .ok (.ladd, 1) := by decide +kernel
theorem dX8_guess_65 : decode cX8_guess 65 = .ok (.lstore 6, 2) := by decide +kernel
theorem dX8_guess_67 : decode cX8_guess 67 = .ok (.lload 6, 2) := by decide +kernel
theorem dX8_guess_69 : decode cX8_guess 69 = .ok (.lconst 0, 1) := by decide +kernel
theorem dX8_guess_70 : decode cX8_guess 70 = .ok (.lcmp, 1) := by decide +kernel
theorem dX8_guess_71 : decode cX8_guess 71 = .ok (.ifCond .le 11, 3) := by decide +kernel
theorem dX8_guess_74 : decode cX8_guess 74 = .ok (.lload 4, 2) := by decide +kernel
theorem dX8_guess_76 : decode cX8_guess 76 = .ok (.lload 6, 2) := by decide +kernel
theorem dX8_guess_78 : decode cX8_guess 78 = .ok (.ldiv, 1) := by decide +kernel
theorem dX8_guess_79 : decode cX8_guess 79 = .ok (.goto 4, 3) := by decide +kernel
theorem dX8_guess_82 : decode cX8_guess 82 = .ok (.lconst 0, 1) := by decide +kernel
theorem dX8_guess_83 : decode cX8_guess 83 = .ok (.lreturn, 1) := by decide +kernel
set_option maxRecDepth 20000 in
theorem ggX8_takeAway_X8_limbAt : GoodIn wsX8_takeAway wsX8_limbAt := goodIn_r _ [8, 1, 2, 18, 19, 20] rfl rfl
set_option maxRecDepth 20000 in
theorem gX8_takeAway_X8_limbAt : GoodIn wsX8_takeAway (wsV RX8 61 RX8 yX8_limbAt wsX8_limbAt) := goodIn_app (goodIn_of _ (by decide +kernel)) ggX8_takeAway_X8_limbAt
set_option maxRecDepth 20000 in
theorem ggX8_takeAway_J9_floorDiv_f86c9 : GoodIn wsX8_takeAway wsJ9_floorDiv_f86c9 := goodIn_r _ [12] rfl rfl
set_option maxRecDepth 20000 in
theorem gX8_takeAway_J9_floorDiv_f86c9 : GoodIn wsX8_takeAway (va_wsS RX8 46 yJ9_floorDiv_f86c9 wsJ9_floorDiv_f86c9) := goodIn_app (goodIn_of _ (by decide +kernel)) ggX8_takeAway_J9_floorDiv_f86c9
set_option maxRecDepth 20000 in
theorem ggX8_takeAway_X8_measure : GoodIn wsX8_takeAway wsX8_measure := goodIn_r _ [16, 2, 1, 17, 18, 19, 20] rfl rfl
set_option maxRecDepth 20000 in
theorem gX8_takeAway_X8_measure : GoodIn wsX8_takeAway (wsV RX8 53 RX8 yX8_measure wsX8_measure) := goodIn_app (goodIn_of _ (by decide +kernel)) ggX8_takeAway_X8_measure
theorem dX8_takeAway_0 : decode cX8_takeAway 0 = .ok (.lconst 0, 1) := by decide +kernel
theorem dX8_takeAway_1 : decode cX8_takeAway 1 = .ok (.lstore 5, 2) := by decide +kernel
theorem dX8_takeAway_3 : decode cX8_takeAway 3 = .ok (.iload_n 2, 1) := by decide +kernel
theorem dX8_takeAway_4 : decode cX8_takeAway 4 = .ok (.istore 7, 2) := by decide +kernel
theorem dX8_takeAway_6 : decode cX8_takeAway 6 = .ok (.iload 7, 2) := by decide +kernel
theorem dX8_takeAway_8 : decode cX8_takeAway 8 = .ok (.aload_n 0, 1) := by decide +kernel
theorem dX8_takeAway_9 : decode cX8_takeAway 9 = .ok (.getfield 13, 3) := by decide +kernel
theorem dX8_takeAway_12 : decode cX8_takeAway 12 = .ok (.if_icmp .ge 58, 3) := by decide +kernel
theorem dX8_takeAway_15 : decode cX8_takeAway 15 = .ok (.aload_n 0, 1) := by decide +kernel
theorem dX8_takeAway_16 : decode cX8_takeAway 16 = .ok (.getfield 7, 3) := by decide +kernel
theorem dX8_takeAway_19 : decode cX8_takeAway 19 = .ok (.iload 7, 2) := by decide +kernel
theorem dX8_takeAway_21 : decode cX8_takeAway 21 = .ok (.laload, 1) := by decide +kernel
theorem dX8_takeAway_22 : decode cX8_takeAway 22 = .ok (.lload 5, 2) := by decide +kernel
theorem dX8_takeAway_24 : decode cX8_takeAway 24 = .ok (.ladd, 1) := by decide +kernel
theorem dX8_takeAway_25 : decode cX8_takeAway 25 = .ok (.lload_n 3, 1) := by decide +kernel
theorem dX8_takeAway_26 : decode cX8_takeAway 26 = .ok (.aload_n 1, 1) := by decide +kernel
theorem dX8_takeAway_27 : decode cX8_takeAway 27 = .ok (.iload 7, 2) := by decide +kernel
theorem dX8_takeAway_29 : decode cX8_takeAway 29 = .ok (.iload_n 2, 1) := by decide +kernel
theorem dX8_takeAway_30 : decode cX8_takeAway 30 = .ok (.isub, 1) := by decide +kernel
theorem dX8_takeAway_31 : decode cX8_takeAway 31 = .ok (.invokevirtual 61, 3) := by decide +kernel
theorem dX8_takeAway_34 : decode cX8_takeAway 34 = .ok (.lmul, 1) := by decide +kernel
theorem dX8_takeAway_35 : decode cX8_takeAway 35 = .ok (.lsub, 1) := by decide +kernel
theorem dX8_takeAway_36 : decode cX8_takeAway 36 = .ok (.lstore 8, 2) := by decide +kernel
theorem dX8_takeAway_38 : decode cX8_takeAway 38 = .ok (.lload 8, 2) := by decide +kernel
theorem dX8_takeAway_40 : decode cX8_takeAway 40 = .ok (.ldc2_w 44, 3) := by decide +kernel
theorem dX8_takeAway_43 : decode cX8_takeAway 43 = .ok (.invokestatic 46, 3) := by decide +kernel
theorem dX8_takeAway_46 : decode cX8_takeAway 46 = .ok (.lstore 5, 2) := by decide +kernel
theorem dX8_takeAway_48 : decode cX8_takeAway 48 = .ok (.aload_n 0, 1) := by decide +kernel
theorem dX8_takeAway_49 : decode cX8_takeAway 49 = .ok (.getfield 7, 3) := by decide +kernel
theorem dX8_takeAway_52 : decode cX8_takeAway 52 = .ok (.iload 7, 2) := by decide +kernel
theorem dX8_takeAway_54 : decode cX8_takeAway 54 = .ok (.lload 8, 2) := by decide +kernel
theorem dX8_takeAway_56 : decode cX8_takeAway 56 = .ok (.lload 5, 2) := by decide +kernel
theorem dX8_takeAway_58 : decode cX8_takeAway 58 = .ok (.ldc2_w 44, 3) := by decide +kernel
theorem dX8_takeAway_61 : decode cX8_takeAway 61 = .ok (.lmul, 1) := by decide +kernel
theorem dX8_takeAway_62 : decode cX8_takeAway 62 = .ok (.lsub, 1) := by decide +kernel
theorem dX8_takeAway_63 : decode cX8_takeAway 63 = .ok (.lastore, 1) := by decide +kernel
theorem dX8_takeAway_64 : decode cX8_takeAway 64 = .ok (.iinc 7 1, 3) := by decide +kernel
theorem dX8_takeAway_67 : decode cX8_takeAway 67 = .ok (.goto (-61), 3) := by decide +kernel
theorem dX8_takeAway_70 : decode cX8_takeAway 70 = .ok (.aload_n 0, 1) := by decide +kernel
theorem dX8_takeAway_71 : decode cX8_takeAway 71 = .ok (.invokevirtual 53, 3) := by decide +kernel
theorem dX8_takeAway_74 : decode cX8_takeAway 74 = .ok (.return_, 1) := by decide +kernel
set_option maxRecDepth 20000 in
theorem ggX8_eighteen_X8_limbAt : GoodIn wsX8_eighteen wsX8_limbAt := goodIn_r _ [7, 8, 1, 9, 10, 11] rfl rfl
set_option maxRecDepth 20000 in
theorem gX8_eighteen_X8_limbAt : GoodIn wsX8_eighteen (wsV RX8 61 RX8 yX8_limbAt wsX8_limbAt) := goodIn_app (goodIn_of _ (by decide +kernel)) ggX8_eighteen_X8_limbAt
theorem dX8_eighteen_0 : decode cX8_eighteen 0 = .ok (.iload_n 1, 1) := by decide +kernel
theorem dX8_eighteen_1 : decode cX8_eighteen 1 = .ok (.ifCond .lt 14, 3) := by decide +kernel
theorem dX8_eighteen_4 : decode cX8_eighteen 4 = .ok (.iload_n 1, 1) := by decide +kernel
theorem dX8_eighteen_5 : decode cX8_eighteen 5 = .ok (.aload_n 0, 1) := by decide +kernel
theorem dX8_eighteen_6 : decode cX8_eighteen 6 = .ok (.getfield 7, 3) := by decide +kernel
theorem dX8_eighteen_9 : decode cX8_eighteen 9 = .ok (.arraylength, 1) := by decide +kernel
theorem dX8_eighteen_10 : decode cX8_eighteen 10 = .ok (.iconst 3, 1) := by decide +kernel
theorem dX8_eighteen_11 : decode cX8_eighteen 11 = .ok (.idiv, 1) := by decide +kernel
theorem dX8_eighteen_12 : decode cX8_eighteen 12 = .ok (.if_icmp .le 5, 3) := by decide +kernel
theorem dX8_eighteen_15 : decode cX8_eighteen 15 = .ok (.lconst 0, 1) := by decide +kernel
theorem dX8_eighteen_16 : decode cX8_eighteen 16 = .ok (.lreturn, 1) := by decide +kernel
theorem dX8_eighteen_17 : decode cX8_eighteen 17 = .ok (.lconst 0, 1) := by decide +kernel
theorem dX8_eighteen_18 : decode cX8_eighteen 18 = .ok (.lstore_n 2, 1) := by decide +kernel
theorem dX8_eighteen_19 : decode cX8_eighteen 19 = .ok (.iconst 2, 1) := by decide +kernel
theorem dX8_eighteen_20 : decode cX8_eighteen 20 = .ok (.istore 4, 2) := by decide +kernel
theorem dX8_eighteen_22 : decode cX8_eighteen 22 = .ok (.iload 4, 2) := by decide +kernel
theorem dX8_eighteen_24 : decode cX8_eighteen 24 = .ok (.ifCond .lt 26, 3) := by decide +kernel
theorem dX8_eighteen_27 : decode cX8_eighteen 27 = .ok (.lload_n 2, 1) := by decide +kernel
theorem dX8_eighteen_28 : decode cX8_eighteen 28 = .ok (.ldc2_w 44, 3) := by decide +kernel
theorem dX8_eighteen_31 : decode cX8_eighteen 31 = .ok (.lmul, 1) := by decide +kernel
theorem dX8_eighteen_32 : decode cX8_eighteen 32 = .ok (.aload_n 0, 1) := by decide +kernel
theorem dX8_eighteen_33 : decode cX8_eighteen 33 = .ok (.iload_n 1, 1) := by decide +kernel
theorem dX8_eighteen_34 : decode cX8_eighteen 34 = .ok (.iconst 3, 1) := by decide +kernel
theorem dX8_eighteen_35 : decode cX8_eighteen 35 = .ok (.imul, 1) := by decide +kernel
theorem dX8_eighteen_36 : decode cX8_eighteen 36 = .ok (.iload 4, 2) := by decide +kernel
theorem dX8_eighteen_38 : decode cX8_eighteen 38 = .ok (.iadd, 1) := by decide +kernel
theorem dX8_eighteen_39 : decode cX8_eighteen 39 = .ok (.invokevirtual 61, 3) := by decide +kernel
theorem dX8_eighteen_42 : decode cX8_eighteen 42 = .ok (.ladd, 1) := by decide +kernel
theorem dX8_eighteen_43 : decode cX8_eighteen 43 = .ok (.lstore_n 2, 1) := by decide +kernel
theorem dX8_eighteen_44 : decode cX8_eighteen 44 = .ok (.iinc 4 (-1), 3) := by decide +kernel
theorem dX8_eighteen_47 : decode cX8_eighteen 47 = .ok (.goto (-25), 3) := by decide +kernel
theorem dX8_eighteen_50 : decode cX8_eighteen 50 = .ok (.lload_n 2, 1) := by decide +kernel
theorem dX8_eighteen_51 : decode cX8_eighteen 51 = .ok (.lreturn, 1) := by decide +kernel
