set_option maxRecDepth 20000 in
theorem ggX10_gain_X10_isAction : GoodIn wsX10_gain wsX10_isAction := goodIn_r _ [9, 10, 11, 12, 13, 8, 14, 15, 88, 89, 90, 91, 92, 93, 94, 95, 96, 97, 98, 99, 100, 101, 102, 103, 104, 105, 106, 107] rfl rfl
set_option maxRecDepth 20000 in
theorem gX10_gain_X10_isAction : GoodIn wsX10_gain (wsV RX10 113 RX10 yX10_isAction wsX10_isAction) := goodIn_app (goodIn_of _ (by decide +kernel)) ggX10_gain_X10_isAction
set_option maxRecDepth 20000 in
theorem ggX10_gain_X10_none : GoodIn wsX10_gain wsX10_none := goodIn_r _ [18] rfl rfl
set_option maxRecDepth 20000 in
theorem gX10_gain_X10_none : GoodIn wsX10_gain (va_wsS RX10 187 yX10_none wsX10_none) := goodIn_app (goodIn_of _ (by decide +kernel)) ggX10_gain_X10_none
set_option maxRecDepth 20000 in
theorem ggX10_gain_X10_gainInto : GoodIn wsX10_gain wsX10_gainInto := goodIn_r _ [22, 15, 23, 24, 4, 3, 25, 26, 27, 28, 8, 29, 30, 31, 32, 33, 34, 35, 36, 37, 38, 39, 40, 41, 42, 43, 44, 45, 46, 47, 48, 49, 50, 51, 52, 53, 54, 55, 56, 57, 58, 59, 60, 61, 62, 63, 88, 89, 90, 91, 92, 93, 94, 95, 96, 97, 98, 99, 100, 101, 102, 103, 104, 105, 106, 107] rfl rfl
set_option maxRecDepth 20000 in
theorem gX10_gain_X10_gainInto : GoodIn wsX10_gain (wsV RX10 153 RX10 yX10_gainInto wsX10_gainInto) := goodIn_app (goodIn_of _ (by decide +kernel)) ggX10_gain_X10_gainInto
set_option maxRecDepth 20000 in
theorem ggX10_gain_X10_copy : GoodIn wsX10_gain wsX10_copy := goodIn_r _ [37, 30, 33, 31, 88, 89, 90, 91, 92, 93, 94, 95, 96, 97, 98, 99, 100, 101, 102, 103, 104, 105, 106, 107] rfl rfl
set_option maxRecDepth 20000 in
theorem gX10_gain_X10_copy : GoodIn wsX10_gain (wsV RX10 90 RX10 yX10_copy wsX10_copy) := goodIn_app (goodIn_of _ (by decide +kernel)) ggX10_gain_X10_copy
set_option maxRecDepth 20000 in
theorem ggX10_gain_X10_sumOf : GoodIn wsX10_gain wsX10_sumOf := goodIn_r _ [63, 23, 88, 89, 90, 91, 92, 93, 94, 95, 96, 97, 98, 99, 100, 101, 102, 103, 104, 105, 106, 107] rfl rfl
set_option maxRecDepth 20000 in
theorem gX10_gain_X10_sumOf : GoodIn wsX10_gain (wsV RX10 127 RX10 yX10_sumOf wsX10_sumOf) := goodIn_app (goodIn_of _ (by decide +kernel)) ggX10_gain_X10_sumOf
set_option maxRecDepth 20000 in
theorem ggX10_gain_X10_times : GoodIn wsX10_gain wsX10_times := goodIn_r _ [41, 33, 31, 32, 30, 42, 43, 44, 8, 45, 88, 89, 90, 91, 92, 93, 94, 95, 96, 97, 98, 99, 100, 101, 102, 103, 104, 105, 106, 107] rfl rfl
set_option maxRecDepth 20000 in
theorem gX10_gain_X10_times : GoodIn wsX10_gain (wsV RX10 80 RX10 yX10_times wsX10_times) := goodIn_app (goodIn_of _ (by decide +kernel)) ggX10_gain_X10_times
set_option maxRecDepth 20000 in
theorem ggX10_gain_X10_tell : GoodIn wsX10_gain wsX10_tell := goodIn_r _ [67, 68, 30, 33, 69, 70, 34, 35, 36, 8, 37, 31, 71, 72, 73, 74, 75, 76, 77, 78, 79, 42, 43, 44, 45, 56, 57, 58, 59, 46, 47, 48, 49, 50, 51, 52, 53, 54, 55, 80, 81, 82, 83, 26, 27, 28, 29, 32, 38, 39, 40, 41, 84, 85, 86, 87, 88, 89, 90, 91, 92, 93, 94, 95, 96, 97, 98, 99, 100, 101, 102, 103, 104, 105, 106, 107] rfl rfl
set_option maxRecDepth 20000 in
theorem gX10_gain_X10_tell : GoodIn wsX10_gain (wsV RX10 190 RX10 yX10_tell wsX10_tell) := goodIn_app (goodIn_of _ (by decide +kernel)) ggX10_gain_X10_tell
theorem dX10_gain_0 : decode cX10_gain 0 = .ok (.aload_n 0, 1) := by decide +kernel
theorem dX10_gain_1 : decode cX10_gain 1 = .ok (.iconst 0, 1) := by decide +kernel
theorem dX10_gain_2 : decode cX10_gain 2 = .ok (.putfield 56, 3) := by decide +kernel
theorem dX10_gain_5 : decode cX10_gain 5 = .ok (.aload_n 0, 1) := by decide +kernel
theorem dX10_gain_6 : decode cX10_gain 6 = .ok (.getfield 96, 3) := by decide +kernel
theorem dX10_gain_9 : decode cX10_gain 9 = .ok (.ifCond .eq 12, 3) := by decide +kernel
theorem dX10_gain_12 : decode cX10_gain 12 = .ok (.aload_n 0, 1) := by decide +kernel
theorem dX10_gain_13 : decode cX10_gain 13 = .ok (.iload_n 1, 1) := by decide +kernel
theorem dX10_gain_14 : decode cX10_gain 14 = .ok (.iload_n 2, 1) := by decide +kernel
theorem dX10_gain_15 : decode cX10_gain 15 = .ok (.invokevirtual 113, 3) := by decide +kernel
theorem dX10_gain_18 : decode cX10_gain 18 = .ok (.ifCond .ne 9, 3) := by decide +kernel
theorem dX10_gain_21 : decode cX10_gain 21 = .ok (.iload_n 3, 1) := by decide +kernel
theorem dX10_gain_22 : decode cX10_gain 22 = .ok (.invokestatic 187, 3) := by decide +kernel
theorem dX10_gain_25 : decode cX10_gain 25 = .ok (.i2l, 1) := by decide +kernel
theorem dX10_gain_26 : decode cX10_gain 26 = .ok (.lreturn, 1) := by decide +kernel
theorem dX10_gain_27 : decode cX10_gain 27 = .ok (.aload_n 0, 1) := by decide +kernel
theorem dX10_gain_28 : decode cX10_gain 28 = .ok (.iconst 4, 1) := by decide +kernel
theorem dX10_gain_29 : decode cX10_gain 29 = .ok (.iload_n 1, 1) := by decide +kernel
theorem dX10_gain_30 : decode cX10_gain 30 = .ok (.imul, 1) := by decide +kernel
theorem dX10_gain_31 : decode cX10_gain 31 = .ok (.iload_n 2, 1) := by decide +kernel
theorem dX10_gain_32 : decode cX10_gain 32 = .ok (.iadd, 1) := by decide +kernel
theorem dX10_gain_33 : decode cX10_gain 33 = .ok (.bipush 68, 2) := by decide +kernel
theorem dX10_gain_35 : decode cX10_gain 35 = .ok (.bipush 74, 2) := by decide +kernel
theorem dX10_gain_37 : decode cX10_gain 37 = .ok (.bipush 53, 2) := by decide +kernel
theorem dX10_gain_39 : decode cX10_gain 39 = .ok (.invokevirtual 153, 3) := by decide +kernel
theorem dX10_gain_42 : decode cX10_gain 42 = .ok (.aload_n 0, 1) := by decide +kernel
theorem dX10_gain_43 : decode cX10_gain 43 = .ok (.bipush 74, 2) := by decide +kernel
theorem dX10_gain_45 : decode cX10_gain 45 = .ok (.bipush 54, 2) := by decide +kernel
theorem dX10_gain_47 : decode cX10_gain 47 = .ok (.invokevirtual 90, 3) := by decide +kernel
theorem dX10_gain_50 : decode cX10_gain 50 = .ok (.aload_n 0, 1) := by decide +kernel
theorem dX10_gain_51 : decode cX10_gain 51 = .ok (.bipush 54, 2) := by decide +kernel
theorem dX10_gain_53 : decode cX10_gain 53 = .ok (.aload_n 0, 1) := by decide +kernel
theorem dX10_gain_54 : decode cX10_gain 54 = .ok (.getfield 26, 3) := by decide +kernel
theorem dX10_gain_57 : decode cX10_gain 57 = .ok (.aload_n 0, 1) := by decide +kernel
theorem dX10_gain_58 : decode cX10_gain 58 = .ok (.iconst 4, 1) := by decide +kernel
theorem dX10_gain_59 : decode cX10_gain 59 = .ok (.iload_n 1, 1) := by decide +kernel
theorem dX10_gain_60 : decode cX10_gain 60 = .ok (.imul, 1) := by decide +kernel
theorem dX10_gain_61 : decode cX10_gain 61 = .ok (.iload_n 2, 1) := by decide +kernel
theorem dX10_gain_62 : decode cX10_gain 62 = .ok (.iadd, 1) := by decide +kernel
theorem dX10_gain_63 : decode cX10_gain 63 = .ok (.invokevirtual 127, 3) := by decide +kernel
theorem dX10_gain_66 : decode cX10_gain 66 = .ok (.imul, 1) := by decide +kernel
theorem dX10_gain_67 : decode cX10_gain 67 = .ok (.invokevirtual 80, 3) := by decide +kernel
theorem dX10_gain_70 : decode cX10_gain 70 = .ok (.aload_n 0, 1) := by decide +kernel
theorem dX10_gain_71 : decode cX10_gain 71 = .ok (.bipush 54, 2) := by decide +kernel
theorem dX10_gain_73 : decode cX10_gain 73 = .ok (.aload_n 0, 1) := by decide +kernel
theorem dX10_gain_74 : decode cX10_gain 74 = .ok (.getfield 16, 3) := by decide +kernel
theorem dX10_gain_77 : decode cX10_gain 77 = .ok (.iconst 4, 1) := by decide +kernel
theorem dX10_gain_78 : decode cX10_gain 78 = .ok (.iload_n 1, 1) := by decide +kernel
theorem dX10_gain_79 : decode cX10_gain 79 = .ok (.imul, 1) := by decide +kernel
theorem dX10_gain_80 : decode cX10_gain 80 = .ok (.iload_n 2, 1) := by decide +kernel
theorem dX10_gain_81 : decode cX10_gain 81 = .ok (.iadd, 1) := by decide +kernel
theorem dX10_gain_82 : decode cX10_gain 82 = .ok (.iaload, 1) := by decide +kernel
theorem dX10_gain_83 : decode cX10_gain 83 = .ok (.invokevirtual 80, 3) := by decide +kernel
theorem dX10_gain_86 : decode cX10_gain 86 = .ok (.aload_n 0, 1) := by decide +kernel
theorem dX10_gain_87 : decode cX10_gain 87 = .ok (.iload_n 3, 1) := by decide +kernel
theorem dX10_gain_88 : decode cX10_gain 88 = .ok (.invokevirtual 190, 3) := by decide +kernel
theorem dX10_gain_91 : decode cX10_gain 91 = .ok (.lreturn, 1) := by decide +kernel
set_option maxRecDepth 20000 in
theorem ggX10_worth_X10_isReady : GoodIn wsX10_worth wsX10_isReady := goodIn_r _ [10, 3, 5, 11, 12, 13, 9, 14, 15, 16, 17, 18, 19, 20, 21, 22, 23, 116, 117, 118, 119, 120, 121, 122, 123, 124, 125, 126, 127, 128, 129, 130, 131, 132, 133, 134, 135] rfl rfl
set_option maxRecDepth 20000 in
theorem gX10_worth_X10_isReady : GoodIn wsX10_worth (wsV RX10 164 RX10 yX10_isReady wsX10_isReady) := goodIn_app (goodIn_of _ (by decide +kernel)) ggX10_worth_X10_isReady
set_option maxRecDepth 20000 in
theorem ggX10_worth_X10_in : GoodIn wsX10_worth wsX10_in := goodIn_r _ [26] rfl rfl
set_option maxRecDepth 20000 in
theorem gX10_worth_X10_in : GoodIn wsX10_worth (va_wsS RX10 121 yX10_in wsX10_in) := goodIn_app (goodIn_of _ (by decide +kernel)) ggX10_worth_X10_in
set_option maxRecDepth 20000 in
theorem ggX10_worth_X10_isState : GoodIn wsX10_worth wsX10_isState := goodIn_r _ [30, 3, 116, 117, 118, 119, 120, 121, 122, 123, 124, 125, 126, 127, 128, 129, 130, 131, 132, 133, 134, 135] rfl rfl
set_option maxRecDepth 20000 in
theorem gX10_worth_X10_isState : GoodIn wsX10_worth (wsV RX10 109 RX10 yX10_isState wsX10_isState) := goodIn_app (goodIn_of _ (by decide +kernel)) ggX10_worth_X10_isState
set_option maxRecDepth 20000 in
theorem ggX10_worth_X10_none : GoodIn wsX10_worth wsX10_none := goodIn_r _ [33] rfl rfl
set_option maxRecDepth 20000 in
theorem gX10_worth_X10_none : GoodIn wsX10_worth (va_wsS RX10 187 yX10_none wsX10_none) := goodIn_app (goodIn_of _ (by decide +kernel)) ggX10_worth_X10_none
set_option maxRecDepth 20000 in
theorem ggX10_worth_X10_valuePolicy : GoodIn wsX10_worth wsX10_valuePolicy := goodIn_r _ [37, 38, 3, 39, 4, 40, 41, 19, 42, 43, 44, 9, 45, 15, 16, 17, 18, 46, 47, 48, 49, 50, 51, 52, 53, 54, 55, 56, 57, 58, 59, 60, 61, 62, 63, 64, 65, 66, 67, 68, 69, 70, 71, 72, 73, 74, 75, 76, 77, 78, 79, 80, 81, 82, 83, 84, 85, 86, 87, 88, 89, 90, 91, 116, 117, 118, 119, 120, 121, 122, 123, 124, 125, 126, 127, 128, 129, 130, 131, 132, 133, 134, 135] rfl rfl
set_option maxRecDepth 20000 in
theorem gX10_worth_X10_valuePolicy : GoodIn wsX10_worth (wsV RX10 168 RX10 yX10_valuePolicy wsX10_valuePolicy) := goodIn_app (goodIn_of _ (by decide +kernel)) ggX10_worth_X10_valuePolicy
set_option maxRecDepth 20000 in
theorem ggX10_worth_X10_copy : GoodIn wsX10_worth wsX10_copy := goodIn_r _ [91, 50, 53, 51, 116, 117, 118, 119, 120, 121, 122, 123, 124, 125, 126, 127, 128, 129, 130, 131, 132, 133, 134, 135] rfl rfl
set_option maxRecDepth 20000 in
theorem gX10_worth_X10_copy : GoodIn wsX10_worth (wsV RX10 90 RX10 yX10_copy wsX10_copy) := goodIn_app (goodIn_of _ (by decide +kernel)) ggX10_worth_X10_copy
set_option maxRecDepth 20000 in
theorem ggX10_worth_X10_belowInto : GoodIn wsX10_worth wsX10_belowInto := goodIn_r _ [95, 38, 88, 89, 90, 9, 91, 50, 53, 51, 54, 55, 56, 57, 52, 58, 59, 60, 61, 116, 117, 118, 119, 120, 121, 122, 123, 124, 125, 126, 127, 128, 129, 130, 131, 132, 133, 134, 135] rfl rfl
set_option maxRecDepth 20000 in
theorem gX10_worth_X10_belowInto : GoodIn wsX10_worth (wsV RX10 171 RX10 yX10_belowInto wsX10_belowInto) := goodIn_app (goodIn_of _ (by decide +kernel)) ggX10_worth_X10_belowInto
set_option maxRecDepth 20000 in
theorem ggX10_worth_X10_tell : GoodIn wsX10_worth wsX10_tell := goodIn_r _ [99, 100, 50, 53, 101, 102, 88, 89, 90, 9, 91, 51, 103, 104, 105, 106, 107, 108, 109, 110, 111, 58, 59, 60, 61, 80, 81, 82, 83, 70, 71, 72, 73, 74, 75, 76, 77, 78, 79, 112, 113, 114, 115, 46, 47, 48, 49, 52, 54, 55, 56, 57, 84, 85, 86, 87, 116, 117, 118, 119, 120, 121, 122, 123, 124, 125, 126, 127, 128, 129, 130, 131, 132, 133, 134, 135] rfl rfl
set_option maxRecDepth 20000 in
theorem gX10_worth_X10_tell : GoodIn wsX10_worth (wsV RX10 190 RX10 yX10_tell wsX10_tell) := goodIn_app (goodIn_of _ (by decide +kernel)) ggX10_worth_X10_tell
theorem dX10_worth_0 : decode cX10_worth 0 = .ok (.aload_n 0, 1) := by decide +kernel
theorem dX10_worth_1 : decode cX10_worth 1 = .ok (.iconst 0, 1) := by decide +kernel
theorem dX10_worth_2 : decode cX10_worth 2 = .ok (.putfield 56, 3) := by decide +kernel
theorem dX10_worth_5 : decode cX10_worth 5 = .ok (.aload_n 0, 1) := by decide +kernel
theorem dX10_worth_6 : decode cX10_worth 6 = .ok (.invokevirtual 164, 3) := by decide +kernel
theorem dX10_worth_9 : decode cX10_worth 9 = .ok (.ifCond .eq 23, 3) := by decide +kernel
theorem dX10_worth_12 : decode cX10_worth 12 = .ok (.iload_n 1, 1) := by decide +kernel
theorem dX10_worth_13 : decode cX10_worth 13 = .ok (.i2l, 1) := by decide +kernel
theorem dX10_worth_14 : decode cX10_worth 14 = .ok (.lconst 0, 1) := by decide +kernel
theorem dX10_worth_15 : decode cX10_worth 15 = .ok (.ldc2_w 194, 3) := by decide +kernel
theorem dX10_worth_18 : decode cX10_worth 18 = .ok (.invokestatic 121, 3) := by decide +kernel
theorem dX10_worth_21 : decode cX10_worth 21 = .ok (.ifCond .eq 11, 3) := by decide +kernel
theorem dX10_worth_24 : decode cX10_worth 24 = .ok (.aload_n 0, 1) := by decide +kernel
theorem dX10_worth_25 : decode cX10_worth 25 = .ok (.iload_n 2, 1) := by decide +kernel
theorem dX10_worth_26 : decode cX10_worth 26 = .ok (.invokevirtual 109, 3) := by decide +kernel
theorem dX10_worth_29 : decode cX10_worth 29 = .ok (.ifCond .ne 9, 3) := by decide +kernel
theorem dX10_worth_32 : decode cX10_worth 32 = .ok (.iload_n 3, 1) := by decide +kernel
theorem dX10_worth_33 : decode cX10_worth 33 = .ok (.invokestatic 187, 3) := by decide +kernel
theorem dX10_worth_36 : decode cX10_worth 36 = .ok (.i2l, 1) := by decide +kernel
theorem dX10_worth_37 : decode cX10_worth 37 = .ok (.lreturn, 1) := by decide +kernel
theorem dX10_worth_38 : decode cX10_worth 38 = .ok (.iconst 0, 1) := by decide +kernel
theorem dX10_worth_39 : decode cX10_worth 39 = .ok (.istore 4, 2) := by decide +kernel
theorem dX10_worth_41 : decode cX10_worth 41 = .ok (.iload 4, 2) := by decide +kernel
theorem dX10_worth_43 : decode cX10_worth 43 = .ok (.aload_n 0, 1) := by decide +kernel
theorem dX10_worth_44 : decode cX10_worth 44 = .ok (.getfield 103, 3) := by decide +kernel
theorem dX10_worth_47 : decode cX10_worth 47 = .ok (.if_icmp .ge 40, 3) := by decide +kernel
theorem dX10_worth_50 : decode cX10_worth 50 = .ok (.aload_n 0, 1) := by decide +kernel
theorem dX10_worth_51 : decode cX10_worth 51 = .ok (.getfield 32, 3) := by decide +kernel
theorem dX10_worth_54 : decode cX10_worth 54 = .ok (.iload 4, 2) := by decide +kernel
theorem dX10_worth_56 : decode cX10_worth 56 = .ok (.iload_n 1, 1) := by decide +kernel
theorem dX10_worth_57 : decode cX10_worth 57 = .ok (.aload_n 0, 1) := by decide +kernel
theorem dX10_worth_58 : decode cX10_worth 58 = .ok (.getfield 7, 3) := by decide +kernel
theorem dX10_worth_61 : decode cX10_worth 61 = .ok (.iload 4, 2) := by decide +kernel
theorem dX10_worth_63 : decode cX10_worth 63 = .ok (.iaload, 1) := by decide +kernel
theorem dX10_worth_64 : decode cX10_worth 64 = .ok (.if_icmp .ge 7, 3) := by decide +kernel
theorem dX10_worth_67 : decode cX10_worth 67 = .ok (.iload_n 1, 1) := by decide +kernel
theorem dX10_worth_68 : decode cX10_worth 68 = .ok (.goto 12, 3) := by decide +kernel
theorem dX10_worth_71 : decode cX10_worth 71 = .ok (.aload_n 0, 1) := by decide +kernel
theorem dX10_worth_72 : decode cX10_worth 72 = .ok (.getfield 7, 3) := by decide +kernel
theorem dX10_worth_75 : decode cX10_worth 75 = .ok (.iload 4, 2) := by decide +kernel
theorem dX10_worth_77 : decode cX10_worth 77 = .ok (.iaload, 1) := by decide +kernel
theorem dX10_worth_78 : decode cX10_worth 78 = .ok (.iconst 1, 1) := by decide +kernel
theorem dX10_worth_79 : decode cX10_worth 79 = .ok (.isub, 1) := by decide +kernel
theorem dX10_worth_80 : decode cX10_worth 80 = .ok (.iastore, 1) := by decide +kernel
theorem dX10_worth_81 : decode cX10_worth 81 = .ok (.iinc 4 1, 3) := by decide +kernel
theorem dX10_worth_84 : decode cX10_worth 84 = .ok (.goto (-43), 3) := by decide +kernel
theorem dX10_worth_87 : decode cX10_worth 87 = .ok (.aload_n 0, 1) := by decide +kernel
theorem dX10_worth_88 : decode cX10_worth 88 = .ok (.invokevirtual 168, 3) := by decide +kernel
theorem dX10_worth_91 : decode cX10_worth 91 = .ok (.aload_n 0, 1) := by decide +kernel
theorem dX10_worth_92 : decode cX10_worth 92 = .ok (.bipush 42, 2) := by decide +kernel
theorem dX10_worth_94 : decode cX10_worth 94 = .ok (.iload_n 2, 1) := by decide +kernel
theorem dX10_worth_95 : decode cX10_worth 95 = .ok (.iadd, 1) := by decide +kernel
theorem dX10_worth_96 : decode cX10_worth 96 = .ok (.bipush 53, 2) := by decide +kernel
theorem dX10_worth_98 : decode cX10_worth 98 = .ok (.invokevirtual 90, 3) := by decide +kernel
theorem dX10_worth_101 : decode cX10_worth 101 = .ok (.aload_n 0, 1) := by decide +kernel
theorem dX10_worth_102 : decode cX10_worth 102 = .ok (.bipush 54, 2) := by decide +kernel
theorem dX10_worth_104 : decode cX10_worth 104 = .ok (.invokevirtual 171, 3) := by decide +kernel
theorem dX10_worth_107 : decode cX10_worth 107 = .ok (.aload_n 0, 1) := by decide +kernel
theorem dX10_worth_108 : decode cX10_worth 108 = .ok (.iload_n 3, 1) := by decide +kernel
theorem dX10_worth_109 : decode cX10_worth 109 = .ok (.invokevirtual 190, 3) := by decide +kernel
theorem dX10_worth_112 : decode cX10_worth 112 = .ok (.lreturn, 1) := by decide +kernel
theorem dX10_factor_0 : decode cX10_factor 0 = .ok (.iload_n 1, 1) := by decide +kernel
theorem dX10_factor_1 : decode cX10_factor 1 = .ok (.istore_n 2, 1) := by decide +kernel
theorem dX10_factor_2 : decode cX10_factor 2 = .ok (.iconst 0, 1) := by decide +kernel
theorem dX10_factor_3 : decode cX10_factor 3 = .ok (.istore_n 3, 1) := by decide +kernel
theorem dX10_factor_4 : decode cX10_factor 4 = .ok (.iload_n 3, 1) := by decide +kernel
theorem dX10_factor_5 : decode cX10_factor 5 = .ok (.bipush 30, 2) := by decide +kernel
theorem dX10_factor_7 : decode cX10_factor 7 = .ok (.if_icmp .ge 49, 3) := by decide +kernel
theorem dX10_factor_10 : decode cX10_factor 10 = .ok (.aload_n 0, 1) := by decide +kernel
theorem dX10_factor_11 : decode cX10_factor 11 = .ok (.getfield 50, 3) := by decide +kernel
theorem dX10_factor_14 : decode cX10_factor 14 = .ok (.iload_n 3, 1) := by decide +kernel
theorem dX10_factor_15 : decode cX10_factor 15 = .ok (.iconst 0, 1) := by decide +kernel
theorem dX10_factor_16 : decode cX10_factor 16 = .ok (.iastore, 1) := by decide +kernel
theorem dX10_factor_17 : decode cX10_factor 17 = .ok (.iload_n 2, 1) := by decide +kernel
theorem dX10_factor_18 : decode cX10_factor 18 = .ok (.aload_n 0, 1) := by decide +kernel
theorem dX10_factor_19 : decode cX10_factor 19 = .ok (.getfield 47, 3) := by decide +kernel
theorem dX10_factor_22 : decode cX10_factor 22 = .ok (.iload_n 3, 1) := by decide +kernel
theorem dX10_factor_23 : decode cX10_factor 23 = .ok (.iaload, 1) := by decide +kernel
theorem dX10_factor_24 : decode cX10_factor 24 = .ok (.irem, 1) := by decide +kernel
theorem dX10_factor_25 : decode cX10_factor 25 = .ok (.ifCond .ne 25, 3) := by decide +kernel
theorem dX10_factor_28 : decode cX10_factor 28 = .ok (.iload_n 2, 1) := by decide +kernel
theorem dX10_factor_29 : decode cX10_factor 29 = .ok (.aload_n 0, 1) := by decide +kernel
theorem dX10_factor_30 : decode cX10_factor 30 = .ok (.getfield 47, 3) := by decide +kernel
theorem dX10_factor_33 : decode cX10_factor 33 = .ok (.iload_n 3, 1) := by decide +kernel
theorem dX10_factor_34 : decode cX10_factor 34 = .ok (.iaload, 1) := by decide +kernel
theorem dX10_factor_35 : decode cX10_factor 35 = .ok (.idiv, 1) := by decide +kernel
theorem dX10_factor_36 : decode cX10_factor 36 = .ok (.istore_n 2, 1) := by decide +kernel
theorem dX10_factor_37 : decode cX10_factor 37 = .ok (.aload_n 0, 1) := by decide +kernel
theorem dX10_factor_38 : decode cX10_factor 38 = .ok (.getfield 50, 3) := by decide +kernel
theorem dX10_factor_41 : decode cX10_factor 41 = .ok (.iload_n 3, 1) := by decide +kernel
theorem dX10_factor_42 : decode cX10_factor 42 = .ok (.dup2, 1) := by decide +kernel
theorem dX10_factor_43 : decode cX10_factor 43 = .ok (.iaload, 1) := by decide +kernel
theorem dX10_factor_44 : decode cX10_factor 44 = .ok (.iconst 1, 1) := by decide +kernel
theorem dX10_factor_45 : decode cX10_factor 45 = .ok (.iadd, 1) := by decide +kernel
theorem dX10_factor_46 : decode cX10_factor 46 = .ok (.iastore, 1) := by decide +kernel
theorem dX10_factor_47 : decode cX10_factor 47 = .ok (.goto (-30), 3) := by decide +kernel
theorem dX10_factor_50 : decode cX10_factor 50 = .ok (.iinc 3 1, 3) := by decide +kernel
theorem dX10_factor_53 : decode cX10_factor 53 = .ok (.goto (-49), 3) := by decide +kernel
theorem dX10_factor_56 : decode cX10_factor 56 = .ok (.return_, 1) := by decide +kernel
set_option maxRecDepth 20000 in
theorem ggX10_go_X10_setSmall : GoodIn wsX10_go wsX10_setSmall := goodIn_r _ [12, 13, 14, 15, 16, 75, 76, 77, 78, 79, 80, 81, 82, 83, 84, 85, 86, 87, 88, 89, 90, 91, 92, 93, 94] rfl rfl
set_option maxRecDepth 20000 in
theorem gX10_go_X10_setSmall : GoodIn wsX10_go (wsV RX10 76 RX10 yX10_setSmall wsX10_setSmall) := goodIn_app (goodIn_of _ (by decide +kernel)) ggX10_go_X10_setSmall
set_option maxRecDepth 20000 in
theorem ggX10_go_X10_greatest : GoodIn wsX10_go wsX10_greatest := goodIn_r _ [20, 21, 22, 23, 24, 11, 25, 4, 26, 27, 28, 29, 1, 30, 31, 7, 32, 8, 9, 10, 12, 13, 14, 15, 16, 33, 34, 35, 36, 37, 38, 39, 40, 41, 42, 43, 44, 45, 46, 47, 48, 49, 50, 51, 52, 53, 54, 55, 56, 57, 58, 59, 60, 61, 62, 63, 64, 65, 66, 75, 76, 77, 78, 79, 80, 81, 82, 83, 84, 85, 86, 87, 88, 89, 90, 91, 92, 93, 94] rfl rfl
set_option maxRecDepth 20000 in
theorem gX10_go_X10_greatest : GoodIn wsX10_go (wsV RX10 175 RX10 yX10_greatest wsX10_greatest) := goodIn_app (goodIn_of _ (by decide +kernel)) ggX10_go_X10_greatest
set_option maxRecDepth 20000 in
theorem ggX10_go_X10_gainInto : GoodIn wsX10_go wsX10_gainInto := goodIn_r _ [29, 1, 30, 31, 4, 7, 32, 8, 9, 10, 11, 12, 13, 14, 15, 16, 33, 34, 35, 36, 37, 38, 39, 40, 41, 42, 43, 44, 45, 46, 47, 48, 49, 50, 51, 52, 53, 54, 55, 56, 57, 58, 59, 60, 61, 62, 75, 76, 77, 78, 79, 80, 81, 82, 83, 84, 85, 86, 87, 88, 89, 90, 91, 92, 93, 94] rfl rfl
set_option maxRecDepth 20000 in
theorem gX10_go_X10_gainInto : GoodIn wsX10_go (wsV RX10 153 RX10 yX10_gainInto wsX10_gainInto) := goodIn_app (goodIn_of _ (by decide +kernel)) ggX10_go_X10_gainInto
set_option maxRecDepth 20000 in
theorem ggX10_go_X10_sumOf : GoodIn wsX10_go wsX10_sumOf := goodIn_r _ [62, 30, 75, 76, 77, 78, 79, 80, 81, 82, 83, 84, 85, 86, 87, 88, 89, 90, 91, 92, 93, 94] rfl rfl
set_option maxRecDepth 20000 in
theorem gX10_go_X10_sumOf : GoodIn wsX10_go (wsV RX10 127 RX10 yX10_sumOf wsX10_sumOf) := goodIn_app (goodIn_of _ (by decide +kernel)) ggX10_go_X10_sumOf
set_option maxRecDepth 20000 in
theorem ggX10_go_X10_factor : GoodIn wsX10_go wsX10_factor := goodIn_r _ [70, 5, 6, 75, 76, 77, 78, 79, 80, 81, 82, 83, 84, 85, 86, 87, 88, 89, 90, 91, 92, 93, 94] rfl rfl
set_option maxRecDepth 20000 in
theorem gX10_go_X10_factor : GoodIn wsX10_go (wsV RX10 196 RX10 yX10_factor wsX10_factor) := goodIn_app (goodIn_of _ (by decide +kernel)) ggX10_go_X10_factor
set_option maxRecDepth 20000 in
theorem ggX10_go_X10_copy : GoodIn wsX10_go wsX10_copy := goodIn_r _ [36, 13, 16, 14, 75, 76, 77, 78, 79, 80, 81, 82, 83, 84, 85, 86, 87, 88, 89, 90, 91, 92, 93, 94] rfl rfl
set_option maxRecDepth 20000 in
theorem gX10_go_X10_copy : GoodIn wsX10_go (wsV RX10 90 RX10 yX10_copy wsX10_copy) := goodIn_app (goodIn_of _ (by decide +kernel)) ggX10_go_X10_copy
set_option maxRecDepth 20000 in
theorem ggX10_go_X10_raise : GoodIn wsX10_go wsX10_raise := goodIn_r _ [74, 37, 38, 39, 11, 40, 16, 14, 15, 13, 41, 42, 43, 44, 75, 76, 77, 78, 79, 80, 81, 82, 83, 84, 85, 86, 87, 88, 89, 90, 91, 92, 93, 94] rfl rfl
set_option maxRecDepth 20000 in
theorem gX10_go_X10_raise : GoodIn wsX10_go (wsV RX10 199 RX10 yX10_raise wsX10_raise) := goodIn_app (goodIn_of _ (by decide +kernel)) ggX10_go_X10_raise
set_option maxRecDepth 20000 in
theorem ggX10_go_X10_times : GoodIn wsX10_go wsX10_times := goodIn_r _ [40, 16, 14, 15, 13, 41, 42, 43, 11, 44, 75, 76, 77, 78, 79, 80, 81, 82, 83, 84, 85, 86, 87, 88, 89, 90, 91, 92, 93, 94] rfl rfl
set_option maxRecDepth 20000 in
theorem gX10_go_X10_times : GoodIn wsX10_go (wsV RX10 80 RX10 yX10_times wsX10_times) := goodIn_app (goodIn_of _ (by decide +kernel)) ggX10_go_X10_times
theorem dX10_go_0 : decode cX10_go 0 = .ok (.aload_n 0, 1) := by decide +kernel
theorem dX10_go_1 : decode cX10_go 1 = .ok (.bipush 67, 2) := by decide +kernel
theorem dX10_go_3 : decode cX10_go 3 = .ok (.lconst 1, 1) := by decide +kernel
theorem dX10_go_4 : decode cX10_go 4 = .ok (.invokevirtual 76, 3) := by decide +kernel
theorem dX10_go_7 : decode cX10_go 7 = .ok (.iconst 0, 1) := by decide +kernel
theorem dX10_go_8 : decode cX10_go 8 = .ok (.istore_n 2, 1) := by decide +kernel
theorem dX10_go_9 : decode cX10_go 9 = .ok (.iload_n 2, 1) := by decide +kernel
theorem dX10_go_10 : decode cX10_go 10 = .ok (.aload_n 0, 1) := by decide +kernel
theorem dX10_go_11 : decode cX10_go 11 = .ok (.getfield 103, 3) := by decide +kernel
theorem dX10_go_14 : decode cX10_go 14 = .ok (.if_icmp .ge 18, 3) := by decide +kernel
theorem dX10_go_17 : decode cX10_go 17 = .ok (.aload_n 0, 1) := by decide +kernel
theorem dX10_go_18 : decode cX10_go 18 = .ok (.bipush 55, 2) := by decide +kernel
theorem dX10_go_20 : decode cX10_go 20 = .ok (.iload_n 2, 1) := by decide +kernel
theorem dX10_go_21 : decode cX10_go 21 = .ok (.iadd, 1) := by decide +kernel
theorem dX10_go_22 : decode cX10_go 22 = .ok (.lconst 0, 1) := by decide +kernel
theorem dX10_go_23 : decode cX10_go 23 = .ok (.invokevirtual 76, 3) := by decide +kernel
theorem dX10_go_26 : decode cX10_go 26 = .ok (.iinc 2 1, 3) := by decide +kernel
theorem dX10_go_29 : decode cX10_go 29 = .ok (.goto (-20), 3) := by decide +kernel
theorem dX10_go_32 : decode cX10_go 32 = .ok (.iconst 0, 1) := by decide +kernel
theorem dX10_go_33 : decode cX10_go 33 = .ok (.istore_n 2, 1) := by decide +kernel
theorem dX10_go_34 : decode cX10_go 34 = .ok (.iload_n 2, 1) := by decide +kernel
theorem dX10_go_35 : decode cX10_go 35 = .ok (.iload_n 1, 1) := by decide +kernel
theorem dX10_go_36 : decode cX10_go 36 = .ok (.if_icmp .ge 308, 3) := by decide +kernel
theorem dX10_go_39 : decode cX10_go 39 = .ok (.iconst 0, 1) := by decide +kernel
theorem dX10_go_40 : decode cX10_go 40 = .ok (.istore_n 3, 1) := by decide +kernel
theorem dX10_go_41 : decode cX10_go 41 = .ok (.iload_n 3, 1) := by decide +kernel
theorem dX10_go_42 : decode cX10_go 42 = .ok (.bipush 30, 2) := by decide +kernel
theorem dX10_go_44 : decode cX10_go 44 = .ok (.if_icmp .ge 16, 3) := by decide +kernel
theorem dX10_go_47 : decode cX10_go 47 = .ok (.aload_n 0, 1) := by decide +kernel
theorem dX10_go_48 : decode cX10_go 48 = .ok (.getfield 53, 3) := by decide +kernel
theorem dX10_go_51 : decode cX10_go 51 = .ok (.iload_n 3, 1) := by decide +kernel
theorem dX10_go_52 : decode cX10_go 52 = .ok (.iconst 0, 1) := by decide +kernel
theorem dX10_go_53 : decode cX10_go 53 = .ok (.iastore, 1) := by decide +kernel
theorem dX10_go_54 : decode cX10_go 54 = .ok (.iinc 3 1, 3) := by decide +kernel
theorem dX10_go_57 : decode cX10_go 57 = .ok (.goto (-16), 3) := by decide +kernel
theorem dX10_go_60 : decode cX10_go 60 = .ok (.iconst 0, 1) := by decide +kernel
theorem dX10_go_61 : decode cX10_go 61 = .ok (.istore_n 3, 1) := by decide +kernel
theorem dX10_go_62 : decode cX10_go 62 = .ok (.iload_n 3, 1) := by decide +kernel
theorem dX10_go_63 : decode cX10_go 63 = .ok (.aload_n 0, 1) := by decide +kernel
theorem dX10_go_64 : decode cX10_go 64 = .ok (.getfield 103, 3) := by decide +kernel
theorem dX10_go_67 : decode cX10_go 67 = .ok (.if_icmp .ge 125, 3) := by decide +kernel
theorem dX10_go_70 : decode cX10_go 70 = .ok (.aload_n 0, 1) := by decide +kernel
theorem dX10_go_71 : decode cX10_go 71 = .ok (.getfield 32, 3) := by decide +kernel
theorem dX10_go_74 : decode cX10_go 74 = .ok (.iload_n 3, 1) := by decide +kernel
theorem dX10_go_75 : decode cX10_go 75 = .ok (.aload_n 0, 1) := by decide +kernel
theorem dX10_go_76 : decode cX10_go 76 = .ok (.iload_n 3, 1) := by decide +kernel
theorem dX10_go_77 : decode cX10_go 77 = .ok (.bipush 55, 2) := by decide +kernel
theorem dX10_go_79 : decode cX10_go 79 = .ok (.bipush 67, 2) := by decide +kernel
theorem dX10_go_81 : decode cX10_go 81 = .ok (.invokevirtual 175, 3) := by decide +kernel
theorem dX10_go_84 : decode cX10_go 84 = .ok (.iastore, 1) := by decide +kernel
theorem dX10_go_85 : decode cX10_go 85 = .ok (.iconst 4, 1) := by decide +kernel
theorem dX10_go_86 : decode cX10_go 86 = .ok (.iload_n 3, 1) := by decide +kernel
theorem dX10_go_87 : decode cX10_go 87 = .ok (.imul, 1) := by decide +kernel
theorem dX10_go_88 : decode cX10_go 88 = .ok (.aload_n 0, 1) := by decide +kernel
theorem dX10_go_89 : decode cX10_go 89 = .ok (.getfield 32, 3) := by decide +kernel
theorem dX10_go_92 : decode cX10_go 92 = .ok (.iload_n 3, 1) := by decide +kernel
theorem dX10_go_93 : decode cX10_go 93 = .ok (.iaload, 1) := by decide +kernel
theorem dX10_go_94 : decode cX10_go 94 = .ok (.iadd, 1) := by decide +kernel
theorem dX10_go_95 : decode cX10_go 95 = .ok (.istore 4, 2) := by decide +kernel
theorem dX10_go_97 : decode cX10_go 97 = .ok (.aload_n 0, 1) := by decide +kernel
theorem dX10_go_98 : decode cX10_go 98 = .ok (.iload 4, 2) := by decide +kernel
theorem dX10_go_100 : decode cX10_go 100 = .ok (.bipush 55, 2) := by decide +kernel
theorem dX10_go_102 : decode cX10_go 102 = .ok (.bipush 67, 2) := by decide +kernel
theorem dX10_go_104 : decode cX10_go 104 = .ok (.bipush 61, 2) := by decide +kernel
theorem dX10_go_106 : decode cX10_go 106 = .ok (.iload_n 3, 1) := by decide +kernel
theorem dX10_go_107 : decode cX10_go 107 = .ok (.iadd, 1) := by decide +kernel
theorem dX10_go_108 : decode cX10_go 108 = .ok (.invokevirtual 153, 3) := by decide +kernel
theorem dX10_go_111 : decode cX10_go 111 = .ok (.aload_n 0, 1) := by decide +kernel
theorem dX10_go_112 : decode cX10_go 112 = .ok (.aload_n 0, 1) := by decide +kernel
theorem dX10_go_113 : decode cX10_go 113 = .ok (.getfield 16, 3) := by decide +kernel
theorem dX10_go_116 : decode cX10_go 116 = .ok (.iload 4, 2) := by decide +kernel
theorem dX10_go_118 : decode cX10_go 118 = .ok (.iaload, 1) := by decide +kernel
theorem dX10_go_119 : decode cX10_go 119 = .ok (.aload_n 0, 1) := by decide +kernel
theorem dX10_go_120 : decode cX10_go 120 = .ok (.iload 4, 2) := by decide +kernel
theorem dX10_go_122 : decode cX10_go 122 = .ok (.invokevirtual 127, 3) := by decide +kernel
theorem dX10_go_125 : decode cX10_go 125 = .ok (.imul, 1) := by decide +kernel
theorem dX10_go_126 : decode cX10_go 126 = .ok (.invokevirtual 196, 3) := by decide +kernel
theorem dX10_go_129 : decode cX10_go 129 = .ok (.iconst 0, 1) := by decide +kernel
theorem dX10_go_130 : decode cX10_go 130 = .ok (.istore 5, 2) := by decide +kernel
theorem dX10_go_132 : decode cX10_go 132 = .ok (.iload 5, 2) := by decide +kernel
theorem dX10_go_134 : decode cX10_go 134 = .ok (.bipush 30, 2) := by decide +kernel
theorem dX10_go_136 : decode cX10_go 136 = .ok (.if_icmp .ge 50, 3) := by decide +kernel
theorem dX10_go_139 : decode cX10_go 139 = .ok (.aload_n 0, 1) := by decide +kernel
theorem dX10_go_140 : decode cX10_go 140 = .ok (.getfield 53, 3) := by decide +kernel
theorem dX10_go_143 : decode cX10_go 143 = .ok (.iload 5, 2) := by decide +kernel
theorem dX10_go_145 : decode cX10_go 145 = .ok (.aload_n 0, 1) := by decide +kernel
theorem dX10_go_146 : decode cX10_go 146 = .ok (.getfield 50, 3) := by decide +kernel
theorem dX10_go_149 : decode cX10_go 149 = .ok (.iload 5, 2) := by decide +kernel
theorem dX10_go_151 : decode cX10_go 151 = .ok (.iaload, 1) := by decide +kernel
theorem dX10_go_152 : decode cX10_go 152 = .ok (.aload_n 0, 1) := by decide +kernel
theorem dX10_go_153 : decode cX10_go 153 = .ok (.getfield 53, 3) := by decide +kernel
theorem dX10_go_156 : decode cX10_go 156 = .ok (.iload 5, 2) := by decide +kernel
theorem dX10_go_158 : decode cX10_go 158 = .ok (.iaload, 1) := by decide +kernel
theorem dX10_go_159 : decode cX10_go 159 = .ok (.if_icmp .le 13, 3) := by decide +kernel
theorem dX10_go_162 : decode cX10_go 162 = .ok (.aload_n 0, 1) := by decide +kernel
theorem dX10_go_163 : decode cX10_go 163 = .ok (.getfield 50, 3) := by decide +kernel
theorem dX10_go_166 : decode cX10_go 166 = .ok (.iload 5, 2) := by decide +kernel
theorem dX10_go_168 : decode cX10_go 168 = .ok (.iaload, 1) := by decide +kernel
theorem dX10_go_169 : decode cX10_go 169 = .ok (.goto 10, 3) := by decide +kernel
theorem dX10_go_172 : decode cX10_go 172 = .ok (.aload_n 0, 1) := by decide +kernel
theorem dX10_go_173 : decode cX10_go 173 = .ok (.getfield 53, 3) := by decide +kernel
theorem dX10_go_176 : decode cX10_go 176 = .ok (.iload 5, 2) := by decide +kernel
theorem dX10_go_178 : decode cX10_go 178 = .ok (.iaload, 1) := by decide +kernel
theorem dX10_go_179 : decode cX10_go 179 = .ok (.iastore, 1) := by decide +kernel
theorem dX10_go_180 : decode cX10_go 180 = .ok (.iinc 5 1, 3) := by decide +kernel
theorem dX10_go_183 : decode cX10_go 183 = .ok (.goto (-51), 3) := by decide +kernel
theorem dX10_go_186 : decode cX10_go 186 = .ok (.iinc 3 1, 3) := by decide +kernel
theorem dX10_go_189 : decode cX10_go 189 = .ok (.goto (-127), 3) := by decide +kernel
theorem dX10_go_192 : decode cX10_go 192 = .ok (.iconst 0, 1) := by decide +kernel
theorem dX10_go_193 : decode cX10_go 193 = .ok (.istore_n 3, 1) := by decide +kernel
theorem dX10_go_194 : decode cX10_go 194 = .ok (.iload_n 3, 1) := by decide +kernel
theorem dX10_go_195 : decode cX10_go 195 = .ok (.aload_n 0, 1) := by decide +kernel
theorem dX10_go_196 : decode cX10_go 196 = .ok (.getfield 103, 3) := by decide +kernel
theorem dX10_go_199 : decode cX10_go 199 = .ok (.if_icmp .ge 97, 3) := by decide +kernel
theorem dX10_go_202 : decode cX10_go 202 = .ok (.iconst 4, 1) := by decide +kernel
theorem dX10_go_203 : decode cX10_go 203 = .ok (.iload_n 3, 1) := by decide +kernel
theorem dX10_go_204 : decode cX10_go 204 = .ok (.imul, 1) := by decide +kernel
theorem dX10_go_205 : decode cX10_go 205 = .ok (.aload_n 0, 1) := by decide +kernel
theorem dX10_go_206 : decode cX10_go 206 = .ok (.getfield 32, 3) := by decide +kernel
theorem dX10_go_209 : decode cX10_go 209 = .ok (.iload_n 3, 1) := by decide +kernel
theorem dX10_go_210 : decode cX10_go 210 = .ok (.iaload, 1) := by decide +kernel
theorem dX10_go_211 : decode cX10_go 211 = .ok (.iadd, 1) := by decide +kernel
theorem dX10_go_212 : decode cX10_go 212 = .ok (.istore 4, 2) := by decide +kernel
theorem dX10_go_214 : decode cX10_go 214 = .ok (.aload_n 0, 1) := by decide +kernel
theorem dX10_go_215 : decode cX10_go 215 = .ok (.aload_n 0, 1) := by decide +kernel
theorem dX10_go_216 : decode cX10_go 216 = .ok (.getfield 16, 3) := by decide +kernel
theorem dX10_go_219 : decode cX10_go 219 = .ok (.iload 4, 2) := by decide +kernel
theorem dX10_go_221 : decode cX10_go 221 = .ok (.iaload, 1) := by decide +kernel
theorem dX10_go_222 : decode cX10_go 222 = .ok (.aload_n 0, 1) := by decide +kernel
theorem dX10_go_223 : decode cX10_go 223 = .ok (.iload 4, 2) := by decide +kernel
theorem dX10_go_225 : decode cX10_go 225 = .ok (.invokevirtual 127, 3) := by decide +kernel
theorem dX10_go_228 : decode cX10_go 228 = .ok (.imul, 1) := by decide +kernel
theorem dX10_go_229 : decode cX10_go 229 = .ok (.invokevirtual 196, 3) := by decide +kernel
theorem dX10_go_232 : decode cX10_go 232 = .ok (.aload_n 0, 1) := by decide +kernel
theorem dX10_go_233 : decode cX10_go 233 = .ok (.bipush 61, 2) := by decide +kernel
theorem dX10_go_235 : decode cX10_go 235 = .ok (.iload_n 3, 1) := by decide +kernel
theorem dX10_go_236 : decode cX10_go 236 = .ok (.iadd, 1) := by decide +kernel
theorem dX10_go_237 : decode cX10_go 237 = .ok (.bipush 55, 2) := by decide +kernel
theorem dX10_go_239 : decode cX10_go 239 = .ok (.iload_n 3, 1) := by decide +kernel
theorem dX10_go_240 : decode cX10_go 240 = .ok (.iadd, 1) := by decide +kernel
theorem dX10_go_241 : decode cX10_go 241 = .ok (.invokevirtual 90, 3) := by decide +kernel
theorem dX10_go_244 : decode cX10_go 244 = .ok (.iconst 0, 1) := by decide +kernel
theorem dX10_go_245 : decode cX10_go 245 = .ok (.istore 5, 2) := by decide +kernel
theorem dX10_go_247 : decode cX10_go 247 = .ok (.iload 5, 2) := by decide +kernel
theorem dX10_go_249 : decode cX10_go 249 = .ok (.bipush 30, 2) := by decide +kernel
theorem dX10_go_251 : decode cX10_go 251 = .ok (.if_icmp .ge 39, 3) := by decide +kernel
theorem dX10_go_254 : decode cX10_go 254 = .ok (.aload_n 0, 1) := by decide +kernel
theorem dX10_go_255 : decode cX10_go 255 = .ok (.bipush 55, 2) := by decide +kernel
theorem dX10_go_257 : decode cX10_go 257 = .ok (.iload_n 3, 1) := by decide +kernel
theorem dX10_go_258 : decode cX10_go 258 = .ok (.iadd, 1) := by decide +kernel
theorem dX10_go_259 : decode cX10_go 259 = .ok (.aload_n 0, 1) := by decide +kernel
theorem dX10_go_260 : decode cX10_go 260 = .ok (.getfield 47, 3) := by decide +kernel
theorem dX10_go_263 : decode cX10_go 263 = .ok (.iload 5, 2) := by decide +kernel
theorem dX10_go_265 : decode cX10_go 265 = .ok (.iaload, 1) := by decide +kernel
theorem dX10_go_266 : decode cX10_go 266 = .ok (.aload_n 0, 1) := by decide +kernel
theorem dX10_go_267 : decode cX10_go 267 = .ok (.getfield 53, 3) := by decide +kernel
theorem dX10_go_270 : decode cX10_go 270 = .ok (.iload 5, 2) := by decide +kernel
theorem dX10_go_272 : decode cX10_go 272 = .ok (.iaload, 1) := by decide +kernel
theorem dX10_go_273 : decode cX10_go 273 = .ok (.aload_n 0, 1) := by decide +kernel
theorem dX10_go_274 : decode cX10_go 274 = .ok (.getfield 50, 3) := by decide +kernel
theorem dX10_go_277 : decode cX10_go 277 = .ok (.iload 5, 2) := by decide +kernel
theorem dX10_go_279 : decode cX10_go 279 = .ok (.iaload, 1) := by decide +kernel
theorem dX10_go_280 : decode cX10_go 280 = .ok (.isub, 1) := by decide +kernel
theorem dX10_go_281 : decode cX10_go 281 = .ok (.invokevirtual 199, 3) := by decide +kernel
theorem dX10_go_284 : decode cX10_go 284 = .ok (.iinc 5 1, 3) := by decide +kernel
theorem dX10_go_287 : decode cX10_go 287 = .ok (.goto (-40), 3) := by decide +kernel
theorem dX10_go_290 : decode cX10_go 290 = .ok (.iinc 3 1, 3) := by decide +kernel
theorem dX10_go_293 : decode cX10_go 293 = .ok (.goto (-99), 3) := by decide +kernel
theorem dX10_go_296 : decode cX10_go 296 = .ok (.aload_n 0, 1) := by decide +kernel
theorem dX10_go_297 : decode cX10_go 297 = .ok (.bipush 67, 2) := by decide +kernel
theorem dX10_go_299 : decode cX10_go 299 = .ok (.aload_n 0, 1) := by decide +kernel
theorem dX10_go_300 : decode cX10_go 300 = .ok (.getfield 26, 3) := by decide +kernel
theorem dX10_go_303 : decode cX10_go 303 = .ok (.invokevirtual 80, 3) := by decide +kernel
theorem dX10_go_306 : decode cX10_go 306 = .ok (.iconst 0, 1) := by decide +kernel
theorem dX10_go_307 : decode cX10_go 307 = .ok (.istore_n 3, 1) := by decide +kernel
theorem dX10_go_308 : decode cX10_go 308 = .ok (.iload_n 3, 1) := by decide +kernel
theorem dX10_go_309 : decode cX10_go 309 = .ok (.bipush 30, 2) := by decide +kernel
theorem dX10_go_311 : decode cX10_go 311 = .ok (.if_icmp .ge 27, 3) := by decide +kernel
theorem dX10_go_314 : decode cX10_go 314 = .ok (.aload_n 0, 1) := by decide +kernel
theorem dX10_go_315 : decode cX10_go 315 = .ok (.bipush 67, 2) := by decide +kernel
theorem dX10_go_317 : decode cX10_go 317 = .ok (.aload_n 0, 1) := by decide +kernel
theorem dX10_go_318 : decode cX10_go 318 = .ok (.getfield 47, 3) := by decide +kernel
theorem dX10_go_321 : decode cX10_go 321 = .ok (.iload_n 3, 1) := by decide +kernel
theorem dX10_go_322 : decode cX10_go 322 = .ok (.iaload, 1) := by decide +kernel
theorem dX10_go_323 : decode cX10_go 323 = .ok (.aload_n 0, 1) := by decide +kernel
theorem dX10_go_324 : decode cX10_go 324 = .ok (.getfield 53, 3) := by decide +kernel
theorem dX10_go_327 : decode cX10_go 327 = .ok (.iload_n 3, 1) := by decide +kernel
theorem dX10_go_328 : decode cX10_go 328 = .ok (.iaload, 1) := by decide +kernel
theorem dX10_go_329 : decode cX10_go 329 = .ok (.invokevirtual 199, 3) := by decide +kernel
theorem dX10_go_332 : decode cX10_go 332 = .ok (.iinc 3 1, 3) := by decide +kernel
theorem dX10_go_335 : decode cX10_go 335 = .ok (.goto (-27), 3) := by decide +kernel
theorem dX10_go_338 : decode cX10_go 338 = .ok (.iinc 2 1, 3) := by decide +kernel
theorem dX10_go_341 : decode cX10_go 341 = .ok (.goto (-307), 3) := by decide +kernel
theorem dX10_go_344 : decode cX10_go 344 = .ok (.return_, 1) := by decide +kernel
set_option maxRecDepth 20000 in
theorem ggX10_raise_X10_times : GoodIn wsX10_raise wsX10_times := goodIn_r _ [5, 6, 7, 8, 9, 10, 11, 12, 4, 13, 14, 15, 16, 17, 18, 19, 20, 21, 22, 23, 24, 25, 26, 27, 28, 29, 30, 31, 32, 33] rfl rfl
set_option maxRecDepth 20000 in
theorem gX10_raise_X10_times : GoodIn wsX10_raise (wsV RX10 80 RX10 yX10_times wsX10_times) := goodIn_app (goodIn_of _ (by decide +kernel)) ggX10_raise_X10_times
theorem dX10_raise_0 : decode cX10_raise 0 = .ok (.iconst 0, 1) := by decide +kernel
theorem dX10_raise_1 : decode cX10_raise 1 = .ok (.istore 4, 2) := by decide +kernel
theorem dX10_raise_3 : decode cX10_raise 3 = .ok (.iload 4, 2) := by decide +kernel
theorem dX10_raise_5 : decode cX10_raise 5 = .ok (.iload_n 3, 1) := by decide +kernel
theorem dX10_raise_6 : decode cX10_raise 6 = .ok (.if_icmp .ge 15, 3) := by decide +kernel
theorem dX10_raise_9 : decode cX10_raise 9 = .ok (.aload_n 0, 1) := by decide +kernel
theorem dX10_raise_10 : decode cX10_raise 10 = .ok (.iload_n 1, 1) := by decide +kernel
theorem dX10_raise_11 : decode cX10_raise 11 = .ok (.iload_n 2, 1) := by decide +kernel
theorem dX10_raise_12 : decode cX10_raise 12 = .ok (.invokevirtual 80, 3) := by decide +kernel
theorem dX10_raise_15 : decode cX10_raise 15 = .ok (.iinc 4 1, 3) := by decide +kernel
theorem dX10_raise_18 : decode cX10_raise 18 = .ok (.goto (-15), 3) := by decide +kernel
theorem dX10_raise_21 : decode cX10_raise 21 = .ok (.return_, 1) := by decide +kernel
