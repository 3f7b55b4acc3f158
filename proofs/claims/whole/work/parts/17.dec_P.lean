set_option maxRecDepth 20000 in
theorem ggX9_init_X6_init : GoodIn wsX9_init wsX6_init := goodIn_r _ [43, 44, 2, 3, 24, 45, 46, 47, 48, 49, 50, 51, 52, 53, 54, 55, 56, 57, 58, 59, 60, 127, 128, 129, 130, 131, 164, 165, 166, 167] rfl rfl
set_option maxRecDepth 20000 in
theorem gX9_init_X6_init : GoodIn wsX9_init (wsX6_init) := ggX9_init_X6_init
set_option maxRecDepth 20000 in
theorem ggX9_init_X2_init : GoodIn wsX9_init wsX2_init := goodIn_r _ [63, 64, 2, 3, 65, 24, 66, 67, 68, 35, 36, 69, 70, 71, 72, 73, 74, 75, 76, 146, 147, 161, 162, 163] rfl rfl
set_option maxRecDepth 20000 in
theorem gX9_init_X2_init : GoodIn wsX9_init (wsX2_init) := ggX9_init_X2_init
set_option maxRecDepth 20000 in
theorem ggX9_init_X1_init : GoodIn wsX9_init wsX1_init := goodIn_r _ [79, 80, 2, 3, 81, 82, 83, 84, 85, 86, 35, 36, 87, 88, 89, 90, 91, 92, 93, 94, 95, 70, 71, 72, 73, 74, 75, 76, 96, 168, 169, 148, 149, 150, 161, 162, 163] rfl rfl
set_option maxRecDepth 20000 in
theorem gX9_init_X1_init : GoodIn wsX9_init (wsX1_init) := ggX9_init_X1_init
set_option maxRecDepth 20000 in
theorem ggX9_init_X5_init : GoodIn wsX9_init wsX5_init := goodIn_r _ [99, 100, 2, 3, 101, 102, 21, 22, 103, 24, 104, 105, 106, 107, 108, 109, 110, 111, 35, 36, 112, 113, 70, 71, 72, 73, 74, 75, 76, 151, 152, 153, 154, 155, 161, 162, 163] rfl rfl
set_option maxRecDepth 20000 in
theorem gX9_init_X5_init : GoodIn wsX9_init (wsX5_init) := ggX9_init_X5_init
set_option maxRecDepth 20000 in
theorem ggX9_init_X7_init : GoodIn wsX9_init wsX7_init := goodIn_r _ [108, 109, 2, 3, 110, 111, 35, 36, 112, 113, 70, 71, 72, 73, 74, 75, 76, 154, 155, 161, 162, 163] rfl rfl
set_option maxRecDepth 20000 in
theorem gX9_init_X7_init : GoodIn wsX9_init (wsX7_init) := ggX9_init_X7_init
set_option maxRecDepth 20000 in
theorem ggX9_init_X3_init : GoodIn wsX9_init wsX3_init := goodIn_r _ [117, 118, 2, 3, 119, 35, 36, 120, 121, 122, 123, 124, 125, 70, 71, 72, 73, 74, 75, 76, 161, 162, 163, 156, 157, 158, 159, 160] rfl rfl
set_option maxRecDepth 20000 in
theorem gX9_init_X3_init : GoodIn wsX9_init (wsX3_init) := ggX9_init_X3_init
set_option maxRecDepth 20000 in
theorem ggX9_init_X8_init : GoodIn wsX9_init wsX8_init := goodIn_r _ [71, 72, 2, 3, 73, 74, 75, 76, 161, 162, 163] rfl rfl
set_option maxRecDepth 20000 in
theorem gX9_init_X8_init : GoodIn wsX9_init (wsX8_init) := ggX9_init_X8_init
theorem dX9_init_0 : decode cX9_init 0 = .ok (.aload_n 0, 1) := by decide +kernel
theorem dX9_init_1 : decode cX9_init 1 = .ok (.invokespecial 1, 3) := by decide +kernel
theorem dX9_init_4 : decode cX9_init 4 = .ok (.aload_n 0, 1) := by decide +kernel
theorem dX9_init_5 : decode cX9_init 5 = .ok (.new 7, 3) := by decide +kernel
theorem dX9_init_8 : decode cX9_init 8 = .ok (.dup, 1) := by decide +kernel
theorem dX9_init_9 : decode cX9_init 9 = .ok (.invokespecial 9, 3) := by decide +kernel
theorem dX9_init_12 : decode cX9_init 12 = .ok (.putfield 10, 3) := by decide +kernel
theorem dX9_init_15 : decode cX9_init 15 = .ok (.aload_n 0, 1) := by decide +kernel
theorem dX9_init_16 : decode cX9_init 16 = .ok (.new 16, 3) := by decide +kernel
theorem dX9_init_19 : decode cX9_init 19 = .ok (.dup, 1) := by decide +kernel
theorem dX9_init_20 : decode cX9_init 20 = .ok (.invokespecial 18, 3) := by decide +kernel
theorem dX9_init_23 : decode cX9_init 23 = .ok (.putfield 19, 3) := by decide +kernel
theorem dX9_init_26 : decode cX9_init 26 = .ok (.aload_n 0, 1) := by decide +kernel
theorem dX9_init_27 : decode cX9_init 27 = .ok (.new 23, 3) := by decide +kernel
theorem dX9_init_30 : decode cX9_init 30 = .ok (.dup, 1) := by decide +kernel
theorem dX9_init_31 : decode cX9_init 31 = .ok (.invokespecial 25, 3) := by decide +kernel
theorem dX9_init_34 : decode cX9_init 34 = .ok (.putfield 26, 3) := by decide +kernel
theorem dX9_init_37 : decode cX9_init 37 = .ok (.aload_n 0, 1) := by decide +kernel
theorem dX9_init_38 : decode cX9_init 38 = .ok (.new 30, 3) := by decide +kernel
theorem dX9_init_41 : decode cX9_init 41 = .ok (.dup, 1) := by decide +kernel
theorem dX9_init_42 : decode cX9_init 42 = .ok (.invokespecial 32, 3) := by decide +kernel
theorem dX9_init_45 : decode cX9_init 45 = .ok (.putfield 33, 3) := by decide +kernel
theorem dX9_init_48 : decode cX9_init 48 = .ok (.aload_n 0, 1) := by decide +kernel
theorem dX9_init_49 : decode cX9_init 49 = .ok (.new 37, 3) := by decide +kernel
theorem dX9_init_52 : decode cX9_init 52 = .ok (.dup, 1) := by decide +kernel
theorem dX9_init_53 : decode cX9_init 53 = .ok (.bipush 8, 2) := by decide +kernel
theorem dX9_init_55 : decode cX9_init 55 = .ok (.invokespecial 39, 3) := by decide +kernel
theorem dX9_init_58 : decode cX9_init 58 = .ok (.putfield 42, 3) := by decide +kernel
theorem dX9_init_61 : decode cX9_init 61 = .ok (.aload_n 0, 1) := by decide +kernel
theorem dX9_init_62 : decode cX9_init 62 = .ok (.bipush 6, 2) := by decide +kernel
theorem dX9_init_64 : decode cX9_init 64 = .ok (.newarray .int, 2) := by decide +kernel
theorem dX9_init_66 : decode cX9_init 66 = .ok (.putfield 46, 3) := by decide +kernel
theorem dX9_init_69 : decode cX9_init 69 = .ok (.aload_n 0, 1) := by decide +kernel
theorem dX9_init_70 : decode cX9_init 70 = .ok (.iconst 4, 1) := by decide +kernel
theorem dX9_init_71 : decode cX9_init 71 = .ok (.anewarray 37, 3) := by decide +kernel
theorem dX9_init_74 : decode cX9_init 74 = .ok (.putfield 50, 3) := by decide +kernel
theorem dX9_init_77 : decode cX9_init 77 = .ok (.iconst 0, 1) := by decide +kernel
theorem dX9_init_78 : decode cX9_init 78 = .ok (.istore_n 1, 1) := by decide +kernel
theorem dX9_init_79 : decode cX9_init 79 = .ok (.iload_n 1, 1) := by decide +kernel
theorem dX9_init_80 : decode cX9_init 80 = .ok (.iconst 4, 1) := by decide +kernel
theorem dX9_init_81 : decode cX9_init 81 = .ok (.if_icmp .ge 24, 3) := by decide +kernel
theorem dX9_init_84 : decode cX9_init 84 = .ok (.aload_n 0, 1) := by decide +kernel
theorem dX9_init_85 : decode cX9_init 85 = .ok (.getfield 50, 3) := by decide +kernel
theorem dX9_init_88 : decode cX9_init 88 = .ok (.iload_n 1, 1) := by decide +kernel
theorem dX9_init_89 : decode cX9_init 89 = .ok (.new 37, 3) := by decide +kernel
theorem dX9_init_92 : decode cX9_init 92 = .ok (.dup, 1) := by decide +kernel
theorem dX9_init_93 : decode cX9_init 93 = .ok (.bipush 8, 2) := by decide +kernel
theorem dX9_init_95 : decode cX9_init 95 = .ok (.invokespecial 39, 3) := by decide +kernel
theorem dX9_init_98 : decode cX9_init 98 = .ok (.aastore, 1) := by decide +kernel
theorem dX9_init_99 : decode cX9_init 99 = .ok (.iinc 1 1, 3) := by decide +kernel
theorem dX9_init_102 : decode cX9_init 102 = .ok (.goto (-23), 3) := by decide +kernel
theorem dX9_init_105 : decode cX9_init 105 = .ok (.aload_n 0, 1) := by decide +kernel
theorem dX9_init_106 : decode cX9_init 106 = .ok (.iconst 4, 1) := by decide +kernel
theorem dX9_init_107 : decode cX9_init 107 = .ok (.newarray .boolean, 2) := by decide +kernel
theorem dX9_init_109 : decode cX9_init 109 = .ok (.putfield 54, 3) := by decide +kernel
theorem dX9_init_112 : decode cX9_init 112 = .ok (.aload_n 0, 1) := by decide +kernel
theorem dX9_init_113 : decode cX9_init 113 = .ok (.bipush 6, 2) := by decide +kernel
theorem dX9_init_115 : decode cX9_init 115 = .ok (.newarray .int, 2) := by decide +kernel
theorem dX9_init_117 : decode cX9_init 117 = .ok (.putfield 58, 3) := by decide +kernel
theorem dX9_init_120 : decode cX9_init 120 = .ok (.aload_n 0, 1) := by decide +kernel
theorem dX9_init_121 : decode cX9_init 121 = .ok (.new 61, 3) := by decide +kernel
theorem dX9_init_124 : decode cX9_init 124 = .ok (.dup, 1) := by decide +kernel
theorem dX9_init_125 : decode cX9_init 125 = .ok (.invokespecial 63, 3) := by decide +kernel
theorem dX9_init_128 : decode cX9_init 128 = .ok (.putfield 64, 3) := by decide +kernel
theorem dX9_init_131 : decode cX9_init 131 = .ok (.aload_n 0, 1) := by decide +kernel
theorem dX9_init_132 : decode cX9_init 132 = .ok (.new 68, 3) := by decide +kernel
theorem dX9_init_135 : decode cX9_init 135 = .ok (.dup, 1) := by decide +kernel
theorem dX9_init_136 : decode cX9_init 136 = .ok (.bipush 24, 2) := by decide +kernel
theorem dX9_init_138 : decode cX9_init 138 = .ok (.invokespecial 70, 3) := by decide +kernel
theorem dX9_init_141 : decode cX9_init 141 = .ok (.putfield 71, 3) := by decide +kernel
theorem dX9_init_144 : decode cX9_init 144 = .ok (.aload_n 0, 1) := by decide +kernel
theorem dX9_init_145 : decode cX9_init 145 = .ok (.new 68, 3) := by decide +kernel
theorem dX9_init_148 : decode cX9_init 148 = .ok (.dup, 1) := by decide +kernel
theorem dX9_init_149 : decode cX9_init 149 = .ok (.bipush 24, 2) := by decide +kernel
theorem dX9_init_151 : decode cX9_init 151 = .ok (.invokespecial 70, 3) := by decide +kernel
theorem dX9_init_154 : decode cX9_init 154 = .ok (.putfield 75, 3) := by decide +kernel
theorem dX9_init_157 : decode cX9_init 157 = .ok (.aload_n 0, 1) := by decide +kernel
theorem dX9_init_158 : decode cX9_init 158 = .ok (.new 68, 3) := by decide +kernel
theorem dX9_init_161 : decode cX9_init 161 = .ok (.dup, 1) := by decide +kernel
theorem dX9_init_162 : decode cX9_init 162 = .ok (.bipush 24, 2) := by decide +kernel
theorem dX9_init_164 : decode cX9_init 164 = .ok (.invokespecial 70, 3) := by decide +kernel
theorem dX9_init_167 : decode cX9_init 167 = .ok (.putfield 78, 3) := by decide +kernel
theorem dX9_init_170 : decode cX9_init 170 = .ok (.aload_n 0, 1) := by decide +kernel
theorem dX9_init_171 : decode cX9_init 171 = .ok (.iconst 0, 1) := by decide +kernel
theorem dX9_init_172 : decode cX9_init 172 = .ok (.putfield 81, 3) := by decide +kernel
theorem dX9_init_175 : decode cX9_init 175 = .ok (.return_, 1) := by decide +kernel
set_option maxRecDepth 20000 in
theorem ggX9_state_X9_forget : GoodIn wsX9_state wsX9_forget := goodIn_r _ [7, 8, 9, 10, 11, 12, 13, 14, 15, 16, 17, 18, 19, 20, 21, 22, 23, 24, 25, 31, 32, 33] rfl rfl
set_option maxRecDepth 20000 in
theorem gX9_state_X9_forget : GoodIn wsX9_state (wsV RX9 88 RX9 yX9_forget wsX9_forget) := goodIn_app (goodIn_of _ (by decide +kernel)) ggX9_state_X9_forget
theorem dX9_state_0 : decode cX9_state 0 = .ok (.aload_n 0, 1) := by decide +kernel
theorem dX9_state_1 : decode cX9_state 1 = .ok (.getfield 10, 3) := by decide +kernel
theorem dX9_state_4 : decode cX9_state 4 = .ok (.getfield 85, 3) := by decide +kernel
theorem dX9_state_7 : decode cX9_state 7 = .ok (.bipush 6, 2) := by decide +kernel
theorem dX9_state_9 : decode cX9_state 9 = .ok (.if_icmp .lt 5, 3) := by decide +kernel
theorem dX9_state_12 : decode cX9_state 12 = .ok (.iconst (-1), 1) := by decide +kernel
theorem dX9_state_13 : decode cX9_state 13 = .ok (.ireturn, 1) := by decide +kernel
theorem dX9_state_14 : decode cX9_state 14 = .ok (.aload_n 0, 1) := by decide +kernel
theorem dX9_state_15 : decode cX9_state 15 = .ok (.invokevirtual 88, 3) := by decide +kernel
theorem dX9_state_18 : decode cX9_state 18 = .ok (.aload_n 0, 1) := by decide +kernel
theorem dX9_state_19 : decode cX9_state 19 = .ok (.getfield 10, 3) := by decide +kernel
theorem dX9_state_22 : decode cX9_state 22 = .ok (.dup, 1) := by decide +kernel
theorem dX9_state_23 : decode cX9_state 23 = .ok (.getfield 85, 3) := by decide +kernel
theorem dX9_state_26 : decode cX9_state 26 = .ok (.iconst 1, 1) := by decide +kernel
theorem dX9_state_27 : decode cX9_state 27 = .ok (.iadd, 1) := by decide +kernel
theorem dX9_state_28 : decode cX9_state 28 = .ok (.putfield 85, 3) := by decide +kernel
theorem dX9_state_31 : decode cX9_state 31 = .ok (.aload_n 0, 1) := by decide +kernel
theorem dX9_state_32 : decode cX9_state 32 = .ok (.getfield 10, 3) := by decide +kernel
theorem dX9_state_35 : decode cX9_state 35 = .ok (.getfield 85, 3) := by decide +kernel
theorem dX9_state_38 : decode cX9_state 38 = .ok (.iconst 1, 1) := by decide +kernel
theorem dX9_state_39 : decode cX9_state 39 = .ok (.isub, 1) := by decide +kernel
theorem dX9_state_40 : decode cX9_state 40 = .ok (.ireturn, 1) := by decide +kernel
set_option maxRecDepth 20000 in
theorem ggX9_action_X6_hasState : GoodIn wsX9_action wsX6_hasState := goodIn_r _ [7, 8, 32, 33, 34, 35, 36] rfl rfl
set_option maxRecDepth 20000 in
theorem gX9_action_X6_hasState : GoodIn wsX9_action (wsV RX9 91 RX6 yX6_hasState wsX6_hasState) := goodIn_app (goodIn_of _ (by decide +kernel)) ggX9_action_X6_hasState
set_option maxRecDepth 20000 in
theorem ggX9_action_X9_forget : GoodIn wsX9_action wsX9_forget := goodIn_r _ [13, 14, 15, 16, 17, 18, 19, 20, 21, 22, 23, 24, 25, 26, 27, 28, 29, 30, 31, 37, 38, 39] rfl rfl
set_option maxRecDepth 20000 in
theorem gX9_action_X9_forget : GoodIn wsX9_action (wsV RX9 88 RX9 yX9_forget wsX9_forget) := goodIn_app (goodIn_of _ (by decide +kernel)) ggX9_action_X9_forget
theorem dX9_action_0 : decode cX9_action 0 = .ok (.aload_n 0, 1) := by decide +kernel
theorem dX9_action_1 : decode cX9_action 1 = .ok (.getfield 10, 3) := by decide +kernel
theorem dX9_action_4 : decode cX9_action 4 = .ok (.iload_n 1, 1) := by decide +kernel
theorem dX9_action_5 : decode cX9_action 5 = .ok (.invokevirtual 91, 3) := by decide +kernel
theorem dX9_action_8 : decode cX9_action 8 = .ok (.ifCond .eq 16, 3) := by decide +kernel
theorem dX9_action_11 : decode cX9_action 11 = .ok (.aload_n 0, 1) := by decide +kernel
theorem dX9_action_12 : decode cX9_action 12 = .ok (.getfield 10, 3) := by decide +kernel
theorem dX9_action_15 : decode cX9_action 15 = .ok (.getfield 95, 3) := by decide +kernel
theorem dX9_action_18 : decode cX9_action 18 = .ok (.iload_n 1, 1) := by decide +kernel
theorem dX9_action_19 : decode cX9_action 19 = .ok (.iaload, 1) := by decide +kernel
theorem dX9_action_20 : decode cX9_action 20 = .ok (.iconst 4, 1) := by decide +kernel
theorem dX9_action_21 : decode cX9_action 21 = .ok (.if_icmp .lt 5, 3) := by decide +kernel
theorem dX9_action_24 : decode cX9_action 24 = .ok (.iconst (-1), 1) := by decide +kernel
theorem dX9_action_25 : decode cX9_action 25 = .ok (.ireturn, 1) := by decide +kernel
theorem dX9_action_26 : decode cX9_action 26 = .ok (.aload_n 0, 1) := by decide +kernel
theorem dX9_action_27 : decode cX9_action 27 = .ok (.invokevirtual 88, 3) := by decide +kernel
theorem dX9_action_30 : decode cX9_action 30 = .ok (.aload_n 0, 1) := by decide +kernel
theorem dX9_action_31 : decode cX9_action 31 = .ok (.getfield 10, 3) := by decide +kernel
theorem dX9_action_34 : decode cX9_action 34 = .ok (.getfield 95, 3) := by decide +kernel
theorem dX9_action_37 : decode cX9_action 37 = .ok (.iload_n 1, 1) := by decide +kernel
theorem dX9_action_38 : decode cX9_action 38 = .ok (.dup2, 1) := by decide +kernel
theorem dX9_action_39 : decode cX9_action 39 = .ok (.iaload, 1) := by decide +kernel
theorem dX9_action_40 : decode cX9_action 40 = .ok (.iconst 1, 1) := by decide +kernel
theorem dX9_action_41 : decode cX9_action 41 = .ok (.iadd, 1) := by decide +kernel
theorem dX9_action_42 : decode cX9_action 42 = .ok (.iastore, 1) := by decide +kernel
theorem dX9_action_43 : decode cX9_action 43 = .ok (.aload_n 0, 1) := by decide +kernel
theorem dX9_action_44 : decode cX9_action 44 = .ok (.getfield 10, 3) := by decide +kernel
theorem dX9_action_47 : decode cX9_action 47 = .ok (.getfield 95, 3) := by decide +kernel
theorem dX9_action_50 : decode cX9_action 50 = .ok (.iload_n 1, 1) := by decide +kernel
theorem dX9_action_51 : decode cX9_action 51 = .ok (.iaload, 1) := by decide +kernel
theorem dX9_action_52 : decode cX9_action 52 = .ok (.iconst 1, 1) := by decide +kernel
theorem dX9_action_53 : decode cX9_action 53 = .ok (.isub, 1) := by decide +kernel
theorem dX9_action_54 : decode cX9_action 54 = .ok (.ireturn, 1) := by decide +kernel
set_option maxRecDepth 20000 in
theorem ggX9_reward_X6_hasAction : GoodIn wsX9_reward wsX6_hasAction := goodIn_r _ [8, 9, 10, 11, 12, 7, 13, 14, 47, 48, 49, 50, 51] rfl rfl
set_option maxRecDepth 20000 in
theorem gX9_reward_X6_hasAction : GoodIn wsX9_reward (wsV RX9 98 RX6 yX6_hasAction wsX6_hasAction) := goodIn_app (goodIn_of _ (by decide +kernel)) ggX9_reward_X6_hasAction
set_option maxRecDepth 20000 in
theorem ggX9_reward_X9_forget : GoodIn wsX9_reward wsX9_forget := goodIn_r _ [19, 20, 21, 22, 23, 29, 30, 31, 32, 33, 34, 35, 36, 37, 38, 39, 40, 41, 42, 52, 53, 54] rfl rfl
set_option maxRecDepth 20000 in
theorem gX9_reward_X9_forget : GoodIn wsX9_reward (wsV RX9 88 RX9 yX9_forget wsX9_forget) := goodIn_app (goodIn_of _ (by decide +kernel)) ggX9_reward_X9_forget
set_option maxRecDepth 20000 in
theorem ggX9_reward_X6_find : GoodIn wsX9_reward wsX6_find := goodIn_r _ [27, 28, 47, 48, 49, 50, 51] rfl rfl
set_option maxRecDepth 20000 in
theorem gX9_reward_X6_find : GoodIn wsX9_reward (wsV RX9 102 RX6 yX6_find wsX6_find) := goodIn_app (goodIn_of _ (by decide +kernel)) ggX9_reward_X6_find
theorem dX9_reward_0 : decode cX9_reward 0 = .ok (.iload_n 3, 1) := by decide +kernel
theorem dX9_reward_1 : decode cX9_reward 1 = .ok (.sipush (-1000), 3) := by decide +kernel
theorem dX9_reward_4 : decode cX9_reward 4 = .ok (.if_icmp .lt 27, 3) := by decide +kernel
theorem dX9_reward_7 : decode cX9_reward 7 = .ok (.iload_n 3, 1) := by decide +kernel
theorem dX9_reward_8 : decode cX9_reward 8 = .ok (.sipush 1000, 3) := by decide +kernel
theorem dX9_reward_11 : decode cX9_reward 11 = .ok (.if_icmp .gt 20, 3) := by decide +kernel
theorem dX9_reward_14 : decode cX9_reward 14 = .ok (.iload 4, 2) := by decide +kernel
theorem dX9_reward_16 : decode cX9_reward 16 = .ok (.iconst 1, 1) := by decide +kernel
theorem dX9_reward_17 : decode cX9_reward 17 = .ok (.if_icmp .lt 14, 3) := by decide +kernel
theorem dX9_reward_20 : decode cX9_reward 20 = .ok (.iload 4, 2) := by decide +kernel
theorem dX9_reward_22 : decode cX9_reward 22 = .ok (.bipush 20, 2) := by decide +kernel
theorem dX9_reward_24 : decode cX9_reward 24 = .ok (.if_icmp .gt 7, 3) := by decide +kernel
theorem dX9_reward_27 : decode cX9_reward 27 = .ok (.iconst 1, 1) := by decide +kernel
theorem dX9_reward_28 : decode cX9_reward 28 = .ok (.goto 4, 3) := by decide +kernel
theorem dX9_reward_31 : decode cX9_reward 31 = .ok (.iconst 0, 1) := by decide +kernel
theorem dX9_reward_32 : decode cX9_reward 32 = .ok (.istore 5, 2) := by decide +kernel
theorem dX9_reward_34 : decode cX9_reward 34 = .ok (.iload 5, 2) := by decide +kernel
theorem dX9_reward_36 : decode cX9_reward 36 = .ok (.ifCond .eq 15, 3) := by decide +kernel
theorem dX9_reward_39 : decode cX9_reward 39 = .ok (.aload_n 0, 1) := by decide +kernel
theorem dX9_reward_40 : decode cX9_reward 40 = .ok (.getfield 10, 3) := by decide +kernel
theorem dX9_reward_43 : decode cX9_reward 43 = .ok (.iload_n 1, 1) := by decide +kernel
theorem dX9_reward_44 : decode cX9_reward 44 = .ok (.iload_n 2, 1) := by decide +kernel
theorem dX9_reward_45 : decode cX9_reward 45 = .ok (.invokevirtual 98, 3) := by decide +kernel
theorem dX9_reward_48 : decode cX9_reward 48 = .ok (.ifCond .ne 5, 3) := by decide +kernel
theorem dX9_reward_51 : decode cX9_reward 51 = .ok (.iconst 0, 1) := by decide +kernel
theorem dX9_reward_52 : decode cX9_reward 52 = .ok (.ireturn, 1) := by decide +kernel
theorem dX9_reward_53 : decode cX9_reward 53 = .ok (.aload_n 0, 1) := by decide +kernel
theorem dX9_reward_54 : decode cX9_reward 54 = .ok (.invokevirtual 88, 3) := by decide +kernel
theorem dX9_reward_57 : decode cX9_reward 57 = .ok (.aload_n 0, 1) := by decide +kernel
theorem dX9_reward_58 : decode cX9_reward 58 = .ok (.getfield 10, 3) := by decide +kernel
theorem dX9_reward_61 : decode cX9_reward 61 = .ok (.iload_n 1, 1) := by decide +kernel
theorem dX9_reward_62 : decode cX9_reward 62 = .ok (.iload_n 2, 1) := by decide +kernel
theorem dX9_reward_63 : decode cX9_reward 63 = .ok (.invokevirtual 102, 3) := by decide +kernel
theorem dX9_reward_66 : decode cX9_reward 66 = .ok (.astore 6, 2) := by decide +kernel
theorem dX9_reward_68 : decode cX9_reward 68 = .ok (.aload 6, 2) := by decide +kernel
theorem dX9_reward_70 : decode cX9_reward 70 = .ok (.iload_n 3, 1) := by decide +kernel
theorem dX9_reward_71 : decode cX9_reward 71 = .ok (.putfield 106, 3) := by decide +kernel
theorem dX9_reward_74 : decode cX9_reward 74 = .ok (.aload 6, 2) := by decide +kernel
theorem dX9_reward_76 : decode cX9_reward 76 = .ok (.iload 4, 2) := by decide +kernel
theorem dX9_reward_78 : decode cX9_reward 78 = .ok (.putfield 111, 3) := by decide +kernel
theorem dX9_reward_81 : decode cX9_reward 81 = .ok (.iconst 1, 1) := by decide +kernel
theorem dX9_reward_82 : decode cX9_reward 82 = .ok (.ireturn, 1) := by decide +kernel
set_option maxRecDepth 20000 in
theorem ggX9_move_X6_hasState : GoodIn wsX9_move wsX6_hasState := goodIn_r _ [8, 9, 48, 49, 50, 51, 52] rfl rfl
set_option maxRecDepth 20000 in
theorem gX9_move_X6_hasState : GoodIn wsX9_move (wsV RX9 91 RX6 yX6_hasState wsX6_hasState) := goodIn_app (goodIn_of _ (by decide +kernel)) ggX9_move_X6_hasState
set_option maxRecDepth 20000 in
theorem ggX9_move_X6_hasAction : GoodIn wsX9_move wsX6_hasAction := goodIn_r _ [13, 14, 15, 5, 6, 7, 8, 9, 48, 49, 50, 51, 52] rfl rfl
set_option maxRecDepth 20000 in
theorem gX9_move_X6_hasAction : GoodIn wsX9_move (wsV RX9 98 RX6 yX6_hasAction wsX6_hasAction) := goodIn_app (goodIn_of _ (by decide +kernel)) ggX9_move_X6_hasAction
set_option maxRecDepth 20000 in
theorem ggX9_move_X9_forget : GoodIn wsX9_move wsX9_forget := goodIn_r _ [20, 21, 22, 23, 24, 30, 31, 32, 33, 34, 35, 36, 37, 38, 39, 40, 41, 42, 43, 53, 54, 55] rfl rfl
set_option maxRecDepth 20000 in
theorem gX9_move_X9_forget : GoodIn wsX9_move (wsV RX9 88 RX9 yX9_forget wsX9_forget) := goodIn_app (goodIn_of _ (by decide +kernel)) ggX9_move_X9_forget
set_option maxRecDepth 20000 in
theorem ggX9_move_X6_find : GoodIn wsX9_move wsX6_find := goodIn_r _ [28, 29, 48, 49, 50, 51, 52] rfl rfl
set_option maxRecDepth 20000 in
theorem gX9_move_X6_find : GoodIn wsX9_move (wsV RX9 102 RX6 yX6_find wsX6_find) := goodIn_app (goodIn_of _ (by decide +kernel)) ggX9_move_X6_find
theorem dX9_move_0 : decode cX9_move 0 = .ok (.iload 4, 2) := by decide +kernel
theorem dX9_move_2 : decode cX9_move 2 = .ok (.ifCond .lt 25, 3) := by decide +kernel
theorem dX9_move_5 : decode cX9_move 5 = .ok (.iload 4, 2) := by decide +kernel
theorem dX9_move_7 : decode cX9_move 7 = .ok (.bipush 20, 2) := by decide +kernel
theorem dX9_move_9 : decode cX9_move 9 = .ok (.if_icmp .gt 18, 3) := by decide +kernel
theorem dX9_move_12 : decode cX9_move 12 = .ok (.aload_n 0, 1) := by decide +kernel
theorem dX9_move_13 : decode cX9_move 13 = .ok (.getfield 10, 3) := by decide +kernel
theorem dX9_move_16 : decode cX9_move 16 = .ok (.iload_n 3, 1) := by decide +kernel
theorem dX9_move_17 : decode cX9_move 17 = .ok (.invokevirtual 91, 3) := by decide +kernel
theorem dX9_move_20 : decode cX9_move 20 = .ok (.ifCond .eq 7, 3) := by decide +kernel
theorem dX9_move_23 : decode cX9_move 23 = .ok (.iconst 1, 1) := by decide +kernel
theorem dX9_move_24 : decode cX9_move 24 = .ok (.goto 4, 3) := by decide +kernel
theorem dX9_move_27 : decode cX9_move 27 = .ok (.iconst 0, 1) := by decide +kernel
theorem dX9_move_28 : decode cX9_move 28 = .ok (.istore 5, 2) := by decide +kernel
theorem dX9_move_30 : decode cX9_move 30 = .ok (.iload 5, 2) := by decide +kernel
theorem dX9_move_32 : decode cX9_move 32 = .ok (.ifCond .eq 15, 3) := by decide +kernel
theorem dX9_move_35 : decode cX9_move 35 = .ok (.aload_n 0, 1) := by decide +kernel
theorem dX9_move_36 : decode cX9_move 36 = .ok (.getfield 10, 3) := by decide +kernel
theorem dX9_move_39 : decode cX9_move 39 = .ok (.iload_n 1, 1) := by decide +kernel
theorem dX9_move_40 : decode cX9_move 40 = .ok (.iload_n 2, 1) := by decide +kernel
theorem dX9_move_41 : decode cX9_move 41 = .ok (.invokevirtual 98, 3) := by decide +kernel
theorem dX9_move_44 : decode cX9_move 44 = .ok (.ifCond .ne 5, 3) := by decide +kernel
theorem dX9_move_47 : decode cX9_move 47 = .ok (.iconst 0, 1) := by decide +kernel
theorem dX9_move_48 : decode cX9_move 48 = .ok (.ireturn, 1) := by decide +kernel
theorem dX9_move_49 : decode cX9_move 49 = .ok (.aload_n 0, 1) := by decide +kernel
theorem dX9_move_50 : decode cX9_move 50 = .ok (.invokevirtual 88, 3) := by decide +kernel
theorem dX9_move_53 : decode cX9_move 53 = .ok (.aload_n 0, 1) := by decide +kernel
theorem dX9_move_54 : decode cX9_move 54 = .ok (.getfield 10, 3) := by decide +kernel
theorem dX9_move_57 : decode cX9_move 57 = .ok (.iload_n 1, 1) := by decide +kernel
theorem dX9_move_58 : decode cX9_move 58 = .ok (.iload_n 2, 1) := by decide +kernel
theorem dX9_move_59 : decode cX9_move 59 = .ok (.invokevirtual 102, 3) := by decide +kernel
theorem dX9_move_62 : decode cX9_move 62 = .ok (.astore 6, 2) := by decide +kernel
theorem dX9_move_64 : decode cX9_move 64 = .ok (.aload 6, 2) := by decide +kernel
theorem dX9_move_66 : decode cX9_move 66 = .ok (.dup, 1) := by decide +kernel
theorem dX9_move_67 : decode cX9_move 67 = .ok (.getfield 114, 3) := by decide +kernel
theorem dX9_move_70 : decode cX9_move 70 = .ok (.iload 4, 2) := by decide +kernel
theorem dX9_move_72 : decode cX9_move 72 = .ok (.aload 6, 2) := by decide +kernel
theorem dX9_move_74 : decode cX9_move 74 = .ok (.getfield 117, 3) := by decide +kernel
theorem dX9_move_77 : decode cX9_move 77 = .ok (.iload_n 3, 1) := by decide +kernel
theorem dX9_move_78 : decode cX9_move 78 = .ok (.iaload, 1) := by decide +kernel
theorem dX9_move_79 : decode cX9_move 79 = .ok (.isub, 1) := by decide +kernel
theorem dX9_move_80 : decode cX9_move 80 = .ok (.iadd, 1) := by decide +kernel
theorem dX9_move_81 : decode cX9_move 81 = .ok (.putfield 114, 3) := by decide +kernel
theorem dX9_move_84 : decode cX9_move 84 = .ok (.aload 6, 2) := by decide +kernel
theorem dX9_move_86 : decode cX9_move 86 = .ok (.getfield 117, 3) := by decide +kernel
theorem dX9_move_89 : decode cX9_move 89 = .ok (.iload_n 3, 1) := by decide +kernel
theorem dX9_move_90 : decode cX9_move 90 = .ok (.iload 4, 2) := by decide +kernel
theorem dX9_move_92 : decode cX9_move 92 = .ok (.iastore, 1) := by decide +kernel
theorem dX9_move_93 : decode cX9_move 93 = .ok (.iconst 1, 1) := by decide +kernel
theorem dX9_move_94 : decode cX9_move 94 = .ok (.ireturn, 1) := by decide +kernel
set_option maxRecDepth 20000 in
theorem ggX9_discount_X9_forget : GoodIn wsX9_discount wsX9_forget := goodIn_r _ [8, 9, 10, 11, 12, 13, 14, 15, 16, 17, 18, 19, 20, 21, 22, 23, 24, 25, 26, 32, 33, 34] rfl rfl
set_option maxRecDepth 20000 in
theorem gX9_discount_X9_forget : GoodIn wsX9_discount (wsV RX9 88 RX9 yX9_forget wsX9_forget) := goodIn_app (goodIn_of _ (by decide +kernel)) ggX9_discount_X9_forget
theorem dX9_discount_0 : decode cX9_discount 0 = .ok (.iload_n 1, 1) := by decide +kernel
theorem dX9_discount_1 : decode cX9_discount 1 = .ok (.ifCond .lt 14, 3) := by decide +kernel
theorem dX9_discount_4 : decode cX9_discount 4 = .ok (.iload_n 1, 1) := by decide +kernel
theorem dX9_discount_5 : decode cX9_discount 5 = .ok (.iload_n 2, 1) := by decide +kernel
theorem dX9_discount_6 : decode cX9_discount 6 = .ok (.if_icmp .ge 9, 3) := by decide +kernel
theorem dX9_discount_9 : decode cX9_discount 9 = .ok (.iload_n 2, 1) := by decide +kernel
theorem dX9_discount_10 : decode cX9_discount 10 = .ok (.bipush 20, 2) := by decide +kernel
theorem dX9_discount_12 : decode cX9_discount 12 = .ok (.if_icmp .le 5, 3) := by decide +kernel
theorem dX9_discount_15 : decode cX9_discount 15 = .ok (.iconst 0, 1) := by decide +kernel
theorem dX9_discount_16 : decode cX9_discount 16 = .ok (.ireturn, 1) := by decide +kernel
theorem dX9_discount_17 : decode cX9_discount 17 = .ok (.aload_n 0, 1) := by decide +kernel
theorem dX9_discount_18 : decode cX9_discount 18 = .ok (.invokevirtual 88, 3) := by decide +kernel
theorem dX9_discount_21 : decode cX9_discount 21 = .ok (.aload_n 0, 1) := by decide +kernel
theorem dX9_discount_22 : decode cX9_discount 22 = .ok (.getfield 10, 3) := by decide +kernel
theorem dX9_discount_25 : decode cX9_discount 25 = .ok (.iload_n 1, 1) := by decide +kernel
theorem dX9_discount_26 : decode cX9_discount 26 = .ok (.putfield 120, 3) := by decide +kernel
theorem dX9_discount_29 : decode cX9_discount 29 = .ok (.aload_n 0, 1) := by decide +kernel
theorem dX9_discount_30 : decode cX9_discount 30 = .ok (.getfield 10, 3) := by decide +kernel
theorem dX9_discount_33 : decode cX9_discount 33 = .ok (.iload_n 2, 1) := by decide +kernel
theorem dX9_discount_34 : decode cX9_discount 34 = .ok (.putfield 123, 3) := by decide +kernel
theorem dX9_discount_37 : decode cX9_discount 37 = .ok (.iconst 1, 1) := by decide +kernel
theorem dX9_discount_38 : decode cX9_discount 38 = .ok (.ireturn, 1) := by decide +kernel
set_option maxRecDepth 20000 in
theorem ggX9_solve_X6_allReady : GoodIn wsX9_solve wsX6_allReady := goodIn_r _ [10, 11, 12, 13, 14, 15, 9, 16, 17, 18, 19, 20, 21, 22, 175, 176, 177, 178, 179, 180, 181, 182, 183] rfl rfl
set_option maxRecDepth 20000 in
theorem gX9_solve_X6_allReady : GoodIn wsX9_solve (wsV RX9 126 RX6 yX6_allReady wsX6_allReady) := goodIn_app (goodIn_of _ (by decide +kernel)) ggX9_solve_X6_allReady
set_option maxRecDepth 20000 in
theorem ggX9_solve_J7_fill_53178 : GoodIn wsX9_solve wsJ7_fill_53178 := goodIn_r _ [26] rfl rfl
set_option maxRecDepth 20000 in
theorem gX9_solve_J7_fill_53178 : GoodIn wsX9_solve (va_wsS RX9 130 yJ7_fill_53178 wsJ7_fill_53178) := goodIn_app (goodIn_of _ (by decide +kernel)) ggX9_solve_J7_fill_53178
set_option maxRecDepth 20000 in
theorem ggX9_solve_X2_findValues : GoodIn wsX9_solve wsX2_findValues := goodIn_r _ [31, 32, 33, 34, 35, 36, 37, 19, 20, 9, 21, 22, 38, 39, 40, 30, 41, 42, 43, 44, 45, 46, 47, 48, 49, 50, 51, 52, 53, 54, 55, 56, 57, 58, 59, 60, 61, 62, 25, 63, 64, 65, 66, 67, 68, 69, 70, 71, 72, 73, 74, 75, 76, 77, 78, 79, 80, 81, 82, 83, 84, 85, 86, 87, 88, 89, 90, 91, 92, 93, 94, 95, 96, 97, 98, 99, 100, 101, 102, 103, 104, 105, 106, 107, 108, 109, 110, 111, 112, 113, 114, 175, 176, 177, 178, 179, 184, 185, 186, 187, 180, 181, 182, 183, 188, 189, 190] rfl rfl
set_option maxRecDepth 20000 in
theorem gX9_solve_X2_findValues : GoodIn wsX9_solve (wsV RX9 136 RX2 yX2_findValues wsX2_findValues) := goodIn_app (goodIn_of _ (by decide +kernel)) ggX9_solve_X2_findValues
set_option maxRecDepth 20000 in
theorem ggX9_solve_X9_improve : GoodIn wsX9_solve wsX9_improve := goodIn_r _ [119, 1, 120, 121, 3, 5, 122, 123, 124, 125, 126, 127, 128, 129, 130, 19, 20, 9, 21, 22, 131, 132, 133, 134, 135, 136, 137, 138, 139, 140, 141, 142, 143, 144, 145, 146, 147, 56, 57, 52, 58, 54, 59, 60, 61, 62, 25, 63, 148, 95, 96, 97, 98, 99, 100, 101, 149, 65, 66, 67, 68, 69, 70, 71, 72, 73, 74, 75, 76, 77, 78, 79, 80, 81, 150, 151, 152, 153, 154, 155, 156, 157, 158, 159, 160, 161, 162, 163, 164, 165, 166, 167, 168, 169, 170, 171, 172, 173, 174, 175, 176, 177, 178, 179, 191, 192, 193, 180, 181, 182, 183, 194, 195, 186, 187, 188, 189, 190] rfl rfl
set_option maxRecDepth 20000 in
theorem gX9_solve_X9_improve : GoodIn wsX9_solve (wsV RX9 140 RX9 yX9_improve wsX9_improve) := goodIn_app (goodIn_of _ (by decide +kernel)) ggX9_solve_X9_improve
theorem dX9_solve_0 : decode cX9_solve 0 = .ok (.aload_n 0, 1) := by decide +kernel
theorem dX9_solve_1 : decode cX9_solve 1 = .ok (.getfield 10, 3) := by decide +kernel
theorem dX9_solve_4 : decode cX9_solve 4 = .ok (.invokevirtual 126, 3) := by decide +kernel
theorem dX9_solve_7 : decode cX9_solve 7 = .ok (.ifCond .ne 5, 3) := by decide +kernel
theorem dX9_solve_10 : decode cX9_solve 10 = .ok (.iconst (-1), 1) := by decide +kernel
theorem dX9_solve_11 : decode cX9_solve 11 = .ok (.ireturn, 1) := by decide +kernel
theorem dX9_solve_12 : decode cX9_solve 12 = .ok (.aload_n 0, 1) := by decide +kernel
theorem dX9_solve_13 : decode cX9_solve 13 = .ok (.getfield 81, 3) := by decide +kernel
theorem dX9_solve_16 : decode cX9_solve 16 = .ok (.ifCond .le 8, 3) := by decide +kernel
theorem dX9_solve_19 : decode cX9_solve 19 = .ok (.aload_n 0, 1) := by decide +kernel
theorem dX9_solve_20 : decode cX9_solve 20 = .ok (.getfield 81, 3) := by decide +kernel
theorem dX9_solve_23 : decode cX9_solve 23 = .ok (.ireturn, 1) := by decide +kernel
theorem dX9_solve_24 : decode cX9_solve 24 = .ok (.aload_n 0, 1) := by decide +kernel
theorem dX9_solve_25 : decode cX9_solve 25 = .ok (.getfield 46, 3) := by decide +kernel
theorem dX9_solve_28 : decode cX9_solve 28 = .ok (.iconst 0, 1) := by decide +kernel
theorem dX9_solve_29 : decode cX9_solve 29 = .ok (.invokestatic 130, 3) := by decide +kernel
theorem dX9_solve_32 : decode cX9_solve 32 = .ok (.iconst 0, 1) := by decide +kernel
theorem dX9_solve_33 : decode cX9_solve 33 = .ok (.istore_n 1, 1) := by decide +kernel
theorem dX9_solve_34 : decode cX9_solve 34 = .ok (.iconst 1, 1) := by decide +kernel
theorem dX9_solve_35 : decode cX9_solve 35 = .ok (.istore_n 2, 1) := by decide +kernel
theorem dX9_solve_36 : decode cX9_solve 36 = .ok (.iload_n 2, 1) := by decide +kernel
theorem dX9_solve_37 : decode cX9_solve 37 = .ok (.ifCond .eq 40, 3) := by decide +kernel
theorem dX9_solve_40 : decode cX9_solve 40 = .ok (.iload_n 1, 1) := by decide +kernel
theorem dX9_solve_41 : decode cX9_solve 41 = .ok (.sipush 4096, 3) := by decide +kernel
theorem dX9_solve_44 : decode cX9_solve 44 = .ok (.if_icmp .ge 33, 3) := by decide +kernel
theorem dX9_solve_47 : decode cX9_solve 47 = .ok (.iinc 1 1, 3) := by decide +kernel
theorem dX9_solve_50 : decode cX9_solve 50 = .ok (.aload_n 0, 1) := by decide +kernel
theorem dX9_solve_51 : decode cX9_solve 51 = .ok (.getfield 19, 3) := by decide +kernel
theorem dX9_solve_54 : decode cX9_solve 54 = .ok (.aload_n 0, 1) := by decide +kernel
theorem dX9_solve_55 : decode cX9_solve 55 = .ok (.getfield 10, 3) := by decide +kernel
theorem dX9_solve_58 : decode cX9_solve 58 = .ok (.aload_n 0, 1) := by decide +kernel
theorem dX9_solve_59 : decode cX9_solve 59 = .ok (.getfield 46, 3) := by decide +kernel
theorem dX9_solve_62 : decode cX9_solve 62 = .ok (.aload_n 0, 1) := by decide +kernel
theorem dX9_solve_63 : decode cX9_solve 63 = .ok (.getfield 42, 3) := by decide +kernel
theorem dX9_solve_66 : decode cX9_solve 66 = .ok (.invokevirtual 136, 3) := by decide +kernel
theorem dX9_solve_69 : decode cX9_solve 69 = .ok (.aload_n 0, 1) := by decide +kernel
theorem dX9_solve_70 : decode cX9_solve 70 = .ok (.invokevirtual 140, 3) := by decide +kernel
theorem dX9_solve_73 : decode cX9_solve 73 = .ok (.istore_n 2, 1) := by decide +kernel
theorem dX9_solve_74 : decode cX9_solve 74 = .ok (.goto (-38), 3) := by decide +kernel
theorem dX9_solve_77 : decode cX9_solve 77 = .ok (.aload_n 0, 1) := by decide +kernel
theorem dX9_solve_78 : decode cX9_solve 78 = .ok (.iload_n 1, 1) := by decide +kernel
theorem dX9_solve_79 : decode cX9_solve 79 = .ok (.putfield 81, 3) := by decide +kernel
theorem dX9_solve_82 : decode cX9_solve 82 = .ok (.aload_n 0, 1) := by decide +kernel
theorem dX9_solve_83 : decode cX9_solve 83 = .ok (.getfield 81, 3) := by decide +kernel
theorem dX9_solve_86 : decode cX9_solve 86 = .ok (.ireturn, 1) := by decide +kernel
set_option maxRecDepth 20000 in
theorem ggX9_policy_X6_hasState : GoodIn wsX9_policy wsX6_hasState := goodIn_r _ [8, 9, 24, 25, 26, 27, 28] rfl rfl
set_option maxRecDepth 20000 in
theorem gX9_policy_X6_hasState : GoodIn wsX9_policy (wsV RX9 91 RX6 yX6_hasState wsX6_hasState) := goodIn_app (goodIn_of _ (by decide +kernel)) ggX9_policy_X6_hasState
theorem dX9_policy_0 : decode cX9_policy 0 = .ok (.aload_n 0, 1) := by decide +kernel
theorem dX9_policy_1 : decode cX9_policy 1 = .ok (.getfield 81, 3) := by decide +kernel
theorem dX9_policy_4 : decode cX9_policy 4 = .ok (.ifCond .eq 14, 3) := by decide +kernel
theorem dX9_policy_7 : decode cX9_policy 7 = .ok (.aload_n 0, 1) := by decide +kernel
theorem dX9_policy_8 : decode cX9_policy 8 = .ok (.getfield 10, 3) := by decide +kernel
theorem dX9_policy_11 : decode cX9_policy 11 = .ok (.iload_n 1, 1) := by decide +kernel
theorem dX9_policy_12 : decode cX9_policy 12 = .ok (.invokevirtual 91, 3) := by decide +kernel
theorem dX9_policy_15 : decode cX9_policy 15 = .ok (.ifCond .ne 5, 3) := by decide +kernel
theorem dX9_policy_18 : decode cX9_policy 18 = .ok (.iconst (-1), 1) := by decide +kernel
theorem dX9_policy_19 : decode cX9_policy 19 = .ok (.ireturn, 1) := by decide +kernel
theorem dX9_policy_20 : decode cX9_policy 20 = .ok (.aload_n 0, 1) := by decide +kernel
theorem dX9_policy_21 : decode cX9_policy 21 = .ok (.getfield 46, 3) := by decide +kernel
theorem dX9_policy_24 : decode cX9_policy 24 = .ok (.iload_n 1, 1) := by decide +kernel
theorem dX9_policy_25 : decode cX9_policy 25 = .ok (.iaload, 1) := by decide +kernel
theorem dX9_policy_26 : decode cX9_policy 26 = .ok (.ireturn, 1) := by decide +kernel
set_option maxRecDepth 20000 in
theorem ggX9_value_X6_hasState : GoodIn wsX9_value wsX6_hasState := goodIn_r _ [9, 10, 124, 125, 126, 127, 128] rfl rfl
set_option maxRecDepth 20000 in
theorem gX9_value_X6_hasState : GoodIn wsX9_value (wsV RX9 91 RX6 yX6_hasState wsX6_hasState) := goodIn_app (goodIn_of _ (by decide +kernel)) ggX9_value_X6_hasState
set_option maxRecDepth 20000 in
theorem ggX9_value_X9_refusal : GoodIn wsX9_value wsX9_refusal := goodIn_r _ [14, 15, 16] rfl rfl
set_option maxRecDepth 20000 in
theorem gX9_value_X9_refusal : GoodIn wsX9_value (va_wsS RX9 143 yX9_refusal wsX9_refusal) := goodIn_app (goodIn_of _ (by decide +kernel)) ggX9_value_X9_refusal
set_option maxRecDepth 20000 in
theorem ggX9_value_X9_hold : GoodIn wsX9_value wsX9_hold := goodIn_r _ [20, 4, 21, 22, 23, 24, 25, 26, 27, 28, 29, 30, 31, 32, 33, 34, 35, 36, 37, 38, 39, 40, 41, 42, 43, 44, 45, 46, 47, 48, 110, 111, 112, 113, 114, 115, 116, 117, 118, 119, 120, 121, 122, 123, 129, 130, 131, 132, 133, 134, 135, 136, 137, 138] rfl rfl
set_option maxRecDepth 20000 in
theorem gX9_value_X9_hold : GoodIn wsX9_value (wsV RX9 147 RX9 yX9_hold wsX9_hold) := goodIn_app (goodIn_of _ (by decide +kernel)) ggX9_value_X9_hold
set_option maxRecDepth 20000 in
theorem ggX9_value_X3_tell : GoodIn wsX9_value wsX3_tell := goodIn_r _ [53, 54, 55, 56, 57, 58, 59, 52, 60, 61, 62, 63, 64, 28, 65, 40, 30, 31, 66, 67, 68, 69, 70, 71, 72, 73, 26, 27, 29, 32, 33, 34, 35, 36, 37, 38, 39, 41, 42, 43, 44, 45, 46, 47, 48, 74, 75, 76, 77, 78, 79, 80, 81, 82, 83, 84, 85, 86, 87, 88, 89, 90, 91, 92, 93, 94, 95, 96, 97, 98, 99, 100, 101, 102, 103, 104, 105, 106, 107, 108, 109, 129, 130, 131, 132, 133, 136, 137, 138] rfl rfl
set_option maxRecDepth 20000 in
theorem gX9_value_X3_tell : GoodIn wsX9_value (wsV RX9 151 RX3 yX3_tell wsX3_tell) := goodIn_app (goodIn_of _ (by decide +kernel)) ggX9_value_X3_tell
theorem dX9_value_0 : decode cX9_value 0 = .ok (.aload_n 0, 1) := by decide +kernel
theorem dX9_value_1 : decode cX9_value 1 = .ok (.getfield 81, 3) := by decide +kernel
theorem dX9_value_4 : decode cX9_value 4 = .ok (.ifCond .eq 19, 3) := by decide +kernel
theorem dX9_value_7 : decode cX9_value 7 = .ok (.aload_n 0, 1) := by decide +kernel
theorem dX9_value_8 : decode cX9_value 8 = .ok (.getfield 10, 3) := by decide +kernel
theorem dX9_value_11 : decode cX9_value 11 = .ok (.iload_n 1, 1) := by decide +kernel
theorem dX9_value_12 : decode cX9_value 12 = .ok (.invokevirtual 91, 3) := by decide +kernel
theorem dX9_value_15 : decode cX9_value 15 = .ok (.ifCond .eq 8, 3) := by decide +kernel
theorem dX9_value_18 : decode cX9_value 18 = .ok (.iload_n 2, 1) := by decide +kernel
theorem dX9_value_19 : decode cX9_value 19 = .ok (.iconst (-1), 1) := by decide +kernel
theorem dX9_value_20 : decode cX9_value 20 = .ok (.if_icmp .ge 8, 3) := by decide +kernel
theorem dX9_value_23 : decode cX9_value 23 = .ok (.iload_n 2, 1) := by decide +kernel
theorem dX9_value_24 : decode cX9_value 24 = .ok (.invokestatic 143, 3) := by decide +kernel
theorem dX9_value_27 : decode cX9_value 27 = .ok (.lreturn, 1) := by decide +kernel
theorem dX9_value_28 : decode cX9_value 28 = .ok (.aload_n 0, 1) := by decide +kernel
theorem dX9_value_29 : decode cX9_value 29 = .ok (.aload_n 0, 1) := by decide +kernel
theorem dX9_value_30 : decode cX9_value 30 = .ok (.getfield 42, 3) := by decide +kernel
theorem dX9_value_33 : decode cX9_value 33 = .ok (.iload_n 1, 1) := by decide +kernel
theorem dX9_value_34 : decode cX9_value 34 = .ok (.invokevirtual 147, 3) := by decide +kernel
theorem dX9_value_37 : decode cX9_value 37 = .ok (.aload_n 0, 1) := by decide +kernel
theorem dX9_value_38 : decode cX9_value 38 = .ok (.getfield 64, 3) := by decide +kernel
theorem dX9_value_41 : decode cX9_value 41 = .ok (.iload_n 2, 1) := by decide +kernel
theorem dX9_value_42 : decode cX9_value 42 = .ok (.invokevirtual 151, 3) := by decide +kernel
theorem dX9_value_45 : decode cX9_value 45 = .ok (.lreturn, 1) := by decide +kernel
set_option maxRecDepth 20000 in
theorem ggX9_gain_X6_hasAction : GoodIn wsX9_gain wsX6_hasAction := goodIn_r _ [16, 17, 18, 19, 20, 15, 21, 22, 180, 181, 182, 183, 184] rfl rfl
set_option maxRecDepth 20000 in
theorem gX9_gain_X6_hasAction : GoodIn wsX9_gain (wsV RX9 98 RX6 yX6_hasAction wsX6_hasAction) := goodIn_app (goodIn_of _ (by decide +kernel)) ggX9_gain_X6_hasAction
set_option maxRecDepth 20000 in
theorem ggX9_gain_X9_refusal : GoodIn wsX9_gain wsX9_refusal := goodIn_r _ [26, 27, 28] rfl rfl
set_option maxRecDepth 20000 in
theorem gX9_gain_X9_refusal : GoodIn wsX9_gain (va_wsS RX9 143 yX9_refusal wsX9_refusal) := goodIn_app (goodIn_of _ (by decide +kernel)) ggX9_gain_X9_refusal
set_option maxRecDepth 20000 in
theorem ggX9_gain_X6_find : GoodIn wsX9_gain wsX6_find := goodIn_r _ [32, 33, 180, 181, 182, 183, 184] rfl rfl
set_option maxRecDepth 20000 in
theorem gX9_gain_X6_find : GoodIn wsX9_gain (wsV RX9 102 RX6 yX6_find wsX6_find) := goodIn_app (goodIn_of _ (by decide +kernel)) ggX9_gain_X6_find
set_option maxRecDepth 20000 in
theorem ggX9_gain_X4_weigh : GoodIn wsX9_gain wsX4_weigh := goodIn_r _ [38, 39, 40, 41, 42, 43, 44, 45, 46, 47, 48, 49, 50, 51, 52, 53, 54, 55, 56, 57, 58, 59, 60, 61, 62, 63, 64, 65, 66, 67, 68, 69, 70, 71, 72, 73, 74, 75, 76, 77, 78, 79, 80, 81, 82, 83, 84, 85, 86, 87, 185, 186, 187, 188, 180, 181, 182, 183, 184, 176, 177, 178, 179, 189, 190, 191] rfl rfl
set_option maxRecDepth 20000 in
theorem gX9_gain_X4_weigh : GoodIn wsX9_gain (wsV RX9 158 RX4 yX4_weigh wsX4_weigh) := goodIn_app (goodIn_of _ (by decide +kernel)) ggX9_gain_X4_weigh
set_option maxRecDepth 20000 in
theorem ggX9_gain_X8_copy : GoodIn wsX9_gain wsX8_copy := goodIn_r _ [91, 56, 55, 66, 67, 68, 69, 92, 93, 94, 95, 57, 96, 51, 52, 53, 54, 58, 59, 60, 61, 189, 190, 191] rfl rfl
set_option maxRecDepth 20000 in
theorem gX9_gain_X8_copy : GoodIn wsX9_gain (wsV RX9 167 RX8 yX8_copy wsX8_copy) := goodIn_app (goodIn_of _ (by decide +kernel)) ggX9_gain_X8_copy
set_option maxRecDepth 20000 in
theorem ggX9_gain_X8_multiply : GoodIn wsX9_gain wsX8_multiply := goodIn_r _ [100, 56, 55, 101, 71, 72, 53, 73, 74, 75, 76, 77, 78, 79, 80, 81, 82, 83, 84, 85, 86, 87, 57, 189, 190, 191] rfl rfl
set_option maxRecDepth 20000 in
theorem gX9_gain_X8_multiply : GoodIn wsX9_gain (wsV RX9 177 RX8 yX8_multiply wsX8_multiply) := goodIn_app (goodIn_of _ (by decide +kernel)) ggX9_gain_X8_multiply
set_option maxRecDepth 20000 in
theorem ggX9_gain_X3_tell : GoodIn wsX9_gain wsX3_tell := goodIn_r _ [106, 107, 108, 109, 110, 111, 112, 105, 113, 114, 115, 116, 117, 53, 118, 57, 56, 55, 119, 120, 121, 122, 123, 124, 125, 126, 89, 90, 91, 66, 67, 68, 69, 92, 93, 94, 95, 96, 51, 52, 54, 58, 59, 60, 61, 127, 128, 129, 130, 131, 132, 133, 134, 135, 136, 137, 138, 139, 140, 141, 74, 142, 143, 144, 145, 146, 147, 148, 149, 75, 76, 77, 78, 84, 85, 86, 87, 150, 151, 152, 153, 171, 172, 173, 174, 175, 189, 190, 191] rfl rfl
set_option maxRecDepth 20000 in
theorem gX9_gain_X3_tell : GoodIn wsX9_gain (wsV RX9 151 RX3 yX3_tell wsX3_tell) := goodIn_app (goodIn_of _ (by decide +kernel)) ggX9_gain_X3_tell
theorem dX9_gain_0 : decode cX9_gain 0 = .ok (.aload_n 0, 1) := by decide +kernel
theorem dX9_gain_1 : decode cX9_gain 1 = .ok (.getfield 81, 3) := by decide +kernel
theorem dX9_gain_4 : decode cX9_gain 4 = .ok (.ifCond .eq 20, 3) := by decide +kernel
theorem dX9_gain_7 : decode cX9_gain 7 = .ok (.aload_n 0, 1) := by decide +kernel
theorem dX9_gain_8 : decode cX9_gain 8 = .ok (.getfield 10, 3) := by decide +kernel
theorem dX9_gain_11 : decode cX9_gain 11 = .ok (.iload_n 1, 1) := by decide +kernel
theorem dX9_gain_12 : decode cX9_gain 12 = .ok (.iload_n 2, 1) := by decide +kernel
theorem dX9_gain_13 : decode cX9_gain 13 = .ok (.invokevirtual 98, 3) := by decide +kernel
theorem dX9_gain_16 : decode cX9_gain 16 = .ok (.ifCond .eq 8, 3) := by decide +kernel
theorem dX9_gain_19 : decode cX9_gain 19 = .ok (.iload_n 3, 1) := by decide +kernel
theorem dX9_gain_20 : decode cX9_gain 20 = .ok (.iconst (-1), 1) := by decide +kernel
theorem dX9_gain_21 : decode cX9_gain 21 = .ok (.if_icmp .ge 8, 3) := by decide +kernel
theorem dX9_gain_24 : decode cX9_gain 24 = .ok (.iload_n 3, 1) := by decide +kernel
theorem dX9_gain_25 : decode cX9_gain 25 = .ok (.invokestatic 143, 3) := by decide +kernel
theorem dX9_gain_28 : decode cX9_gain 28 = .ok (.lreturn, 1) := by decide +kernel
theorem dX9_gain_29 : decode cX9_gain 29 = .ok (.aload_n 0, 1) := by decide +kernel
theorem dX9_gain_30 : decode cX9_gain 30 = .ok (.getfield 26, 3) := by decide +kernel
theorem dX9_gain_33 : decode cX9_gain 33 = .ok (.getfield 154, 3) := by decide +kernel
theorem dX9_gain_36 : decode cX9_gain 36 = .ok (.astore 4, 2) := by decide +kernel
theorem dX9_gain_38 : decode cX9_gain 38 = .ok (.aload 4, 2) := by decide +kernel
theorem dX9_gain_40 : decode cX9_gain 40 = .ok (.aload_n 0, 1) := by decide +kernel
theorem dX9_gain_41 : decode cX9_gain 41 = .ok (.getfield 10, 3) := by decide +kernel
theorem dX9_gain_44 : decode cX9_gain 44 = .ok (.aload_n 0, 1) := by decide +kernel
theorem dX9_gain_45 : decode cX9_gain 45 = .ok (.getfield 10, 3) := by decide +kernel
theorem dX9_gain_48 : decode cX9_gain 48 = .ok (.iload_n 1, 1) := by decide +kernel
theorem dX9_gain_49 : decode cX9_gain 49 = .ok (.iload_n 2, 1) := by decide +kernel
theorem dX9_gain_50 : decode cX9_gain 50 = .ok (.invokevirtual 102, 3) := by decide +kernel
theorem dX9_gain_53 : decode cX9_gain 53 = .ok (.aload_n 0, 1) := by decide +kernel
theorem dX9_gain_54 : decode cX9_gain 54 = .ok (.getfield 42, 3) := by decide +kernel
theorem dX9_gain_57 : decode cX9_gain 57 = .ok (.invokevirtual 158, 3) := by decide +kernel
theorem dX9_gain_60 : decode cX9_gain 60 = .ok (.aload_n 0, 1) := by decide +kernel
theorem dX9_gain_61 : decode cX9_gain 61 = .ok (.getfield 64, 3) := by decide +kernel
theorem dX9_gain_64 : decode cX9_gain 64 = .ok (.getfield 164, 3) := by decide +kernel
theorem dX9_gain_67 : decode cX9_gain 67 = .ok (.aload 4, 2) := by decide +kernel
theorem dX9_gain_69 : decode cX9_gain 69 = .ok (.getfield 166, 3) := by decide +kernel
theorem dX9_gain_72 : decode cX9_gain 72 = .ok (.invokevirtual 167, 3) := by decide +kernel
theorem dX9_gain_75 : decode cX9_gain 75 = .ok (.aload_n 0, 1) := by decide +kernel
theorem dX9_gain_76 : decode cX9_gain 76 = .ok (.getfield 64, 3) := by decide +kernel
theorem dX9_gain_79 : decode cX9_gain 79 = .ok (.getfield 171, 3) := by decide +kernel
theorem dX9_gain_82 : decode cX9_gain 82 = .ok (.aload_n 0, 1) := by decide +kernel
theorem dX9_gain_83 : decode cX9_gain 83 = .ok (.getfield 42, 3) := by decide +kernel
theorem dX9_gain_86 : decode cX9_gain 86 = .ok (.getfield 173, 3) := by decide +kernel
theorem dX9_gain_89 : decode cX9_gain 89 = .ok (.invokevirtual 167, 3) := by decide +kernel
theorem dX9_gain_92 : decode cX9_gain 92 = .ok (.aload_n 0, 1) := by decide +kernel
theorem dX9_gain_93 : decode cX9_gain 93 = .ok (.getfield 64, 3) := by decide +kernel
theorem dX9_gain_96 : decode cX9_gain 96 = .ok (.getfield 171, 3) := by decide +kernel
theorem dX9_gain_99 : decode cX9_gain 99 = .ok (.aload 4, 2) := by decide +kernel
theorem dX9_gain_101 : decode cX9_gain 101 = .ok (.getfield 174, 3) := by decide +kernel
theorem dX9_gain_104 : decode cX9_gain 104 = .ok (.i2l, 1) := by decide +kernel
theorem dX9_gain_105 : decode cX9_gain 105 = .ok (.invokevirtual 177, 3) := by decide +kernel
theorem dX9_gain_108 : decode cX9_gain 108 = .ok (.aload_n 0, 1) := by decide +kernel
theorem dX9_gain_109 : decode cX9_gain 109 = .ok (.getfield 64, 3) := by decide +kernel
theorem dX9_gain_112 : decode cX9_gain 112 = .ok (.iload_n 3, 1) := by decide +kernel
theorem dX9_gain_113 : decode cX9_gain 113 = .ok (.invokevirtual 151, 3) := by decide +kernel
theorem dX9_gain_116 : decode cX9_gain 116 = .ok (.lreturn, 1) := by decide +kernel
set_option maxRecDepth 20000 in
theorem ggX9_worth_X6_hasState : GoodIn wsX9_worth wsX6_hasState := goodIn_r _ [7, 8, 205, 206, 207, 208, 209] rfl rfl
set_option maxRecDepth 20000 in
theorem gX9_worth_X6_hasState : GoodIn wsX9_worth (wsV RX9 91 RX6 yX6_hasState wsX6_hasState) := goodIn_app (goodIn_of _ (by decide +kernel)) ggX9_worth_X6_hasState
set_option maxRecDepth 20000 in
theorem ggX9_worth_X6_allReady : GoodIn wsX9_worth wsX6_allReady := goodIn_r _ [12, 8, 13, 14, 15, 16, 6, 17, 18, 19, 20, 21, 22, 23, 205, 206, 207, 208, 209, 210, 211, 212, 213] rfl rfl
set_option maxRecDepth 20000 in
theorem gX9_worth_X6_allReady : GoodIn wsX9_worth (wsV RX9 126 RX6 yX6_allReady wsX6_allReady) := goodIn_app (goodIn_of _ (by decide +kernel)) ggX9_worth_X6_allReady
set_option maxRecDepth 20000 in
theorem ggX9_worth_X9_refusal : GoodIn wsX9_worth wsX9_refusal := goodIn_r _ [27, 28, 29] rfl rfl
set_option maxRecDepth 20000 in
theorem gX9_worth_X9_refusal : GoodIn wsX9_worth (va_wsS RX9 143 yX9_refusal wsX9_refusal) := goodIn_app (goodIn_of _ (by decide +kernel)) ggX9_worth_X9_refusal
set_option maxRecDepth 20000 in
theorem ggX9_worth_X9_findWorth : GoodIn wsX9_worth wsX9_findWorth := goodIn_r _ [33, 34, 1, 35, 36, 37, 38, 39, 40, 41, 42, 43, 44, 45, 46, 47, 48, 49, 50, 51, 52, 53, 54, 20, 21, 6, 22, 23, 55, 56, 57, 58, 59, 60, 61, 62, 63, 64, 65, 66, 67, 68, 69, 70, 71, 72, 73, 74, 75, 76, 77, 78, 79, 80, 81, 82, 83, 84, 85, 86, 87, 88, 89, 90, 91, 92, 93, 94, 95, 96, 97, 98, 99, 100, 101, 102, 103, 104, 105, 106, 107, 108, 109, 110, 111, 112, 113, 114, 115, 116, 117, 118, 119, 120, 121, 122, 123, 124, 125, 126, 127, 128, 129, 191, 192, 193, 194, 195, 196, 197, 198, 199, 200, 201, 202, 203, 204, 205, 206, 207, 208, 209, 214, 215, 216, 217, 210, 211, 212, 213, 218, 219, 220] rfl rfl
set_option maxRecDepth 20000 in
theorem gX9_worth_X9_findWorth : GoodIn wsX9_worth (wsV RX9 181 RX9 yX9_findWorth wsX9_findWorth) := goodIn_app (goodIn_of _ (by decide +kernel)) ggX9_worth_X9_findWorth
set_option maxRecDepth 20000 in
theorem ggX9_worth_X9_hold : GoodIn wsX9_worth wsX9_hold := goodIn_r _ [133, 2, 134, 135, 136, 137, 138, 119, 120, 69, 121, 76, 71, 116, 39, 40, 41, 122, 123, 124, 125, 77, 72, 73, 74, 75, 78, 79, 80, 81, 191, 192, 193, 194, 195, 196, 197, 198, 199, 200, 201, 202, 203, 204, 221, 222, 223, 224, 225, 216, 217, 218, 219, 220] rfl rfl
set_option maxRecDepth 20000 in
theorem gX9_worth_X9_hold : GoodIn wsX9_worth (wsV RX9 147 RX9 yX9_hold wsX9_hold) := goodIn_app (goodIn_of _ (by decide +kernel)) ggX9_worth_X9_hold
set_option maxRecDepth 20000 in
theorem ggX9_worth_X3_tell : GoodIn wsX9_worth wsX3_tell := goodIn_r _ [143, 144, 145, 146, 147, 148, 149, 142, 150, 151, 152, 153, 154, 69, 155, 77, 76, 71, 156, 157, 158, 159, 160, 161, 162, 163, 119, 120, 121, 116, 39, 40, 41, 122, 123, 124, 125, 72, 73, 74, 75, 78, 79, 80, 81, 164, 165, 166, 167, 168, 169, 170, 171, 172, 173, 174, 175, 176, 177, 178, 86, 179, 180, 181, 182, 183, 184, 185, 186, 87, 88, 89, 90, 96, 97, 98, 99, 187, 188, 189, 190, 221, 222, 223, 224, 225, 218, 219, 220] rfl rfl
set_option maxRecDepth 20000 in
theorem gX9_worth_X3_tell : GoodIn wsX9_worth (wsV RX9 151 RX3 yX3_tell wsX3_tell) := goodIn_app (goodIn_of _ (by decide +kernel)) ggX9_worth_X3_tell
theorem dX9_worth_0 : decode cX9_worth 0 = .ok (.iload_n 1, 1) := by decide +kernel
theorem dX9_worth_1 : decode cX9_worth 1 = .ok (.ifCond .lt 28, 3) := by decide +kernel
theorem dX9_worth_4 : decode cX9_worth 4 = .ok (.iload_n 1, 1) := by decide +kernel
theorem dX9_worth_5 : decode cX9_worth 5 = .ok (.iconst 4, 1) := by decide +kernel
theorem dX9_worth_6 : decode cX9_worth 6 = .ok (.if_icmp .ge 23, 3) := by decide +kernel
theorem dX9_worth_9 : decode cX9_worth 9 = .ok (.aload_n 0, 1) := by decide +kernel
theorem dX9_worth_10 : decode cX9_worth 10 = .ok (.getfield 10, 3) := by decide +kernel
theorem dX9_worth_13 : decode cX9_worth 13 = .ok (.iload_n 2, 1) := by decide +kernel
theorem dX9_worth_14 : decode cX9_worth 14 = .ok (.invokevirtual 91, 3) := by decide +kernel
theorem dX9_worth_17 : decode cX9_worth 17 = .ok (.ifCond .eq 12, 3) := by decide +kernel
theorem dX9_worth_20 : decode cX9_worth 20 = .ok (.iload_n 3, 1) := by decide +kernel
theorem dX9_worth_21 : decode cX9_worth 21 = .ok (.iconst (-1), 1) := by decide +kernel
theorem dX9_worth_22 : decode cX9_worth 22 = .ok (.if_icmp .lt 7, 3) := by decide +kernel
theorem dX9_worth_25 : decode cX9_worth 25 = .ok (.iconst 1, 1) := by decide +kernel
theorem dX9_worth_26 : decode cX9_worth 26 = .ok (.goto 4, 3) := by decide +kernel
theorem dX9_worth_29 : decode cX9_worth 29 = .ok (.iconst 0, 1) := by decide +kernel
theorem dX9_worth_30 : decode cX9_worth 30 = .ok (.istore 4, 2) := by decide +kernel
theorem dX9_worth_32 : decode cX9_worth 32 = .ok (.iload 4, 2) := by decide +kernel
theorem dX9_worth_34 : decode cX9_worth 34 = .ok (.ifCond .eq 13, 3) := by decide +kernel
theorem dX9_worth_37 : decode cX9_worth 37 = .ok (.aload_n 0, 1) := by decide +kernel
theorem dX9_worth_38 : decode cX9_worth 38 = .ok (.getfield 10, 3) := by decide +kernel
theorem dX9_worth_41 : decode cX9_worth 41 = .ok (.invokevirtual 126, 3) := by decide +kernel
theorem dX9_worth_44 : decode cX9_worth 44 = .ok (.ifCond .ne 8, 3) := by decide +kernel
theorem dX9_worth_47 : decode cX9_worth 47 = .ok (.iload_n 3, 1) := by decide +kernel
theorem dX9_worth_48 : decode cX9_worth 48 = .ok (.invokestatic 143, 3) := by decide +kernel
theorem dX9_worth_51 : decode cX9_worth 51 = .ok (.lreturn, 1) := by decide +kernel
theorem dX9_worth_52 : decode cX9_worth 52 = .ok (.aload_n 0, 1) := by decide +kernel
theorem dX9_worth_53 : decode cX9_worth 53 = .ok (.aload_n 0, 1) := by decide +kernel
theorem dX9_worth_54 : decode cX9_worth 54 = .ok (.iload_n 1, 1) := by decide +kernel
theorem dX9_worth_55 : decode cX9_worth 55 = .ok (.invokevirtual 181, 3) := by decide +kernel
theorem dX9_worth_58 : decode cX9_worth 58 = .ok (.iload_n 2, 1) := by decide +kernel
theorem dX9_worth_59 : decode cX9_worth 59 = .ok (.invokevirtual 147, 3) := by decide +kernel
theorem dX9_worth_62 : decode cX9_worth 62 = .ok (.aload_n 0, 1) := by decide +kernel
theorem dX9_worth_63 : decode cX9_worth 63 = .ok (.getfield 64, 3) := by decide +kernel
theorem dX9_worth_66 : decode cX9_worth 66 = .ok (.iload_n 3, 1) := by decide +kernel
theorem dX9_worth_67 : decode cX9_worth 67 = .ok (.invokevirtual 151, 3) := by decide +kernel
theorem dX9_worth_70 : decode cX9_worth 70 = .ok (.lreturn, 1) := by decide +kernel
set_option maxRecDepth 20000 in
theorem ggX9_steps_X6_hasState : GoodIn wsX9_steps wsX6_hasState := goodIn_r _ [10, 11, 245, 246, 247, 248, 249] rfl rfl
set_option maxRecDepth 20000 in
theorem gX9_steps_X6_hasState : GoodIn wsX9_steps (wsV RX9 91 RX6 yX6_hasState wsX6_hasState) := goodIn_app (goodIn_of _ (by decide +kernel)) ggX9_steps_X6_hasState
set_option maxRecDepth 20000 in
theorem ggX9_steps_X6_allReady : GoodIn wsX9_steps wsX6_allReady := goodIn_r _ [15, 11, 16, 17, 18, 19, 9, 20, 21, 22, 23, 24, 25, 26, 245, 246, 247, 248, 249, 250, 251, 252, 253] rfl rfl
set_option maxRecDepth 20000 in
theorem gX9_steps_X6_allReady : GoodIn wsX9_steps (wsV RX9 126 RX6 yX6_allReady wsX6_allReady) := goodIn_app (goodIn_of _ (by decide +kernel)) ggX9_steps_X6_allReady
set_option maxRecDepth 20000 in
theorem ggX9_steps_X9_refusal : GoodIn wsX9_steps wsX9_refusal := goodIn_r _ [30, 31, 32] rfl rfl
set_option maxRecDepth 20000 in
theorem gX9_steps_X9_refusal : GoodIn wsX9_steps (va_wsS RX9 143 yX9_refusal wsX9_refusal) := goodIn_app (goodIn_of _ (by decide +kernel)) ggX9_steps_X9_refusal
set_option maxRecDepth 20000 in
theorem ggX9_steps_X5_climb : GoodIn wsX9_steps wsX5_climb := goodIn_r _ [37, 38, 39, 40, 41, 36, 42, 43, 44, 45, 46, 47, 48, 49, 50, 51, 52, 53, 54, 55, 56, 57, 58, 59, 60, 9, 61, 11, 16, 62, 22, 23, 24, 25, 26, 63, 64, 65, 66, 67, 68, 69, 70, 71, 72, 73, 74, 75, 76, 77, 78, 79, 80, 81, 82, 83, 84, 85, 86, 87, 88, 89, 90, 91, 92, 93, 94, 95, 96, 97, 98, 99, 100, 101, 102, 103, 104, 105, 106, 107, 108, 109, 110, 111, 112, 113, 114, 115, 116, 117, 118, 119, 120, 121, 122, 123, 124, 125, 126, 127, 128, 129, 130, 131, 132, 133, 134, 135, 136, 137, 138, 139, 140, 141, 142, 143, 144, 145, 146, 147, 148, 149, 150, 151, 152, 153, 154, 155, 156, 157, 158, 159, 160, 161, 162, 163, 164, 165, 166, 242, 243, 244, 254, 255, 256, 257, 258, 245, 246, 247, 248, 249, 250, 251, 252, 253, 259, 260, 261, 262, 263] rfl rfl
set_option maxRecDepth 20000 in
theorem gX9_steps_X5_climb : GoodIn wsX9_steps (wsV RX9 185 RX5 yX5_climb wsX5_climb) := goodIn_app (goodIn_of _ (by decide +kernel)) ggX9_steps_X5_climb
set_option maxRecDepth 20000 in
theorem ggX9_steps_X9_hold : GoodIn wsX9_steps wsX9_hold := goodIn_r _ [170, 5, 171, 172, 173, 174, 175, 152, 153, 49, 154, 52, 51, 135, 136, 68, 137, 155, 156, 157, 158, 53, 74, 47, 48, 50, 54, 55, 56, 57, 228, 229, 230, 231, 232, 233, 234, 235, 236, 237, 238, 239, 240, 241, 264, 265, 266, 267, 268, 254, 255, 256, 257, 258] rfl rfl
set_option maxRecDepth 20000 in
theorem gX9_steps_X9_hold : GoodIn wsX9_steps (wsV RX9 147 RX9 yX9_hold wsX9_hold) := goodIn_app (goodIn_of _ (by decide +kernel)) ggX9_steps_X9_hold
set_option maxRecDepth 20000 in
theorem ggX9_steps_X3_tell : GoodIn wsX9_steps wsX3_tell := goodIn_r _ [180, 181, 182, 183, 184, 185, 186, 179, 187, 188, 189, 190, 191, 49, 192, 53, 52, 51, 193, 194, 195, 196, 197, 198, 199, 200, 152, 153, 154, 135, 136, 68, 137, 155, 156, 157, 158, 74, 47, 48, 50, 54, 55, 56, 57, 201, 202, 203, 204, 205, 206, 207, 208, 209, 210, 211, 212, 213, 214, 215, 79, 216, 217, 218, 219, 220, 221, 222, 223, 80, 81, 82, 83, 89, 90, 91, 92, 224, 225, 226, 227, 264, 265, 266, 267, 268, 256, 257, 258] rfl rfl
set_option maxRecDepth 20000 in
theorem gX9_steps_X3_tell : GoodIn wsX9_steps (wsV RX9 151 RX3 yX3_tell wsX3_tell) := goodIn_app (goodIn_of _ (by decide +kernel)) ggX9_steps_X3_tell
theorem dX9_steps_0 : decode cX9_steps 0 = .ok (.iload_n 1, 1) := by decide +kernel
theorem dX9_steps_1 : decode cX9_steps 1 = .ok (.ifCond .lt 29, 3) := by decide +kernel
theorem dX9_steps_4 : decode cX9_steps 4 = .ok (.iload_n 1, 1) := by decide +kernel
theorem dX9_steps_5 : decode cX9_steps 5 = .ok (.bipush 8, 2) := by decide +kernel
theorem dX9_steps_7 : decode cX9_steps 7 = .ok (.if_icmp .gt 23, 3) := by decide +kernel
theorem dX9_steps_10 : decode cX9_steps 10 = .ok (.aload_n 0, 1) := by decide +kernel
theorem dX9_steps_11 : decode cX9_steps 11 = .ok (.getfield 10, 3) := by decide +kernel
theorem dX9_steps_14 : decode cX9_steps 14 = .ok (.iload_n 2, 1) := by decide +kernel
theorem dX9_steps_15 : decode cX9_steps 15 = .ok (.invokevirtual 91, 3) := by decide +kernel
theorem dX9_steps_18 : decode cX9_steps 18 = .ok (.ifCond .eq 12, 3) := by decide +kernel
theorem dX9_steps_21 : decode cX9_steps 21 = .ok (.iload_n 3, 1) := by decide +kernel
theorem dX9_steps_22 : decode cX9_steps 22 = .ok (.iconst (-1), 1) := by decide +kernel
theorem dX9_steps_23 : decode cX9_steps 23 = .ok (.if_icmp .lt 7, 3) := by decide +kernel
theorem dX9_steps_26 : decode cX9_steps 26 = .ok (.iconst 1, 1) := by decide +kernel
theorem dX9_steps_27 : decode cX9_steps 27 = .ok (.goto 4, 3) := by decide +kernel
theorem dX9_steps_30 : decode cX9_steps 30 = .ok (.iconst 0, 1) := by decide +kernel
theorem dX9_steps_31 : decode cX9_steps 31 = .ok (.istore 4, 2) := by decide +kernel
theorem dX9_steps_33 : decode cX9_steps 33 = .ok (.iload 4, 2) := by decide +kernel
theorem dX9_steps_35 : decode cX9_steps 35 = .ok (.ifCond .eq 13, 3) := by decide +kernel
theorem dX9_steps_38 : decode cX9_steps 38 = .ok (.aload_n 0, 1) := by decide +kernel
theorem dX9_steps_39 : decode cX9_steps 39 = .ok (.getfield 10, 3) := by decide +kernel
theorem dX9_steps_42 : decode cX9_steps 42 = .ok (.invokevirtual 126, 3) := by decide +kernel
theorem dX9_steps_45 : decode cX9_steps 45 = .ok (.ifCond .ne 8, 3) := by decide +kernel
theorem dX9_steps_48 : decode cX9_steps 48 = .ok (.iload_n 3, 1) := by decide +kernel
theorem dX9_steps_49 : decode cX9_steps 49 = .ok (.invokestatic 143, 3) := by decide +kernel
theorem dX9_steps_52 : decode cX9_steps 52 = .ok (.lreturn, 1) := by decide +kernel
theorem dX9_steps_53 : decode cX9_steps 53 = .ok (.aload_n 0, 1) := by decide +kernel
theorem dX9_steps_54 : decode cX9_steps 54 = .ok (.getfield 33, 3) := by decide +kernel
theorem dX9_steps_57 : decode cX9_steps 57 = .ok (.aload_n 0, 1) := by decide +kernel
theorem dX9_steps_58 : decode cX9_steps 58 = .ok (.getfield 10, 3) := by decide +kernel
theorem dX9_steps_61 : decode cX9_steps 61 = .ok (.aload_n 0, 1) := by decide +kernel
theorem dX9_steps_62 : decode cX9_steps 62 = .ok (.getfield 26, 3) := by decide +kernel
theorem dX9_steps_65 : decode cX9_steps 65 = .ok (.iload_n 1, 1) := by decide +kernel
theorem dX9_steps_66 : decode cX9_steps 66 = .ok (.invokevirtual 185, 3) := by decide +kernel
theorem dX9_steps_69 : decode cX9_steps 69 = .ok (.aload_n 0, 1) := by decide +kernel
theorem dX9_steps_70 : decode cX9_steps 70 = .ok (.aload_n 0, 1) := by decide +kernel
theorem dX9_steps_71 : decode cX9_steps 71 = .ok (.getfield 33, 3) := by decide +kernel
theorem dX9_steps_74 : decode cX9_steps 74 = .ok (.getfield 189, 3) := by decide +kernel
theorem dX9_steps_77 : decode cX9_steps 77 = .ok (.iload_n 1, 1) := by decide +kernel
theorem dX9_steps_78 : decode cX9_steps 78 = .ok (.aaload, 1) := by decide +kernel
theorem dX9_steps_79 : decode cX9_steps 79 = .ok (.iload_n 2, 1) := by decide +kernel
theorem dX9_steps_80 : decode cX9_steps 80 = .ok (.invokevirtual 147, 3) := by decide +kernel
theorem dX9_steps_83 : decode cX9_steps 83 = .ok (.aload_n 0, 1) := by decide +kernel
theorem dX9_steps_84 : decode cX9_steps 84 = .ok (.getfield 64, 3) := by decide +kernel
theorem dX9_steps_87 : decode cX9_steps 87 = .ok (.iload_n 3, 1) := by decide +kernel
theorem dX9_steps_88 : decode cX9_steps 88 = .ok (.invokevirtual 151, 3) := by decide +kernel
theorem dX9_steps_91 : decode cX9_steps 91 = .ok (.lreturn, 1) := by decide +kernel
set_option maxRecDepth 20000 in
theorem ggX9_plan_X6_hasState : GoodIn wsX9_plan wsX6_hasState := goodIn_r _ [9, 10, 177, 178, 179, 180, 181] rfl rfl
set_option maxRecDepth 20000 in
theorem gX9_plan_X6_hasState : GoodIn wsX9_plan (wsV RX9 91 RX6 yX6_hasState wsX6_hasState) := goodIn_app (goodIn_of _ (by decide +kernel)) ggX9_plan_X6_hasState
set_option maxRecDepth 20000 in
theorem ggX9_plan_X6_allReady : GoodIn wsX9_plan wsX6_allReady := goodIn_r _ [14, 10, 15, 16, 17, 18, 8, 19, 20, 21, 22, 23, 24, 25, 177, 178, 179, 180, 181, 182, 183, 184, 185] rfl rfl
set_option maxRecDepth 20000 in
theorem gX9_plan_X6_allReady : GoodIn wsX9_plan (wsV RX9 126 RX6 yX6_allReady wsX6_allReady) := goodIn_app (goodIn_of _ (by decide +kernel)) ggX9_plan_X6_allReady
set_option maxRecDepth 20000 in
theorem ggX9_plan_X5_climb : GoodIn wsX9_plan wsX5_climb := goodIn_r _ [30, 31, 32, 33, 34, 29, 35, 36, 37, 38, 39, 40, 41, 42, 43, 44, 45, 46, 47, 48, 49, 50, 51, 52, 53, 8, 54, 10, 15, 55, 21, 22, 23, 24, 25, 56, 57, 58, 59, 60, 61, 62, 63, 64, 65, 66, 67, 68, 69, 70, 71, 72, 73, 74, 75, 76, 77, 78, 79, 80, 81, 82, 83, 84, 85, 86, 87, 88, 89, 90, 91, 92, 93, 94, 95, 96, 97, 98, 99, 100, 101, 102, 103, 104, 105, 106, 107, 108, 109, 110, 111, 112, 113, 114, 115, 116, 117, 118, 119, 120, 121, 122, 123, 124, 125, 126, 127, 128, 129, 130, 131, 132, 133, 134, 135, 136, 137, 138, 139, 140, 141, 142, 143, 144, 145, 146, 147, 148, 149, 150, 151, 152, 153, 154, 155, 156, 157, 158, 159, 174, 175, 176, 186, 187, 188, 189, 190, 177, 178, 179, 180, 181, 182, 183, 184, 185, 191, 192, 193, 194, 195] rfl rfl
set_option maxRecDepth 20000 in
theorem gX9_plan_X5_climb : GoodIn wsX9_plan (wsV RX9 185 RX5 yX5_climb wsX5_climb) := goodIn_app (goodIn_of _ (by decide +kernel)) ggX9_plan_X5_climb
theorem dX9_plan_0 : decode cX9_plan 0 = .ok (.iload_n 1, 1) := by decide +kernel
theorem dX9_plan_1 : decode cX9_plan 1 = .ok (.iconst 1, 1) := by decide +kernel
theorem dX9_plan_2 : decode cX9_plan 2 = .ok (.if_icmp .lt 24, 3) := by decide +kernel
theorem dX9_plan_5 : decode cX9_plan 5 = .ok (.iload_n 1, 1) := by decide +kernel
theorem dX9_plan_6 : decode cX9_plan 6 = .ok (.bipush 8, 2) := by decide +kernel
theorem dX9_plan_8 : decode cX9_plan 8 = .ok (.if_icmp .gt 18, 3) := by decide +kernel
theorem dX9_plan_11 : decode cX9_plan 11 = .ok (.aload_n 0, 1) := by decide +kernel
theorem dX9_plan_12 : decode cX9_plan 12 = .ok (.getfield 10, 3) := by decide +kernel
theorem dX9_plan_15 : decode cX9_plan 15 = .ok (.iload_n 2, 1) := by decide +kernel
theorem dX9_plan_16 : decode cX9_plan 16 = .ok (.invokevirtual 91, 3) := by decide +kernel
theorem dX9_plan_19 : decode cX9_plan 19 = .ok (.ifCond .eq 7, 3) := by decide +kernel
theorem dX9_plan_22 : decode cX9_plan 22 = .ok (.iconst 1, 1) := by decide +kernel
theorem dX9_plan_23 : decode cX9_plan 23 = .ok (.goto 4, 3) := by decide +kernel
theorem dX9_plan_26 : decode cX9_plan 26 = .ok (.iconst 0, 1) := by decide +kernel
theorem dX9_plan_27 : decode cX9_plan 27 = .ok (.istore_n 3, 1) := by decide +kernel
theorem dX9_plan_28 : decode cX9_plan 28 = .ok (.iload_n 3, 1) := by decide +kernel
theorem dX9_plan_29 : decode cX9_plan 29 = .ok (.ifCond .eq 13, 3) := by decide +kernel
theorem dX9_plan_32 : decode cX9_plan 32 = .ok (.aload_n 0, 1) := by decide +kernel
theorem dX9_plan_33 : decode cX9_plan 33 = .ok (.getfield 10, 3) := by decide +kernel
theorem dX9_plan_36 : decode cX9_plan 36 = .ok (.invokevirtual 126, 3) := by decide +kernel
theorem dX9_plan_39 : decode cX9_plan 39 = .ok (.ifCond .ne 5, 3) := by decide +kernel
theorem dX9_plan_42 : decode cX9_plan 42 = .ok (.iconst (-1), 1) := by decide +kernel
theorem dX9_plan_43 : decode cX9_plan 43 = .ok (.ireturn, 1) := by decide +kernel
theorem dX9_plan_44 : decode cX9_plan 44 = .ok (.aload_n 0, 1) := by decide +kernel
theorem dX9_plan_45 : decode cX9_plan 45 = .ok (.getfield 33, 3) := by decide +kernel
theorem dX9_plan_48 : decode cX9_plan 48 = .ok (.aload_n 0, 1) := by decide +kernel
theorem dX9_plan_49 : decode cX9_plan 49 = .ok (.getfield 10, 3) := by decide +kernel
theorem dX9_plan_52 : decode cX9_plan 52 = .ok (.aload_n 0, 1) := by decide +kernel
theorem dX9_plan_53 : decode cX9_plan 53 = .ok (.getfield 26, 3) := by decide +kernel
theorem dX9_plan_56 : decode cX9_plan 56 = .ok (.iload_n 1, 1) := by decide +kernel
theorem dX9_plan_57 : decode cX9_plan 57 = .ok (.invokevirtual 185, 3) := by decide +kernel
theorem dX9_plan_60 : decode cX9_plan 60 = .ok (.aload_n 0, 1) := by decide +kernel
theorem dX9_plan_61 : decode cX9_plan 61 = .ok (.getfield 33, 3) := by decide +kernel
theorem dX9_plan_64 : decode cX9_plan 64 = .ok (.getfield 192, 3) := by decide +kernel
theorem dX9_plan_67 : decode cX9_plan 67 = .ok (.iload_n 1, 1) := by decide +kernel
theorem dX9_plan_68 : decode cX9_plan 68 = .ok (.aaload, 1) := by decide +kernel
theorem dX9_plan_69 : decode cX9_plan 69 = .ok (.iload_n 2, 1) := by decide +kernel
theorem dX9_plan_70 : decode cX9_plan 70 = .ok (.iaload, 1) := by decide +kernel
theorem dX9_plan_71 : decode cX9_plan 71 = .ok (.ireturn, 1) := by decide +kernel
set_option maxRecDepth 20000 in
theorem ggX9_bound_X6_allReady : GoodIn wsX9_bound wsX6_allReady := goodIn_r _ [9, 10, 11, 12, 13, 14, 8, 15, 16, 17, 18, 19, 20, 21, 251, 252, 253, 254, 255, 256, 257, 258, 259] rfl rfl
set_option maxRecDepth 20000 in
theorem gX9_bound_X6_allReady : GoodIn wsX9_bound (wsV RX9 126 RX6 yX6_allReady wsX6_allReady) := goodIn_app (goodIn_of _ (by decide +kernel)) ggX9_bound_X6_allReady
set_option maxRecDepth 20000 in
theorem ggX9_bound_X9_refusal : GoodIn wsX9_bound wsX9_refusal := goodIn_r _ [25, 26, 27] rfl rfl
set_option maxRecDepth 20000 in
theorem gX9_bound_X9_refusal : GoodIn wsX9_bound (va_wsS RX9 143 yX9_refusal wsX9_refusal) := goodIn_app (goodIn_of _ (by decide +kernel)) ggX9_bound_X9_refusal
set_option maxRecDepth 20000 in
theorem ggX9_bound_X5_climb : GoodIn wsX9_bound wsX5_climb := goodIn_r _ [32, 33, 34, 35, 36, 31, 37, 38, 39, 40, 41, 42, 43, 44, 45, 46, 47, 48, 49, 50, 51, 52, 53, 54, 55, 8, 56, 10, 11, 57, 17, 18, 19, 20, 21, 58, 59, 60, 61, 62, 63, 64, 65, 66, 67, 68, 69, 70, 71, 72, 73, 74, 75, 76, 77, 78, 79, 80, 81, 82, 83, 84, 85, 86, 87, 88, 89, 90, 91, 92, 93, 94, 95, 96, 97, 98, 99, 100, 101, 102, 103, 104, 105, 106, 107, 108, 109, 110, 111, 112, 113, 114, 115, 116, 117, 118, 119, 120, 121, 122, 123, 124, 125, 126, 127, 128, 129, 130, 131, 132, 133, 134, 135, 136, 137, 138, 139, 140, 141, 142, 143, 144, 145, 146, 147, 148, 149, 150, 151, 152, 153, 154, 155, 156, 157, 158, 159, 160, 161, 260, 261, 262, 263, 264, 265, 266, 267, 251, 252, 253, 254, 255, 256, 257, 258, 259, 268, 269, 270, 271, 272] rfl rfl
set_option maxRecDepth 20000 in
theorem gX9_bound_X5_climb : GoodIn wsX9_bound (wsV RX9 185 RX5 yX5_climb wsX5_climb) := goodIn_app (goodIn_of _ (by decide +kernel)) ggX9_bound_X5_climb
set_option maxRecDepth 20000 in
theorem ggX9_bound_X9_findBound : GoodIn wsX9_bound wsX9_findBound := goodIn_r _ [165, 2, 166, 167, 1, 168, 169, 170, 4, 171, 172, 173, 174, 175, 176, 42, 43, 44, 45, 46, 47, 48, 49, 50, 51, 52, 177, 147, 148, 149, 130, 131, 63, 132, 150, 151, 152, 153, 69, 178, 179, 180, 181, 182, 183, 184, 185, 186, 62, 64, 187, 188, 189, 190, 191, 159, 160, 161, 70, 71, 72, 73, 74, 75, 76, 77, 78, 79, 80, 81, 82, 83, 84, 85, 86, 87, 237, 238, 239, 240, 241, 242, 243, 244, 245, 246, 247, 248, 249, 250, 260, 261, 262, 251, 252, 253, 254, 255, 263, 264, 273, 274, 275, 276, 277, 265, 266, 267] rfl rfl
set_option maxRecDepth 20000 in
theorem gX9_bound_X9_findBound : GoodIn wsX9_bound (wsV RX9 196 RX9 yX9_findBound wsX9_findBound) := goodIn_app (goodIn_of _ (by decide +kernel)) ggX9_bound_X9_findBound
set_option maxRecDepth 20000 in
theorem ggX9_bound_X3_tell : GoodIn wsX9_bound wsX3_tell := goodIn_r _ [196, 197, 198, 199, 200, 201, 202, 195, 203, 204, 205, 179, 180, 44, 181, 48, 47, 46, 206, 207, 208, 209, 210, 211, 212, 213, 147, 148, 149, 130, 131, 63, 132, 150, 151, 152, 153, 69, 42, 43, 45, 49, 50, 51, 52, 214, 215, 216, 217, 218, 219, 220, 221, 222, 223, 224, 225, 226, 227, 228, 74, 187, 188, 189, 190, 229, 230, 231, 232, 75, 76, 77, 78, 84, 85, 86, 87, 233, 234, 235, 236, 273, 274, 275, 276, 277, 265, 266, 267] rfl rfl
set_option maxRecDepth 20000 in
theorem gX9_bound_X3_tell : GoodIn wsX9_bound (wsV RX9 151 RX3 yX3_tell wsX3_tell) := goodIn_app (goodIn_of _ (by decide +kernel)) ggX9_bound_X3_tell
theorem dX9_bound_0 : decode cX9_bound 0 = .ok (.iload_n 1, 1) := by decide +kernel
theorem dX9_bound_1 : decode cX9_bound 1 = .ok (.ifCond .lt 18, 3) := by decide +kernel
theorem dX9_bound_4 : decode cX9_bound 4 = .ok (.iload_n 1, 1) := by decide +kernel
theorem dX9_bound_5 : decode cX9_bound 5 = .ok (.bipush 8, 2) := by decide +kernel
theorem dX9_bound_7 : decode cX9_bound 7 = .ok (.if_icmp .gt 12, 3) := by decide +kernel
theorem dX9_bound_10 : decode cX9_bound 10 = .ok (.iload_n 2, 1) := by decide +kernel
theorem dX9_bound_11 : decode cX9_bound 11 = .ok (.iconst (-1), 1) := by decide +kernel
theorem dX9_bound_12 : decode cX9_bound 12 = .ok (.if_icmp .lt 7, 3) := by decide +kernel
theorem dX9_bound_15 : decode cX9_bound 15 = .ok (.iconst 1, 1) := by decide +kernel
theorem dX9_bound_16 : decode cX9_bound 16 = .ok (.goto 4, 3) := by decide +kernel
theorem dX9_bound_19 : decode cX9_bound 19 = .ok (.iconst 0, 1) := by decide +kernel
theorem dX9_bound_20 : decode cX9_bound 20 = .ok (.istore_n 3, 1) := by decide +kernel
theorem dX9_bound_21 : decode cX9_bound 21 = .ok (.iload_n 3, 1) := by decide +kernel
theorem dX9_bound_22 : decode cX9_bound 22 = .ok (.ifCond .eq 13, 3) := by decide +kernel
theorem dX9_bound_25 : decode cX9_bound 25 = .ok (.aload_n 0, 1) := by decide +kernel
theorem dX9_bound_26 : decode cX9_bound 26 = .ok (.getfield 10, 3) := by decide +kernel
theorem dX9_bound_29 : decode cX9_bound 29 = .ok (.invokevirtual 126, 3) := by decide +kernel
theorem dX9_bound_32 : decode cX9_bound 32 = .ok (.ifCond .ne 8, 3) := by decide +kernel
theorem dX9_bound_35 : decode cX9_bound 35 = .ok (.iload_n 2, 1) := by decide +kernel
theorem dX9_bound_36 : decode cX9_bound 36 = .ok (.invokestatic 143, 3) := by decide +kernel
theorem dX9_bound_39 : decode cX9_bound 39 = .ok (.lreturn, 1) := by decide +kernel
theorem dX9_bound_40 : decode cX9_bound 40 = .ok (.aload_n 0, 1) := by decide +kernel
theorem dX9_bound_41 : decode cX9_bound 41 = .ok (.getfield 33, 3) := by decide +kernel
theorem dX9_bound_44 : decode cX9_bound 44 = .ok (.aload_n 0, 1) := by decide +kernel
theorem dX9_bound_45 : decode cX9_bound 45 = .ok (.getfield 10, 3) := by decide +kernel
theorem dX9_bound_48 : decode cX9_bound 48 = .ok (.aload_n 0, 1) := by decide +kernel
theorem dX9_bound_49 : decode cX9_bound 49 = .ok (.getfield 26, 3) := by decide +kernel
theorem dX9_bound_52 : decode cX9_bound 52 = .ok (.iconst 1, 1) := by decide +kernel
theorem dX9_bound_53 : decode cX9_bound 53 = .ok (.invokevirtual 185, 3) := by decide +kernel
theorem dX9_bound_56 : decode cX9_bound 56 = .ok (.aload_n 0, 1) := by decide +kernel
theorem dX9_bound_57 : decode cX9_bound 57 = .ok (.iload_n 1, 1) := by decide +kernel
theorem dX9_bound_58 : decode cX9_bound 58 = .ok (.invokevirtual 196, 3) := by decide +kernel
theorem dX9_bound_61 : decode cX9_bound 61 = .ok (.aload_n 0, 1) := by decide +kernel
theorem dX9_bound_62 : decode cX9_bound 62 = .ok (.getfield 64, 3) := by decide +kernel
theorem dX9_bound_65 : decode cX9_bound 65 = .ok (.iload_n 2, 1) := by decide +kernel
theorem dX9_bound_66 : decode cX9_bound 66 = .ok (.invokevirtual 151, 3) := by decide +kernel
theorem dX9_bound_69 : decode cX9_bound 69 = .ok (.lreturn, 1) := by decide +kernel
set_option maxRecDepth 20000 in
theorem ggX9_best_X5_climb : GoodIn wsX9_best wsX5_climb := goodIn_r _ [9, 10, 11, 12, 13, 8, 14, 15, 16, 17, 18, 19, 20, 21, 22, 23, 24, 25, 26, 27, 28, 29, 30, 31, 32, 33, 34, 35, 36, 37, 38, 39, 40, 41, 42, 43, 44, 45, 46, 47, 48, 49, 50, 51, 52, 53, 54, 55, 56, 57, 58, 59, 60, 61, 62, 63, 64, 65, 66, 67, 68, 69, 70, 71, 72, 73, 74, 75, 76, 77, 78, 79, 80, 81, 82, 83, 84, 85, 86, 87, 88, 89, 90, 91, 92, 93, 94, 95, 96, 97, 98, 99, 100, 101, 102, 103, 104, 105, 106, 107, 108, 109, 110, 111, 112, 113, 114, 115, 116, 117, 118, 119, 120, 121, 122, 123, 124, 125, 126, 127, 128, 129, 130, 131, 132, 133, 134, 135, 136, 137, 138, 139, 140, 141, 142, 143, 144, 145, 146, 273, 274, 275, 276, 277, 278, 279, 280, 281, 282, 283, 284, 285, 286, 287, 288, 289, 290, 291, 292, 293, 294] rfl rfl
set_option maxRecDepth 20000 in
theorem gX9_best_X5_climb : GoodIn wsX9_best (wsV RX9 185 RX5 yX5_climb wsX5_climb) := goodIn_app (goodIn_of _ (by decide +kernel)) ggX9_best_X5_climb
set_option maxRecDepth 20000 in
theorem ggX9_best_X9_valuesAreGreatestGains : GoodIn wsX9_best wsX9_valuesAreGreatestGains := goodIn_r _ [151, 4, 152, 3, 153, 154, 155, 156, 157, 158, 159, 160, 161, 39, 40, 33, 41, 42, 162, 95, 96, 97, 98, 99, 100, 101, 102, 103, 104, 105, 106, 107, 108, 109, 110, 19, 20, 21, 22, 23, 24, 25, 26, 27, 28, 29, 111, 112, 113, 114, 115, 116, 48, 117, 118, 56, 57, 58, 59, 60, 61, 62, 63, 64, 65, 66, 67, 68, 69, 70, 71, 72, 163, 132, 133, 134, 135, 136, 137, 138, 54, 164, 144, 145, 146, 55, 165, 166, 167, 168, 169, 47, 49, 170, 171, 172, 173, 259, 260, 261, 262, 263, 264, 265, 266, 267, 268, 269, 270, 271, 272, 290, 291, 292, 281, 282, 283, 284, 285, 276, 277, 293, 294, 286, 287, 288, 289, 278, 279, 280] rfl rfl
set_option maxRecDepth 20000 in
theorem gX9_best_X9_valuesAreGreatestGains : GoodIn wsX9_best (wsV RX9 199 RX9 yX9_valuesAreGreatestGains wsX9_valuesAreGreatestGains) := goodIn_app (goodIn_of _ (by decide +kernel)) ggX9_best_X9_valuesAreGreatestGains
set_option maxRecDepth 20000 in
theorem ggX9_best_X9_noWorthIsMore : GoodIn wsX9_best wsX9_noWorthIsMore := goodIn_r _ [177, 3, 153, 156, 155, 157, 178, 179, 180, 181, 182, 150, 183, 184, 185, 154, 186, 116, 48, 117, 187, 188, 189, 190, 191, 192, 193, 194, 195, 196, 197, 198, 199, 39, 40, 33, 41, 42, 200, 201, 202, 203, 204, 205, 206, 207, 208, 209, 210, 211, 51, 52, 21, 53, 23, 54, 19, 20, 22, 24, 25, 26, 27, 28, 29, 55, 56, 57, 58, 59, 60, 61, 62, 63, 64, 65, 66, 67, 68, 69, 70, 71, 72, 212, 213, 214, 215, 216, 217, 218, 219, 220, 221, 222, 223, 224, 112, 113, 114, 115, 225, 226, 132, 133, 134, 135, 136, 137, 138, 227, 144, 145, 146, 228, 229, 230, 231, 165, 166, 167, 168, 169, 47, 49, 170, 171, 172, 173, 259, 260, 261, 262, 263, 264, 265, 266, 267, 268, 269, 270, 271, 272, 281, 282, 283, 284, 285, 276, 277, 295, 296, 286, 287, 288, 289, 278, 279, 280] rfl rfl
set_option maxRecDepth 20000 in
theorem gX9_best_X9_noWorthIsMore : GoodIn wsX9_best (wsV RX9 202 RX9 yX9_noWorthIsMore wsX9_noWorthIsMore) := goodIn_app (goodIn_of _ (by decide +kernel)) ggX9_best_X9_noWorthIsMore
set_option maxRecDepth 20000 in
theorem ggX9_best_X9_stepsKeepBounds : GoodIn wsX9_best wsX9_stepsKeepBounds := goodIn_r _ [235, 3, 153, 2, 236, 237, 238, 239, 150, 240, 156, 179, 157, 241, 242, 243, 244, 178, 245, 246, 19, 20, 21, 22, 23, 24, 25, 26, 27, 28, 29, 163, 132, 133, 134, 115, 116, 48, 117, 135, 136, 137, 138, 54, 247, 248, 249, 250, 165, 166, 167, 168, 169, 47, 49, 170, 171, 172, 173, 164, 144, 145, 146, 55, 56, 57, 58, 59, 60, 61, 62, 63, 64, 65, 66, 67, 68, 69, 70, 71, 72, 251, 252, 253, 254, 155, 255, 256, 228, 229, 230, 231, 257, 112, 113, 114, 258, 259, 260, 261, 262, 263, 264, 265, 266, 267, 268, 269, 270, 271, 272, 281, 282, 283, 284, 285, 273, 274, 275, 276, 277, 297, 298, 299, 300, 301, 278, 279, 280] rfl rfl
set_option maxRecDepth 20000 in
theorem gX9_best_X9_stepsKeepBounds : GoodIn wsX9_best (wsV RX9 205 RX9 yX9_stepsKeepBounds wsX9_stepsKeepBounds) := goodIn_app (goodIn_of _ (by decide +kernel)) ggX9_best_X9_stepsKeepBounds
theorem dX9_best_0 : decode cX9_best 0 = .ok (.aload_n 0, 1) := by decide +kernel
theorem dX9_best_1 : decode cX9_best 1 = .ok (.getfield 81, 3) := by decide +kernel
theorem dX9_best_4 : decode cX9_best 4 = .ok (.ifCond .ne 5, 3) := by decide +kernel
theorem dX9_best_7 : decode cX9_best 7 = .ok (.iconst 0, 1) := by decide +kernel
theorem dX9_best_8 : decode cX9_best 8 = .ok (.ireturn, 1) := by decide +kernel
theorem dX9_best_9 : decode cX9_best 9 = .ok (.aload_n 0, 1) := by decide +kernel
theorem dX9_best_10 : decode cX9_best 10 = .ok (.getfield 33, 3) := by decide +kernel
theorem dX9_best_13 : decode cX9_best 13 = .ok (.aload_n 0, 1) := by decide +kernel
theorem dX9_best_14 : decode cX9_best 14 = .ok (.getfield 10, 3) := by decide +kernel
theorem dX9_best_17 : decode cX9_best 17 = .ok (.aload_n 0, 1) := by decide +kernel
theorem dX9_best_18 : decode cX9_best 18 = .ok (.getfield 26, 3) := by decide +kernel
theorem dX9_best_21 : decode cX9_best 21 = .ok (.iconst 4, 1) := by decide +kernel
theorem dX9_best_22 : decode cX9_best 22 = .ok (.invokevirtual 185, 3) := by decide +kernel
theorem dX9_best_25 : decode cX9_best 25 = .ok (.aload_n 0, 1) := by decide +kernel
theorem dX9_best_26 : decode cX9_best 26 = .ok (.invokevirtual 199, 3) := by decide +kernel
theorem dX9_best_29 : decode cX9_best 29 = .ok (.ifCond .eq 21, 3) := by decide +kernel
theorem dX9_best_32 : decode cX9_best 32 = .ok (.aload_n 0, 1) := by decide +kernel
theorem dX9_best_33 : decode cX9_best 33 = .ok (.invokevirtual 202, 3) := by decide +kernel
theorem dX9_best_36 : decode cX9_best 36 = .ok (.ifCond .eq 14, 3) := by decide +kernel
theorem dX9_best_39 : decode cX9_best 39 = .ok (.aload_n 0, 1) := by decide +kernel
theorem dX9_best_40 : decode cX9_best 40 = .ok (.invokevirtual 205, 3) := by decide +kernel
theorem dX9_best_43 : decode cX9_best 43 = .ok (.ifCond .eq 7, 3) := by decide +kernel
theorem dX9_best_46 : decode cX9_best 46 = .ok (.iconst 1, 1) := by decide +kernel
theorem dX9_best_47 : decode cX9_best 47 = .ok (.goto 4, 3) := by decide +kernel
theorem dX9_best_50 : decode cX9_best 50 = .ok (.iconst 0, 1) := by decide +kernel
theorem dX9_best_51 : decode cX9_best 51 = .ok (.ireturn, 1) := by decide +kernel
set_option maxRecDepth 20000 in
theorem ggX9_count_X6_countActions : GoodIn wsX9_count wsX6_countActions := goodIn_r _ [8, 9, 10, 11, 12, 13, 14, 7, 15, 16, 31, 32, 33, 34, 35, 36, 37, 38, 39] rfl rfl
set_option maxRecDepth 20000 in
theorem gX9_count_X6_countActions : GoodIn wsX9_count (wsV RX9 208 RX6 yX6_countActions wsX6_countActions) := goodIn_app (goodIn_of _ (by decide +kernel)) ggX9_count_X6_countActions
theorem dX9_count_0 : decode cX9_count 0 = .ok (.iload_n 1, 1) := by decide +kernel
theorem dX9_count_1 : decode cX9_count 1 = .ok (.tableswitch 62 0 3 #[31, 39, 48, 53], 31) := by decide +kernel
theorem dX9_count_32 : decode cX9_count 32 = .ok (.aload_n 0, 1) := by decide +kernel
theorem dX9_count_33 : decode cX9_count 33 = .ok (.getfield 10, 3) := by decide +kernel
theorem dX9_count_36 : decode cX9_count 36 = .ok (.getfield 85, 3) := by decide +kernel
theorem dX9_count_39 : decode cX9_count 39 = .ok (.ireturn, 1) := by decide +kernel
theorem dX9_count_40 : decode cX9_count 40 = .ok (.aload_n 0, 1) := by decide +kernel
theorem dX9_count_41 : decode cX9_count 41 = .ok (.getfield 10, 3) := by decide +kernel
theorem dX9_count_44 : decode cX9_count 44 = .ok (.iconst 0, 1) := by decide +kernel
theorem dX9_count_45 : decode cX9_count 45 = .ok (.invokevirtual 208, 3) := by decide +kernel
theorem dX9_count_48 : decode cX9_count 48 = .ok (.ireturn, 1) := by decide +kernel
theorem dX9_count_49 : decode cX9_count 49 = .ok (.aload_n 0, 1) := by decide +kernel
theorem dX9_count_50 : decode cX9_count 50 = .ok (.getfield 81, 3) := by decide +kernel
theorem dX9_count_53 : decode cX9_count 53 = .ok (.ireturn, 1) := by decide +kernel
theorem dX9_count_54 : decode cX9_count 54 = .ok (.aload_n 0, 1) := by decide +kernel
theorem dX9_count_55 : decode cX9_count 55 = .ok (.getfield 10, 3) := by decide +kernel
theorem dX9_count_58 : decode cX9_count 58 = .ok (.iconst 1, 1) := by decide +kernel
theorem dX9_count_59 : decode cX9_count 59 = .ok (.invokevirtual 208, 3) := by decide +kernel
theorem dX9_count_62 : decode cX9_count 62 = .ok (.ireturn, 1) := by decide +kernel
theorem dX9_count_63 : decode cX9_count 63 = .ok (.iconst (-1), 1) := by decide +kernel
theorem dX9_count_64 : decode cX9_count 64 = .ok (.ireturn, 1) := by decide +kernel
theorem dX9_refusal_0 : decode cX9_refusal 0 = .ok (.iload_n 0, 1) := by decide +kernel
theorem dX9_refusal_1 : decode cX9_refusal 1 = .ok (.iconst (-1), 1) := by decide +kernel
theorem dX9_refusal_2 : decode cX9_refusal 2 = .ok (.if_icmp .ne 9, 3) := by decide +kernel
theorem dX9_refusal_5 : decode cX9_refusal 5 = .ok (.ldc2_w 212, 3) := by decide +kernel
theorem dX9_refusal_8 : decode cX9_refusal 8 = .ok (.goto 6, 3) := by decide +kernel
theorem dX9_refusal_11 : decode cX9_refusal 11 = .ok (.ldc2_w 214, 3) := by decide +kernel
theorem dX9_refusal_14 : decode cX9_refusal 14 = .ok (.lreturn, 1) := by decide +kernel
theorem dX9_forget_0 : decode cX9_forget 0 = .ok (.aload_n 0, 1) := by decide +kernel
theorem dX9_forget_1 : decode cX9_forget 1 = .ok (.iconst 0, 1) := by decide +kernel
theorem dX9_forget_2 : decode cX9_forget 2 = .ok (.putfield 81, 3) := by decide +kernel
theorem dX9_forget_5 : decode cX9_forget 5 = .ok (.aload_n 0, 1) := by decide +kernel
theorem dX9_forget_6 : decode cX9_forget 6 = .ok (.getfield 33, 3) := by decide +kernel
theorem dX9_forget_9 : decode cX9_forget 9 = .ok (.iconst 0, 1) := by decide +kernel
theorem dX9_forget_10 : decode cX9_forget 10 = .ok (.putfield 216, 3) := by decide +kernel
theorem dX9_forget_13 : decode cX9_forget 13 = .ok (.iconst 0, 1) := by decide +kernel
theorem dX9_forget_14 : decode cX9_forget 14 = .ok (.istore_n 1, 1) := by decide +kernel
theorem dX9_forget_15 : decode cX9_forget 15 = .ok (.iload_n 1, 1) := by decide +kernel
theorem dX9_forget_16 : decode cX9_forget 16 = .ok (.iconst 4, 1) := by decide +kernel
theorem dX9_forget_17 : decode cX9_forget 17 = .ok (.if_icmp .ge 16, 3) := by decide +kernel
theorem dX9_forget_20 : decode cX9_forget 20 = .ok (.aload_n 0, 1) := by decide +kernel
theorem dX9_forget_21 : decode cX9_forget 21 = .ok (.getfield 54, 3) := by decide +kernel
theorem dX9_forget_24 : decode cX9_forget 24 = .ok (.iload_n 1, 1) := by decide +kernel
theorem dX9_forget_25 : decode cX9_forget 25 = .ok (.iconst 0, 1) := by decide +kernel
theorem dX9_forget_26 : decode cX9_forget 26 = .ok (.bastore, 1) := by decide +kernel
theorem dX9_forget_27 : decode cX9_forget 27 = .ok (.iinc 1 1, 3) := by decide +kernel
theorem dX9_forget_30 : decode cX9_forget 30 = .ok (.goto (-15), 3) := by decide +kernel
theorem dX9_forget_33 : decode cX9_forget 33 = .ok (.return_, 1) := by decide +kernel
set_option maxRecDepth 20000 in
theorem ggX9_improve_X1_greatest : GoodIn wsX9_improve wsX1_greatest := goodIn_r _ [10, 11, 12, 13, 14, 15, 16, 17, 18, 19, 20, 21, 22, 23, 24, 25, 26, 27, 28, 29, 30, 31, 32, 33, 34, 35, 36, 37, 38, 39, 40, 41, 42, 43, 44, 45, 46, 47, 48, 49, 50, 51, 52, 53, 54, 55, 56, 57, 58, 59, 60, 61, 62, 63, 64, 65, 66, 67, 68, 69, 70, 71, 72, 73, 74, 75, 76, 9, 77, 78, 79, 80, 81, 82, 83, 84, 104, 105, 106, 99, 100, 101, 102, 103, 107, 108, 109, 110, 111, 112, 113, 114, 115, 116, 117] rfl rfl
set_option maxRecDepth 20000 in
theorem gX9_improve_X1_greatest : GoodIn wsX9_improve (wsV RX9 219 RX1 yX1_greatest wsX1_greatest) := goodIn_app (goodIn_of _ (by decide +kernel)) ggX9_improve_X1_greatest
theorem dX9_improve_0 : decode cX9_improve 0 = .ok (.iconst 0, 1) := by decide +kernel
theorem dX9_improve_1 : decode cX9_improve 1 = .ok (.istore_n 1, 1) := by decide +kernel
theorem dX9_improve_2 : decode cX9_improve 2 = .ok (.iconst 0, 1) := by decide +kernel
theorem dX9_improve_3 : decode cX9_improve 3 = .ok (.istore_n 2, 1) := by decide +kernel
theorem dX9_improve_4 : decode cX9_improve 4 = .ok (.iload_n 2, 1) := by decide +kernel
theorem dX9_improve_5 : decode cX9_improve 5 = .ok (.aload_n 0, 1) := by decide +kernel
theorem dX9_improve_6 : decode cX9_improve 6 = .ok (.getfield 10, 3) := by decide +kernel
theorem dX9_improve_9 : decode cX9_improve 9 = .ok (.getfield 85, 3) := by decide +kernel
theorem dX9_improve_12 : decode cX9_improve 12 = .ok (.if_icmp .ge 57, 3) := by decide +kernel
theorem dX9_improve_15 : decode cX9_improve 15 = .ok (.aload_n 0, 1) := by decide +kernel
theorem dX9_improve_16 : decode cX9_improve 16 = .ok (.getfield 26, 3) := by decide +kernel
theorem dX9_improve_19 : decode cX9_improve 19 = .ok (.aload_n 0, 1) := by decide +kernel
theorem dX9_improve_20 : decode cX9_improve 20 = .ok (.getfield 10, 3) := by decide +kernel
theorem dX9_improve_23 : decode cX9_improve 23 = .ok (.iload_n 2, 1) := by decide +kernel
theorem dX9_improve_24 : decode cX9_improve 24 = .ok (.aload_n 0, 1) := by decide +kernel
theorem dX9_improve_25 : decode cX9_improve 25 = .ok (.getfield 46, 3) := by decide +kernel
theorem dX9_improve_28 : decode cX9_improve 28 = .ok (.iload_n 2, 1) := by decide +kernel
theorem dX9_improve_29 : decode cX9_improve 29 = .ok (.iaload, 1) := by decide +kernel
theorem dX9_improve_30 : decode cX9_improve 30 = .ok (.aload_n 0, 1) := by decide +kernel
theorem dX9_improve_31 : decode cX9_improve 31 = .ok (.getfield 42, 3) := by decide +kernel
theorem dX9_improve_34 : decode cX9_improve 34 = .ok (.invokevirtual 219, 3) := by decide +kernel
theorem dX9_improve_37 : decode cX9_improve 37 = .ok (.istore_n 3, 1) := by decide +kernel
theorem dX9_improve_38 : decode cX9_improve 38 = .ok (.iload_n 1, 1) := by decide +kernel
theorem dX9_improve_39 : decode cX9_improve 39 = .ok (.iload_n 3, 1) := by decide +kernel
theorem dX9_improve_40 : decode cX9_improve 40 = .ok (.aload_n 0, 1) := by decide +kernel
theorem dX9_improve_41 : decode cX9_improve 41 = .ok (.getfield 46, 3) := by decide +kernel
theorem dX9_improve_44 : decode cX9_improve 44 = .ok (.iload_n 2, 1) := by decide +kernel
theorem dX9_improve_45 : decode cX9_improve 45 = .ok (.iaload, 1) := by decide +kernel
theorem dX9_improve_46 : decode cX9_improve 46 = .ok (.if_icmp .eq 7, 3) := by decide +kernel
theorem dX9_improve_49 : decode cX9_improve 49 = .ok (.iconst 1, 1) := by decide +kernel
theorem dX9_improve_50 : decode cX9_improve 50 = .ok (.goto 4, 3) := by decide +kernel
theorem dX9_improve_53 : decode cX9_improve 53 = .ok (.iconst 0, 1) := by decide +kernel
theorem dX9_improve_54 : decode cX9_improve 54 = .ok (.ior, 1) := by decide +kernel
theorem dX9_improve_55 : decode cX9_improve 55 = .ok (.istore_n 1, 1) := by decide +kernel
theorem dX9_improve_56 : decode cX9_improve 56 = .ok (.aload_n 0, 1) := by decide +kernel
theorem dX9_improve_57 : decode cX9_improve 57 = .ok (.getfield 46, 3) := by decide +kernel
theorem dX9_improve_60 : decode cX9_improve 60 = .ok (.iload_n 2, 1) := by decide +kernel
theorem dX9_improve_61 : decode cX9_improve 61 = .ok (.iload_n 3, 1) := by decide +kernel
theorem dX9_improve_62 : decode cX9_improve 62 = .ok (.iastore, 1) := by decide +kernel
theorem dX9_improve_63 : decode cX9_improve 63 = .ok (.iinc 2 1, 3) := by decide +kernel
theorem dX9_improve_66 : decode cX9_improve 66 = .ok (.goto (-62), 3) := by decide +kernel
theorem dX9_improve_69 : decode cX9_improve 69 = .ok (.iload_n 1, 1) := by decide +kernel
theorem dX9_improve_70 : decode cX9_improve 70 = .ok (.ireturn, 1) := by decide +kernel
set_option maxRecDepth 20000 in
theorem ggX9_findWorth_X2_findValues : GoodIn wsX9_findWorth wsX2_findValues := goodIn_r _ [16, 17, 18, 19, 20, 21, 22, 23, 24, 25, 26, 27, 28, 29, 30, 15, 31, 32, 33, 34, 35, 36, 37, 38, 39, 40, 41, 42, 43, 44, 45, 46, 47, 48, 49, 50, 51, 52, 53, 54, 55, 56, 57, 58, 59, 60, 61, 62, 63, 64, 65, 66, 67, 68, 69, 70, 71, 72, 73, 74, 75, 76, 77, 78, 79, 80, 81, 82, 83, 84, 85, 86, 87, 88, 89, 7, 8, 9, 90, 91, 92, 93, 94, 95, 96, 97, 98, 99, 100, 101, 102, 117, 118, 119, 120, 121, 122, 123, 124, 125, 126, 127, 128, 129, 130, 131, 132] rfl rfl
set_option maxRecDepth 20000 in
theorem gX9_findWorth_X2_findValues : GoodIn wsX9_findWorth (wsV RX9 136 RX2 yX2_findValues wsX2_findValues) := goodIn_app (goodIn_of _ (by decide +kernel)) ggX9_findWorth_X2_findValues
theorem dX9_findWorth_0 : decode cX9_findWorth 0 = .ok (.aload_n 0, 1) := by decide +kernel
theorem dX9_findWorth_1 : decode cX9_findWorth 1 = .ok (.getfield 54, 3) := by decide +kernel
theorem dX9_findWorth_4 : decode cX9_findWorth 4 = .ok (.iload_n 1, 1) := by decide +kernel
theorem dX9_findWorth_5 : decode cX9_findWorth 5 = .ok (.baload, 1) := by decide +kernel
theorem dX9_findWorth_6 : decode cX9_findWorth 6 = .ok (.ifCond .ne 71, 3) := by decide +kernel
theorem dX9_findWorth_9 : decode cX9_findWorth 9 = .ok (.iconst 0, 1) := by decide +kernel
theorem dX9_findWorth_10 : decode cX9_findWorth 10 = .ok (.istore_n 2, 1) := by decide +kernel
theorem dX9_findWorth_11 : decode cX9_findWorth 11 = .ok (.iload_n 2, 1) := by decide +kernel
theorem dX9_findWorth_12 : decode cX9_findWorth 12 = .ok (.aload_n 0, 1) := by decide +kernel
theorem dX9_findWorth_13 : decode cX9_findWorth 13 = .ok (.getfield 10, 3) := by decide +kernel
theorem dX9_findWorth_16 : decode cX9_findWorth 16 = .ok (.getfield 85, 3) := by decide +kernel
theorem dX9_findWorth_19 : decode cX9_findWorth 19 = .ok (.if_icmp .ge 30, 3) := by decide +kernel
theorem dX9_findWorth_22 : decode cX9_findWorth 22 = .ok (.aload_n 0, 1) := by decide +kernel
theorem dX9_findWorth_23 : decode cX9_findWorth 23 = .ok (.getfield 58, 3) := by decide +kernel
theorem dX9_findWorth_26 : decode cX9_findWorth 26 = .ok (.iload_n 2, 1) := by decide +kernel
theorem dX9_findWorth_27 : decode cX9_findWorth 27 = .ok (.iload_n 1, 1) := by decide +kernel
theorem dX9_findWorth_28 : decode cX9_findWorth 28 = .ok (.aload_n 0, 1) := by decide +kernel
theorem dX9_findWorth_29 : decode cX9_findWorth 29 = .ok (.getfield 10, 3) := by decide +kernel
theorem dX9_findWorth_32 : decode cX9_findWorth 32 = .ok (.getfield 95, 3) := by decide +kernel
theorem dX9_findWorth_35 : decode cX9_findWorth 35 = .ok (.iload_n 2, 1) := by decide +kernel
theorem dX9_findWorth_36 : decode cX9_findWorth 36 = .ok (.iaload, 1) := by decide +kernel
theorem dX9_findWorth_37 : decode cX9_findWorth 37 = .ok (.iconst 1, 1) := by decide +kernel
theorem dX9_findWorth_38 : decode cX9_findWorth 38 = .ok (.isub, 1) := by decide +kernel
theorem dX9_findWorth_39 : decode cX9_findWorth 39 = .ok (.invokestatic 223, 3) := by decide +kernel
theorem dX9_findWorth_42 : decode cX9_findWorth 42 = .ok (.iastore, 1) := by decide +kernel
theorem dX9_findWorth_43 : decode cX9_findWorth 43 = .ok (.iinc 2 1, 3) := by decide +kernel
theorem dX9_findWorth_46 : decode cX9_findWorth 46 = .ok (.goto (-35), 3) := by decide +kernel
theorem dX9_findWorth_49 : decode cX9_findWorth 49 = .ok (.aload_n 0, 1) := by decide +kernel
theorem dX9_findWorth_50 : decode cX9_findWorth 50 = .ok (.getfield 19, 3) := by decide +kernel
theorem dX9_findWorth_53 : decode cX9_findWorth 53 = .ok (.aload_n 0, 1) := by decide +kernel
theorem dX9_findWorth_54 : decode cX9_findWorth 54 = .ok (.getfield 10, 3) := by decide +kernel
theorem dX9_findWorth_57 : decode cX9_findWorth 57 = .ok (.aload_n 0, 1) := by decide +kernel
theorem dX9_findWorth_58 : decode cX9_findWorth 58 = .ok (.getfield 58, 3) := by decide +kernel
theorem dX9_findWorth_61 : decode cX9_findWorth 61 = .ok (.aload_n 0, 1) := by decide +kernel
theorem dX9_findWorth_62 : decode cX9_findWorth 62 = .ok (.getfield 50, 3) := by decide +kernel
theorem dX9_findWorth_65 : decode cX9_findWorth 65 = .ok (.iload_n 1, 1) := by decide +kernel
theorem dX9_findWorth_66 : decode cX9_findWorth 66 = .ok (.aaload, 1) := by decide +kernel
theorem dX9_findWorth_67 : decode cX9_findWorth 67 = .ok (.invokevirtual 136, 3) := by decide +kernel
theorem dX9_findWorth_70 : decode cX9_findWorth 70 = .ok (.aload_n 0, 1) := by decide +kernel
theorem dX9_findWorth_71 : decode cX9_findWorth 71 = .ok (.getfield 54, 3) := by decide +kernel
theorem dX9_findWorth_74 : decode cX9_findWorth 74 = .ok (.iload_n 1, 1) := by decide +kernel
theorem dX9_findWorth_75 : decode cX9_findWorth 75 = .ok (.iconst 1, 1) := by decide +kernel
theorem dX9_findWorth_76 : decode cX9_findWorth 76 = .ok (.bastore, 1) := by decide +kernel
theorem dX9_findWorth_77 : decode cX9_findWorth 77 = .ok (.aload_n 0, 1) := by decide +kernel
theorem dX9_findWorth_78 : decode cX9_findWorth 78 = .ok (.getfield 50, 3) := by decide +kernel
theorem dX9_findWorth_81 : decode cX9_findWorth 81 = .ok (.iload_n 1, 1) := by decide +kernel
theorem dX9_findWorth_82 : decode cX9_findWorth 82 = .ok (.aaload, 1) := by decide +kernel
theorem dX9_findWorth_83 : decode cX9_findWorth 83 = .ok (.areturn, 1) := by decide +kernel
set_option maxRecDepth 20000 in
theorem ggX9_findBound_X8_clear : GoodIn wsX9_findBound wsX8_clear := goodIn_r _ [18, 19, 20, 21, 22, 23, 24, 25, 105, 106, 107] rfl rfl
set_option maxRecDepth 20000 in
theorem gX9_findBound_X8_clear : GoodIn wsX9_findBound (wsV RX9 229 RX8 yX8_clear wsX8_clear) := goodIn_app (goodIn_of _ (by decide +kernel)) ggX9_findBound_X8_clear
set_option maxRecDepth 20000 in
theorem ggX9_findBound_X8_copy : GoodIn wsX9_findBound wsX8_copy := goodIn_r _ [29, 20, 19, 30, 31, 32, 33, 34, 35, 36, 37, 21, 38, 15, 16, 17, 18, 22, 23, 24, 25, 105, 106, 107] rfl rfl
set_option maxRecDepth 20000 in
theorem gX9_findBound_X8_copy : GoodIn wsX9_findBound (wsV RX9 167 RX8 yX8_copy wsX8_copy) := goodIn_app (goodIn_of _ (by decide +kernel)) ggX9_findBound_X8_copy
set_option maxRecDepth 20000 in
theorem ggX9_findBound_X8_dropSign : GoodIn wsX9_findBound wsX8_dropSign := goodIn_r _ [42, 21, 20, 19, 105, 106, 107] rfl rfl
set_option maxRecDepth 20000 in
theorem gX9_findBound_X8_dropSign : GoodIn wsX9_findBound (wsV RX9 235 RX8 yX8_dropSign wsX8_dropSign) := goodIn_app (goodIn_of _ (by decide +kernel)) ggX9_findBound_X8_dropSign
set_option maxRecDepth 20000 in
theorem ggX9_findBound_X8_compare : GoodIn wsX9_findBound wsX8_compare := goodIn_r _ [46, 20, 47, 48, 32, 49, 50, 51, 52, 17, 53, 19, 105, 106, 107] rfl rfl
set_option maxRecDepth 20000 in
theorem gX9_findBound_X8_compare : GoodIn wsX9_findBound (wsV RX9 238 RX8 yX8_compare wsX8_compare) := goodIn_app (goodIn_of _ (by decide +kernel)) ggX9_findBound_X8_compare
set_option maxRecDepth 20000 in
theorem ggX9_findBound_X8_multiply : GoodIn wsX9_findBound wsX8_multiply := goodIn_r _ [57, 20, 19, 58, 59, 60, 17, 61, 62, 63, 64, 65, 66, 67, 68, 69, 70, 71, 72, 73, 74, 75, 21, 105, 106, 107] rfl rfl
set_option maxRecDepth 20000 in
theorem gX9_findBound_X8_multiply : GoodIn wsX9_findBound (wsV RX9 177 RX8 yX8_multiply wsX8_multiply) := goodIn_app (goodIn_of _ (by decide +kernel)) ggX9_findBound_X8_multiply
theorem dX9_findBound_0 : decode cX9_findBound 0 = .ok (.aload_n 0, 1) := by decide +kernel
theorem dX9_findBound_1 : decode cX9_findBound 1 = .ok (.getfield 33, 3) := by decide +kernel
theorem dX9_findBound_4 : decode cX9_findBound 4 = .ok (.getfield 189, 3) := by decide +kernel
theorem dX9_findBound_7 : decode cX9_findBound 7 = .ok (.iconst 1, 1) := by decide +kernel
theorem dX9_findBound_8 : decode cX9_findBound 8 = .ok (.aaload, 1) := by decide +kernel
theorem dX9_findBound_9 : decode cX9_findBound 9 = .ok (.astore_n 2, 1) := by decide +kernel
theorem dX9_findBound_10 : decode cX9_findBound 10 = .ok (.aload_n 0, 1) := by decide +kernel
theorem dX9_findBound_11 : decode cX9_findBound 11 = .ok (.getfield 71, 3) := by decide +kernel
theorem dX9_findBound_14 : decode cX9_findBound 14 = .ok (.invokevirtual 229, 3) := by decide +kernel
theorem dX9_findBound_17 : decode cX9_findBound 17 = .ok (.iconst 0, 1) := by decide +kernel
theorem dX9_findBound_18 : decode cX9_findBound 18 = .ok (.istore_n 3, 1) := by decide +kernel
theorem dX9_findBound_19 : decode cX9_findBound 19 = .ok (.iload_n 3, 1) := by decide +kernel
theorem dX9_findBound_20 : decode cX9_findBound 20 = .ok (.aload_n 0, 1) := by decide +kernel
theorem dX9_findBound_21 : decode cX9_findBound 21 = .ok (.getfield 10, 3) := by decide +kernel
theorem dX9_findBound_24 : decode cX9_findBound 24 = .ok (.getfield 85, 3) := by decide +kernel
theorem dX9_findBound_27 : decode cX9_findBound 27 = .ok (.if_icmp .ge 54, 3) := by decide +kernel
theorem dX9_findBound_30 : decode cX9_findBound 30 = .ok (.aload_n 0, 1) := by decide +kernel
theorem dX9_findBound_31 : decode cX9_findBound 31 = .ok (.getfield 75, 3) := by decide +kernel
theorem dX9_findBound_34 : decode cX9_findBound 34 = .ok (.aload_n 2, 1) := by decide +kernel
theorem dX9_findBound_35 : decode cX9_findBound 35 = .ok (.getfield 232, 3) := by decide +kernel
theorem dX9_findBound_38 : decode cX9_findBound 38 = .ok (.iload_n 3, 1) := by decide +kernel
theorem dX9_findBound_39 : decode cX9_findBound 39 = .ok (.aaload, 1) := by decide +kernel
theorem dX9_findBound_40 : decode cX9_findBound 40 = .ok (.invokevirtual 167, 3) := by decide +kernel
theorem dX9_findBound_43 : decode cX9_findBound 43 = .ok (.aload_n 0, 1) := by decide +kernel
theorem dX9_findBound_44 : decode cX9_findBound 44 = .ok (.getfield 75, 3) := by decide +kernel
theorem dX9_findBound_47 : decode cX9_findBound 47 = .ok (.invokevirtual 235, 3) := by decide +kernel
theorem dX9_findBound_50 : decode cX9_findBound 50 = .ok (.aload_n 0, 1) := by decide +kernel
theorem dX9_findBound_51 : decode cX9_findBound 51 = .ok (.getfield 71, 3) := by decide +kernel
theorem dX9_findBound_54 : decode cX9_findBound 54 = .ok (.aload_n 0, 1) := by decide +kernel
theorem dX9_findBound_55 : decode cX9_findBound 55 = .ok (.getfield 75, 3) := by decide +kernel
theorem dX9_findBound_58 : decode cX9_findBound 58 = .ok (.invokevirtual 238, 3) := by decide +kernel
theorem dX9_findBound_61 : decode cX9_findBound 61 = .ok (.ifCond .ge 14, 3) := by decide +kernel
theorem dX9_findBound_64 : decode cX9_findBound 64 = .ok (.aload_n 0, 1) := by decide +kernel
theorem dX9_findBound_65 : decode cX9_findBound 65 = .ok (.getfield 71, 3) := by decide +kernel
theorem dX9_findBound_68 : decode cX9_findBound 68 = .ok (.aload_n 0, 1) := by decide +kernel
theorem dX9_findBound_69 : decode cX9_findBound 69 = .ok (.getfield 75, 3) := by decide +kernel
theorem dX9_findBound_72 : decode cX9_findBound 72 = .ok (.invokevirtual 167, 3) := by decide +kernel
theorem dX9_findBound_75 : decode cX9_findBound 75 = .ok (.iinc 3 1, 3) := by decide +kernel
theorem dX9_findBound_78 : decode cX9_findBound 78 = .ok (.goto (-59), 3) := by decide +kernel
theorem dX9_findBound_81 : decode cX9_findBound 81 = .ok (.aload_n 0, 1) := by decide +kernel
theorem dX9_findBound_82 : decode cX9_findBound 82 = .ok (.getfield 64, 3) := by decide +kernel
theorem dX9_findBound_85 : decode cX9_findBound 85 = .ok (.getfield 164, 3) := by decide +kernel
theorem dX9_findBound_88 : decode cX9_findBound 88 = .ok (.aload_n 0, 1) := by decide +kernel
theorem dX9_findBound_89 : decode cX9_findBound 89 = .ok (.getfield 71, 3) := by decide +kernel
theorem dX9_findBound_92 : decode cX9_findBound 92 = .ok (.invokevirtual 167, 3) := by decide +kernel
theorem dX9_findBound_95 : decode cX9_findBound 95 = .ok (.aload_n 0, 1) := by decide +kernel
theorem dX9_findBound_96 : decode cX9_findBound 96 = .ok (.getfield 64, 3) := by decide +kernel
theorem dX9_findBound_99 : decode cX9_findBound 99 = .ok (.getfield 164, 3) := by decide +kernel
theorem dX9_findBound_102 : decode cX9_findBound 102 = .ok (.aload_n 0, 1) := by decide +kernel
theorem dX9_findBound_103 : decode cX9_findBound 103 = .ok (.getfield 10, 3) := by decide +kernel
theorem dX9_findBound_106 : decode cX9_findBound 106 = .ok (.getfield 123, 3) := by decide +kernel
theorem dX9_findBound_109 : decode cX9_findBound 109 = .ok (.i2l, 1) := by decide +kernel
theorem dX9_findBound_110 : decode cX9_findBound 110 = .ok (.invokevirtual 177, 3) := by decide +kernel
theorem dX9_findBound_113 : decode cX9_findBound 113 = .ok (.aload_n 0, 1) := by decide +kernel
theorem dX9_findBound_114 : decode cX9_findBound 114 = .ok (.getfield 64, 3) := by decide +kernel
theorem dX9_findBound_117 : decode cX9_findBound 117 = .ok (.getfield 171, 3) := by decide +kernel
theorem dX9_findBound_120 : decode cX9_findBound 120 = .ok (.aload_n 2, 1) := by decide +kernel
theorem dX9_findBound_121 : decode cX9_findBound 121 = .ok (.getfield 173, 3) := by decide +kernel
theorem dX9_findBound_124 : decode cX9_findBound 124 = .ok (.invokevirtual 167, 3) := by decide +kernel
theorem dX9_findBound_127 : decode cX9_findBound 127 = .ok (.aload_n 0, 1) := by decide +kernel
theorem dX9_findBound_128 : decode cX9_findBound 128 = .ok (.getfield 64, 3) := by decide +kernel
theorem dX9_findBound_131 : decode cX9_findBound 131 = .ok (.getfield 171, 3) := by decide +kernel
theorem dX9_findBound_134 : decode cX9_findBound 134 = .ok (.aload_n 0, 1) := by decide +kernel
theorem dX9_findBound_135 : decode cX9_findBound 135 = .ok (.getfield 10, 3) := by decide +kernel
theorem dX9_findBound_138 : decode cX9_findBound 138 = .ok (.getfield 123, 3) := by decide +kernel
theorem dX9_findBound_141 : decode cX9_findBound 141 = .ok (.aload_n 0, 1) := by decide +kernel
theorem dX9_findBound_142 : decode cX9_findBound 142 = .ok (.getfield 10, 3) := by decide +kernel
theorem dX9_findBound_145 : decode cX9_findBound 145 = .ok (.getfield 120, 3) := by decide +kernel
theorem dX9_findBound_148 : decode cX9_findBound 148 = .ok (.isub, 1) := by decide +kernel
theorem dX9_findBound_149 : decode cX9_findBound 149 = .ok (.i2l, 1) := by decide +kernel
theorem dX9_findBound_150 : decode cX9_findBound 150 = .ok (.invokevirtual 177, 3) := by decide +kernel
theorem dX9_findBound_153 : decode cX9_findBound 153 = .ok (.iconst 0, 1) := by decide +kernel
theorem dX9_findBound_154 : decode cX9_findBound 154 = .ok (.istore_n 3, 1) := by decide +kernel
theorem dX9_findBound_155 : decode cX9_findBound 155 = .ok (.iload_n 3, 1) := by decide +kernel
theorem dX9_findBound_156 : decode cX9_findBound 156 = .ok (.iload_n 1, 1) := by decide +kernel
theorem dX9_findBound_157 : decode cX9_findBound 157 = .ok (.if_icmp .ge 45, 3) := by decide +kernel
theorem dX9_findBound_160 : decode cX9_findBound 160 = .ok (.aload_n 0, 1) := by decide +kernel
theorem dX9_findBound_161 : decode cX9_findBound 161 = .ok (.getfield 64, 3) := by decide +kernel
theorem dX9_findBound_164 : decode cX9_findBound 164 = .ok (.getfield 164, 3) := by decide +kernel
theorem dX9_findBound_167 : decode cX9_findBound 167 = .ok (.aload_n 0, 1) := by decide +kernel
theorem dX9_findBound_168 : decode cX9_findBound 168 = .ok (.getfield 10, 3) := by decide +kernel
theorem dX9_findBound_171 : decode cX9_findBound 171 = .ok (.getfield 120, 3) := by decide +kernel
theorem dX9_findBound_174 : decode cX9_findBound 174 = .ok (.i2l, 1) := by decide +kernel
theorem dX9_findBound_175 : decode cX9_findBound 175 = .ok (.invokevirtual 177, 3) := by decide +kernel
theorem dX9_findBound_178 : decode cX9_findBound 178 = .ok (.aload_n 0, 1) := by decide +kernel
theorem dX9_findBound_179 : decode cX9_findBound 179 = .ok (.getfield 64, 3) := by decide +kernel
theorem dX9_findBound_182 : decode cX9_findBound 182 = .ok (.getfield 171, 3) := by decide +kernel
theorem dX9_findBound_185 : decode cX9_findBound 185 = .ok (.aload_n 0, 1) := by decide +kernel
theorem dX9_findBound_186 : decode cX9_findBound 186 = .ok (.getfield 10, 3) := by decide +kernel
theorem dX9_findBound_189 : decode cX9_findBound 189 = .ok (.getfield 123, 3) := by decide +kernel
theorem dX9_findBound_192 : decode cX9_findBound 192 = .ok (.i2l, 1) := by decide +kernel
theorem dX9_findBound_193 : decode cX9_findBound 193 = .ok (.invokevirtual 177, 3) := by decide +kernel
theorem dX9_findBound_196 : decode cX9_findBound 196 = .ok (.iinc 3 1, 3) := by decide +kernel
theorem dX9_findBound_199 : decode cX9_findBound 199 = .ok (.goto (-44), 3) := by decide +kernel
theorem dX9_findBound_202 : decode cX9_findBound 202 = .ok (.return_, 1) := by decide +kernel
set_option maxRecDepth 20000 in
theorem ggX9_hold_X8_copy : GoodIn wsX9_hold wsX8_copy := goodIn_r _ [10, 11, 12, 13, 14, 15, 16, 17, 18, 19, 20, 21, 22, 23, 24, 9, 25, 26, 27, 28, 29, 51, 52, 53] rfl rfl
set_option maxRecDepth 20000 in
theorem gX9_hold_X8_copy : GoodIn wsX9_hold (wsV RX9 167 RX8 yX8_copy wsX8_copy) := goodIn_app (goodIn_of _ (by decide +kernel)) ggX9_hold_X8_copy
theorem dX9_hold_0 : decode cX9_hold 0 = .ok (.aload_n 0, 1) := by decide +kernel
theorem dX9_hold_1 : decode cX9_hold 1 = .ok (.getfield 64, 3) := by decide +kernel
theorem dX9_hold_4 : decode cX9_hold 4 = .ok (.getfield 164, 3) := by decide +kernel
theorem dX9_hold_7 : decode cX9_hold 7 = .ok (.aload_n 1, 1) := by decide +kernel
theorem dX9_hold_8 : decode cX9_hold 8 = .ok (.getfield 232, 3) := by decide +kernel
theorem dX9_hold_11 : decode cX9_hold 11 = .ok (.iload_n 2, 1) := by decide +kernel
theorem dX9_hold_12 : decode cX9_hold 12 = .ok (.aaload, 1) := by decide +kernel
theorem dX9_hold_13 : decode cX9_hold 13 = .ok (.invokevirtual 167, 3) := by decide +kernel
theorem dX9_hold_16 : decode cX9_hold 16 = .ok (.aload_n 0, 1) := by decide +kernel
theorem dX9_hold_17 : decode cX9_hold 17 = .ok (.getfield 64, 3) := by decide +kernel
theorem dX9_hold_20 : decode cX9_hold 20 = .ok (.getfield 171, 3) := by decide +kernel
theorem dX9_hold_23 : decode cX9_hold 23 = .ok (.aload_n 1, 1) := by decide +kernel
theorem dX9_hold_24 : decode cX9_hold 24 = .ok (.getfield 173, 3) := by decide +kernel
theorem dX9_hold_27 : decode cX9_hold 27 = .ok (.invokevirtual 167, 3) := by decide +kernel
theorem dX9_hold_30 : decode cX9_hold 30 = .ok (.return_, 1) := by decide +kernel
set_option maxRecDepth 20000 in
theorem ggX9_valuesAreGreatestGains_X6_find : GoodIn wsX9_valuesAreGreatestGains wsX6_find := goodIn_r _ [16, 17, 114, 115, 116, 117, 118] rfl rfl
set_option maxRecDepth 20000 in
theorem gX9_valuesAreGreatestGains_X6_find : GoodIn wsX9_valuesAreGreatestGains (wsV RX9 102 RX6 yX6_find wsX6_find) := goodIn_app (goodIn_of _ (by decide +kernel)) ggX9_valuesAreGreatestGains_X6_find
set_option maxRecDepth 20000 in
theorem ggX9_valuesAreGreatestGains_X4_weigh : GoodIn wsX9_valuesAreGreatestGains wsX4_weigh := goodIn_r _ [22, 23, 24, 25, 26, 27, 28, 29, 30, 31, 32, 33, 34, 35, 36, 37, 38, 39, 40, 41, 42, 43, 44, 45, 46, 47, 48, 49, 50, 51, 52, 53, 54, 55, 56, 57, 58, 59, 60, 61, 62, 63, 64, 65, 66, 67, 68, 69, 70, 71, 123, 124, 125, 126, 114, 115, 116, 117, 118, 121, 122, 119, 120, 127, 128, 129] rfl rfl
set_option maxRecDepth 20000 in
theorem gX9_valuesAreGreatestGains_X4_weigh : GoodIn wsX9_valuesAreGreatestGains (wsV RX9 158 RX4 yX4_weigh wsX4_weigh) := goodIn_app (goodIn_of _ (by decide +kernel)) ggX9_valuesAreGreatestGains_X4_weigh
set_option maxRecDepth 20000 in
theorem ggX9_valuesAreGreatestGains_X8_copy : GoodIn wsX9_valuesAreGreatestGains wsX8_copy := goodIn_r _ [75, 40, 39, 50, 51, 52, 53, 76, 77, 78, 79, 41, 80, 35, 36, 37, 38, 42, 43, 44, 45, 127, 128, 129] rfl rfl
set_option maxRecDepth 20000 in
theorem gX9_valuesAreGreatestGains_X8_copy : GoodIn wsX9_valuesAreGreatestGains (wsV RX9 167 RX8 yX8_copy wsX8_copy) := goodIn_app (goodIn_of _ (by decide +kernel)) ggX9_valuesAreGreatestGains_X8_copy
set_option maxRecDepth 20000 in
theorem ggX9_valuesAreGreatestGains_X8_multiply : GoodIn wsX9_valuesAreGreatestGains wsX8_multiply := goodIn_r _ [84, 40, 39, 85, 55, 56, 37, 57, 58, 59, 60, 61, 62, 63, 64, 65, 66, 67, 68, 69, 70, 71, 41, 127, 128, 129] rfl rfl
set_option maxRecDepth 20000 in
theorem gX9_valuesAreGreatestGains_X8_multiply : GoodIn wsX9_valuesAreGreatestGains (wsV RX9 177 RX8 yX8_multiply wsX8_multiply) := goodIn_app (goodIn_of _ (by decide +kernel)) ggX9_valuesAreGreatestGains_X8_multiply
set_option maxRecDepth 20000 in
theorem ggX9_valuesAreGreatestGains_X8_compare : GoodIn wsX9_valuesAreGreatestGains wsX8_compare := goodIn_r _ [89, 40, 90, 91, 52, 92, 93, 94, 95, 37, 96, 39, 127, 128, 129] rfl rfl
set_option maxRecDepth 20000 in
theorem gX9_valuesAreGreatestGains_X8_compare : GoodIn wsX9_valuesAreGreatestGains (wsV RX9 238 RX8 yX8_compare wsX8_compare) := goodIn_app (goodIn_of _ (by decide +kernel)) ggX9_valuesAreGreatestGains_X8_compare
theorem dX9_valuesAreGreatestGains_0 : decode cX9_valuesAreGreatestGains 0 = .ok (.aload_n 0, 1) := by decide +kernel
theorem dX9_valuesAreGreatestGains_1 : decode cX9_valuesAreGreatestGains 1 = .ok (.getfield 26, 3) := by decide +kernel
theorem dX9_valuesAreGreatestGains_4 : decode cX9_valuesAreGreatestGains 4 = .ok (.getfield 154, 3) := by decide +kernel
theorem dX9_valuesAreGreatestGains_7 : decode cX9_valuesAreGreatestGains 7 = .ok (.astore_n 1, 1) := by decide +kernel
theorem dX9_valuesAreGreatestGains_8 : decode cX9_valuesAreGreatestGains 8 = .ok (.iconst 0, 1) := by decide +kernel
theorem dX9_valuesAreGreatestGains_9 : decode cX9_valuesAreGreatestGains 9 = .ok (.istore_n 2, 1) := by decide +kernel
theorem dX9_valuesAreGreatestGains_10 : decode cX9_valuesAreGreatestGains 10 = .ok (.iload_n 2, 1) := by decide +kernel
theorem dX9_valuesAreGreatestGains_11 : decode cX9_valuesAreGreatestGains 11 = .ok (.aload_n 0, 1) := by decide +kernel
theorem dX9_valuesAreGreatestGains_12 : decode cX9_valuesAreGreatestGains 12 = .ok (.getfield 10, 3) := by decide +kernel
theorem dX9_valuesAreGreatestGains_15 : decode cX9_valuesAreGreatestGains 15 = .ok (.getfield 85, 3) := by decide +kernel
theorem dX9_valuesAreGreatestGains_18 : decode cX9_valuesAreGreatestGains 18 = .ok (.if_icmp .ge 114, 3) := by decide +kernel
theorem dX9_valuesAreGreatestGains_21 : decode cX9_valuesAreGreatestGains 21 = .ok (.iconst 0, 1) := by decide +kernel
theorem dX9_valuesAreGreatestGains_22 : decode cX9_valuesAreGreatestGains 22 = .ok (.istore_n 3, 1) := by decide +kernel
theorem dX9_valuesAreGreatestGains_23 : decode cX9_valuesAreGreatestGains 23 = .ok (.iload_n 3, 1) := by decide +kernel
theorem dX9_valuesAreGreatestGains_24 : decode cX9_valuesAreGreatestGains 24 = .ok (.aload_n 0, 1) := by decide +kernel
theorem dX9_valuesAreGreatestGains_25 : decode cX9_valuesAreGreatestGains 25 = .ok (.getfield 10, 3) := by decide +kernel
theorem dX9_valuesAreGreatestGains_28 : decode cX9_valuesAreGreatestGains 28 = .ok (.getfield 95, 3) := by decide +kernel
theorem dX9_valuesAreGreatestGains_31 : decode cX9_valuesAreGreatestGains 31 = .ok (.iload_n 2, 1) := by decide +kernel
theorem dX9_valuesAreGreatestGains_32 : decode cX9_valuesAreGreatestGains 32 = .ok (.iaload, 1) := by decide +kernel
theorem dX9_valuesAreGreatestGains_33 : decode cX9_valuesAreGreatestGains 33 = .ok (.if_icmp .ge 93, 3) := by decide +kernel
theorem dX9_valuesAreGreatestGains_36 : decode cX9_valuesAreGreatestGains 36 = .ok (.aload_n 1, 1) := by decide +kernel
theorem dX9_valuesAreGreatestGains_37 : decode cX9_valuesAreGreatestGains 37 = .ok (.aload_n 0, 1) := by decide +kernel
theorem dX9_valuesAreGreatestGains_38 : decode cX9_valuesAreGreatestGains 38 = .ok (.getfield 10, 3) := by decide +kernel
theorem dX9_valuesAreGreatestGains_41 : decode cX9_valuesAreGreatestGains 41 = .ok (.aload_n 0, 1) := by decide +kernel
theorem dX9_valuesAreGreatestGains_42 : decode cX9_valuesAreGreatestGains 42 = .ok (.getfield 10, 3) := by decide +kernel
theorem dX9_valuesAreGreatestGains_45 : decode cX9_valuesAreGreatestGains 45 = .ok (.iload_n 2, 1) := by decide +kernel
theorem dX9_valuesAreGreatestGains_46 : decode cX9_valuesAreGreatestGains 46 = .ok (.iload_n 3, 1) := by decide +kernel
theorem dX9_valuesAreGreatestGains_47 : decode cX9_valuesAreGreatestGains 47 = .ok (.invokevirtual 102, 3) := by decide +kernel
theorem dX9_valuesAreGreatestGains_50 : decode cX9_valuesAreGreatestGains 50 = .ok (.aload_n 0, 1) := by decide +kernel
theorem dX9_valuesAreGreatestGains_51 : decode cX9_valuesAreGreatestGains 51 = .ok (.getfield 42, 3) := by decide +kernel
theorem dX9_valuesAreGreatestGains_54 : decode cX9_valuesAreGreatestGains 54 = .ok (.invokevirtual 158, 3) := by decide +kernel
theorem dX9_valuesAreGreatestGains_57 : decode cX9_valuesAreGreatestGains 57 = .ok (.aload_n 0, 1) := by decide +kernel
theorem dX9_valuesAreGreatestGains_58 : decode cX9_valuesAreGreatestGains 58 = .ok (.getfield 71, 3) := by decide +kernel
theorem dX9_valuesAreGreatestGains_61 : decode cX9_valuesAreGreatestGains 61 = .ok (.aload_n 0, 1) := by decide +kernel
theorem dX9_valuesAreGreatestGains_62 : decode cX9_valuesAreGreatestGains 62 = .ok (.getfield 42, 3) := by decide +kernel
theorem dX9_valuesAreGreatestGains_65 : decode cX9_valuesAreGreatestGains 65 = .ok (.getfield 232, 3) := by decide +kernel
theorem dX9_valuesAreGreatestGains_68 : decode cX9_valuesAreGreatestGains 68 = .ok (.iload_n 2, 1) := by decide +kernel
theorem dX9_valuesAreGreatestGains_69 : decode cX9_valuesAreGreatestGains 69 = .ok (.aaload, 1) := by decide +kernel
theorem dX9_valuesAreGreatestGains_70 : decode cX9_valuesAreGreatestGains 70 = .ok (.invokevirtual 167, 3) := by decide +kernel
theorem dX9_valuesAreGreatestGains_73 : decode cX9_valuesAreGreatestGains 73 = .ok (.aload_n 0, 1) := by decide +kernel
theorem dX9_valuesAreGreatestGains_74 : decode cX9_valuesAreGreatestGains 74 = .ok (.getfield 71, 3) := by decide +kernel
theorem dX9_valuesAreGreatestGains_77 : decode cX9_valuesAreGreatestGains 77 = .ok (.aload_n 1, 1) := by decide +kernel
theorem dX9_valuesAreGreatestGains_78 : decode cX9_valuesAreGreatestGains 78 = .ok (.getfield 174, 3) := by decide +kernel
theorem dX9_valuesAreGreatestGains_81 : decode cX9_valuesAreGreatestGains 81 = .ok (.i2l, 1) := by decide +kernel
theorem dX9_valuesAreGreatestGains_82 : decode cX9_valuesAreGreatestGains 82 = .ok (.invokevirtual 177, 3) := by decide +kernel
theorem dX9_valuesAreGreatestGains_85 : decode cX9_valuesAreGreatestGains 85 = .ok (.aload_n 0, 1) := by decide +kernel
theorem dX9_valuesAreGreatestGains_86 : decode cX9_valuesAreGreatestGains 86 = .ok (.getfield 71, 3) := by decide +kernel
theorem dX9_valuesAreGreatestGains_89 : decode cX9_valuesAreGreatestGains 89 = .ok (.aload_n 1, 1) := by decide +kernel
theorem dX9_valuesAreGreatestGains_90 : decode cX9_valuesAreGreatestGains 90 = .ok (.getfield 166, 3) := by decide +kernel
theorem dX9_valuesAreGreatestGains_93 : decode cX9_valuesAreGreatestGains 93 = .ok (.invokevirtual 238, 3) := by decide +kernel
theorem dX9_valuesAreGreatestGains_96 : decode cX9_valuesAreGreatestGains 96 = .ok (.istore 4, 2) := by decide +kernel
theorem dX9_valuesAreGreatestGains_98 : decode cX9_valuesAreGreatestGains 98 = .ok (.iload 4, 2) := by decide +kernel
theorem dX9_valuesAreGreatestGains_100 : decode cX9_valuesAreGreatestGains 100 = .ok (.ifCond .lt 18, 3) := by decide +kernel
theorem dX9_valuesAreGreatestGains_103 : decode cX9_valuesAreGreatestGains 103 = .ok (.iload 4, 2) := by decide +kernel
theorem dX9_valuesAreGreatestGains_105 : decode cX9_valuesAreGreatestGains 105 = .ok (.ifCond .eq 15, 3) := by decide +kernel
theorem dX9_valuesAreGreatestGains_108 : decode cX9_valuesAreGreatestGains 108 = .ok (.iload_n 3, 1) := by decide +kernel
theorem dX9_valuesAreGreatestGains_109 : decode cX9_valuesAreGreatestGains 109 = .ok (.aload_n 0, 1) := by decide +kernel
theorem dX9_valuesAreGreatestGains_110 : decode cX9_valuesAreGreatestGains 110 = .ok (.getfield 46, 3) := by decide +kernel
theorem dX9_valuesAreGreatestGains_113 : decode cX9_valuesAreGreatestGains 113 = .ok (.iload_n 2, 1) := by decide +kernel
theorem dX9_valuesAreGreatestGains_114 : decode cX9_valuesAreGreatestGains 114 = .ok (.iaload, 1) := by decide +kernel
theorem dX9_valuesAreGreatestGains_115 : decode cX9_valuesAreGreatestGains 115 = .ok (.if_icmp .ne 5, 3) := by decide +kernel
theorem dX9_valuesAreGreatestGains_118 : decode cX9_valuesAreGreatestGains 118 = .ok (.iconst 0, 1) := by decide +kernel
theorem dX9_valuesAreGreatestGains_119 : decode cX9_valuesAreGreatestGains 119 = .ok (.ireturn, 1) := by decide +kernel
theorem dX9_valuesAreGreatestGains_120 : decode cX9_valuesAreGreatestGains 120 = .ok (.iinc 3 1, 3) := by decide +kernel
theorem dX9_valuesAreGreatestGains_123 : decode cX9_valuesAreGreatestGains 123 = .ok (.goto (-100), 3) := by decide +kernel
theorem dX9_valuesAreGreatestGains_126 : decode cX9_valuesAreGreatestGains 126 = .ok (.iinc 2 1, 3) := by decide +kernel
theorem dX9_valuesAreGreatestGains_129 : decode cX9_valuesAreGreatestGains 129 = .ok (.goto (-119), 3) := by decide +kernel
theorem dX9_valuesAreGreatestGains_132 : decode cX9_valuesAreGreatestGains 132 = .ok (.iconst 1, 1) := by decide +kernel
theorem dX9_valuesAreGreatestGains_133 : decode cX9_valuesAreGreatestGains 133 = .ok (.ireturn, 1) := by decide +kernel
set_option maxRecDepth 20000 in
theorem ggX9_noWorthIsMore_X9_findWorth : GoodIn wsX9_noWorthIsMore wsX9_findWorth := goodIn_r _ [12, 13, 1, 2, 14, 15, 16, 17, 18, 19, 20, 21, 22, 23, 24, 25, 26, 27, 28, 29, 30, 31, 32, 33, 34, 35, 36, 37, 38, 39, 40, 41, 42, 43, 44, 45, 46, 47, 48, 49, 50, 51, 52, 53, 54, 55, 56, 57, 58, 59, 60, 61, 62, 63, 64, 65, 66, 67, 68, 69, 70, 71, 72, 73, 74, 75, 76, 77, 78, 79, 80, 81, 82, 83, 84, 85, 86, 87, 88, 89, 90, 91, 92, 93, 94, 95, 96, 97, 98, 99, 100, 101, 102, 103, 104, 105, 106, 107, 108, 109, 110, 111, 112, 128, 129, 130, 131, 132, 133, 134, 135, 136, 137, 138, 139, 140, 141, 142, 143, 144, 145, 146, 149, 150, 147, 148, 151, 152, 153, 154, 155, 156, 157] rfl rfl
set_option maxRecDepth 20000 in
theorem gX9_noWorthIsMore_X9_findWorth : GoodIn wsX9_noWorthIsMore (wsV RX9 181 RX9 yX9_findWorth wsX9_findWorth) := goodIn_app (goodIn_of _ (by decide +kernel)) ggX9_noWorthIsMore_X9_findWorth
set_option maxRecDepth 20000 in
theorem ggX9_noWorthIsMore_X8_product : GoodIn wsX9_noWorthIsMore wsX8_product := goodIn_r _ [116, 59, 54, 99, 17, 18, 19, 55, 56, 57, 52, 58, 60, 61, 62, 63, 64, 65, 66, 67, 68, 69, 70, 71, 72, 73, 74, 75, 76, 77, 78, 79, 80, 81, 82, 155, 156, 157] rfl rfl
set_option maxRecDepth 20000 in
theorem gX9_noWorthIsMore_X8_product : GoodIn wsX9_noWorthIsMore (wsV RX9 242 RX8 yX8_product wsX8_product) := goodIn_app (goodIn_of _ (by decide +kernel)) ggX9_noWorthIsMore_X8_product
set_option maxRecDepth 20000 in
theorem ggX9_noWorthIsMore_X8_compare : GoodIn wsX9_noWorthIsMore wsX8_compare := goodIn_r _ [120, 59, 121, 122, 18, 123, 124, 125, 126, 52, 127, 54, 155, 156, 157] rfl rfl
set_option maxRecDepth 20000 in
theorem gX9_noWorthIsMore_X8_compare : GoodIn wsX9_noWorthIsMore (wsV RX9 238 RX8 yX8_compare wsX8_compare) := goodIn_app (goodIn_of _ (by decide +kernel)) ggX9_noWorthIsMore_X8_compare
theorem dX9_noWorthIsMore_0 : decode cX9_noWorthIsMore 0 = .ok (.iconst 0, 1) := by decide +kernel
theorem dX9_noWorthIsMore_1 : decode cX9_noWorthIsMore 1 = .ok (.istore_n 1, 1) := by decide +kernel
theorem dX9_noWorthIsMore_2 : decode cX9_noWorthIsMore 2 = .ok (.iload_n 1, 1) := by decide +kernel
theorem dX9_noWorthIsMore_3 : decode cX9_noWorthIsMore 3 = .ok (.iconst 4, 1) := by decide +kernel
theorem dX9_noWorthIsMore_4 : decode cX9_noWorthIsMore 4 = .ok (.if_icmp .ge 90, 3) := by decide +kernel
theorem dX9_noWorthIsMore_7 : decode cX9_noWorthIsMore 7 = .ok (.aload_n 0, 1) := by decide +kernel
theorem dX9_noWorthIsMore_8 : decode cX9_noWorthIsMore 8 = .ok (.iload_n 1, 1) := by decide +kernel
theorem dX9_noWorthIsMore_9 : decode cX9_noWorthIsMore 9 = .ok (.invokevirtual 181, 3) := by decide +kernel
theorem dX9_noWorthIsMore_12 : decode cX9_noWorthIsMore 12 = .ok (.astore_n 2, 1) := by decide +kernel
theorem dX9_noWorthIsMore_13 : decode cX9_noWorthIsMore 13 = .ok (.iconst 0, 1) := by decide +kernel
theorem dX9_noWorthIsMore_14 : decode cX9_noWorthIsMore 14 = .ok (.istore_n 3, 1) := by decide +kernel
theorem dX9_noWorthIsMore_15 : decode cX9_noWorthIsMore 15 = .ok (.iload_n 3, 1) := by decide +kernel
theorem dX9_noWorthIsMore_16 : decode cX9_noWorthIsMore 16 = .ok (.aload_n 0, 1) := by decide +kernel
theorem dX9_noWorthIsMore_17 : decode cX9_noWorthIsMore 17 = .ok (.getfield 10, 3) := by decide +kernel
theorem dX9_noWorthIsMore_20 : decode cX9_noWorthIsMore 20 = .ok (.getfield 85, 3) := by decide +kernel
theorem dX9_noWorthIsMore_23 : decode cX9_noWorthIsMore 23 = .ok (.if_icmp .ge 65, 3) := by decide +kernel
theorem dX9_noWorthIsMore_26 : decode cX9_noWorthIsMore 26 = .ok (.aload_n 0, 1) := by decide +kernel
theorem dX9_noWorthIsMore_27 : decode cX9_noWorthIsMore 27 = .ok (.getfield 71, 3) := by decide +kernel
theorem dX9_noWorthIsMore_30 : decode cX9_noWorthIsMore 30 = .ok (.aload_n 0, 1) := by decide +kernel
theorem dX9_noWorthIsMore_31 : decode cX9_noWorthIsMore 31 = .ok (.getfield 42, 3) := by decide +kernel
theorem dX9_noWorthIsMore_34 : decode cX9_noWorthIsMore 34 = .ok (.getfield 232, 3) := by decide +kernel
theorem dX9_noWorthIsMore_37 : decode cX9_noWorthIsMore 37 = .ok (.iload_n 3, 1) := by decide +kernel
theorem dX9_noWorthIsMore_38 : decode cX9_noWorthIsMore 38 = .ok (.aaload, 1) := by decide +kernel
theorem dX9_noWorthIsMore_39 : decode cX9_noWorthIsMore 39 = .ok (.aload_n 2, 1) := by decide +kernel
theorem dX9_noWorthIsMore_40 : decode cX9_noWorthIsMore 40 = .ok (.getfield 173, 3) := by decide +kernel
theorem dX9_noWorthIsMore_43 : decode cX9_noWorthIsMore 43 = .ok (.invokevirtual 242, 3) := by decide +kernel
theorem dX9_noWorthIsMore_46 : decode cX9_noWorthIsMore 46 = .ok (.aload_n 0, 1) := by decide +kernel
theorem dX9_noWorthIsMore_47 : decode cX9_noWorthIsMore 47 = .ok (.getfield 75, 3) := by decide +kernel
theorem dX9_noWorthIsMore_50 : decode cX9_noWorthIsMore 50 = .ok (.aload_n 2, 1) := by decide +kernel
theorem dX9_noWorthIsMore_51 : decode cX9_noWorthIsMore 51 = .ok (.getfield 232, 3) := by decide +kernel
theorem dX9_noWorthIsMore_54 : decode cX9_noWorthIsMore 54 = .ok (.iload_n 3, 1) := by decide +kernel
theorem dX9_noWorthIsMore_55 : decode cX9_noWorthIsMore 55 = .ok (.aaload, 1) := by decide +kernel
theorem dX9_noWorthIsMore_56 : decode cX9_noWorthIsMore 56 = .ok (.aload_n 0, 1) := by decide +kernel
theorem dX9_noWorthIsMore_57 : decode cX9_noWorthIsMore 57 = .ok (.getfield 42, 3) := by decide +kernel
theorem dX9_noWorthIsMore_60 : decode cX9_noWorthIsMore 60 = .ok (.getfield 173, 3) := by decide +kernel
theorem dX9_noWorthIsMore_63 : decode cX9_noWorthIsMore 63 = .ok (.invokevirtual 242, 3) := by decide +kernel
theorem dX9_noWorthIsMore_66 : decode cX9_noWorthIsMore 66 = .ok (.aload_n 0, 1) := by decide +kernel
theorem dX9_noWorthIsMore_67 : decode cX9_noWorthIsMore 67 = .ok (.getfield 71, 3) := by decide +kernel
theorem dX9_noWorthIsMore_70 : decode cX9_noWorthIsMore 70 = .ok (.aload_n 0, 1) := by decide +kernel
theorem dX9_noWorthIsMore_71 : decode cX9_noWorthIsMore 71 = .ok (.getfield 75, 3) := by decide +kernel
theorem dX9_noWorthIsMore_74 : decode cX9_noWorthIsMore 74 = .ok (.invokevirtual 238, 3) := by decide +kernel
theorem dX9_noWorthIsMore_77 : decode cX9_noWorthIsMore 77 = .ok (.ifCond .ge 5, 3) := by decide +kernel
theorem dX9_noWorthIsMore_80 : decode cX9_noWorthIsMore 80 = .ok (.iconst 0, 1) := by decide +kernel
theorem dX9_noWorthIsMore_81 : decode cX9_noWorthIsMore 81 = .ok (.ireturn, 1) := by decide +kernel
theorem dX9_noWorthIsMore_82 : decode cX9_noWorthIsMore 82 = .ok (.iinc 3 1, 3) := by decide +kernel
theorem dX9_noWorthIsMore_85 : decode cX9_noWorthIsMore 85 = .ok (.goto (-70), 3) := by decide +kernel
theorem dX9_noWorthIsMore_88 : decode cX9_noWorthIsMore 88 = .ok (.iinc 1 1, 3) := by decide +kernel
theorem dX9_noWorthIsMore_91 : decode cX9_noWorthIsMore 91 = .ok (.goto (-89), 3) := by decide +kernel
theorem dX9_noWorthIsMore_94 : decode cX9_noWorthIsMore 94 = .ok (.iconst 1, 1) := by decide +kernel
theorem dX9_noWorthIsMore_95 : decode cX9_noWorthIsMore 95 = .ok (.ireturn, 1) := by decide +kernel
set_option maxRecDepth 20000 in
theorem ggX9_stepsKeepBounds_X9_findBound : GoodIn wsX9_stepsKeepBounds wsX9_findBound := goodIn_r _ [9, 3, 4, 10, 1, 2, 11, 12, 13, 14, 15, 16, 17, 18, 19, 20, 21, 22, 23, 24, 25, 26, 27, 28, 29, 30, 31, 32, 33, 34, 35, 36, 37, 38, 39, 40, 41, 42, 43, 44, 45, 46, 47, 48, 49, 50, 51, 52, 53, 54, 55, 56, 57, 58, 59, 60, 61, 62, 63, 64, 65, 66, 67, 68, 69, 70, 71, 72, 73, 74, 75, 76, 77, 78, 79, 80, 97, 98, 99, 100, 101, 102, 103, 104, 105, 106, 107, 108, 109, 110, 116, 117, 118, 111, 112, 113, 114, 115, 119, 120, 121, 122, 123, 124, 125, 126, 127, 128] rfl rfl
set_option maxRecDepth 20000 in
theorem gX9_stepsKeepBounds_X9_findBound : GoodIn wsX9_stepsKeepBounds (wsV RX9 196 RX9 yX9_findBound wsX9_findBound) := goodIn_app (goodIn_of _ (by decide +kernel)) ggX9_stepsKeepBounds_X9_findBound
set_option maxRecDepth 20000 in
theorem ggX9_stepsKeepBounds_X9_isFartherThanTold : GoodIn wsX9_stepsKeepBounds wsX9_isFartherThanTold := goodIn_r _ [84, 10, 85, 12, 17, 11, 86, 13, 16, 87, 14, 88, 89, 90, 22, 91, 25, 24, 35, 36, 37, 38, 43, 20, 21, 23, 26, 27, 28, 29, 30, 63, 64, 65, 66, 67, 68, 69, 70, 71, 72, 73, 74, 75, 76, 77, 78, 79, 80, 92, 93, 94, 95, 96, 44, 45, 46, 47, 48, 49, 50, 51, 52, 53, 54, 55, 56, 57, 58, 97, 98, 99, 100, 101, 102, 103, 104, 105, 106, 107, 108, 109, 110, 119, 120, 121, 122, 123, 124, 125, 126, 127, 128] rfl rfl
set_option maxRecDepth 20000 in
theorem gX9_stepsKeepBounds_X9_isFartherThanTold : GoodIn wsX9_stepsKeepBounds (wsV RX9 246 RX9 yX9_isFartherThanTold wsX9_isFartherThanTold) := goodIn_app (goodIn_of _ (by decide +kernel)) ggX9_stepsKeepBounds_X9_isFartherThanTold
theorem dX9_stepsKeepBounds_0 : decode cX9_stepsKeepBounds 0 = .ok (.iconst 0, 1) := by decide +kernel
theorem dX9_stepsKeepBounds_1 : decode cX9_stepsKeepBounds 1 = .ok (.istore_n 1, 1) := by decide +kernel
theorem dX9_stepsKeepBounds_2 : decode cX9_stepsKeepBounds 2 = .ok (.iload_n 1, 1) := by decide +kernel
theorem dX9_stepsKeepBounds_3 : decode cX9_stepsKeepBounds 3 = .ok (.iconst 4, 1) := by decide +kernel
theorem dX9_stepsKeepBounds_4 : decode cX9_stepsKeepBounds 4 = .ok (.if_icmp .gt 52, 3) := by decide +kernel
theorem dX9_stepsKeepBounds_7 : decode cX9_stepsKeepBounds 7 = .ok (.aload_n 0, 1) := by decide +kernel
theorem dX9_stepsKeepBounds_8 : decode cX9_stepsKeepBounds 8 = .ok (.iload_n 1, 1) := by decide +kernel
theorem dX9_stepsKeepBounds_9 : decode cX9_stepsKeepBounds 9 = .ok (.invokevirtual 196, 3) := by decide +kernel
theorem dX9_stepsKeepBounds_12 : decode cX9_stepsKeepBounds 12 = .ok (.iconst 0, 1) := by decide +kernel
theorem dX9_stepsKeepBounds_13 : decode cX9_stepsKeepBounds 13 = .ok (.istore_n 2, 1) := by decide +kernel
theorem dX9_stepsKeepBounds_14 : decode cX9_stepsKeepBounds 14 = .ok (.iload_n 2, 1) := by decide +kernel
theorem dX9_stepsKeepBounds_15 : decode cX9_stepsKeepBounds 15 = .ok (.aload_n 0, 1) := by decide +kernel
theorem dX9_stepsKeepBounds_16 : decode cX9_stepsKeepBounds 16 = .ok (.getfield 10, 3) := by decide +kernel
theorem dX9_stepsKeepBounds_19 : decode cX9_stepsKeepBounds 19 = .ok (.getfield 85, 3) := by decide +kernel
theorem dX9_stepsKeepBounds_22 : decode cX9_stepsKeepBounds 22 = .ok (.if_icmp .ge 28, 3) := by decide +kernel
theorem dX9_stepsKeepBounds_25 : decode cX9_stepsKeepBounds 25 = .ok (.aload_n 0, 1) := by decide +kernel
theorem dX9_stepsKeepBounds_26 : decode cX9_stepsKeepBounds 26 = .ok (.aload_n 0, 1) := by decide +kernel
theorem dX9_stepsKeepBounds_27 : decode cX9_stepsKeepBounds 27 = .ok (.getfield 33, 3) := by decide +kernel
theorem dX9_stepsKeepBounds_30 : decode cX9_stepsKeepBounds 30 = .ok (.getfield 189, 3) := by decide +kernel
theorem dX9_stepsKeepBounds_33 : decode cX9_stepsKeepBounds 33 = .ok (.iload_n 1, 1) := by decide +kernel
theorem dX9_stepsKeepBounds_34 : decode cX9_stepsKeepBounds 34 = .ok (.aaload, 1) := by decide +kernel
theorem dX9_stepsKeepBounds_35 : decode cX9_stepsKeepBounds 35 = .ok (.iload_n 2, 1) := by decide +kernel
theorem dX9_stepsKeepBounds_36 : decode cX9_stepsKeepBounds 36 = .ok (.invokevirtual 246, 3) := by decide +kernel
theorem dX9_stepsKeepBounds_39 : decode cX9_stepsKeepBounds 39 = .ok (.ifCond .eq 5, 3) := by decide +kernel
theorem dX9_stepsKeepBounds_42 : decode cX9_stepsKeepBounds 42 = .ok (.iconst 0, 1) := by decide +kernel
theorem dX9_stepsKeepBounds_43 : decode cX9_stepsKeepBounds 43 = .ok (.ireturn, 1) := by decide +kernel
theorem dX9_stepsKeepBounds_44 : decode cX9_stepsKeepBounds 44 = .ok (.iinc 2 1, 3) := by decide +kernel
theorem dX9_stepsKeepBounds_47 : decode cX9_stepsKeepBounds 47 = .ok (.goto (-33), 3) := by decide +kernel
theorem dX9_stepsKeepBounds_50 : decode cX9_stepsKeepBounds 50 = .ok (.iinc 1 1, 3) := by decide +kernel
theorem dX9_stepsKeepBounds_53 : decode cX9_stepsKeepBounds 53 = .ok (.goto (-51), 3) := by decide +kernel
theorem dX9_stepsKeepBounds_56 : decode cX9_stepsKeepBounds 56 = .ok (.iconst 1, 1) := by decide +kernel
theorem dX9_stepsKeepBounds_57 : decode cX9_stepsKeepBounds 57 = .ok (.ireturn, 1) := by decide +kernel
set_option maxRecDepth 20000 in
theorem ggX9_isFartherThanTold_X8_product : GoodIn wsX9_isFartherThanTold wsX8_product := goodIn_r _ [15, 16, 17, 18, 19, 20, 21, 22, 23, 24, 14, 25, 26, 27, 28, 29, 30, 31, 32, 33, 34, 35, 36, 37, 38, 39, 40, 41, 42, 43, 44, 45, 46, 47, 48, 90, 91, 92] rfl rfl
set_option maxRecDepth 20000 in
theorem gX9_isFartherThanTold_X8_product : GoodIn wsX9_isFartherThanTold (wsV RX9 242 RX8 yX8_product wsX8_product) := goodIn_app (goodIn_of _ (by decide +kernel)) ggX9_isFartherThanTold_X8_product
set_option maxRecDepth 20000 in
theorem ggX9_isFartherThanTold_X8_add : GoodIn wsX9_isFartherThanTold wsX8_add := goodIn_r _ [52, 16, 17, 18, 19, 20, 21, 90, 91, 92] rfl rfl
set_option maxRecDepth 20000 in
theorem gX9_isFartherThanTold_X8_add : GoodIn wsX9_isFartherThanTold (wsV RX9 250 RX8 yX8_add wsX8_add) := goodIn_app (goodIn_of _ (by decide +kernel)) ggX9_isFartherThanTold_X8_add
set_option maxRecDepth 20000 in
theorem ggX9_isFartherThanTold_X8_settle : GoodIn wsX9_isFartherThanTold wsX8_settle := goodIn_r _ [34, 17, 35, 36, 37, 38, 39, 40, 41, 42, 14, 43, 44, 45, 46, 47, 48, 16, 26, 90, 91, 92] rfl rfl
set_option maxRecDepth 20000 in
theorem gX9_isFartherThanTold_X8_settle : GoodIn wsX9_isFartherThanTold (wsV RX9 254 RX8 yX8_settle wsX8_settle) := goodIn_app (goodIn_of _ (by decide +kernel)) ggX9_isFartherThanTold_X8_settle
set_option maxRecDepth 20000 in
theorem ggX9_isFartherThanTold_X8_dropSign : GoodIn wsX9_isFartherThanTold wsX8_dropSign := goodIn_r _ [57, 26, 16, 17, 90, 91, 92] rfl rfl
set_option maxRecDepth 20000 in
theorem gX9_isFartherThanTold_X8_dropSign : GoodIn wsX9_isFartherThanTold (wsV RX9 235 RX8 yX8_dropSign wsX8_dropSign) := goodIn_app (goodIn_of _ (by decide +kernel)) ggX9_isFartherThanTold_X8_dropSign
set_option maxRecDepth 20000 in
theorem ggX9_isFartherThanTold_X8_compare : GoodIn wsX9_isFartherThanTold wsX8_compare := goodIn_r _ [61, 16, 62, 63, 20, 64, 65, 66, 67, 14, 68, 17, 90, 91, 92] rfl rfl
set_option maxRecDepth 20000 in
theorem gX9_isFartherThanTold_X8_compare : GoodIn wsX9_isFartherThanTold (wsV RX9 238 RX8 yX8_compare wsX8_compare) := goodIn_app (goodIn_of _ (by decide +kernel)) ggX9_isFartherThanTold_X8_compare
theorem dX9_isFartherThanTold_0 : decode cX9_isFartherThanTold 0 = .ok (.aload_n 0, 1) := by decide +kernel
theorem dX9_isFartherThanTold_1 : decode cX9_isFartherThanTold 1 = .ok (.getfield 71, 3) := by decide +kernel
theorem dX9_isFartherThanTold_4 : decode cX9_isFartherThanTold 4 = .ok (.aload_n 0, 1) := by decide +kernel
theorem dX9_isFartherThanTold_5 : decode cX9_isFartherThanTold 5 = .ok (.getfield 42, 3) := by decide +kernel
theorem dX9_isFartherThanTold_8 : decode cX9_isFartherThanTold 8 = .ok (.getfield 232, 3) := by decide +kernel
theorem dX9_isFartherThanTold_11 : decode cX9_isFartherThanTold 11 = .ok (.iload_n 2, 1) := by decide +kernel
theorem dX9_isFartherThanTold_12 : decode cX9_isFartherThanTold 12 = .ok (.aaload, 1) := by decide +kernel
theorem dX9_isFartherThanTold_13 : decode cX9_isFartherThanTold 13 = .ok (.aload_n 1, 1) := by decide +kernel
theorem dX9_isFartherThanTold_14 : decode cX9_isFartherThanTold 14 = .ok (.getfield 173, 3) := by decide +kernel
theorem dX9_isFartherThanTold_17 : decode cX9_isFartherThanTold 17 = .ok (.invokevirtual 242, 3) := by decide +kernel
theorem dX9_isFartherThanTold_20 : decode cX9_isFartherThanTold 20 = .ok (.aload_n 0, 1) := by decide +kernel
theorem dX9_isFartherThanTold_21 : decode cX9_isFartherThanTold 21 = .ok (.getfield 75, 3) := by decide +kernel
theorem dX9_isFartherThanTold_24 : decode cX9_isFartherThanTold 24 = .ok (.aload_n 1, 1) := by decide +kernel
theorem dX9_isFartherThanTold_25 : decode cX9_isFartherThanTold 25 = .ok (.getfield 232, 3) := by decide +kernel
theorem dX9_isFartherThanTold_28 : decode cX9_isFartherThanTold 28 = .ok (.iload_n 2, 1) := by decide +kernel
theorem dX9_isFartherThanTold_29 : decode cX9_isFartherThanTold 29 = .ok (.aaload, 1) := by decide +kernel
theorem dX9_isFartherThanTold_30 : decode cX9_isFartherThanTold 30 = .ok (.aload_n 0, 1) := by decide +kernel
theorem dX9_isFartherThanTold_31 : decode cX9_isFartherThanTold 31 = .ok (.getfield 42, 3) := by decide +kernel
theorem dX9_isFartherThanTold_34 : decode cX9_isFartherThanTold 34 = .ok (.getfield 173, 3) := by decide +kernel
theorem dX9_isFartherThanTold_37 : decode cX9_isFartherThanTold 37 = .ok (.invokevirtual 242, 3) := by decide +kernel
theorem dX9_isFartherThanTold_40 : decode cX9_isFartherThanTold 40 = .ok (.aload_n 0, 1) := by decide +kernel
theorem dX9_isFartherThanTold_41 : decode cX9_isFartherThanTold 41 = .ok (.getfield 71, 3) := by decide +kernel
theorem dX9_isFartherThanTold_44 : decode cX9_isFartherThanTold 44 = .ok (.aload_n 0, 1) := by decide +kernel
theorem dX9_isFartherThanTold_45 : decode cX9_isFartherThanTold 45 = .ok (.getfield 75, 3) := by decide +kernel
theorem dX9_isFartherThanTold_48 : decode cX9_isFartherThanTold 48 = .ok (.ldc2_w 214, 3) := by decide +kernel
theorem dX9_isFartherThanTold_51 : decode cX9_isFartherThanTold 51 = .ok (.invokevirtual 250, 3) := by decide +kernel
theorem dX9_isFartherThanTold_54 : decode cX9_isFartherThanTold 54 = .ok (.aload_n 0, 1) := by decide +kernel
theorem dX9_isFartherThanTold_55 : decode cX9_isFartherThanTold 55 = .ok (.getfield 71, 3) := by decide +kernel
theorem dX9_isFartherThanTold_58 : decode cX9_isFartherThanTold 58 = .ok (.invokevirtual 254, 3) := by decide +kernel
theorem dX9_isFartherThanTold_61 : decode cX9_isFartherThanTold 61 = .ok (.aload_n 0, 1) := by decide +kernel
theorem dX9_isFartherThanTold_62 : decode cX9_isFartherThanTold 62 = .ok (.getfield 71, 3) := by decide +kernel
theorem dX9_isFartherThanTold_65 : decode cX9_isFartherThanTold 65 = .ok (.invokevirtual 235, 3) := by decide +kernel
theorem dX9_isFartherThanTold_68 : decode cX9_isFartherThanTold 68 = .ok (.aload_n 0, 1) := by decide +kernel
theorem dX9_isFartherThanTold_69 : decode cX9_isFartherThanTold 69 = .ok (.getfield 75, 3) := by decide +kernel
theorem dX9_isFartherThanTold_72 : decode cX9_isFartherThanTold 72 = .ok (.aload_n 0, 1) := by decide +kernel
theorem dX9_isFartherThanTold_73 : decode cX9_isFartherThanTold 73 = .ok (.getfield 71, 3) := by decide +kernel
theorem dX9_isFartherThanTold_76 : decode cX9_isFartherThanTold 76 = .ok (.aload_n 0, 1) := by decide +kernel
theorem dX9_isFartherThanTold_77 : decode cX9_isFartherThanTold 77 = .ok (.getfield 64, 3) := by decide +kernel
theorem dX9_isFartherThanTold_80 : decode cX9_isFartherThanTold 80 = .ok (.getfield 171, 3) := by decide +kernel
theorem dX9_isFartherThanTold_83 : decode cX9_isFartherThanTold 83 = .ok (.invokevirtual 242, 3) := by decide +kernel
theorem dX9_isFartherThanTold_86 : decode cX9_isFartherThanTold 86 = .ok (.aload_n 0, 1) := by decide +kernel
theorem dX9_isFartherThanTold_87 : decode cX9_isFartherThanTold 87 = .ok (.getfield 78, 3) := by decide +kernel
theorem dX9_isFartherThanTold_90 : decode cX9_isFartherThanTold 90 = .ok (.aload_n 0, 1) := by decide +kernel
theorem dX9_isFartherThanTold_91 : decode cX9_isFartherThanTold 91 = .ok (.getfield 42, 3) := by decide +kernel
theorem dX9_isFartherThanTold_94 : decode cX9_isFartherThanTold 94 = .ok (.getfield 173, 3) := by decide +kernel
theorem dX9_isFartherThanTold_97 : decode cX9_isFartherThanTold 97 = .ok (.aload_n 1, 1) := by decide +kernel
theorem dX9_isFartherThanTold_98 : decode cX9_isFartherThanTold 98 = .ok (.getfield 173, 3) := by decide +kernel
theorem dX9_isFartherThanTold_101 : decode cX9_isFartherThanTold 101 = .ok (.invokevirtual 242, 3) := by decide +kernel
theorem dX9_isFartherThanTold_104 : decode cX9_isFartherThanTold 104 = .ok (.aload_n 0, 1) := by decide +kernel
theorem dX9_isFartherThanTold_105 : decode cX9_isFartherThanTold 105 = .ok (.getfield 71, 3) := by decide +kernel
theorem dX9_isFartherThanTold_108 : decode cX9_isFartherThanTold 108 = .ok (.aload_n 0, 1) := by decide +kernel
theorem dX9_isFartherThanTold_109 : decode cX9_isFartherThanTold 109 = .ok (.getfield 78, 3) := by decide +kernel
theorem dX9_isFartherThanTold_112 : decode cX9_isFartherThanTold 112 = .ok (.aload_n 0, 1) := by decide +kernel
theorem dX9_isFartherThanTold_113 : decode cX9_isFartherThanTold 113 = .ok (.getfield 64, 3) := by decide +kernel
theorem dX9_isFartherThanTold_116 : decode cX9_isFartherThanTold 116 = .ok (.getfield 164, 3) := by decide +kernel
theorem dX9_isFartherThanTold_119 : decode cX9_isFartherThanTold 119 = .ok (.invokevirtual 242, 3) := by decide +kernel
theorem dX9_isFartherThanTold_122 : decode cX9_isFartherThanTold 122 = .ok (.aload_n 0, 1) := by decide +kernel
theorem dX9_isFartherThanTold_123 : decode cX9_isFartherThanTold 123 = .ok (.getfield 75, 3) := by decide +kernel
theorem dX9_isFartherThanTold_126 : decode cX9_isFartherThanTold 126 = .ok (.aload_n 0, 1) := by decide +kernel
theorem dX9_isFartherThanTold_127 : decode cX9_isFartherThanTold 127 = .ok (.getfield 71, 3) := by decide +kernel
theorem dX9_isFartherThanTold_130 : decode cX9_isFartherThanTold 130 = .ok (.invokevirtual 238, 3) := by decide +kernel
theorem dX9_isFartherThanTold_133 : decode cX9_isFartherThanTold 133 = .ok (.ifCond .le 7, 3) := by decide +kernel
theorem dX9_isFartherThanTold_136 : decode cX9_isFartherThanTold 136 = .ok (.iconst 1, 1) := by decide +kernel
theorem dX9_isFartherThanTold_137 : decode cX9_isFartherThanTold 137 = .ok (.goto 4, 3) := by decide +kernel
theorem dX9_isFartherThanTold_140 : decode cX9_isFartherThanTold 140 = .ok (.iconst 0, 1) := by decide +kernel
theorem dX9_isFartherThanTold_141 : decode cX9_isFartherThanTold 141 = .ok (.ireturn, 1) := by decide +kernel
