theorem dX10_in_0 : decode cX10_in 0 = .ok (.lload_n 0, 1) := by decide +kernel
theorem dX10_in_1 : decode cX10_in 1 = .ok (.lload_n 2, 1) := by decide +kernel
theorem dX10_in_2 : decode cX10_in 2 = .ok (.lcmp, 1) := by decide +kernel
theorem dX10_in_3 : decode cX10_in 3 = .ok (.ifCond .lt 14, 3) := by decide +kernel
theorem dX10_in_6 : decode cX10_in 6 = .ok (.lload_n 0, 1) := by decide +kernel
theorem dX10_in_7 : decode cX10_in 7 = .ok (.lload 4, 2) := by decide +kernel
theorem dX10_in_9 : decode cX10_in 9 = .ok (.lcmp, 1) := by decide +kernel
theorem dX10_in_10 : decode cX10_in 10 = .ok (.ifCond .gt 7, 3) := by decide +kernel
theorem dX10_in_13 : decode cX10_in 13 = .ok (.iconst 1, 1) := by decide +kernel
theorem dX10_in_14 : decode cX10_in 14 = .ok (.goto 4, 3) := by decide +kernel
theorem dX10_in_17 : decode cX10_in 17 = .ok (.iconst 0, 1) := by decide +kernel
theorem dX10_in_18 : decode cX10_in 18 = .ok (.ireturn, 1) := by decide +kernel
theorem dX10_change_0 : decode cX10_change 0 = .ok (.aload_n 0, 1) := by decide +kernel
theorem dX10_change_1 : decode cX10_change 1 = .ok (.iconst 0, 1) := by decide +kernel
theorem dX10_change_2 : decode cX10_change 2 = .ok (.putfield 96, 3) := by decide +kernel
theorem dX10_change_5 : decode cX10_change 5 = .ok (.aload_n 0, 1) := by decide +kernel
theorem dX10_change_6 : decode cX10_change 6 = .ok (.iconst 0, 1) := by decide +kernel
theorem dX10_change_7 : decode cX10_change 7 = .ok (.putfield 100, 3) := by decide +kernel
theorem dX10_change_10 : decode cX10_change 10 = .ok (.return_, 1) := by decide +kernel
set_option maxRecDepth 20000 in
theorem ggX10_state_X10_change : GoodIn wsX10_state wsX10_change := goodIn_r _ [8, 9, 10, 11, 12, 13, 14, 15, 16, 17, 18, 19, 20, 21, 22, 23, 24, 25, 26, 27, 28, 29, 30] rfl rfl
set_option maxRecDepth 20000 in
theorem gX10_state_X10_change : GoodIn wsX10_state (wsV RX10 106 RX10 yX10_change wsX10_change) := goodIn_app (goodIn_of _ (by decide +kernel)) ggX10_state_X10_change
theorem dX10_state_0 : decode cX10_state 0 = .ok (.aload_n 0, 1) := by decide +kernel
theorem dX10_state_1 : decode cX10_state 1 = .ok (.iconst 0, 1) := by decide +kernel
theorem dX10_state_2 : decode cX10_state 2 = .ok (.putfield 56, 3) := by decide +kernel
theorem dX10_state_5 : decode cX10_state 5 = .ok (.aload_n 0, 1) := by decide +kernel
theorem dX10_state_6 : decode cX10_state 6 = .ok (.getfield 103, 3) := by decide +kernel
theorem dX10_state_9 : decode cX10_state 9 = .ok (.bipush 6, 2) := by decide +kernel
theorem dX10_state_11 : decode cX10_state 11 = .ok (.if_icmp .ne 5, 3) := by decide +kernel
theorem dX10_state_14 : decode cX10_state 14 = .ok (.iconst (-1), 1) := by decide +kernel
theorem dX10_state_15 : decode cX10_state 15 = .ok (.ireturn, 1) := by decide +kernel
theorem dX10_state_16 : decode cX10_state 16 = .ok (.aload_n 0, 1) := by decide +kernel
theorem dX10_state_17 : decode cX10_state 17 = .ok (.getfield 7, 3) := by decide +kernel
theorem dX10_state_20 : decode cX10_state 20 = .ok (.aload_n 0, 1) := by decide +kernel
theorem dX10_state_21 : decode cX10_state 21 = .ok (.getfield 103, 3) := by decide +kernel
theorem dX10_state_24 : decode cX10_state 24 = .ok (.iconst 0, 1) := by decide +kernel
theorem dX10_state_25 : decode cX10_state 25 = .ok (.iastore, 1) := by decide +kernel
theorem dX10_state_26 : decode cX10_state 26 = .ok (.aload_n 0, 1) := by decide +kernel
theorem dX10_state_27 : decode cX10_state 27 = .ok (.dup, 1) := by decide +kernel
theorem dX10_state_28 : decode cX10_state 28 = .ok (.getfield 103, 3) := by decide +kernel
theorem dX10_state_31 : decode cX10_state 31 = .ok (.iconst 1, 1) := by decide +kernel
theorem dX10_state_32 : decode cX10_state 32 = .ok (.iadd, 1) := by decide +kernel
theorem dX10_state_33 : decode cX10_state 33 = .ok (.putfield 103, 3) := by decide +kernel
theorem dX10_state_36 : decode cX10_state 36 = .ok (.aload_n 0, 1) := by decide +kernel
theorem dX10_state_37 : decode cX10_state 37 = .ok (.invokevirtual 106, 3) := by decide +kernel
theorem dX10_state_40 : decode cX10_state 40 = .ok (.aload_n 0, 1) := by decide +kernel
theorem dX10_state_41 : decode cX10_state 41 = .ok (.getfield 103, 3) := by decide +kernel
theorem dX10_state_44 : decode cX10_state 44 = .ok (.iconst 1, 1) := by decide +kernel
theorem dX10_state_45 : decode cX10_state 45 = .ok (.isub, 1) := by decide +kernel
theorem dX10_state_46 : decode cX10_state 46 = .ok (.ireturn, 1) := by decide +kernel
theorem dX10_isState_0 : decode cX10_isState 0 = .ok (.iload_n 1, 1) := by decide +kernel
theorem dX10_isState_1 : decode cX10_isState 1 = .ok (.ifCond .lt 15, 3) := by decide +kernel
theorem dX10_isState_4 : decode cX10_isState 4 = .ok (.iload_n 1, 1) := by decide +kernel
theorem dX10_isState_5 : decode cX10_isState 5 = .ok (.aload_n 0, 1) := by decide +kernel
theorem dX10_isState_6 : decode cX10_isState 6 = .ok (.getfield 103, 3) := by decide +kernel
theorem dX10_isState_9 : decode cX10_isState 9 = .ok (.if_icmp .ge 7, 3) := by decide +kernel
theorem dX10_isState_12 : decode cX10_isState 12 = .ok (.iconst 1, 1) := by decide +kernel
theorem dX10_isState_13 : decode cX10_isState 13 = .ok (.goto 4, 3) := by decide +kernel
theorem dX10_isState_16 : decode cX10_isState 16 = .ok (.iconst 0, 1) := by decide +kernel
theorem dX10_isState_17 : decode cX10_isState 17 = .ok (.ireturn, 1) := by decide +kernel
set_option maxRecDepth 20000 in
theorem ggX10_isAction_X10_isState : GoodIn wsX10_isAction wsX10_isState := goodIn_r _ [6, 7, 8, 9, 10, 11, 12, 13, 14, 15, 16, 17, 18, 19, 20, 21, 22, 23, 24, 25, 26, 27] rfl rfl
set_option maxRecDepth 20000 in
theorem gX10_isAction_X10_isState : GoodIn wsX10_isAction (wsV RX10 109 RX10 yX10_isState wsX10_isState) := goodIn_app (goodIn_of _ (by decide +kernel)) ggX10_isAction_X10_isState
theorem dX10_isAction_0 : decode cX10_isAction 0 = .ok (.aload_n 0, 1) := by decide +kernel
theorem dX10_isAction_1 : decode cX10_isAction 1 = .ok (.iload_n 1, 1) := by decide +kernel
theorem dX10_isAction_2 : decode cX10_isAction 2 = .ok (.invokevirtual 109, 3) := by decide +kernel
theorem dX10_isAction_5 : decode cX10_isAction 5 = .ok (.ifCond .eq 21, 3) := by decide +kernel
theorem dX10_isAction_8 : decode cX10_isAction 8 = .ok (.iload_n 2, 1) := by decide +kernel
theorem dX10_isAction_9 : decode cX10_isAction 9 = .ok (.ifCond .lt 17, 3) := by decide +kernel
theorem dX10_isAction_12 : decode cX10_isAction 12 = .ok (.iload_n 2, 1) := by decide +kernel
theorem dX10_isAction_13 : decode cX10_isAction 13 = .ok (.aload_n 0, 1) := by decide +kernel
theorem dX10_isAction_14 : decode cX10_isAction 14 = .ok (.getfield 7, 3) := by decide +kernel
theorem dX10_isAction_17 : decode cX10_isAction 17 = .ok (.iload_n 1, 1) := by decide +kernel
theorem dX10_isAction_18 : decode cX10_isAction 18 = .ok (.iaload, 1) := by decide +kernel
theorem dX10_isAction_19 : decode cX10_isAction 19 = .ok (.if_icmp .ge 7, 3) := by decide +kernel
theorem dX10_isAction_22 : decode cX10_isAction 22 = .ok (.iconst 1, 1) := by decide +kernel
theorem dX10_isAction_23 : decode cX10_isAction 23 = .ok (.goto 4, 3) := by decide +kernel
theorem dX10_isAction_26 : decode cX10_isAction 26 = .ok (.iconst 0, 1) := by decide +kernel
theorem dX10_isAction_27 : decode cX10_isAction 27 = .ok (.ireturn, 1) := by decide +kernel
set_option maxRecDepth 20000 in
theorem ggX10_action_X10_isState : GoodIn wsX10_action wsX10_isState := goodIn_r _ [10, 11, 18, 19, 20, 21, 22, 23, 24, 25, 26, 27, 28, 29, 30, 31, 32, 33, 34, 35, 36, 37] rfl rfl
set_option maxRecDepth 20000 in
theorem gX10_action_X10_isState : GoodIn wsX10_action (wsV RX10 109 RX10 yX10_isState wsX10_isState) := goodIn_app (goodIn_of _ (by decide +kernel)) ggX10_action_X10_isState
set_option maxRecDepth 20000 in
theorem ggX10_action_X10_change : GoodIn wsX10_action wsX10_change := goodIn_r _ [15, 16, 17, 18, 19, 20, 21, 22, 23, 24, 25, 26, 27, 28, 29, 30, 31, 32, 33, 34, 35, 36, 37] rfl rfl
set_option maxRecDepth 20000 in
theorem gX10_action_X10_change : GoodIn wsX10_action (wsV RX10 106 RX10 yX10_change wsX10_change) := goodIn_app (goodIn_of _ (by decide +kernel)) ggX10_action_X10_change
theorem dX10_action_0 : decode cX10_action 0 = .ok (.aload_n 0, 1) := by decide +kernel
theorem dX10_action_1 : decode cX10_action 1 = .ok (.iconst 0, 1) := by decide +kernel
theorem dX10_action_2 : decode cX10_action 2 = .ok (.putfield 56, 3) := by decide +kernel
theorem dX10_action_5 : decode cX10_action 5 = .ok (.aload_n 0, 1) := by decide +kernel
theorem dX10_action_6 : decode cX10_action 6 = .ok (.iload_n 1, 1) := by decide +kernel
theorem dX10_action_7 : decode cX10_action 7 = .ok (.invokevirtual 109, 3) := by decide +kernel
theorem dX10_action_10 : decode cX10_action 10 = .ok (.ifCond .eq 13, 3) := by decide +kernel
theorem dX10_action_13 : decode cX10_action 13 = .ok (.aload_n 0, 1) := by decide +kernel
theorem dX10_action_14 : decode cX10_action 14 = .ok (.getfield 7, 3) := by decide +kernel
theorem dX10_action_17 : decode cX10_action 17 = .ok (.iload_n 1, 1) := by decide +kernel
theorem dX10_action_18 : decode cX10_action 18 = .ok (.iaload, 1) := by decide +kernel
theorem dX10_action_19 : decode cX10_action 19 = .ok (.iconst 4, 1) := by decide +kernel
theorem dX10_action_20 : decode cX10_action 20 = .ok (.if_icmp .ne 5, 3) := by decide +kernel
theorem dX10_action_23 : decode cX10_action 23 = .ok (.iconst (-1), 1) := by decide +kernel
theorem dX10_action_24 : decode cX10_action 24 = .ok (.ireturn, 1) := by decide +kernel
theorem dX10_action_25 : decode cX10_action 25 = .ok (.iconst 4, 1) := by decide +kernel
theorem dX10_action_26 : decode cX10_action 26 = .ok (.iload_n 1, 1) := by decide +kernel
theorem dX10_action_27 : decode cX10_action 27 = .ok (.imul, 1) := by decide +kernel
theorem dX10_action_28 : decode cX10_action 28 = .ok (.aload_n 0, 1) := by decide +kernel
theorem dX10_action_29 : decode cX10_action 29 = .ok (.getfield 7, 3) := by decide +kernel
theorem dX10_action_32 : decode cX10_action 32 = .ok (.iload_n 1, 1) := by decide +kernel
theorem dX10_action_33 : decode cX10_action 33 = .ok (.iaload, 1) := by decide +kernel
theorem dX10_action_34 : decode cX10_action 34 = .ok (.iadd, 1) := by decide +kernel
theorem dX10_action_35 : decode cX10_action 35 = .ok (.istore_n 2, 1) := by decide +kernel
theorem dX10_action_36 : decode cX10_action 36 = .ok (.aload_n 0, 1) := by decide +kernel
theorem dX10_action_37 : decode cX10_action 37 = .ok (.getfield 13, 3) := by decide +kernel
theorem dX10_action_40 : decode cX10_action 40 = .ok (.iload_n 2, 1) := by decide +kernel
theorem dX10_action_41 : decode cX10_action 41 = .ok (.iconst 0, 1) := by decide +kernel
theorem dX10_action_42 : decode cX10_action 42 = .ok (.iastore, 1) := by decide +kernel
theorem dX10_action_43 : decode cX10_action 43 = .ok (.aload_n 0, 1) := by decide +kernel
theorem dX10_action_44 : decode cX10_action 44 = .ok (.getfield 16, 3) := by decide +kernel
theorem dX10_action_47 : decode cX10_action 47 = .ok (.iload_n 2, 1) := by decide +kernel
theorem dX10_action_48 : decode cX10_action 48 = .ok (.iconst 1, 1) := by decide +kernel
theorem dX10_action_49 : decode cX10_action 49 = .ok (.iastore, 1) := by decide +kernel
theorem dX10_action_50 : decode cX10_action 50 = .ok (.iconst 0, 1) := by decide +kernel
theorem dX10_action_51 : decode cX10_action 51 = .ok (.istore_n 3, 1) := by decide +kernel
theorem dX10_action_52 : decode cX10_action 52 = .ok (.iload_n 3, 1) := by decide +kernel
theorem dX10_action_53 : decode cX10_action 53 = .ok (.bipush 6, 2) := by decide +kernel
theorem dX10_action_55 : decode cX10_action 55 = .ok (.if_icmp .ge 21, 3) := by decide +kernel
theorem dX10_action_58 : decode cX10_action 58 = .ok (.aload_n 0, 1) := by decide +kernel
theorem dX10_action_59 : decode cX10_action 59 = .ok (.getfield 19, 3) := by decide +kernel
theorem dX10_action_62 : decode cX10_action 62 = .ok (.bipush 6, 2) := by decide +kernel
theorem dX10_action_64 : decode cX10_action 64 = .ok (.iload_n 2, 1) := by decide +kernel
theorem dX10_action_65 : decode cX10_action 65 = .ok (.imul, 1) := by decide +kernel
theorem dX10_action_66 : decode cX10_action 66 = .ok (.iload_n 3, 1) := by decide +kernel
theorem dX10_action_67 : decode cX10_action 67 = .ok (.iadd, 1) := by decide +kernel
theorem dX10_action_68 : decode cX10_action 68 = .ok (.iconst 0, 1) := by decide +kernel
theorem dX10_action_69 : decode cX10_action 69 = .ok (.iastore, 1) := by decide +kernel
theorem dX10_action_70 : decode cX10_action 70 = .ok (.iinc 3 1, 3) := by decide +kernel
theorem dX10_action_73 : decode cX10_action 73 = .ok (.goto (-21), 3) := by decide +kernel
theorem dX10_action_76 : decode cX10_action 76 = .ok (.aload_n 0, 1) := by decide +kernel
theorem dX10_action_77 : decode cX10_action 77 = .ok (.getfield 7, 3) := by decide +kernel
theorem dX10_action_80 : decode cX10_action 80 = .ok (.iload_n 1, 1) := by decide +kernel
theorem dX10_action_81 : decode cX10_action 81 = .ok (.dup2, 1) := by decide +kernel
theorem dX10_action_82 : decode cX10_action 82 = .ok (.iaload, 1) := by decide +kernel
theorem dX10_action_83 : decode cX10_action 83 = .ok (.iconst 1, 1) := by decide +kernel
theorem dX10_action_84 : decode cX10_action 84 = .ok (.iadd, 1) := by decide +kernel
theorem dX10_action_85 : decode cX10_action 85 = .ok (.iastore, 1) := by decide +kernel
theorem dX10_action_86 : decode cX10_action 86 = .ok (.aload_n 0, 1) := by decide +kernel
theorem dX10_action_87 : decode cX10_action 87 = .ok (.invokevirtual 106, 3) := by decide +kernel
theorem dX10_action_90 : decode cX10_action 90 = .ok (.aload_n 0, 1) := by decide +kernel
theorem dX10_action_91 : decode cX10_action 91 = .ok (.getfield 7, 3) := by decide +kernel
theorem dX10_action_94 : decode cX10_action 94 = .ok (.iload_n 1, 1) := by decide +kernel
theorem dX10_action_95 : decode cX10_action 95 = .ok (.iaload, 1) := by decide +kernel
theorem dX10_action_96 : decode cX10_action 96 = .ok (.iconst 1, 1) := by decide +kernel
theorem dX10_action_97 : decode cX10_action 97 = .ok (.isub, 1) := by decide +kernel
theorem dX10_action_98 : decode cX10_action 98 = .ok (.ireturn, 1) := by decide +kernel
set_option maxRecDepth 20000 in
theorem ggX10_reward_X10_isAction : GoodIn wsX10_reward wsX10_isAction := goodIn_r _ [11, 12, 13, 14, 15, 10, 16, 17, 27, 28, 29, 30, 31, 32, 33, 34, 35, 36, 37, 38, 39, 40, 41, 42, 43, 44, 45, 46] rfl rfl
set_option maxRecDepth 20000 in
theorem gX10_reward_X10_isAction : GoodIn wsX10_reward (wsV RX10 113 RX10 yX10_isAction wsX10_isAction) := goodIn_app (goodIn_of _ (by decide +kernel)) ggX10_reward_X10_isAction
set_option maxRecDepth 20000 in
theorem ggX10_reward_X10_in : GoodIn wsX10_reward wsX10_in := goodIn_r _ [20] rfl rfl
set_option maxRecDepth 20000 in
theorem gX10_reward_X10_in : GoodIn wsX10_reward (va_wsS RX10 121 yX10_in wsX10_in) := goodIn_app (goodIn_of _ (by decide +kernel)) ggX10_reward_X10_in
set_option maxRecDepth 20000 in
theorem ggX10_reward_X10_change : GoodIn wsX10_reward wsX10_change := goodIn_r _ [24, 25, 26, 27, 28, 29, 30, 31, 32, 33, 34, 35, 36, 37, 38, 39, 40, 41, 42, 43, 44, 45, 46] rfl rfl
set_option maxRecDepth 20000 in
theorem gX10_reward_X10_change : GoodIn wsX10_reward (wsV RX10 106 RX10 yX10_change wsX10_change) := goodIn_app (goodIn_of _ (by decide +kernel)) ggX10_reward_X10_change
theorem dX10_reward_0 : decode cX10_reward 0 = .ok (.aload_n 0, 1) := by decide +kernel
theorem dX10_reward_1 : decode cX10_reward 1 = .ok (.iconst 0, 1) := by decide +kernel
theorem dX10_reward_2 : decode cX10_reward 2 = .ok (.putfield 56, 3) := by decide +kernel
theorem dX10_reward_5 : decode cX10_reward 5 = .ok (.aload_n 0, 1) := by decide +kernel
theorem dX10_reward_6 : decode cX10_reward 6 = .ok (.iload_n 1, 1) := by decide +kernel
theorem dX10_reward_7 : decode cX10_reward 7 = .ok (.iload_n 2, 1) := by decide +kernel
theorem dX10_reward_8 : decode cX10_reward 8 = .ok (.invokevirtual 113, 3) := by decide +kernel
theorem dX10_reward_11 : decode cX10_reward 11 = .ok (.ifCond .eq 30, 3) := by decide +kernel
theorem dX10_reward_14 : decode cX10_reward 14 = .ok (.iload_n 3, 1) := by decide +kernel
theorem dX10_reward_15 : decode cX10_reward 15 = .ok (.i2l, 1) := by decide +kernel
theorem dX10_reward_16 : decode cX10_reward 16 = .ok (.ldc2_w 117, 3) := by decide +kernel
theorem dX10_reward_19 : decode cX10_reward 19 = .ok (.ldc2_w 119, 3) := by decide +kernel
theorem dX10_reward_22 : decode cX10_reward 22 = .ok (.invokestatic 121, 3) := by decide +kernel
theorem dX10_reward_25 : decode cX10_reward 25 = .ok (.ifCond .eq 16, 3) := by decide +kernel
theorem dX10_reward_28 : decode cX10_reward 28 = .ok (.iload 4, 2) := by decide +kernel
theorem dX10_reward_30 : decode cX10_reward 30 = .ok (.i2l, 1) := by decide +kernel
theorem dX10_reward_31 : decode cX10_reward 31 = .ok (.lconst 1, 1) := by decide +kernel
theorem dX10_reward_32 : decode cX10_reward 32 = .ok (.ldc2_w 125, 3) := by decide +kernel
theorem dX10_reward_35 : decode cX10_reward 35 = .ok (.invokestatic 121, 3) := by decide +kernel
theorem dX10_reward_38 : decode cX10_reward 38 = .ok (.ifCond .ne 5, 3) := by decide +kernel
theorem dX10_reward_41 : decode cX10_reward 41 = .ok (.iconst 0, 1) := by decide +kernel
theorem dX10_reward_42 : decode cX10_reward 42 = .ok (.ireturn, 1) := by decide +kernel
theorem dX10_reward_43 : decode cX10_reward 43 = .ok (.aload_n 0, 1) := by decide +kernel
theorem dX10_reward_44 : decode cX10_reward 44 = .ok (.getfield 13, 3) := by decide +kernel
theorem dX10_reward_47 : decode cX10_reward 47 = .ok (.iconst 4, 1) := by decide +kernel
theorem dX10_reward_48 : decode cX10_reward 48 = .ok (.iload_n 1, 1) := by decide +kernel
theorem dX10_reward_49 : decode cX10_reward 49 = .ok (.imul, 1) := by decide +kernel
theorem dX10_reward_50 : decode cX10_reward 50 = .ok (.iload_n 2, 1) := by decide +kernel
theorem dX10_reward_51 : decode cX10_reward 51 = .ok (.iadd, 1) := by decide +kernel
theorem dX10_reward_52 : decode cX10_reward 52 = .ok (.iload_n 3, 1) := by decide +kernel
theorem dX10_reward_53 : decode cX10_reward 53 = .ok (.iastore, 1) := by decide +kernel
theorem dX10_reward_54 : decode cX10_reward 54 = .ok (.aload_n 0, 1) := by decide +kernel
theorem dX10_reward_55 : decode cX10_reward 55 = .ok (.getfield 16, 3) := by decide +kernel
theorem dX10_reward_58 : decode cX10_reward 58 = .ok (.iconst 4, 1) := by decide +kernel
theorem dX10_reward_59 : decode cX10_reward 59 = .ok (.iload_n 1, 1) := by decide +kernel
theorem dX10_reward_60 : decode cX10_reward 60 = .ok (.imul, 1) := by decide +kernel
theorem dX10_reward_61 : decode cX10_reward 61 = .ok (.iload_n 2, 1) := by decide +kernel
theorem dX10_reward_62 : decode cX10_reward 62 = .ok (.iadd, 1) := by decide +kernel
theorem dX10_reward_63 : decode cX10_reward 63 = .ok (.iload 4, 2) := by decide +kernel
theorem dX10_reward_65 : decode cX10_reward 65 = .ok (.iastore, 1) := by decide +kernel
theorem dX10_reward_66 : decode cX10_reward 66 = .ok (.aload_n 0, 1) := by decide +kernel
theorem dX10_reward_67 : decode cX10_reward 67 = .ok (.invokevirtual 106, 3) := by decide +kernel
theorem dX10_reward_70 : decode cX10_reward 70 = .ok (.iconst 1, 1) := by decide +kernel
theorem dX10_reward_71 : decode cX10_reward 71 = .ok (.ireturn, 1) := by decide +kernel
set_option maxRecDepth 20000 in
theorem ggX10_move_X10_isAction : GoodIn wsX10_move wsX10_isAction := goodIn_r _ [8, 9, 10, 11, 12, 7, 13, 14, 24, 25, 26, 27, 28, 29, 30, 31, 32, 33, 34, 35, 36, 37, 38, 39, 40, 41, 42, 43] rfl rfl
set_option maxRecDepth 20000 in
theorem gX10_move_X10_isAction : GoodIn wsX10_move (wsV RX10 113 RX10 yX10_isAction wsX10_isAction) := goodIn_app (goodIn_of _ (by decide +kernel)) ggX10_move_X10_isAction
set_option maxRecDepth 20000 in
theorem ggX10_move_X10_isState : GoodIn wsX10_move wsX10_isState := goodIn_r _ [13, 14, 24, 25, 26, 27, 28, 29, 30, 31, 32, 33, 34, 35, 36, 37, 38, 39, 40, 41, 42, 43] rfl rfl
set_option maxRecDepth 20000 in
theorem gX10_move_X10_isState : GoodIn wsX10_move (wsV RX10 109 RX10 yX10_isState wsX10_isState) := goodIn_app (goodIn_of _ (by decide +kernel)) ggX10_move_X10_isState
set_option maxRecDepth 20000 in
theorem ggX10_move_X10_in : GoodIn wsX10_move wsX10_in := goodIn_r _ [17] rfl rfl
set_option maxRecDepth 20000 in
theorem gX10_move_X10_in : GoodIn wsX10_move (va_wsS RX10 121 yX10_in wsX10_in) := goodIn_app (goodIn_of _ (by decide +kernel)) ggX10_move_X10_in
set_option maxRecDepth 20000 in
theorem ggX10_move_X10_change : GoodIn wsX10_move wsX10_change := goodIn_r _ [21, 22, 23, 24, 25, 26, 27, 28, 29, 30, 31, 32, 33, 34, 35, 36, 37, 38, 39, 40, 41, 42, 43] rfl rfl
set_option maxRecDepth 20000 in
theorem gX10_move_X10_change : GoodIn wsX10_move (wsV RX10 106 RX10 yX10_change wsX10_change) := goodIn_app (goodIn_of _ (by decide +kernel)) ggX10_move_X10_change
theorem dX10_move_0 : decode cX10_move 0 = .ok (.aload_n 0, 1) := by decide +kernel
theorem dX10_move_1 : decode cX10_move 1 = .ok (.iconst 0, 1) := by decide +kernel
theorem dX10_move_2 : decode cX10_move 2 = .ok (.putfield 56, 3) := by decide +kernel
theorem dX10_move_5 : decode cX10_move 5 = .ok (.aload_n 0, 1) := by decide +kernel
theorem dX10_move_6 : decode cX10_move 6 = .ok (.iload_n 1, 1) := by decide +kernel
theorem dX10_move_7 : decode cX10_move 7 = .ok (.iload_n 2, 1) := by decide +kernel
theorem dX10_move_8 : decode cX10_move 8 = .ok (.invokevirtual 113, 3) := by decide +kernel
theorem dX10_move_11 : decode cX10_move 11 = .ok (.ifCond .eq 24, 3) := by decide +kernel
theorem dX10_move_14 : decode cX10_move 14 = .ok (.aload_n 0, 1) := by decide +kernel
theorem dX10_move_15 : decode cX10_move 15 = .ok (.iload_n 3, 1) := by decide +kernel
theorem dX10_move_16 : decode cX10_move 16 = .ok (.invokevirtual 109, 3) := by decide +kernel
theorem dX10_move_19 : decode cX10_move 19 = .ok (.ifCond .eq 16, 3) := by decide +kernel
theorem dX10_move_22 : decode cX10_move 22 = .ok (.iload 4, 2) := by decide +kernel
theorem dX10_move_24 : decode cX10_move 24 = .ok (.i2l, 1) := by decide +kernel
theorem dX10_move_25 : decode cX10_move 25 = .ok (.lconst 0, 1) := by decide +kernel
theorem dX10_move_26 : decode cX10_move 26 = .ok (.ldc2_w 125, 3) := by decide +kernel
theorem dX10_move_29 : decode cX10_move 29 = .ok (.invokestatic 121, 3) := by decide +kernel
theorem dX10_move_32 : decode cX10_move 32 = .ok (.ifCond .ne 5, 3) := by decide +kernel
theorem dX10_move_35 : decode cX10_move 35 = .ok (.iconst 0, 1) := by decide +kernel
theorem dX10_move_36 : decode cX10_move 36 = .ok (.ireturn, 1) := by decide +kernel
theorem dX10_move_37 : decode cX10_move 37 = .ok (.aload_n 0, 1) := by decide +kernel
theorem dX10_move_38 : decode cX10_move 38 = .ok (.getfield 19, 3) := by decide +kernel
theorem dX10_move_41 : decode cX10_move 41 = .ok (.bipush 6, 2) := by decide +kernel
theorem dX10_move_43 : decode cX10_move 43 = .ok (.iconst 4, 1) := by decide +kernel
theorem dX10_move_44 : decode cX10_move 44 = .ok (.iload_n 1, 1) := by decide +kernel
theorem dX10_move_45 : decode cX10_move 45 = .ok (.imul, 1) := by decide +kernel
theorem dX10_move_46 : decode cX10_move 46 = .ok (.iload_n 2, 1) := by decide +kernel
theorem dX10_move_47 : decode cX10_move 47 = .ok (.iadd, 1) := by decide +kernel
theorem dX10_move_48 : decode cX10_move 48 = .ok (.imul, 1) := by decide +kernel
theorem dX10_move_49 : decode cX10_move 49 = .ok (.iload_n 3, 1) := by decide +kernel
theorem dX10_move_50 : decode cX10_move 50 = .ok (.iadd, 1) := by decide +kernel
theorem dX10_move_51 : decode cX10_move 51 = .ok (.iload 4, 2) := by decide +kernel
theorem dX10_move_53 : decode cX10_move 53 = .ok (.iastore, 1) := by decide +kernel
theorem dX10_move_54 : decode cX10_move 54 = .ok (.aload_n 0, 1) := by decide +kernel
theorem dX10_move_55 : decode cX10_move 55 = .ok (.invokevirtual 106, 3) := by decide +kernel
theorem dX10_move_58 : decode cX10_move 58 = .ok (.iconst 1, 1) := by decide +kernel
theorem dX10_move_59 : decode cX10_move 59 = .ok (.ireturn, 1) := by decide +kernel
set_option maxRecDepth 20000 in
theorem ggX10_discount_X10_change : GoodIn wsX10_discount wsX10_change := goodIn_r _ [8, 9, 10, 11, 12, 13, 14, 15, 16, 17, 18, 19, 20, 21, 22, 23, 24, 25, 26, 27, 28, 29, 30] rfl rfl
set_option maxRecDepth 20000 in
theorem gX10_discount_X10_change : GoodIn wsX10_discount (wsV RX10 106 RX10 yX10_change wsX10_change) := goodIn_app (goodIn_of _ (by decide +kernel)) ggX10_discount_X10_change
theorem dX10_discount_0 : decode cX10_discount 0 = .ok (.aload_n 0, 1) := by decide +kernel
theorem dX10_discount_1 : decode cX10_discount 1 = .ok (.iconst 0, 1) := by decide +kernel
theorem dX10_discount_2 : decode cX10_discount 2 = .ok (.putfield 56, 3) := by decide +kernel
theorem dX10_discount_5 : decode cX10_discount 5 = .ok (.iload_n 1, 1) := by decide +kernel
theorem dX10_discount_6 : decode cX10_discount 6 = .ok (.ifCond .lt 14, 3) := by decide +kernel
theorem dX10_discount_9 : decode cX10_discount 9 = .ok (.iload_n 1, 1) := by decide +kernel
theorem dX10_discount_10 : decode cX10_discount 10 = .ok (.iload_n 2, 1) := by decide +kernel
theorem dX10_discount_11 : decode cX10_discount 11 = .ok (.if_icmp .ge 9, 3) := by decide +kernel
theorem dX10_discount_14 : decode cX10_discount 14 = .ok (.iload_n 2, 1) := by decide +kernel
theorem dX10_discount_15 : decode cX10_discount 15 = .ok (.bipush 20, 2) := by decide +kernel
theorem dX10_discount_17 : decode cX10_discount 17 = .ok (.if_icmp .le 5, 3) := by decide +kernel
theorem dX10_discount_20 : decode cX10_discount 20 = .ok (.iconst 0, 1) := by decide +kernel
theorem dX10_discount_21 : decode cX10_discount 21 = .ok (.ireturn, 1) := by decide +kernel
theorem dX10_discount_22 : decode cX10_discount 22 = .ok (.aload_n 0, 1) := by decide +kernel
theorem dX10_discount_23 : decode cX10_discount 23 = .ok (.iload_n 1, 1) := by decide +kernel
theorem dX10_discount_24 : decode cX10_discount 24 = .ok (.putfield 22, 3) := by decide +kernel
theorem dX10_discount_27 : decode cX10_discount 27 = .ok (.aload_n 0, 1) := by decide +kernel
theorem dX10_discount_28 : decode cX10_discount 28 = .ok (.iload_n 2, 1) := by decide +kernel
theorem dX10_discount_29 : decode cX10_discount 29 = .ok (.putfield 26, 3) := by decide +kernel
theorem dX10_discount_32 : decode cX10_discount 32 = .ok (.aload_n 0, 1) := by decide +kernel
theorem dX10_discount_33 : decode cX10_discount 33 = .ok (.invokevirtual 106, 3) := by decide +kernel
theorem dX10_discount_36 : decode cX10_discount 36 = .ok (.iconst 1, 1) := by decide +kernel
theorem dX10_discount_37 : decode cX10_discount 37 = .ok (.ireturn, 1) := by decide +kernel
theorem dX10_sumOf_0 : decode cX10_sumOf 0 = .ok (.iconst 0, 1) := by decide +kernel
theorem dX10_sumOf_1 : decode cX10_sumOf 1 = .ok (.istore_n 2, 1) := by decide +kernel
theorem dX10_sumOf_2 : decode cX10_sumOf 2 = .ok (.iconst 0, 1) := by decide +kernel
theorem dX10_sumOf_3 : decode cX10_sumOf 3 = .ok (.istore_n 3, 1) := by decide +kernel
theorem dX10_sumOf_4 : decode cX10_sumOf 4 = .ok (.iload_n 3, 1) := by decide +kernel
theorem dX10_sumOf_5 : decode cX10_sumOf 5 = .ok (.bipush 6, 2) := by decide +kernel
theorem dX10_sumOf_7 : decode cX10_sumOf 7 = .ok (.if_icmp .ge 23, 3) := by decide +kernel
theorem dX10_sumOf_10 : decode cX10_sumOf 10 = .ok (.iload_n 2, 1) := by decide +kernel
theorem dX10_sumOf_11 : decode cX10_sumOf 11 = .ok (.aload_n 0, 1) := by decide +kernel
theorem dX10_sumOf_12 : decode cX10_sumOf 12 = .ok (.getfield 19, 3) := by decide +kernel
theorem dX10_sumOf_15 : decode cX10_sumOf 15 = .ok (.bipush 6, 2) := by decide +kernel
theorem dX10_sumOf_17 : decode cX10_sumOf 17 = .ok (.iload_n 1, 1) := by decide +kernel
theorem dX10_sumOf_18 : decode cX10_sumOf 18 = .ok (.imul, 1) := by decide +kernel
theorem dX10_sumOf_19 : decode cX10_sumOf 19 = .ok (.iload_n 3, 1) := by decide +kernel
theorem dX10_sumOf_20 : decode cX10_sumOf 20 = .ok (.iadd, 1) := by decide +kernel
theorem dX10_sumOf_21 : decode cX10_sumOf 21 = .ok (.iaload, 1) := by decide +kernel
theorem dX10_sumOf_22 : decode cX10_sumOf 22 = .ok (.iadd, 1) := by decide +kernel
theorem dX10_sumOf_23 : decode cX10_sumOf 23 = .ok (.istore_n 2, 1) := by decide +kernel
theorem dX10_sumOf_24 : decode cX10_sumOf 24 = .ok (.iinc 3 1, 3) := by decide +kernel
theorem dX10_sumOf_27 : decode cX10_sumOf 27 = .ok (.goto (-23), 3) := by decide +kernel
theorem dX10_sumOf_30 : decode cX10_sumOf 30 = .ok (.iload_n 2, 1) := by decide +kernel
theorem dX10_sumOf_31 : decode cX10_sumOf 31 = .ok (.ireturn, 1) := by decide +kernel
set_option maxRecDepth 20000 in
theorem ggX10_readyCount_X10_sumOf : GoodIn wsX10_readyCount wsX10_sumOf := goodIn_r _ [7, 8, 9, 10, 11, 12, 13, 14, 15, 16, 17, 18, 19, 20, 21, 22, 23, 24, 25, 26, 27, 28] rfl rfl
set_option maxRecDepth 20000 in
theorem gX10_readyCount_X10_sumOf : GoodIn wsX10_readyCount (wsV RX10 127 RX10 yX10_sumOf wsX10_sumOf) := goodIn_app (goodIn_of _ (by decide +kernel)) ggX10_readyCount_X10_sumOf
theorem dX10_readyCount_0 : decode cX10_readyCount 0 = .ok (.iconst 0, 1) := by decide +kernel
theorem dX10_readyCount_1 : decode cX10_readyCount 1 = .ok (.istore_n 1, 1) := by decide +kernel
theorem dX10_readyCount_2 : decode cX10_readyCount 2 = .ok (.iconst 0, 1) := by decide +kernel
theorem dX10_readyCount_3 : decode cX10_readyCount 3 = .ok (.istore_n 2, 1) := by decide +kernel
theorem dX10_readyCount_4 : decode cX10_readyCount 4 = .ok (.iload_n 2, 1) := by decide +kernel
theorem dX10_readyCount_5 : decode cX10_readyCount 5 = .ok (.aload_n 0, 1) := by decide +kernel
theorem dX10_readyCount_6 : decode cX10_readyCount 6 = .ok (.getfield 103, 3) := by decide +kernel
theorem dX10_readyCount_9 : decode cX10_readyCount 9 = .ok (.if_icmp .ge 47, 3) := by decide +kernel
theorem dX10_readyCount_12 : decode cX10_readyCount 12 = .ok (.iconst 0, 1) := by decide +kernel
theorem dX10_readyCount_13 : decode cX10_readyCount 13 = .ok (.istore_n 3, 1) := by decide +kernel
theorem dX10_readyCount_14 : decode cX10_readyCount 14 = .ok (.iload_n 3, 1) := by decide +kernel
theorem dX10_readyCount_15 : decode cX10_readyCount 15 = .ok (.aload_n 0, 1) := by decide +kernel
theorem dX10_readyCount_16 : decode cX10_readyCount 16 = .ok (.getfield 7, 3) := by decide +kernel
theorem dX10_readyCount_19 : decode cX10_readyCount 19 = .ok (.iload_n 2, 1) := by decide +kernel
theorem dX10_readyCount_20 : decode cX10_readyCount 20 = .ok (.iaload, 1) := by decide +kernel
theorem dX10_readyCount_21 : decode cX10_readyCount 21 = .ok (.if_icmp .ge 29, 3) := by decide +kernel
theorem dX10_readyCount_24 : decode cX10_readyCount 24 = .ok (.aload_n 0, 1) := by decide +kernel
theorem dX10_readyCount_25 : decode cX10_readyCount 25 = .ok (.iconst 4, 1) := by decide +kernel
theorem dX10_readyCount_26 : decode cX10_readyCount 26 = .ok (.iload_n 2, 1) := by decide +kernel
theorem dX10_readyCount_27 : decode cX10_readyCount 27 = .ok (.imul, 1) := by decide +kernel
theorem dX10_readyCount_28 : decode cX10_readyCount 28 = .ok (.iload_n 3, 1) := by decide +kernel
theorem dX10_readyCount_29 : decode cX10_readyCount 29 = .ok (.iadd, 1) := by decide +kernel
theorem dX10_readyCount_30 : decode cX10_readyCount 30 = .ok (.invokevirtual 127, 3) := by decide +kernel
theorem dX10_readyCount_33 : decode cX10_readyCount 33 = .ok (.ifCond .le 9, 3) := by decide +kernel
theorem dX10_readyCount_36 : decode cX10_readyCount 36 = .ok (.iload_n 1, 1) := by decide +kernel
theorem dX10_readyCount_37 : decode cX10_readyCount 37 = .ok (.iconst 1, 1) := by decide +kernel
theorem dX10_readyCount_38 : decode cX10_readyCount 38 = .ok (.iadd, 1) := by decide +kernel
theorem dX10_readyCount_39 : decode cX10_readyCount 39 = .ok (.goto 4, 3) := by decide +kernel
theorem dX10_readyCount_42 : decode cX10_readyCount 42 = .ok (.iload_n 1, 1) := by decide +kernel
theorem dX10_readyCount_43 : decode cX10_readyCount 43 = .ok (.istore_n 1, 1) := by decide +kernel
theorem dX10_readyCount_44 : decode cX10_readyCount 44 = .ok (.iinc 3 1, 3) := by decide +kernel
theorem dX10_readyCount_47 : decode cX10_readyCount 47 = .ok (.goto (-33), 3) := by decide +kernel
theorem dX10_readyCount_50 : decode cX10_readyCount 50 = .ok (.iinc 2 1, 3) := by decide +kernel
theorem dX10_readyCount_53 : decode cX10_readyCount 53 = .ok (.goto (-49), 3) := by decide +kernel
theorem dX10_readyCount_56 : decode cX10_readyCount 56 = .ok (.iload_n 1, 1) := by decide +kernel
theorem dX10_readyCount_57 : decode cX10_readyCount 57 = .ok (.ireturn, 1) := by decide +kernel
theorem dX10_allActions_0 : decode cX10_allActions 0 = .ok (.iconst 0, 1) := by decide +kernel
theorem dX10_allActions_1 : decode cX10_allActions 1 = .ok (.istore_n 1, 1) := by decide +kernel
theorem dX10_allActions_2 : decode cX10_allActions 2 = .ok (.iconst 0, 1) := by decide +kernel
theorem dX10_allActions_3 : decode cX10_allActions 3 = .ok (.istore_n 2, 1) := by decide +kernel
theorem dX10_allActions_4 : decode cX10_allActions 4 = .ok (.iload_n 2, 1) := by decide +kernel
theorem dX10_allActions_5 : decode cX10_allActions 5 = .ok (.aload_n 0, 1) := by decide +kernel
theorem dX10_allActions_6 : decode cX10_allActions 6 = .ok (.getfield 103, 3) := by decide +kernel
theorem dX10_allActions_9 : decode cX10_allActions 9 = .ok (.if_icmp .ge 18, 3) := by decide +kernel
theorem dX10_allActions_12 : decode cX10_allActions 12 = .ok (.iload_n 1, 1) := by decide +kernel
theorem dX10_allActions_13 : decode cX10_allActions 13 = .ok (.aload_n 0, 1) := by decide +kernel
theorem dX10_allActions_14 : decode cX10_allActions 14 = .ok (.getfield 7, 3) := by decide +kernel
theorem dX10_allActions_17 : decode cX10_allActions 17 = .ok (.iload_n 2, 1) := by decide +kernel
theorem dX10_allActions_18 : decode cX10_allActions 18 = .ok (.iaload, 1) := by decide +kernel
theorem dX10_allActions_19 : decode cX10_allActions 19 = .ok (.iadd, 1) := by decide +kernel
theorem dX10_allActions_20 : decode cX10_allActions 20 = .ok (.istore_n 1, 1) := by decide +kernel
theorem dX10_allActions_21 : decode cX10_allActions 21 = .ok (.iinc 2 1, 3) := by decide +kernel
theorem dX10_allActions_24 : decode cX10_allActions 24 = .ok (.goto (-20), 3) := by decide +kernel
theorem dX10_allActions_27 : decode cX10_allActions 27 = .ok (.iload_n 1, 1) := by decide +kernel
theorem dX10_allActions_28 : decode cX10_allActions 28 = .ok (.ireturn, 1) := by decide +kernel
set_option maxRecDepth 20000 in
theorem ggX10_isReady_X10_readyCount : GoodIn wsX10_isReady wsX10_readyCount := goodIn_r _ [7, 1, 2, 8, 9, 10, 6, 11, 12, 17, 18, 19, 20, 21, 22, 23, 24, 25, 26, 27, 28, 29, 30, 31, 32, 33, 34, 35, 36] rfl rfl
set_option maxRecDepth 20000 in
theorem gX10_isReady_X10_readyCount : GoodIn wsX10_isReady (wsV RX10 131 RX10 yX10_readyCount wsX10_readyCount) := goodIn_app (goodIn_of _ (by decide +kernel)) ggX10_isReady_X10_readyCount
set_option maxRecDepth 20000 in
theorem ggX10_isReady_X10_allActions : GoodIn wsX10_isReady wsX10_allActions := goodIn_r _ [16, 1, 2, 17, 18, 19, 20, 21, 22, 23, 24, 25, 26, 27, 28, 29, 30, 31, 32, 33, 34, 35, 36] rfl rfl
set_option maxRecDepth 20000 in
theorem gX10_isReady_X10_allActions : GoodIn wsX10_isReady (wsV RX10 135 RX10 yX10_allActions wsX10_allActions) := goodIn_app (goodIn_of _ (by decide +kernel)) ggX10_isReady_X10_allActions
theorem dX10_isReady_0 : decode cX10_isReady 0 = .ok (.aload_n 0, 1) := by decide +kernel
theorem dX10_isReady_1 : decode cX10_isReady 1 = .ok (.getfield 103, 3) := by decide +kernel
theorem dX10_isReady_4 : decode cX10_isReady 4 = .ok (.ifCond .le 18, 3) := by decide +kernel
theorem dX10_isReady_7 : decode cX10_isReady 7 = .ok (.aload_n 0, 1) := by decide +kernel
theorem dX10_isReady_8 : decode cX10_isReady 8 = .ok (.invokevirtual 131, 3) := by decide +kernel
theorem dX10_isReady_11 : decode cX10_isReady 11 = .ok (.aload_n 0, 1) := by decide +kernel
theorem dX10_isReady_12 : decode cX10_isReady 12 = .ok (.invokevirtual 135, 3) := by decide +kernel
theorem dX10_isReady_15 : decode cX10_isReady 15 = .ok (.if_icmp .ne 7, 3) := by decide +kernel
theorem dX10_isReady_18 : decode cX10_isReady 18 = .ok (.iconst 1, 1) := by decide +kernel
theorem dX10_isReady_19 : decode cX10_isReady 19 = .ok (.goto 4, 3) := by decide +kernel
theorem dX10_isReady_22 : decode cX10_isReady 22 = .ok (.iconst 0, 1) := by decide +kernel
theorem dX10_isReady_23 : decode cX10_isReady 23 = .ok (.istore_n 1, 1) := by decide +kernel
theorem dX10_isReady_24 : decode cX10_isReady 24 = .ok (.iconst 0, 1) := by decide +kernel
theorem dX10_isReady_25 : decode cX10_isReady 25 = .ok (.istore_n 2, 1) := by decide +kernel
theorem dX10_isReady_26 : decode cX10_isReady 26 = .ok (.iload_n 2, 1) := by decide +kernel
theorem dX10_isReady_27 : decode cX10_isReady 27 = .ok (.aload_n 0, 1) := by decide +kernel
theorem dX10_isReady_28 : decode cX10_isReady 28 = .ok (.getfield 103, 3) := by decide +kernel
theorem dX10_isReady_31 : decode cX10_isReady 31 = .ok (.if_icmp .ge 28, 3) := by decide +kernel
theorem dX10_isReady_34 : decode cX10_isReady 34 = .ok (.iload_n 1, 1) := by decide +kernel
theorem dX10_isReady_35 : decode cX10_isReady 35 = .ok (.ifCond .eq 16, 3) := by decide +kernel
theorem dX10_isReady_38 : decode cX10_isReady 38 = .ok (.aload_n 0, 1) := by decide +kernel
theorem dX10_isReady_39 : decode cX10_isReady 39 = .ok (.getfield 7, 3) := by decide +kernel
theorem dX10_isReady_42 : decode cX10_isReady 42 = .ok (.iload_n 2, 1) := by decide +kernel
theorem dX10_isReady_43 : decode cX10_isReady 43 = .ok (.iaload, 1) := by decide +kernel
theorem dX10_isReady_44 : decode cX10_isReady 44 = .ok (.ifCond .le 7, 3) := by decide +kernel
theorem dX10_isReady_47 : decode cX10_isReady 47 = .ok (.iconst 1, 1) := by decide +kernel
theorem dX10_isReady_48 : decode cX10_isReady 48 = .ok (.goto 4, 3) := by decide +kernel
theorem dX10_isReady_51 : decode cX10_isReady 51 = .ok (.iconst 0, 1) := by decide +kernel
theorem dX10_isReady_52 : decode cX10_isReady 52 = .ok (.istore_n 1, 1) := by decide +kernel
theorem dX10_isReady_53 : decode cX10_isReady 53 = .ok (.iinc 2 1, 3) := by decide +kernel
theorem dX10_isReady_56 : decode cX10_isReady 56 = .ok (.goto (-30), 3) := by decide +kernel
theorem dX10_isReady_59 : decode cX10_isReady 59 = .ok (.iload_n 1, 1) := by decide +kernel
theorem dX10_isReady_60 : decode cX10_isReady 60 = .ok (.ireturn, 1) := by decide +kernel
theorem dX10_dividing_0 : decode cX10_dividing 0 = .ok (.iload_n 0, 1) := by decide +kernel
theorem dX10_dividing_1 : decode cX10_dividing 1 = .ok (.istore_n 2, 1) := by decide +kernel
theorem dX10_dividing_2 : decode cX10_dividing 2 = .ok (.iload_n 1, 1) := by decide +kernel
theorem dX10_dividing_3 : decode cX10_dividing 3 = .ok (.istore_n 3, 1) := by decide +kernel
theorem dX10_dividing_4 : decode cX10_dividing 4 = .ok (.iload_n 3, 1) := by decide +kernel
theorem dX10_dividing_5 : decode cX10_dividing 5 = .ok (.ifCond .le 16, 3) := by decide +kernel
theorem dX10_dividing_8 : decode cX10_dividing 8 = .ok (.iload_n 2, 1) := by decide +kernel
theorem dX10_dividing_9 : decode cX10_dividing 9 = .ok (.iload_n 3, 1) := by decide +kernel
theorem dX10_dividing_10 : decode cX10_dividing 10 = .ok (.irem, 1) := by decide +kernel
theorem dX10_dividing_11 : decode cX10_dividing 11 = .ok (.istore 4, 2) := by decide +kernel
theorem dX10_dividing_13 : decode cX10_dividing 13 = .ok (.iload_n 3, 1) := by decide +kernel
theorem dX10_dividing_14 : decode cX10_dividing 14 = .ok (.istore_n 2, 1) := by decide +kernel
theorem dX10_dividing_15 : decode cX10_dividing 15 = .ok (.iload 4, 2) := by decide +kernel
theorem dX10_dividing_17 : decode cX10_dividing 17 = .ok (.istore_n 3, 1) := by decide +kernel
theorem dX10_dividing_18 : decode cX10_dividing 18 = .ok (.goto (-14), 3) := by decide +kernel
theorem dX10_dividing_21 : decode cX10_dividing 21 = .ok (.iload_n 2, 1) := by decide +kernel
theorem dX10_dividing_22 : decode cX10_dividing 22 = .ok (.ireturn, 1) := by decide +kernel
