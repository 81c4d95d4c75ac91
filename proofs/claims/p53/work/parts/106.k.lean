theorem dX0_state_0 : decode cX0_state 0 = .ok (.aload_n 0, 1) := by decide +kernel
theorem dX0_state_1 : decode cX0_state 1 = .ok (.getfield 13, 3) := by decide +kernel
theorem dX0_state_4 : decode cX0_state 4 = .ok (.aload_n 0, 1) := by decide +kernel
theorem dX0_state_5 : decode cX0_state 5 = .ok (.getfield 18, 3) := by decide +kernel
theorem dX0_state_8 : decode cX0_state 8 = .ok (.aaload, 1) := by decide +kernel
theorem dX0_state_9 : decode cX0_state 9 = .ok (.areturn, 1) := by decide +kernel
set_option maxRecDepth 20000 in
theorem ggX0_nextState_X4_copy : GoodIn wsX0_nextState wsX4_copy := goodIn_r _ [13, 14, 15, 16, 17, 18, 19, 20, 21, 22, 27, 28, 29, 30, 31] rfl rfl
set_option maxRecDepth 20000 in
theorem gX0_nextState_X4_copy : GoodIn wsX0_nextState (wsV RX0 22 RX4 yX4_copy wsX4_copy) := goodIn_app (goodIn_of _ (by decide +kernel)) ggX0_nextState_X4_copy
theorem dX0_nextState_0 : decode cX0_nextState 0 = .ok (.aload_n 0, 1) := by decide +kernel
theorem dX0_nextState_1 : decode cX0_nextState 1 = .ok (.getfield 13, 3) := by decide +kernel
theorem dX0_nextState_4 : decode cX0_nextState 4 = .ok (.aload_n 0, 1) := by decide +kernel
theorem dX0_nextState_5 : decode cX0_nextState 5 = .ok (.getfield 18, 3) := by decide +kernel
theorem dX0_nextState_8 : decode cX0_nextState 8 = .ok (.aaload, 1) := by decide +kernel
theorem dX0_nextState_9 : decode cX0_nextState 9 = .ok (.astore_n 1, 1) := by decide +kernel
theorem dX0_nextState_10 : decode cX0_nextState 10 = .ok (.aload_n 0, 1) := by decide +kernel
theorem dX0_nextState_11 : decode cX0_nextState 11 = .ok (.aload_n 0, 1) := by decide +kernel
theorem dX0_nextState_12 : decode cX0_nextState 12 = .ok (.getfield 18, 3) := by decide +kernel
theorem dX0_nextState_15 : decode cX0_nextState 15 = .ok (.iconst 1, 1) := by decide +kernel
theorem dX0_nextState_16 : decode cX0_nextState 16 = .ok (.iadd, 1) := by decide +kernel
theorem dX0_nextState_17 : decode cX0_nextState 17 = .ok (.bipush 41, 2) := by decide +kernel
theorem dX0_nextState_19 : decode cX0_nextState 19 = .ok (.irem, 1) := by decide +kernel
theorem dX0_nextState_20 : decode cX0_nextState 20 = .ok (.putfield 18, 3) := by decide +kernel
theorem dX0_nextState_23 : decode cX0_nextState 23 = .ok (.aload_n 0, 1) := by decide +kernel
theorem dX0_nextState_24 : decode cX0_nextState 24 = .ok (.getfield 13, 3) := by decide +kernel
theorem dX0_nextState_27 : decode cX0_nextState 27 = .ok (.aload_n 0, 1) := by decide +kernel
theorem dX0_nextState_28 : decode cX0_nextState 28 = .ok (.getfield 18, 3) := by decide +kernel
theorem dX0_nextState_31 : decode cX0_nextState 31 = .ok (.aaload, 1) := by decide +kernel
theorem dX0_nextState_32 : decode cX0_nextState 32 = .ok (.aload_n 1, 1) := by decide +kernel
theorem dX0_nextState_33 : decode cX0_nextState 33 = .ok (.invokevirtual 22, 3) := by decide +kernel
theorem dX0_nextState_36 : decode cX0_nextState 36 = .ok (.aload_n 0, 1) := by decide +kernel
theorem dX0_nextState_37 : decode cX0_nextState 37 = .ok (.aload_n 0, 1) := by decide +kernel
theorem dX0_nextState_38 : decode cX0_nextState 38 = .ok (.getfield 26, 3) := by decide +kernel
theorem dX0_nextState_41 : decode cX0_nextState 41 = .ok (.iconst 1, 1) := by decide +kernel
theorem dX0_nextState_42 : decode cX0_nextState 42 = .ok (.iadd, 1) := by decide +kernel
theorem dX0_nextState_43 : decode cX0_nextState 43 = .ok (.bipush 40, 2) := by decide +kernel
theorem dX0_nextState_45 : decode cX0_nextState 45 = .ok (.invokestatic 29, 3) := by decide +kernel
theorem dX0_nextState_48 : decode cX0_nextState 48 = .ok (.putfield 26, 3) := by decide +kernel
theorem dX0_nextState_51 : decode cX0_nextState 51 = .ok (.aload_n 0, 1) := by decide +kernel
theorem dX0_nextState_52 : decode cX0_nextState 52 = .ok (.iconst 0, 1) := by decide +kernel
theorem dX0_nextState_53 : decode cX0_nextState 53 = .ok (.putfield 35, 3) := by decide +kernel
theorem dX0_nextState_56 : decode cX0_nextState 56 = .ok (.aload_n 0, 1) := by decide +kernel
theorem dX0_nextState_57 : decode cX0_nextState 57 = .ok (.getfield 13, 3) := by decide +kernel
theorem dX0_nextState_60 : decode cX0_nextState 60 = .ok (.aload_n 0, 1) := by decide +kernel
theorem dX0_nextState_61 : decode cX0_nextState 61 = .ok (.getfield 18, 3) := by decide +kernel
theorem dX0_nextState_64 : decode cX0_nextState 64 = .ok (.aaload, 1) := by decide +kernel
theorem dX0_nextState_65 : decode cX0_nextState 65 = .ok (.areturn, 1) := by decide +kernel
set_option maxRecDepth 20000 in
theorem ggX1_value_X1_push : GoodIn wsX1_value wsX1_push := goodIn_r _ [9, 2, 10, 21, 22, 23, 24, 25, 26] rfl rfl
set_option maxRecDepth 20000 in
theorem gX1_value_X1_push : GoodIn wsX1_value (wsV RX1 28 RX1 yX1_push wsX1_push) := goodIn_app (goodIn_of _ (by decide +kernel)) ggX1_value_X1_push
set_option maxRecDepth 20000 in
theorem ggX1_value_X1_isUnitWord : GoodIn wsX1_value wsX1_isUnitWord := goodIn_r _ [13] rfl rfl
set_option maxRecDepth 20000 in
theorem gX1_value_X1_isUnitWord : GoodIn wsX1_value (va_wsS RX1 32 yX1_isUnitWord wsX1_isUnitWord) := goodIn_app (goodIn_of _ (by decide +kernel)) ggX1_value_X1_isUnitWord
set_option maxRecDepth 20000 in
theorem ggX1_value_X1_pop : GoodIn wsX1_value wsX1_pop := goodIn_r _ [17, 2, 10, 21, 22, 23, 24, 25, 26] rfl rfl
set_option maxRecDepth 20000 in
theorem gX1_value_X1_pop : GoodIn wsX1_value (wsV RX1 36 RX1 yX1_pop wsX1_pop) := goodIn_app (goodIn_of _ (by decide +kernel)) ggX1_value_X1_pop
set_option maxRecDepth 20000 in
theorem ggX1_value_X1_joined : GoodIn wsX1_value wsX1_joined := goodIn_r _ [20] rfl rfl
set_option maxRecDepth 20000 in
theorem gX1_value_X1_joined : GoodIn wsX1_value (va_wsS RX1 40 yX1_joined wsX1_joined) := goodIn_app (goodIn_of _ (by decide +kernel)) ggX1_value_X1_joined
theorem dX1_value_0 : decode cX1_value 0 = .ok (.aload_n 0, 1) := by decide +kernel
theorem dX1_value_1 : decode cX1_value 1 = .ok (.getfield 15, 3) := by decide +kernel
theorem dX1_value_4 : decode cX1_value 4 = .ok (.iconst 4, 1) := by decide +kernel
theorem dX1_value_5 : decode cX1_value 5 = .ok (.iload_n 1, 1) := by decide +kernel
theorem dX1_value_6 : decode cX1_value 6 = .ok (.iastore, 1) := by decide +kernel
theorem dX1_value_7 : decode cX1_value 7 = .ok (.aload_n 0, 1) := by decide +kernel
theorem dX1_value_8 : decode cX1_value 8 = .ok (.getfield 15, 3) := by decide +kernel
theorem dX1_value_11 : decode cX1_value 11 = .ok (.bipush 11, 2) := by decide +kernel
theorem dX1_value_13 : decode cX1_value 13 = .ok (.iload_n 2, 1) := by decide +kernel
theorem dX1_value_14 : decode cX1_value 14 = .ok (.iastore, 1) := by decide +kernel
theorem dX1_value_15 : decode cX1_value 15 = .ok (.aload_n 0, 1) := by decide +kernel
theorem dX1_value_16 : decode cX1_value 16 = .ok (.getfield 15, 3) := by decide +kernel
theorem dX1_value_19 : decode cX1_value 19 = .ok (.bipush 12, 2) := by decide +kernel
theorem dX1_value_21 : decode cX1_value 21 = .ok (.iload_n 3, 1) := by decide +kernel
theorem dX1_value_22 : decode cX1_value 22 = .ok (.iastore, 1) := by decide +kernel
theorem dX1_value_23 : decode cX1_value 23 = .ok (.aload_n 0, 1) := by decide +kernel
theorem dX1_value_24 : decode cX1_value 24 = .ok (.getfield 15, 3) := by decide +kernel
theorem dX1_value_27 : decode cX1_value 27 = .ok (.iconst 2, 1) := by decide +kernel
theorem dX1_value_28 : decode cX1_value 28 = .ok (.iload 4, 2) := by decide +kernel
theorem dX1_value_30 : decode cX1_value 30 = .ok (.iastore, 1) := by decide +kernel
theorem dX1_value_31 : decode cX1_value 31 = .ok (.aload_n 0, 1) := by decide +kernel
theorem dX1_value_32 : decode cX1_value 32 = .ok (.getfield 15, 3) := by decide +kernel
theorem dX1_value_35 : decode cX1_value 35 = .ok (.bipush 13, 2) := by decide +kernel
theorem dX1_value_37 : decode cX1_value 37 = .ok (.iload 5, 2) := by decide +kernel
theorem dX1_value_39 : decode cX1_value 39 = .ok (.iastore, 1) := by decide +kernel
theorem dX1_value_40 : decode cX1_value 40 = .ok (.aload_n 0, 1) := by decide +kernel
theorem dX1_value_41 : decode cX1_value 41 = .ok (.iconst 0, 1) := by decide +kernel
theorem dX1_value_42 : decode cX1_value 42 = .ok (.putfield 25, 3) := by decide +kernel
theorem dX1_value_45 : decode cX1_value 45 = .ok (.iconst 0, 1) := by decide +kernel
theorem dX1_value_46 : decode cX1_value 46 = .ok (.istore 6, 2) := by decide +kernel
theorem dX1_value_48 : decode cX1_value 48 = .ok (.iload 6, 2) := by decide +kernel
theorem dX1_value_50 : decode cX1_value 50 = .ok (.aload_n 0, 1) := by decide +kernel
theorem dX1_value_51 : decode cX1_value 51 = .ok (.getfield 21, 3) := by decide +kernel
theorem dX1_value_54 : decode cX1_value 54 = .ok (.if_icmp .ge 108, 3) := by decide +kernel
theorem dX1_value_57 : decode cX1_value 57 = .ok (.aload_n 0, 1) := by decide +kernel
theorem dX1_value_58 : decode cX1_value 58 = .ok (.getfield 9, 3) := by decide +kernel
theorem dX1_value_61 : decode cX1_value 61 = .ok (.iload 6, 2) := by decide +kernel
theorem dX1_value_63 : decode cX1_value 63 = .ok (.iaload, 1) := by decide +kernel
theorem dX1_value_64 : decode cX1_value 64 = .ok (.istore 7, 2) := by decide +kernel
theorem dX1_value_66 : decode cX1_value 66 = .ok (.iload 7, 2) := by decide +kernel
theorem dX1_value_68 : decode cX1_value 68 = .ok (.sipush 1000, 3) := by decide +kernel
theorem dX1_value_71 : decode cX1_value 71 = .ok (.if_icmp .lt 16, 3) := by decide +kernel
theorem dX1_value_74 : decode cX1_value 74 = .ok (.aload_n 0, 1) := by decide +kernel
theorem dX1_value_75 : decode cX1_value 75 = .ok (.iload 7, 2) := by decide +kernel
theorem dX1_value_77 : decode cX1_value 77 = .ok (.sipush 1000, 3) := by decide +kernel
theorem dX1_value_80 : decode cX1_value 80 = .ok (.isub, 1) := by decide +kernel
theorem dX1_value_81 : decode cX1_value 81 = .ok (.invokevirtual 28, 3) := by decide +kernel
theorem dX1_value_84 : decode cX1_value 84 = .ok (.goto 72, 3) := by decide +kernel
theorem dX1_value_87 : decode cX1_value 87 = .ok (.iload 7, 2) := by decide +kernel
theorem dX1_value_89 : decode cX1_value 89 = .ok (.invokestatic 32, 3) := by decide +kernel
theorem dX1_value_92 : decode cX1_value 92 = .ok (.ifCond .eq 17, 3) := by decide +kernel
theorem dX1_value_95 : decode cX1_value 95 = .ok (.aload_n 0, 1) := by decide +kernel
theorem dX1_value_96 : decode cX1_value 96 = .ok (.aload_n 0, 1) := by decide +kernel
theorem dX1_value_97 : decode cX1_value 97 = .ok (.getfield 15, 3) := by decide +kernel
theorem dX1_value_100 : decode cX1_value 100 = .ok (.iload 7, 2) := by decide +kernel
theorem dX1_value_102 : decode cX1_value 102 = .ok (.iaload, 1) := by decide +kernel
theorem dX1_value_103 : decode cX1_value 103 = .ok (.invokevirtual 28, 3) := by decide +kernel
theorem dX1_value_106 : decode cX1_value 106 = .ok (.goto 50, 3) := by decide +kernel
theorem dX1_value_109 : decode cX1_value 109 = .ok (.iload 7, 2) := by decide +kernel
theorem dX1_value_111 : decode cX1_value 111 = .ok (.bipush 10, 2) := by decide +kernel
theorem dX1_value_113 : decode cX1_value 113 = .ok (.if_icmp .ne 22, 3) := by decide +kernel
theorem dX1_value_116 : decode cX1_value 116 = .ok (.aload_n 0, 1) := by decide +kernel
theorem dX1_value_117 : decode cX1_value 117 = .ok (.aload_n 0, 1) := by decide +kernel
theorem dX1_value_118 : decode cX1_value 118 = .ok (.invokevirtual 36, 3) := by decide +kernel
theorem dX1_value_121 : decode cX1_value 121 = .ok (.ifCond .ne 7, 3) := by decide +kernel
theorem dX1_value_124 : decode cX1_value 124 = .ok (.iconst 1, 1) := by decide +kernel
theorem dX1_value_125 : decode cX1_value 125 = .ok (.goto 4, 3) := by decide +kernel
theorem dX1_value_128 : decode cX1_value 128 = .ok (.iconst 0, 1) := by decide +kernel
theorem dX1_value_129 : decode cX1_value 129 = .ok (.invokevirtual 28, 3) := by decide +kernel
theorem dX1_value_132 : decode cX1_value 132 = .ok (.goto 24, 3) := by decide +kernel
theorem dX1_value_135 : decode cX1_value 135 = .ok (.aload_n 0, 1) := by decide +kernel
theorem dX1_value_136 : decode cX1_value 136 = .ok (.invokevirtual 36, 3) := by decide +kernel
theorem dX1_value_139 : decode cX1_value 139 = .ok (.istore 8, 2) := by decide +kernel
theorem dX1_value_141 : decode cX1_value 141 = .ok (.aload_n 0, 1) := by decide +kernel
theorem dX1_value_142 : decode cX1_value 142 = .ok (.iload 7, 2) := by decide +kernel
theorem dX1_value_144 : decode cX1_value 144 = .ok (.aload_n 0, 1) := by decide +kernel
theorem dX1_value_145 : decode cX1_value 145 = .ok (.invokevirtual 36, 3) := by decide +kernel
theorem dX1_value_148 : decode cX1_value 148 = .ok (.iload 8, 2) := by decide +kernel
theorem dX1_value_150 : decode cX1_value 150 = .ok (.invokestatic 40, 3) := by decide +kernel
theorem dX1_value_153 : decode cX1_value 153 = .ok (.invokevirtual 28, 3) := by decide +kernel
theorem dX1_value_156 : decode cX1_value 156 = .ok (.iinc 6 1, 3) := by decide +kernel
theorem dX1_value_159 : decode cX1_value 159 = .ok (.goto (-111), 3) := by decide +kernel
theorem dX1_value_162 : decode cX1_value 162 = .ok (.aload_n 0, 1) := by decide +kernel
theorem dX1_value_163 : decode cX1_value 163 = .ok (.invokevirtual 36, 3) := by decide +kernel
theorem dX1_value_166 : decode cX1_value 166 = .ok (.ireturn, 1) := by decide +kernel
theorem dX1_push_0 : decode cX1_push 0 = .ok (.aload_n 0, 1) := by decide +kernel
theorem dX1_push_1 : decode cX1_push 1 = .ok (.getfield 25, 3) := by decide +kernel
theorem dX1_push_4 : decode cX1_push 4 = .ok (.aload_n 0, 1) := by decide +kernel
theorem dX1_push_5 : decode cX1_push 5 = .ok (.getfield 18, 3) := by decide +kernel
theorem dX1_push_8 : decode cX1_push 8 = .ok (.arraylength, 1) := by decide +kernel
theorem dX1_push_9 : decode cX1_push 9 = .ok (.if_icmp .ge 23, 3) := by decide +kernel
theorem dX1_push_12 : decode cX1_push 12 = .ok (.aload_n 0, 1) := by decide +kernel
theorem dX1_push_13 : decode cX1_push 13 = .ok (.getfield 18, 3) := by decide +kernel
theorem dX1_push_16 : decode cX1_push 16 = .ok (.aload_n 0, 1) := by decide +kernel
theorem dX1_push_17 : decode cX1_push 17 = .ok (.getfield 25, 3) := by decide +kernel
theorem dX1_push_20 : decode cX1_push 20 = .ok (.iload_n 1, 1) := by decide +kernel
theorem dX1_push_21 : decode cX1_push 21 = .ok (.iastore, 1) := by decide +kernel
theorem dX1_push_22 : decode cX1_push 22 = .ok (.aload_n 0, 1) := by decide +kernel
theorem dX1_push_23 : decode cX1_push 23 = .ok (.dup, 1) := by decide +kernel
theorem dX1_push_24 : decode cX1_push 24 = .ok (.getfield 25, 3) := by decide +kernel
theorem dX1_push_27 : decode cX1_push 27 = .ok (.iconst 1, 1) := by decide +kernel
theorem dX1_push_28 : decode cX1_push 28 = .ok (.iadd, 1) := by decide +kernel
theorem dX1_push_29 : decode cX1_push 29 = .ok (.putfield 25, 3) := by decide +kernel
theorem dX1_push_32 : decode cX1_push 32 = .ok (.return_, 1) := by decide +kernel
theorem dX1_pop_0 : decode cX1_pop 0 = .ok (.aload_n 0, 1) := by decide +kernel
theorem dX1_pop_1 : decode cX1_pop 1 = .ok (.getfield 25, 3) := by decide +kernel
theorem dX1_pop_4 : decode cX1_pop 4 = .ok (.ifCond .ne 5, 3) := by decide +kernel
theorem dX1_pop_7 : decode cX1_pop 7 = .ok (.iconst 0, 1) := by decide +kernel
theorem dX1_pop_8 : decode cX1_pop 8 = .ok (.ireturn, 1) := by decide +kernel
theorem dX1_pop_9 : decode cX1_pop 9 = .ok (.aload_n 0, 1) := by decide +kernel
theorem dX1_pop_10 : decode cX1_pop 10 = .ok (.dup, 1) := by decide +kernel
theorem dX1_pop_11 : decode cX1_pop 11 = .ok (.getfield 25, 3) := by decide +kernel
theorem dX1_pop_14 : decode cX1_pop 14 = .ok (.iconst 1, 1) := by decide +kernel
theorem dX1_pop_15 : decode cX1_pop 15 = .ok (.isub, 1) := by decide +kernel
theorem dX1_pop_16 : decode cX1_pop 16 = .ok (.putfield 25, 3) := by decide +kernel
theorem dX1_pop_19 : decode cX1_pop 19 = .ok (.aload_n 0, 1) := by decide +kernel
theorem dX1_pop_20 : decode cX1_pop 20 = .ok (.getfield 18, 3) := by decide +kernel
theorem dX1_pop_23 : decode cX1_pop 23 = .ok (.aload_n 0, 1) := by decide +kernel
theorem dX1_pop_24 : decode cX1_pop 24 = .ok (.getfield 25, 3) := by decide +kernel
theorem dX1_pop_27 : decode cX1_pop 27 = .ok (.iaload, 1) := by decide +kernel
theorem dX1_pop_28 : decode cX1_pop 28 = .ok (.ireturn, 1) := by decide +kernel
theorem dX1_joined_0 : decode cX1_joined 0 = .ok (.iload_n 0, 1) := by decide +kernel
theorem dX1_joined_1 : decode cX1_joined 1 = .ok (.lookupswitch 188 #[(8, 174), (9, 160), (37, 115), (42, 99), (43, 91), (45, 95), (47, 103), (60, 127), (61, 149), (62, 138)], 91) := by decide +kernel
theorem dX1_joined_92 : decode cX1_joined 92 = .ok (.iload_n 1, 1) := by decide +kernel
theorem dX1_joined_93 : decode cX1_joined 93 = .ok (.iload_n 2, 1) := by decide +kernel
theorem dX1_joined_94 : decode cX1_joined 94 = .ok (.iadd, 1) := by decide +kernel
theorem dX1_joined_95 : decode cX1_joined 95 = .ok (.ireturn, 1) := by decide +kernel
theorem dX1_joined_96 : decode cX1_joined 96 = .ok (.iload_n 1, 1) := by decide +kernel
theorem dX1_joined_97 : decode cX1_joined 97 = .ok (.iload_n 2, 1) := by decide +kernel
theorem dX1_joined_98 : decode cX1_joined 98 = .ok (.isub, 1) := by decide +kernel
theorem dX1_joined_99 : decode cX1_joined 99 = .ok (.ireturn, 1) := by decide +kernel
theorem dX1_joined_100 : decode cX1_joined 100 = .ok (.iload_n 1, 1) := by decide +kernel
theorem dX1_joined_101 : decode cX1_joined 101 = .ok (.iload_n 2, 1) := by decide +kernel
theorem dX1_joined_102 : decode cX1_joined 102 = .ok (.imul, 1) := by decide +kernel
theorem dX1_joined_103 : decode cX1_joined 103 = .ok (.ireturn, 1) := by decide +kernel
theorem dX1_joined_104 : decode cX1_joined 104 = .ok (.iload_n 2, 1) := by decide +kernel
theorem dX1_joined_105 : decode cX1_joined 105 = .ok (.ifCond .ne 7, 3) := by decide +kernel
theorem dX1_joined_108 : decode cX1_joined 108 = .ok (.iconst 0, 1) := by decide +kernel
theorem dX1_joined_109 : decode cX1_joined 109 = .ok (.goto 6, 3) := by decide +kernel
theorem dX1_joined_112 : decode cX1_joined 112 = .ok (.iload_n 1, 1) := by decide +kernel
theorem dX1_joined_113 : decode cX1_joined 113 = .ok (.iload_n 2, 1) := by decide +kernel
theorem dX1_joined_114 : decode cX1_joined 114 = .ok (.idiv, 1) := by decide +kernel
theorem dX1_joined_115 : decode cX1_joined 115 = .ok (.ireturn, 1) := by decide +kernel
theorem dX1_joined_116 : decode cX1_joined 116 = .ok (.iload_n 2, 1) := by decide +kernel
theorem dX1_joined_117 : decode cX1_joined 117 = .ok (.ifCond .ne 7, 3) := by decide +kernel
theorem dX1_joined_120 : decode cX1_joined 120 = .ok (.iconst 0, 1) := by decide +kernel
theorem dX1_joined_121 : decode cX1_joined 121 = .ok (.goto 6, 3) := by decide +kernel
theorem dX1_joined_124 : decode cX1_joined 124 = .ok (.iload_n 1, 1) := by decide +kernel
theorem dX1_joined_125 : decode cX1_joined 125 = .ok (.iload_n 2, 1) := by decide +kernel
theorem dX1_joined_126 : decode cX1_joined 126 = .ok (.irem, 1) := by decide +kernel
theorem dX1_joined_127 : decode cX1_joined 127 = .ok (.ireturn, 1) := by decide +kernel
theorem dX1_joined_128 : decode cX1_joined 128 = .ok (.iload_n 1, 1) := by decide +kernel
theorem dX1_joined_129 : decode cX1_joined 129 = .ok (.iload_n 2, 1) := by decide +kernel
theorem dX1_joined_130 : decode cX1_joined 130 = .ok (.if_icmp .ge 7, 3) := by decide +kernel
theorem dX1_joined_133 : decode cX1_joined 133 = .ok (.iconst 1, 1) := by decide +kernel
theorem dX1_joined_134 : decode cX1_joined 134 = .ok (.goto 4, 3) := by decide +kernel
theorem dX1_joined_137 : decode cX1_joined 137 = .ok (.iconst 0, 1) := by decide +kernel
theorem dX1_joined_138 : decode cX1_joined 138 = .ok (.ireturn, 1) := by decide +kernel
theorem dX1_joined_139 : decode cX1_joined 139 = .ok (.iload_n 1, 1) := by decide +kernel
theorem dX1_joined_140 : decode cX1_joined 140 = .ok (.iload_n 2, 1) := by decide +kernel
theorem dX1_joined_141 : decode cX1_joined 141 = .ok (.if_icmp .le 7, 3) := by decide +kernel
theorem dX1_joined_144 : decode cX1_joined 144 = .ok (.iconst 1, 1) := by decide +kernel
theorem dX1_joined_145 : decode cX1_joined 145 = .ok (.goto 4, 3) := by decide +kernel
theorem dX1_joined_148 : decode cX1_joined 148 = .ok (.iconst 0, 1) := by decide +kernel
theorem dX1_joined_149 : decode cX1_joined 149 = .ok (.ireturn, 1) := by decide +kernel
theorem dX1_joined_150 : decode cX1_joined 150 = .ok (.iload_n 1, 1) := by decide +kernel
theorem dX1_joined_151 : decode cX1_joined 151 = .ok (.iload_n 2, 1) := by decide +kernel
theorem dX1_joined_152 : decode cX1_joined 152 = .ok (.if_icmp .ne 7, 3) := by decide +kernel
theorem dX1_joined_155 : decode cX1_joined 155 = .ok (.iconst 1, 1) := by decide +kernel
theorem dX1_joined_156 : decode cX1_joined 156 = .ok (.goto 4, 3) := by decide +kernel
theorem dX1_joined_159 : decode cX1_joined 159 = .ok (.iconst 0, 1) := by decide +kernel
theorem dX1_joined_160 : decode cX1_joined 160 = .ok (.ireturn, 1) := by decide +kernel
theorem dX1_joined_161 : decode cX1_joined 161 = .ok (.iload_n 1, 1) := by decide +kernel
theorem dX1_joined_162 : decode cX1_joined 162 = .ok (.ifCond .eq 11, 3) := by decide +kernel
theorem dX1_joined_165 : decode cX1_joined 165 = .ok (.iload_n 2, 1) := by decide +kernel
theorem dX1_joined_166 : decode cX1_joined 166 = .ok (.ifCond .eq 7, 3) := by decide +kernel
theorem dX1_joined_169 : decode cX1_joined 169 = .ok (.iconst 1, 1) := by decide +kernel
theorem dX1_joined_170 : decode cX1_joined 170 = .ok (.goto 4, 3) := by decide +kernel
theorem dX1_joined_173 : decode cX1_joined 173 = .ok (.iconst 0, 1) := by decide +kernel
theorem dX1_joined_174 : decode cX1_joined 174 = .ok (.ireturn, 1) := by decide +kernel
theorem dX1_joined_175 : decode cX1_joined 175 = .ok (.iload_n 1, 1) := by decide +kernel
theorem dX1_joined_176 : decode cX1_joined 176 = .ok (.ifCond .ne 7, 3) := by decide +kernel
theorem dX1_joined_179 : decode cX1_joined 179 = .ok (.iload_n 2, 1) := by decide +kernel
theorem dX1_joined_180 : decode cX1_joined 180 = .ok (.ifCond .eq 7, 3) := by decide +kernel
theorem dX1_joined_183 : decode cX1_joined 183 = .ok (.iconst 1, 1) := by decide +kernel
theorem dX1_joined_184 : decode cX1_joined 184 = .ok (.goto 4, 3) := by decide +kernel
theorem dX1_joined_187 : decode cX1_joined 187 = .ok (.iconst 0, 1) := by decide +kernel
theorem dX1_joined_188 : decode cX1_joined 188 = .ok (.ireturn, 1) := by decide +kernel
theorem dX1_joined_189 : decode cX1_joined 189 = .ok (.iconst 0, 1) := by decide +kernel
theorem dX1_joined_190 : decode cX1_joined 190 = .ok (.ireturn, 1) := by decide +kernel
theorem dX2_take_0 : decode cX2_take 0 = .ok (.aload_n 0, 1) := by decide +kernel
theorem dX2_take_1 : decode cX2_take 1 = .ok (.aload_n 1, 1) := by decide +kernel
theorem dX2_take_2 : decode cX2_take 2 = .ok (.putfield 24, 3) := by decide +kernel
theorem dX2_take_5 : decode cX2_take 5 = .ok (.aload_n 0, 1) := by decide +kernel
theorem dX2_take_6 : decode cX2_take 6 = .ok (.aload_n 1, 1) := by decide +kernel
theorem dX2_take_7 : decode cX2_take 7 = .ok (.getfield 37, 3) := by decide +kernel
theorem dX2_take_10 : decode cX2_take 10 = .ok (.aload_n 2, 1) := by decide +kernel
theorem dX2_take_11 : decode cX2_take 11 = .ok (.getfield 41, 3) := by decide +kernel
theorem dX2_take_14 : decode cX2_take 14 = .ok (.iconst (-1), 1) := by decide +kernel
theorem dX2_take_15 : decode cX2_take 15 = .ok (.ixor, 1) := by decide +kernel
theorem dX2_take_16 : decode cX2_take 16 = .ok (.iand, 1) := by decide +kernel
theorem dX2_take_17 : decode cX2_take 17 = .ok (.putfield 46, 3) := by decide +kernel
theorem dX2_take_20 : decode cX2_take 20 = .ok (.aload_n 0, 1) := by decide +kernel
theorem dX2_take_21 : decode cX2_take 21 = .ok (.aload_n 2, 1) := by decide +kernel
theorem dX2_take_22 : decode cX2_take 22 = .ok (.getfield 49, 3) := by decide +kernel
theorem dX2_take_25 : decode cX2_take 25 = .ok (.putfield 52, 3) := by decide +kernel
theorem dX2_take_28 : decode cX2_take 28 = .ok (.aload_n 2, 1) := by decide +kernel
theorem dX2_take_29 : decode cX2_take 29 = .ok (.getfield 53, 3) := by decide +kernel
theorem dX2_take_32 : decode cX2_take 32 = .ok (.iconst 0, 1) := by decide +kernel
theorem dX2_take_33 : decode cX2_take 33 = .ok (.aload_n 0, 1) := by decide +kernel
theorem dX2_take_34 : decode cX2_take 34 = .ok (.getfield 28, 3) := by decide +kernel
theorem dX2_take_37 : decode cX2_take 37 = .ok (.iconst 0, 1) := by decide +kernel
theorem dX2_take_38 : decode cX2_take 38 = .ok (.bipush 12, 2) := by decide +kernel
theorem dX2_take_40 : decode cX2_take 40 = .ok (.invokestatic 54, 3) := by decide +kernel
theorem dX2_take_43 : decode cX2_take 43 = .ok (.aload_n 1, 1) := by decide +kernel
theorem dX2_take_44 : decode cX2_take 44 = .ok (.getfield 60, 3) := by decide +kernel
theorem dX2_take_47 : decode cX2_take 47 = .ok (.iconst 0, 1) := by decide +kernel
theorem dX2_take_48 : decode cX2_take 48 = .ok (.aload_n 0, 1) := by decide +kernel
theorem dX2_take_49 : decode cX2_take 49 = .ok (.getfield 31, 3) := by decide +kernel
theorem dX2_take_52 : decode cX2_take 52 = .ok (.iconst 0, 1) := by decide +kernel
theorem dX2_take_53 : decode cX2_take 53 = .ok (.bipush 10, 2) := by decide +kernel
theorem dX2_take_55 : decode cX2_take 55 = .ok (.invokestatic 54, 3) := by decide +kernel
theorem dX2_take_58 : decode cX2_take 58 = .ok (.aload_n 0, 1) := by decide +kernel
theorem dX2_take_59 : decode cX2_take 59 = .ok (.dup, 1) := by decide +kernel
theorem dX2_take_60 : decode cX2_take 60 = .ok (.getfield 61, 3) := by decide +kernel
theorem dX2_take_63 : decode cX2_take 63 = .ok (.iconst 1, 1) := by decide +kernel
theorem dX2_take_64 : decode cX2_take 64 = .ok (.iadd, 1) := by decide +kernel
theorem dX2_take_65 : decode cX2_take 65 = .ok (.putfield 61, 3) := by decide +kernel
theorem dX2_take_68 : decode cX2_take 68 = .ok (.return_, 1) := by decide +kernel
set_option maxRecDepth 20000 in
theorem ggX2_weigh_X8_has : GoodIn wsX2_weigh wsX8_has := goodIn_r _ [7] rfl rfl
set_option maxRecDepth 20000 in
theorem gX2_weigh_X8_has_n77 : GoodIn wsX2_weigh (wsX8_has) := ggX2_weigh_X8_has
set_option maxRecDepth 20000 in
theorem ggX2_weigh_X2_borne : GoodIn wsX2_weigh wsX2_borne := goodIn_r _ [12, 1, 13, 14, 3, 15, 16, 17, 18, 19, 20, 21, 22, 23, 24, 25, 26, 27, 28, 29, 30, 31, 32, 33, 34, 35, 36, 37, 38, 39, 40, 41, 42, 43, 44, 45, 46, 47, 48, 49, 50, 51, 52, 53, 54, 55, 56, 57, 58, 59, 60, 61, 62, 63, 64, 65, 66, 67, 68, 69, 70, 71, 72, 73, 74, 75, 76, 77, 78, 79, 80, 81, 82, 83, 84, 85, 86, 87, 88] rfl rfl
set_option maxRecDepth 20000 in
theorem gX2_weigh_X2_borne : GoodIn wsX2_weigh (wsV RX2 81 RX2 yX2_borne wsX2_borne) := goodIn_app (goodIn_of _ (by decide +kernel)) ggX2_weigh_X2_borne
theorem dX2_weigh_0 : decode cX2_weigh 0 = .ok (.iconst 0, 1) := by decide +kernel
theorem dX2_weigh_1 : decode cX2_weigh 1 = .ok (.istore_n 2, 1) := by decide +kernel
theorem dX2_weigh_2 : decode cX2_weigh 2 = .ok (.iload_n 2, 1) := by decide +kernel
theorem dX2_weigh_3 : decode cX2_weigh 3 = .ok (.aload_n 0, 1) := by decide +kernel
theorem dX2_weigh_4 : decode cX2_weigh 4 = .ok (.getfield 24, 3) := by decide +kernel
theorem dX2_weigh_7 : decode cX2_weigh 7 = .ok (.getfield 74, 3) := by decide +kernel
theorem dX2_weigh_10 : decode cX2_weigh 10 = .ok (.if_icmp .ge 52, 3) := by decide +kernel
theorem dX2_weigh_13 : decode cX2_weigh 13 = .ok (.iload_n 1, 1) := by decide +kernel
theorem dX2_weigh_14 : decode cX2_weigh 14 = .ok (.iload_n 2, 1) := by decide +kernel
theorem dX2_weigh_15 : decode cX2_weigh 15 = .ok (.invokestatic 77, 3) := by decide +kernel
theorem dX2_weigh_18 : decode cX2_weigh 18 = .ok (.ifCond .eq 16, 3) := by decide +kernel
theorem dX2_weigh_21 : decode cX2_weigh 21 = .ok (.aload_n 0, 1) := by decide +kernel
theorem dX2_weigh_22 : decode cX2_weigh 22 = .ok (.getfield 28, 3) := by decide +kernel
theorem dX2_weigh_25 : decode cX2_weigh 25 = .ok (.iload_n 2, 1) := by decide +kernel
theorem dX2_weigh_26 : decode cX2_weigh 26 = .ok (.iaload, 1) := by decide +kernel
theorem dX2_weigh_27 : decode cX2_weigh 27 = .ok (.ifCond .le 7, 3) := by decide +kernel
theorem dX2_weigh_30 : decode cX2_weigh 30 = .ok (.iconst 1, 1) := by decide +kernel
theorem dX2_weigh_31 : decode cX2_weigh 31 = .ok (.goto 4, 3) := by decide +kernel
theorem dX2_weigh_34 : decode cX2_weigh 34 = .ok (.iconst 0, 1) := by decide +kernel
theorem dX2_weigh_35 : decode cX2_weigh 35 = .ok (.istore_n 3, 1) := by decide +kernel
theorem dX2_weigh_36 : decode cX2_weigh 36 = .ok (.aload_n 0, 1) := by decide +kernel
theorem dX2_weigh_37 : decode cX2_weigh 37 = .ok (.getfield 9, 3) := by decide +kernel
theorem dX2_weigh_40 : decode cX2_weigh 40 = .ok (.iload_n 2, 1) := by decide +kernel
theorem dX2_weigh_41 : decode cX2_weigh 41 = .ok (.iload_n 3, 1) := by decide +kernel
theorem dX2_weigh_42 : decode cX2_weigh 42 = .ok (.ifCond .eq 12, 3) := by decide +kernel
theorem dX2_weigh_45 : decode cX2_weigh 45 = .ok (.aload_n 0, 1) := by decide +kernel
theorem dX2_weigh_46 : decode cX2_weigh 46 = .ok (.iload_n 2, 1) := by decide +kernel
theorem dX2_weigh_47 : decode cX2_weigh 47 = .ok (.iload_n 1, 1) := by decide +kernel
theorem dX2_weigh_48 : decode cX2_weigh 48 = .ok (.invokevirtual 81, 3) := by decide +kernel
theorem dX2_weigh_51 : decode cX2_weigh 51 = .ok (.goto 4, 3) := by decide +kernel
theorem dX2_weigh_54 : decode cX2_weigh 54 = .ok (.iconst 0, 1) := by decide +kernel
theorem dX2_weigh_55 : decode cX2_weigh 55 = .ok (.iastore, 1) := by decide +kernel
theorem dX2_weigh_56 : decode cX2_weigh 56 = .ok (.iinc 2 1, 3) := by decide +kernel
theorem dX2_weigh_59 : decode cX2_weigh 59 = .ok (.goto (-57), 3) := by decide +kernel
theorem dX2_weigh_62 : decode cX2_weigh 62 = .ok (.return_, 1) := by decide +kernel
set_option maxRecDepth 20000 in
theorem ggX2_borne_J6_bitCount_0f7a4 : GoodIn wsX2_borne wsJ6_bitCount_0f7a4 := goodIn_r _ [23, 24, 25, 26] rfl rfl
set_option maxRecDepth 20000 in
theorem gX2_borne_J6_bitCount_0f7a4 : GoodIn wsX2_borne (va_wsS RX2 99 yJ6_bitCount_0f7a4 wsJ6_bitCount_0f7a4) := goodIn_app (goodIn_of _ (by decide +kernel)) ggX2_borne_J6_bitCount_0f7a4
set_option maxRecDepth 20000 in
theorem ggX2_borne_X1_value : GoodIn wsX2_borne wsX1_value := goodIn_r _ [31, 32, 33, 34, 35, 36, 37, 38, 30, 39, 40, 41, 42, 43, 44, 45, 46, 47, 48, 49, 50, 73, 74, 75, 76, 77, 78] rfl rfl
set_option maxRecDepth 20000 in
theorem gX2_borne_X1_value : GoodIn wsX2_borne (wsV RX2 111 RX1 yX1_value wsX1_value) := goodIn_app (goodIn_of _ (by decide +kernel)) ggX2_borne_X1_value
theorem dX2_borne_0 : decode cX2_borne 0 = .ok (.aload_n 0, 1) := by decide +kernel
theorem dX2_borne_1 : decode cX2_borne 1 = .ok (.getfield 24, 3) := by decide +kernel
theorem dX2_borne_4 : decode cX2_borne 4 = .ok (.getfield 84, 3) := by decide +kernel
theorem dX2_borne_7 : decode cX2_borne 7 = .ok (.getfield 88, 3) := by decide +kernel
theorem dX2_borne_10 : decode cX2_borne 10 = .ok (.ifCond .ne 10, 3) := by decide +kernel
theorem dX2_borne_13 : decode cX2_borne 13 = .ok (.aload_n 0, 1) := by decide +kernel
theorem dX2_borne_14 : decode cX2_borne 14 = .ok (.getfield 28, 3) := by decide +kernel
theorem dX2_borne_17 : decode cX2_borne 17 = .ok (.iload_n 1, 1) := by decide +kernel
theorem dX2_borne_18 : decode cX2_borne 18 = .ok (.iaload, 1) := by decide +kernel
theorem dX2_borne_19 : decode cX2_borne 19 = .ok (.ireturn, 1) := by decide +kernel
theorem dX2_borne_20 : decode cX2_borne 20 = .ok (.aload_n 0, 1) := by decide +kernel
theorem dX2_borne_21 : decode cX2_borne 21 = .ok (.getfield 24, 3) := by decide +kernel
theorem dX2_borne_24 : decode cX2_borne 24 = .ok (.getfield 93, 3) := by decide +kernel
theorem dX2_borne_27 : decode cX2_borne 27 = .ok (.iload_n 1, 1) := by decide +kernel
theorem dX2_borne_28 : decode cX2_borne 28 = .ok (.iaload, 1) := by decide +kernel
theorem dX2_borne_29 : decode cX2_borne 29 = .ok (.istore_n 3, 1) := by decide +kernel
theorem dX2_borne_30 : decode cX2_borne 30 = .ok (.aload_n 0, 1) := by decide +kernel
theorem dX2_borne_31 : decode cX2_borne 31 = .ok (.getfield 24, 3) := by decide +kernel
theorem dX2_borne_34 : decode cX2_borne 34 = .ok (.getfield 96, 3) := by decide +kernel
theorem dX2_borne_37 : decode cX2_borne 37 = .ok (.iload_n 3, 1) := by decide +kernel
theorem dX2_borne_38 : decode cX2_borne 38 = .ok (.iaload, 1) := by decide +kernel
theorem dX2_borne_39 : decode cX2_borne 39 = .ok (.iload_n 2, 1) := by decide +kernel
theorem dX2_borne_40 : decode cX2_borne 40 = .ok (.iand, 1) := by decide +kernel
theorem dX2_borne_41 : decode cX2_borne 41 = .ok (.invokestatic 99, 3) := by decide +kernel
theorem dX2_borne_44 : decode cX2_borne 44 = .ok (.istore 4, 2) := by decide +kernel
theorem dX2_borne_46 : decode cX2_borne 46 = .ok (.aload_n 0, 1) := by decide +kernel
theorem dX2_borne_47 : decode cX2_borne 47 = .ok (.getfield 24, 3) := by decide +kernel
theorem dX2_borne_50 : decode cX2_borne 50 = .ok (.getfield 105, 3) := by decide +kernel
theorem dX2_borne_53 : decode cX2_borne 53 = .ok (.aload_n 0, 1) := by decide +kernel
theorem dX2_borne_54 : decode cX2_borne 54 = .ok (.getfield 24, 3) := by decide +kernel
theorem dX2_borne_57 : decode cX2_borne 57 = .ok (.getfield 108, 3) := by decide +kernel
theorem dX2_borne_60 : decode cX2_borne 60 = .ok (.iload_n 1, 1) := by decide +kernel
theorem dX2_borne_61 : decode cX2_borne 61 = .ok (.iaload, 1) := by decide +kernel
theorem dX2_borne_62 : decode cX2_borne 62 = .ok (.iaload, 1) := by decide +kernel
theorem dX2_borne_63 : decode cX2_borne 63 = .ok (.iload_n 2, 1) := by decide +kernel
theorem dX2_borne_64 : decode cX2_borne 64 = .ok (.iand, 1) := by decide +kernel
theorem dX2_borne_65 : decode cX2_borne 65 = .ok (.invokestatic 99, 3) := by decide +kernel
theorem dX2_borne_68 : decode cX2_borne 68 = .ok (.istore 5, 2) := by decide +kernel
theorem dX2_borne_70 : decode cX2_borne 70 = .ok (.iload_n 1, 1) := by decide +kernel
theorem dX2_borne_71 : decode cX2_borne 71 = .ok (.bipush 10, 2) := by decide +kernel
theorem dX2_borne_73 : decode cX2_borne 73 = .ok (.imul, 1) := by decide +kernel
theorem dX2_borne_74 : decode cX2_borne 74 = .ok (.iload 4, 2) := by decide +kernel
theorem dX2_borne_76 : decode cX2_borne 76 = .ok (.iadd, 1) := by decide +kernel
theorem dX2_borne_77 : decode cX2_borne 77 = .ok (.bipush 10, 2) := by decide +kernel
theorem dX2_borne_79 : decode cX2_borne 79 = .ok (.imul, 1) := by decide +kernel
theorem dX2_borne_80 : decode cX2_borne 80 = .ok (.iload 5, 2) := by decide +kernel
theorem dX2_borne_82 : decode cX2_borne 82 = .ok (.iadd, 1) := by decide +kernel
theorem dX2_borne_83 : decode cX2_borne 83 = .ok (.istore 6, 2) := by decide +kernel
theorem dX2_borne_85 : decode cX2_borne 85 = .ok (.iload 6, 2) := by decide +kernel
theorem dX2_borne_87 : decode cX2_borne 87 = .ok (.aload_n 0, 1) := by decide +kernel
theorem dX2_borne_88 : decode cX2_borne 88 = .ok (.getfield 34, 3) := by decide +kernel
theorem dX2_borne_91 : decode cX2_borne 91 = .ok (.arraylength, 1) := by decide +kernel
theorem dX2_borne_92 : decode cX2_borne 92 = .ok (.if_icmp .lt 5, 3) := by decide +kernel
theorem dX2_borne_95 : decode cX2_borne 95 = .ok (.iconst 0, 1) := by decide +kernel
theorem dX2_borne_96 : decode cX2_borne 96 = .ok (.ireturn, 1) := by decide +kernel
theorem dX2_borne_97 : decode cX2_borne 97 = .ok (.aload_n 0, 1) := by decide +kernel
theorem dX2_borne_98 : decode cX2_borne 98 = .ok (.getfield 34, 3) := by decide +kernel
theorem dX2_borne_101 : decode cX2_borne 101 = .ok (.iload 6, 2) := by decide +kernel
theorem dX2_borne_103 : decode cX2_borne 103 = .ok (.iaload, 1) := by decide +kernel
theorem dX2_borne_104 : decode cX2_borne 104 = .ok (.bipush 10, 2) := by decide +kernel
theorem dX2_borne_106 : decode cX2_borne 106 = .ok (.ishr, 1) := by decide +kernel
theorem dX2_borne_107 : decode cX2_borne 107 = .ok (.aload_n 0, 1) := by decide +kernel
theorem dX2_borne_108 : decode cX2_borne 108 = .ok (.getfield 61, 3) := by decide +kernel
theorem dX2_borne_111 : decode cX2_borne 111 = .ok (.if_icmp .eq 62, 3) := by decide +kernel
theorem dX2_borne_114 : decode cX2_borne 114 = .ok (.aload_n 0, 1) := by decide +kernel
theorem dX2_borne_115 : decode cX2_borne 115 = .ok (.getfield 24, 3) := by decide +kernel
theorem dX2_borne_118 : decode cX2_borne 118 = .ok (.getfield 84, 3) := by decide +kernel
theorem dX2_borne_121 : decode cX2_borne 121 = .ok (.aload_n 0, 1) := by decide +kernel
theorem dX2_borne_122 : decode cX2_borne 122 = .ok (.getfield 28, 3) := by decide +kernel
theorem dX2_borne_125 : decode cX2_borne 125 = .ok (.iload_n 1, 1) := by decide +kernel
theorem dX2_borne_126 : decode cX2_borne 126 = .ok (.iaload, 1) := by decide +kernel
theorem dX2_borne_127 : decode cX2_borne 127 = .ok (.iload 4, 2) := by decide +kernel
theorem dX2_borne_129 : decode cX2_borne 129 = .ok (.iload 5, 2) := by decide +kernel
theorem dX2_borne_131 : decode cX2_borne 131 = .ok (.aload_n 0, 1) := by decide +kernel
theorem dX2_borne_132 : decode cX2_borne 132 = .ok (.getfield 31, 3) := by decide +kernel
theorem dX2_borne_135 : decode cX2_borne 135 = .ok (.iload_n 3, 1) := by decide +kernel
theorem dX2_borne_136 : decode cX2_borne 136 = .ok (.iaload, 1) := by decide +kernel
theorem dX2_borne_137 : decode cX2_borne 137 = .ok (.aload_n 0, 1) := by decide +kernel
theorem dX2_borne_138 : decode cX2_borne 138 = .ok (.getfield 52, 3) := by decide +kernel
theorem dX2_borne_141 : decode cX2_borne 141 = .ok (.invokevirtual 111, 3) := by decide +kernel
theorem dX2_borne_144 : decode cX2_borne 144 = .ok (.istore 7, 2) := by decide +kernel
theorem dX2_borne_146 : decode cX2_borne 146 = .ok (.aload_n 0, 1) := by decide +kernel
theorem dX2_borne_147 : decode cX2_borne 147 = .ok (.getfield 34, 3) := by decide +kernel
theorem dX2_borne_150 : decode cX2_borne 150 = .ok (.iload 6, 2) := by decide +kernel
theorem dX2_borne_152 : decode cX2_borne 152 = .ok (.aload_n 0, 1) := by decide +kernel
theorem dX2_borne_153 : decode cX2_borne 153 = .ok (.getfield 61, 3) := by decide +kernel
theorem dX2_borne_156 : decode cX2_borne 156 = .ok (.bipush 10, 2) := by decide +kernel
theorem dX2_borne_158 : decode cX2_borne 158 = .ok (.ishl, 1) := by decide +kernel
theorem dX2_borne_159 : decode cX2_borne 159 = .ok (.iconst 0, 1) := by decide +kernel
theorem dX2_borne_160 : decode cX2_borne 160 = .ok (.sipush 999, 3) := by decide +kernel
theorem dX2_borne_163 : decode cX2_borne 163 = .ok (.iload 7, 2) := by decide +kernel
theorem dX2_borne_165 : decode cX2_borne 165 = .ok (.invokestatic 115, 3) := by decide +kernel
theorem dX2_borne_168 : decode cX2_borne 168 = .ok (.invokestatic 68, 3) := by decide +kernel
theorem dX2_borne_171 : decode cX2_borne 171 = .ok (.ior, 1) := by decide +kernel
theorem dX2_borne_172 : decode cX2_borne 172 = .ok (.iastore, 1) := by decide +kernel
theorem dX2_borne_173 : decode cX2_borne 173 = .ok (.aload_n 0, 1) := by decide +kernel
theorem dX2_borne_174 : decode cX2_borne 174 = .ok (.getfield 34, 3) := by decide +kernel
theorem dX2_borne_177 : decode cX2_borne 177 = .ok (.iload 6, 2) := by decide +kernel
theorem dX2_borne_179 : decode cX2_borne 179 = .ok (.iaload, 1) := by decide +kernel
theorem dX2_borne_180 : decode cX2_borne 180 = .ok (.sipush 1023, 3) := by decide +kernel
theorem dX2_borne_183 : decode cX2_borne 183 = .ok (.iand, 1) := by decide +kernel
theorem dX2_borne_184 : decode cX2_borne 184 = .ok (.ireturn, 1) := by decide +kernel
theorem dX4_copy_0 : decode cX4_copy 0 = .ok (.aload_n 1, 1) := by decide +kernel
theorem dX4_copy_1 : decode cX4_copy 1 = .ok (.getfield 9, 3) := by decide +kernel
theorem dX4_copy_4 : decode cX4_copy 4 = .ok (.iconst 0, 1) := by decide +kernel
theorem dX4_copy_5 : decode cX4_copy 5 = .ok (.aload_n 0, 1) := by decide +kernel
theorem dX4_copy_6 : decode cX4_copy 6 = .ok (.getfield 9, 3) := by decide +kernel
theorem dX4_copy_9 : decode cX4_copy 9 = .ok (.iconst 0, 1) := by decide +kernel
theorem dX4_copy_10 : decode cX4_copy 10 = .ok (.bipush 12, 2) := by decide +kernel
theorem dX4_copy_12 : decode cX4_copy 12 = .ok (.invokestatic 18, 3) := by decide +kernel
theorem dX4_copy_15 : decode cX4_copy 15 = .ok (.aload_n 0, 1) := by decide +kernel
theorem dX4_copy_16 : decode cX4_copy 16 = .ok (.aload_n 1, 1) := by decide +kernel
theorem dX4_copy_17 : decode cX4_copy 17 = .ok (.getfield 28, 3) := by decide +kernel
theorem dX4_copy_20 : decode cX4_copy 20 = .ok (.putfield 28, 3) := by decide +kernel
theorem dX4_copy_23 : decode cX4_copy 23 = .ok (.aload_n 0, 1) := by decide +kernel
theorem dX4_copy_24 : decode cX4_copy 24 = .ok (.aload_n 1, 1) := by decide +kernel
theorem dX4_copy_25 : decode cX4_copy 25 = .ok (.getfield 32, 3) := by decide +kernel
theorem dX4_copy_28 : decode cX4_copy 28 = .ok (.putfield 32, 3) := by decide +kernel
theorem dX4_copy_31 : decode cX4_copy 31 = .ok (.aload_n 0, 1) := by decide +kernel
theorem dX4_copy_32 : decode cX4_copy 32 = .ok (.aload_n 1, 1) := by decide +kernel
theorem dX4_copy_33 : decode cX4_copy 33 = .ok (.getfield 35, 3) := by decide +kernel
theorem dX4_copy_36 : decode cX4_copy 36 = .ok (.putfield 35, 3) := by decide +kernel
theorem dX4_copy_39 : decode cX4_copy 39 = .ok (.aload_n 0, 1) := by decide +kernel
theorem dX4_copy_40 : decode cX4_copy 40 = .ok (.aload_n 1, 1) := by decide +kernel
theorem dX4_copy_41 : decode cX4_copy 41 = .ok (.getfield 41, 3) := by decide +kernel
theorem dX4_copy_44 : decode cX4_copy 44 = .ok (.putfield 41, 3) := by decide +kernel
theorem dX4_copy_47 : decode cX4_copy 47 = .ok (.return_, 1) := by decide +kernel
theorem dX5_isStrand_0 : decode cX5_isStrand 0 = .ok (.iload_n 1, 1) := by decide +kernel
theorem dX5_isStrand_1 : decode cX5_isStrand 1 = .ok (.ifCond .lt 15, 3) := by decide +kernel
theorem dX5_isStrand_4 : decode cX5_isStrand 4 = .ok (.iload_n 1, 1) := by decide +kernel
theorem dX5_isStrand_5 : decode cX5_isStrand 5 = .ok (.aload_n 0, 1) := by decide +kernel
theorem dX5_isStrand_6 : decode cX5_isStrand 6 = .ok (.getfield 44, 3) := by decide +kernel
theorem dX5_isStrand_9 : decode cX5_isStrand 9 = .ok (.if_icmp .ge 7, 3) := by decide +kernel
theorem dX5_isStrand_12 : decode cX5_isStrand 12 = .ok (.iconst 1, 1) := by decide +kernel
theorem dX5_isStrand_13 : decode cX5_isStrand 13 = .ok (.goto 4, 3) := by decide +kernel
theorem dX5_isStrand_16 : decode cX5_isStrand 16 = .ok (.iconst 0, 1) := by decide +kernel
theorem dX5_isStrand_17 : decode cX5_isStrand 17 = .ok (.ireturn, 1) := by decide +kernel
set_option maxRecDepth 20000 in
theorem ggX8_suit_X3_read : GoodIn wsX8_suit wsX3_read := goodIn_r _ [14, 15, 16, 17, 18, 19, 20, 21, 22, 23, 24, 25, 26, 27, 28, 29, 30, 31, 32, 33, 34, 35, 36, 13, 37, 38, 39, 40, 41, 42, 43, 44, 45, 46, 47, 48, 49, 50, 51, 52, 53, 54, 55, 56, 57, 58, 59, 60, 61, 62, 63, 64, 65, 66, 67, 68, 69, 70, 71, 72, 73, 74, 75, 76, 77, 78, 79, 80, 81, 82, 83, 84, 85, 86, 87, 88, 89, 90, 91, 92, 93, 94, 95, 96, 97, 98, 99, 100, 101, 102, 103, 104, 105, 106, 107, 108, 109, 110, 111, 112, 113, 114, 115, 116, 117, 118, 119, 120, 121, 122, 123, 124, 125, 126, 127, 128, 129, 130, 131, 132, 133, 134, 135, 136, 137, 138, 139, 140, 141, 142, 143, 144, 145, 146, 147, 148, 149, 150, 151, 152, 153, 154, 155, 156, 157, 158, 159, 160, 161, 162, 163, 164, 165, 166, 167, 168, 169, 170, 171, 172, 173, 174, 175, 176, 177, 178, 179, 180, 181, 182, 183, 184, 185, 186, 187, 188, 189, 190, 191, 192, 193, 194, 195, 196, 197, 198, 199, 200, 201, 202, 203, 204, 205, 206, 207, 208, 209, 210, 211, 212, 213, 214, 215, 216, 217, 218, 219, 220, 221, 222, 223, 224, 225, 226, 227, 228, 229, 230, 231, 232, 233, 234, 235, 236, 237, 238, 239, 240, 241, 242, 243, 244, 245, 246, 247, 248, 249, 250, 251, 252, 253, 254, 255, 256, 257, 258, 259, 260, 261, 262, 263, 264, 265, 266, 267, 268, 269, 270, 271, 272, 273, 274, 275, 276, 331, 332, 333, 334, 335, 336, 337, 338, 339, 340, 341, 342, 343, 349, 350, 351, 352, 353, 354, 355, 356, 357, 358, 359, 360, 361, 362, 363, 364, 365, 366] rfl rfl
set_option maxRecDepth 20000 in
theorem gX8_suit_X3_read : GoodIn wsX8_suit (wsV RX8 77 RX3 yX3_read wsX3_read) := goodIn_app (goodIn_of _ (by decide +kernel)) ggX8_suit_X3_read
set_option maxRecDepth 20000 in
theorem ggX8_suit_X3_exchange : GoodIn wsX8_suit wsX3_exchange := goodIn_r _ [280, 15, 331, 332, 333, 334, 335, 336, 337, 338, 339, 340, 341, 342, 343] rfl rfl
set_option maxRecDepth 20000 in
theorem gX8_suit_X3_exchange : GoodIn wsX8_suit (wsV RX8 81 RX3 yX3_exchange wsX3_exchange) := goodIn_app (goodIn_of _ (by decide +kernel)) ggX8_suit_X3_exchange
set_option maxRecDepth 20000 in
theorem ggX8_suit_X0_forget : GoodIn wsX8_suit wsX0_forget := goodIn_r _ [285, 286, 287, 367, 368, 369, 370] rfl rfl
set_option maxRecDepth 20000 in
theorem gX8_suit_X0_forget : GoodIn wsX8_suit (wsV RX8 85 RX0 yX0_forget wsX0_forget) := goodIn_app (goodIn_of _ (by decide +kernel)) ggX8_suit_X0_forget
set_option maxRecDepth 20000 in
theorem ggX8_suit_X8_now : GoodIn wsX8_suit wsX8_now := goodIn_r _ [291, 4, 292, 293, 294, 284, 295, 296, 297, 318, 319, 320, 321, 322, 323, 324, 325, 326, 327, 328, 329, 330, 367, 368, 369, 370] rfl rfl
set_option maxRecDepth 20000 in
theorem gX8_suit_X8_now : GoodIn wsX8_suit (wsV RX8 88 RX8 yX8_now wsX8_now) := goodIn_app (goodIn_of _ (by decide +kernel)) ggX8_suit_X8_now
set_option maxRecDepth 20000 in
theorem ggX8_suit_X4_startAs : GoodIn wsX8_suit wsX4_startAs := goodIn_r _ [302, 303, 304, 305, 306, 307, 308, 309, 310, 311, 312, 313, 314, 315, 316, 24, 317, 28, 349, 350, 351, 352, 353, 354, 355, 356, 357, 358, 359, 360, 371, 372, 373, 374, 375] rfl rfl
set_option maxRecDepth 20000 in
theorem gX8_suit_X4_startAs : GoodIn wsX8_suit (wsV RX8 92 RX4 yX4_startAs wsX4_startAs) := goodIn_app (goodIn_of _ (by decide +kernel)) ggX8_suit_X4_startAs
theorem dX8_suit_0 : decode cX8_suit 0 = .ok (.aload_n 0, 1) := by decide +kernel
theorem dX8_suit_1 : decode cX8_suit 1 = .ok (.getfield 10, 3) := by decide +kernel
theorem dX8_suit_4 : decode cX8_suit 4 = .ok (.invokevirtual 77, 3) := by decide +kernel
theorem dX8_suit_7 : decode cX8_suit 7 = .ok (.ifCond .ne 5, 3) := by decide +kernel
theorem dX8_suit_10 : decode cX8_suit 10 = .ok (.iconst (-1), 1) := by decide +kernel
theorem dX8_suit_11 : decode cX8_suit 11 = .ok (.ireturn, 1) := by decide +kernel
theorem dX8_suit_12 : decode cX8_suit 12 = .ok (.aload_n 0, 1) := by decide +kernel
theorem dX8_suit_13 : decode cX8_suit 13 = .ok (.aload_n 0, 1) := by decide +kernel
theorem dX8_suit_14 : decode cX8_suit 14 = .ok (.getfield 10, 3) := by decide +kernel
theorem dX8_suit_17 : decode cX8_suit 17 = .ok (.aload_n 0, 1) := by decide +kernel
theorem dX8_suit_18 : decode cX8_suit 18 = .ok (.getfield 19, 3) := by decide +kernel
theorem dX8_suit_21 : decode cX8_suit 21 = .ok (.invokevirtual 81, 3) := by decide +kernel
theorem dX8_suit_24 : decode cX8_suit 24 = .ok (.putfield 19, 3) := by decide +kernel
theorem dX8_suit_27 : decode cX8_suit 27 = .ok (.aload_n 0, 1) := by decide +kernel
theorem dX8_suit_28 : decode cX8_suit 28 = .ok (.getfield 10, 3) := by decide +kernel
theorem dX8_suit_31 : decode cX8_suit 31 = .ok (.iconst 0, 1) := by decide +kernel
theorem dX8_suit_32 : decode cX8_suit 32 = .ok (.putfield 69, 3) := by decide +kernel
theorem dX8_suit_35 : decode cX8_suit 35 = .ok (.aload_n 0, 1) := by decide +kernel
theorem dX8_suit_36 : decode cX8_suit 36 = .ok (.getfield 26, 3) := by decide +kernel
theorem dX8_suit_39 : decode cX8_suit 39 = .ok (.invokevirtual 85, 3) := by decide +kernel
theorem dX8_suit_42 : decode cX8_suit 42 = .ok (.aload_n 0, 1) := by decide +kernel
theorem dX8_suit_43 : decode cX8_suit 43 = .ok (.invokevirtual 88, 3) := by decide +kernel
theorem dX8_suit_46 : decode cX8_suit 46 = .ok (.aload_n 0, 1) := by decide +kernel
theorem dX8_suit_47 : decode cX8_suit 47 = .ok (.getfield 19, 3) := by decide +kernel
theorem dX8_suit_50 : decode cX8_suit 50 = .ok (.invokevirtual 92, 3) := by decide +kernel
theorem dX8_suit_53 : decode cX8_suit 53 = .ok (.aload_n 0, 1) := by decide +kernel
theorem dX8_suit_54 : decode cX8_suit 54 = .ok (.iconst 0, 1) := by decide +kernel
theorem dX8_suit_55 : decode cX8_suit 55 = .ok (.putfield 96, 3) := by decide +kernel
theorem dX8_suit_58 : decode cX8_suit 58 = .ok (.aload_n 0, 1) := by decide +kernel
theorem dX8_suit_59 : decode cX8_suit 59 = .ok (.getfield 58, 3) := by decide +kernel
theorem dX8_suit_62 : decode cX8_suit 62 = .ok (.iconst 0, 1) := by decide +kernel
theorem dX8_suit_63 : decode cX8_suit 63 = .ok (.putfield 99, 3) := by decide +kernel
theorem dX8_suit_66 : decode cX8_suit 66 = .ok (.aload_n 0, 1) := by decide +kernel
theorem dX8_suit_67 : decode cX8_suit 67 = .ok (.iconst 0, 1) := by decide +kernel
theorem dX8_suit_68 : decode cX8_suit 68 = .ok (.putfield 102, 3) := by decide +kernel
theorem dX8_suit_71 : decode cX8_suit 71 = .ok (.aload_n 0, 1) := by decide +kernel
theorem dX8_suit_72 : decode cX8_suit 72 = .ok (.getfield 19, 3) := by decide +kernel
theorem dX8_suit_75 : decode cX8_suit 75 = .ok (.getfield 105, 3) := by decide +kernel
theorem dX8_suit_78 : decode cX8_suit 78 = .ok (.ireturn, 1) := by decide +kernel
theorem dX8_fault_0 : decode cX8_fault 0 = .ok (.iload_n 1, 1) := by decide +kernel
theorem dX8_fault_1 : decode cX8_fault 1 = .ok (.ifCond .ne 11, 3) := by decide +kernel
theorem dX8_fault_4 : decode cX8_fault 4 = .ok (.aload_n 0, 1) := by decide +kernel
theorem dX8_fault_5 : decode cX8_fault 5 = .ok (.getfield 10, 3) := by decide +kernel
theorem dX8_fault_8 : decode cX8_fault 8 = .ok (.getfield 108, 3) := by decide +kernel
theorem dX8_fault_11 : decode cX8_fault 11 = .ok (.ireturn, 1) := by decide +kernel
theorem dX8_fault_12 : decode cX8_fault 12 = .ok (.iload_n 1, 1) := by decide +kernel
theorem dX8_fault_13 : decode cX8_fault 13 = .ok (.iconst 1, 1) := by decide +kernel
theorem dX8_fault_14 : decode cX8_fault 14 = .ok (.if_icmp .ne 13, 3) := by decide +kernel
theorem dX8_fault_17 : decode cX8_fault 17 = .ok (.aload_n 0, 1) := by decide +kernel
theorem dX8_fault_18 : decode cX8_fault 18 = .ok (.getfield 10, 3) := by decide +kernel
theorem dX8_fault_21 : decode cX8_fault 21 = .ok (.getfield 111, 3) := by decide +kernel
theorem dX8_fault_24 : decode cX8_fault 24 = .ok (.goto 4, 3) := by decide +kernel
theorem dX8_fault_27 : decode cX8_fault 27 = .ok (.iconst (-1), 1) := by decide +kernel
theorem dX8_fault_28 : decode cX8_fault 28 = .ok (.ireturn, 1) := by decide +kernel
set_option maxRecDepth 20000 in
theorem ggX8_point_X5_isPoint : GoodIn wsX8_point wsX5_isPoint := goodIn_r _ [11, 12, 39, 40, 41, 42, 43, 44, 45, 46, 47, 48, 49, 50] rfl rfl
set_option maxRecDepth 20000 in
theorem gX8_point_X5_isPoint : GoodIn wsX8_point (wsV RX8 114 RX5 yX5_isPoint wsX5_isPoint) := goodIn_app (goodIn_of _ (by decide +kernel)) ggX8_point_X5_isPoint
set_option maxRecDepth 20000 in
theorem ggX8_point_X8_now : GoodIn wsX8_point wsX8_now := goodIn_r _ [17, 18, 19, 20, 21, 22, 23, 24, 25, 26, 27, 28, 29, 30, 31, 32, 33, 34, 35, 36, 37, 38, 56, 57, 58, 59] rfl rfl
set_option maxRecDepth 20000 in
theorem gX8_point_X8_now : GoodIn wsX8_point (wsV RX8 88 RX8 yX8_now wsX8_now) := goodIn_app (goodIn_of _ (by decide +kernel)) ggX8_point_X8_now
theorem dX8_point_0 : decode cX8_point 0 = .ok (.aload_n 0, 1) := by decide +kernel
theorem dX8_point_1 : decode cX8_point 1 = .ok (.getfield 19, 3) := by decide +kernel
theorem dX8_point_4 : decode cX8_point 4 = .ok (.iload_n 1, 1) := by decide +kernel
theorem dX8_point_5 : decode cX8_point 5 = .ok (.invokevirtual 114, 3) := by decide +kernel
theorem dX8_point_8 : decode cX8_point 8 = .ok (.ifCond .ne 5, 3) := by decide +kernel
theorem dX8_point_11 : decode cX8_point 11 = .ok (.iconst (-1), 1) := by decide +kernel
theorem dX8_point_12 : decode cX8_point 12 = .ok (.ireturn, 1) := by decide +kernel
theorem dX8_point_13 : decode cX8_point 13 = .ok (.iload_n 2, 1) := by decide +kernel
theorem dX8_point_14 : decode cX8_point 14 = .ok (.tableswitch 88 0 4 #[34, 46, 56, 68, 78], 34) := by decide +kernel
theorem dX8_point_48 : decode cX8_point 48 = .ok (.aload_n 0, 1) := by decide +kernel
theorem dX8_point_49 : decode cX8_point 49 = .ok (.getfield 19, 3) := by decide +kernel
theorem dX8_point_52 : decode cX8_point 52 = .ok (.getfield 118, 3) := by decide +kernel
theorem dX8_point_55 : decode cX8_point 55 = .ok (.iload_n 1, 1) := by decide +kernel
theorem dX8_point_56 : decode cX8_point 56 = .ok (.ishr, 1) := by decide +kernel
theorem dX8_point_57 : decode cX8_point 57 = .ok (.iconst 1, 1) := by decide +kernel
theorem dX8_point_58 : decode cX8_point 58 = .ok (.iand, 1) := by decide +kernel
theorem dX8_point_59 : decode cX8_point 59 = .ok (.ireturn, 1) := by decide +kernel
theorem dX8_point_60 : decode cX8_point 60 = .ok (.aload_n 0, 1) := by decide +kernel
theorem dX8_point_61 : decode cX8_point 61 = .ok (.getfield 19, 3) := by decide +kernel
theorem dX8_point_64 : decode cX8_point 64 = .ok (.getfield 121, 3) := by decide +kernel
theorem dX8_point_67 : decode cX8_point 67 = .ok (.iload_n 1, 1) := by decide +kernel
theorem dX8_point_68 : decode cX8_point 68 = .ok (.iaload, 1) := by decide +kernel
theorem dX8_point_69 : decode cX8_point 69 = .ok (.ireturn, 1) := by decide +kernel
theorem dX8_point_70 : decode cX8_point 70 = .ok (.aload_n 0, 1) := by decide +kernel
theorem dX8_point_71 : decode cX8_point 71 = .ok (.invokevirtual 88, 3) := by decide +kernel
theorem dX8_point_74 : decode cX8_point 74 = .ok (.getfield 124, 3) := by decide +kernel
theorem dX8_point_77 : decode cX8_point 77 = .ok (.iload_n 1, 1) := by decide +kernel
theorem dX8_point_78 : decode cX8_point 78 = .ok (.ishr, 1) := by decide +kernel
theorem dX8_point_79 : decode cX8_point 79 = .ok (.iconst 1, 1) := by decide +kernel
theorem dX8_point_80 : decode cX8_point 80 = .ok (.iand, 1) := by decide +kernel
theorem dX8_point_81 : decode cX8_point 81 = .ok (.ireturn, 1) := by decide +kernel
theorem dX8_point_82 : decode cX8_point 82 = .ok (.aload_n 0, 1) := by decide +kernel
theorem dX8_point_83 : decode cX8_point 83 = .ok (.getfield 19, 3) := by decide +kernel
theorem dX8_point_86 : decode cX8_point 86 = .ok (.getfield 127, 3) := by decide +kernel
theorem dX8_point_89 : decode cX8_point 89 = .ok (.iload_n 1, 1) := by decide +kernel
theorem dX8_point_90 : decode cX8_point 90 = .ok (.iaload, 1) := by decide +kernel
theorem dX8_point_91 : decode cX8_point 91 = .ok (.ireturn, 1) := by decide +kernel
theorem dX8_point_92 : decode cX8_point 92 = .ok (.aload_n 0, 1) := by decide +kernel
theorem dX8_point_93 : decode cX8_point 93 = .ok (.getfield 19, 3) := by decide +kernel
theorem dX8_point_96 : decode cX8_point 96 = .ok (.getfield 130, 3) := by decide +kernel
theorem dX8_point_99 : decode cX8_point 99 = .ok (.iload_n 1, 1) := by decide +kernel
theorem dX8_point_100 : decode cX8_point 100 = .ok (.iaload, 1) := by decide +kernel
theorem dX8_point_101 : decode cX8_point 101 = .ok (.ireturn, 1) := by decide +kernel
theorem dX8_point_102 : decode cX8_point 102 = .ok (.iconst (-1), 1) := by decide +kernel
theorem dX8_point_103 : decode cX8_point 103 = .ok (.ireturn, 1) := by decide +kernel
set_option maxRecDepth 20000 in
theorem ggX8_strand_X5_isStrand : GoodIn wsX8_strand wsX5_isStrand := goodIn_r _ [12, 13, 121, 122, 123, 124, 125, 126, 127, 128, 129, 130, 131, 132] rfl rfl
set_option maxRecDepth 20000 in
theorem gX8_strand_X5_isStrand : GoodIn wsX8_strand (wsV RX8 133 RX5 yX5_isStrand wsX5_isStrand) := goodIn_app (goodIn_of _ (by decide +kernel)) ggX8_strand_X5_isStrand
set_option maxRecDepth 20000 in
theorem ggX8_strand_X8_now : GoodIn wsX8_strand wsX8_now := goodIn_r _ [18, 19, 20, 21, 22, 23, 24, 25, 26, 108, 109, 110, 111, 112, 113, 114, 115, 116, 117, 118, 119, 120, 148, 149, 150, 151] rfl rfl
set_option maxRecDepth 20000 in
theorem gX8_strand_X8_now : GoodIn wsX8_strand (wsV RX8 88 RX8 yX8_now wsX8_now) := goodIn_app (goodIn_of _ (by decide +kernel)) ggX8_strand_X8_now
set_option maxRecDepth 20000 in
theorem ggX8_strand_X8_look : GoodIn wsX8_strand wsX8_look := goodIn_r _ [30, 6, 1, 14, 15, 16, 17, 18, 19, 20, 21, 22, 23, 24, 25, 26, 31, 32, 33, 34, 35, 36, 37, 38, 39, 40, 41, 42, 43, 44, 45, 46, 47, 48, 49, 50, 108, 109, 110, 111, 112, 113, 114, 115, 116, 117, 118, 119, 120, 148, 149, 150, 151, 138, 139, 140, 141, 142, 143, 144, 145, 146, 147, 121, 122, 123, 124, 125, 126, 127, 128, 129, 130, 131, 132, 133, 134, 135, 136, 137] rfl rfl
set_option maxRecDepth 20000 in
theorem gX8_strand_X8_look : GoodIn wsX8_strand (wsV RX8 148 RX8 yX8_look wsX8_look) := goodIn_app (goodIn_of _ (by decide +kernel)) ggX8_strand_X8_look
set_option maxRecDepth 20000 in
theorem ggX8_strand_X2_weigh : GoodIn wsX8_strand wsX2_weigh := goodIn_r _ [54, 36, 55, 43, 56, 57, 17, 58, 59, 60, 61, 34, 62, 63, 64, 65, 66, 67, 68, 69, 50, 49, 41, 70, 71, 72, 73, 74, 75, 76, 77, 78, 79, 80, 81, 82, 83, 84, 85, 86, 87, 88, 89, 90, 91, 92, 93, 94, 95, 96, 97, 98, 99, 100, 101, 102, 103, 104, 105, 106, 107, 138, 139, 140, 141, 142, 143, 144, 145, 146, 147, 121, 122, 123, 124, 125, 126, 127, 128, 129, 130, 131, 132, 152, 153, 154, 155, 156, 157] rfl rfl
set_option maxRecDepth 20000 in
theorem gX8_strand_X2_weigh : GoodIn wsX8_strand (wsV RX8 151 RX2 yX2_weigh wsX2_weigh) := goodIn_app (goodIn_of _ (by decide +kernel)) ggX8_strand_X2_weigh
theorem dX8_strand_0 : decode cX8_strand 0 = .ok (.aload_n 0, 1) := by decide +kernel
theorem dX8_strand_1 : decode cX8_strand 1 = .ok (.getfield 19, 3) := by decide +kernel
theorem dX8_strand_4 : decode cX8_strand 4 = .ok (.iload_n 1, 1) := by decide +kernel
theorem dX8_strand_5 : decode cX8_strand 5 = .ok (.invokevirtual 133, 3) := by decide +kernel
theorem dX8_strand_8 : decode cX8_strand 8 = .ok (.ifCond .ne 5, 3) := by decide +kernel
theorem dX8_strand_11 : decode cX8_strand 11 = .ok (.iconst (-1), 1) := by decide +kernel
theorem dX8_strand_12 : decode cX8_strand 12 = .ok (.ireturn, 1) := by decide +kernel
theorem dX8_strand_13 : decode cX8_strand 13 = .ok (.iload_n 2, 1) := by decide +kernel
theorem dX8_strand_14 : decode cX8_strand 14 = .ok (.tableswitch 104 0 4 #[34, 44, 54, 64, 76], 34) := by decide +kernel
theorem dX8_strand_48 : decode cX8_strand 48 = .ok (.aload_n 0, 1) := by decide +kernel
theorem dX8_strand_49 : decode cX8_strand 49 = .ok (.getfield 19, 3) := by decide +kernel
theorem dX8_strand_52 : decode cX8_strand 52 = .ok (.getfield 136, 3) := by decide +kernel
theorem dX8_strand_55 : decode cX8_strand 55 = .ok (.iload_n 1, 1) := by decide +kernel
theorem dX8_strand_56 : decode cX8_strand 56 = .ok (.iaload, 1) := by decide +kernel
theorem dX8_strand_57 : decode cX8_strand 57 = .ok (.ireturn, 1) := by decide +kernel
theorem dX8_strand_58 : decode cX8_strand 58 = .ok (.aload_n 0, 1) := by decide +kernel
theorem dX8_strand_59 : decode cX8_strand 59 = .ok (.getfield 19, 3) := by decide +kernel
theorem dX8_strand_62 : decode cX8_strand 62 = .ok (.getfield 139, 3) := by decide +kernel
theorem dX8_strand_65 : decode cX8_strand 65 = .ok (.iload_n 1, 1) := by decide +kernel
theorem dX8_strand_66 : decode cX8_strand 66 = .ok (.iaload, 1) := by decide +kernel
theorem dX8_strand_67 : decode cX8_strand 67 = .ok (.ireturn, 1) := by decide +kernel
theorem dX8_strand_68 : decode cX8_strand 68 = .ok (.aload_n 0, 1) := by decide +kernel
theorem dX8_strand_69 : decode cX8_strand 69 = .ok (.invokevirtual 88, 3) := by decide +kernel
theorem dX8_strand_72 : decode cX8_strand 72 = .ok (.getfield 142, 3) := by decide +kernel
theorem dX8_strand_75 : decode cX8_strand 75 = .ok (.iload_n 1, 1) := by decide +kernel
theorem dX8_strand_76 : decode cX8_strand 76 = .ok (.iaload, 1) := by decide +kernel
theorem dX8_strand_77 : decode cX8_strand 77 = .ok (.ireturn, 1) := by decide +kernel
theorem dX8_strand_78 : decode cX8_strand 78 = .ok (.aload_n 0, 1) := by decide +kernel
theorem dX8_strand_79 : decode cX8_strand 79 = .ok (.invokevirtual 88, 3) := by decide +kernel
theorem dX8_strand_82 : decode cX8_strand 82 = .ok (.getfield 145, 3) := by decide +kernel
theorem dX8_strand_85 : decode cX8_strand 85 = .ok (.iload_n 1, 1) := by decide +kernel
theorem dX8_strand_86 : decode cX8_strand 86 = .ok (.ishr, 1) := by decide +kernel
theorem dX8_strand_87 : decode cX8_strand 87 = .ok (.iconst 1, 1) := by decide +kernel
theorem dX8_strand_88 : decode cX8_strand 88 = .ok (.iand, 1) := by decide +kernel
theorem dX8_strand_89 : decode cX8_strand 89 = .ok (.ireturn, 1) := by decide +kernel
theorem dX8_strand_90 : decode cX8_strand 90 = .ok (.aload_n 0, 1) := by decide +kernel
theorem dX8_strand_91 : decode cX8_strand 91 = .ok (.invokevirtual 148, 3) := by decide +kernel
theorem dX8_strand_94 : decode cX8_strand 94 = .ok (.aload_n 0, 1) := by decide +kernel
theorem dX8_strand_95 : decode cX8_strand 95 = .ok (.getfield 44, 3) := by decide +kernel
theorem dX8_strand_98 : decode cX8_strand 98 = .ok (.aload_n 0, 1) := by decide +kernel
theorem dX8_strand_99 : decode cX8_strand 99 = .ok (.invokevirtual 88, 3) := by decide +kernel
theorem dX8_strand_102 : decode cX8_strand 102 = .ok (.getfield 145, 3) := by decide +kernel
theorem dX8_strand_105 : decode cX8_strand 105 = .ok (.invokevirtual 151, 3) := by decide +kernel
theorem dX8_strand_108 : decode cX8_strand 108 = .ok (.aload_n 0, 1) := by decide +kernel
theorem dX8_strand_109 : decode cX8_strand 109 = .ok (.getfield 44, 3) := by decide +kernel
theorem dX8_strand_112 : decode cX8_strand 112 = .ok (.getfield 154, 3) := by decide +kernel
theorem dX8_strand_115 : decode cX8_strand 115 = .ok (.iload_n 1, 1) := by decide +kernel
theorem dX8_strand_116 : decode cX8_strand 116 = .ok (.iaload, 1) := by decide +kernel
theorem dX8_strand_117 : decode cX8_strand 117 = .ok (.ireturn, 1) := by decide +kernel
theorem dX8_strand_118 : decode cX8_strand 118 = .ok (.iconst (-1), 1) := by decide +kernel
theorem dX8_strand_119 : decode cX8_strand 119 = .ok (.ireturn, 1) := by decide +kernel
set_option maxRecDepth 20000 in
theorem ggX8_now_X0_state : GoodIn wsX8_now wsX0_state := goodIn_r _ [6, 7, 8, 22, 23, 24, 25] rfl rfl
set_option maxRecDepth 20000 in
theorem gX8_now_X0_state : GoodIn wsX8_now (wsV RX8 187 RX0 yX0_state wsX0_state) := goodIn_app (goodIn_of _ (by decide +kernel)) ggX8_now_X0_state
theorem dX8_now_0 : decode cX8_now 0 = .ok (.aload_n 0, 1) := by decide +kernel
theorem dX8_now_1 : decode cX8_now 1 = .ok (.getfield 26, 3) := by decide +kernel
theorem dX8_now_4 : decode cX8_now 4 = .ok (.invokevirtual 187, 3) := by decide +kernel
theorem dX8_now_7 : decode cX8_now 7 = .ok (.areturn, 1) := by decide +kernel
set_option maxRecDepth 20000 in
theorem ggX8_look_X8_now : GoodIn wsX8_look wsX8_now := goodIn_r _ [7, 8, 9, 10, 11, 12, 13, 14, 15, 36, 37, 38, 39, 40, 41, 42, 43, 44, 45, 46, 47, 48, 49, 50, 51, 52] rfl rfl
set_option maxRecDepth 20000 in
theorem gX8_look_X8_now : GoodIn wsX8_look (wsV RX8 88 RX8 yX8_now wsX8_now) := goodIn_app (goodIn_of _ (by decide +kernel)) ggX8_look_X8_now
set_option maxRecDepth 20000 in
theorem ggX8_look_X2_take : GoodIn wsX8_look wsX2_take := goodIn_r _ [20, 21, 22, 23, 24, 25, 26, 27, 28, 29, 30, 31, 32, 33, 34, 35, 53, 54, 55, 56, 57, 58, 59, 60, 61, 62, 63, 64, 65, 66, 67, 68, 69, 70, 71, 72, 73, 74, 75, 76, 77, 78, 79] rfl rfl
set_option maxRecDepth 20000 in
theorem gX8_look_X2_take : GoodIn wsX8_look (wsV RX8 237 RX2 yX2_take wsX2_take) := goodIn_app (goodIn_of _ (by decide +kernel)) ggX8_look_X2_take
theorem dX8_look_0 : decode cX8_look 0 = .ok (.aload_n 0, 1) := by decide +kernel
theorem dX8_look_1 : decode cX8_look 1 = .ok (.getfield 44, 3) := by decide +kernel
theorem dX8_look_4 : decode cX8_look 4 = .ok (.aload_n 0, 1) := by decide +kernel
theorem dX8_look_5 : decode cX8_look 5 = .ok (.getfield 19, 3) := by decide +kernel
theorem dX8_look_8 : decode cX8_look 8 = .ok (.aload_n 0, 1) := by decide +kernel
theorem dX8_look_9 : decode cX8_look 9 = .ok (.invokevirtual 88, 3) := by decide +kernel
theorem dX8_look_12 : decode cX8_look 12 = .ok (.invokevirtual 237, 3) := by decide +kernel
theorem dX8_look_15 : decode cX8_look 15 = .ok (.return_, 1) := by decide +kernel
theorem dJ6_bitCount_0f7a4_0 : decode cJ6_bitCount_0f7a4 0 = .ok (.iload_n 0, 1) := by decide +kernel
theorem dJ6_bitCount_0f7a4_1 : decode cJ6_bitCount_0f7a4 1 = .ok (.iload_n 0, 1) := by decide +kernel
theorem dJ6_bitCount_0f7a4_2 : decode cJ6_bitCount_0f7a4 2 = .ok (.iconst 1, 1) := by decide +kernel
theorem dJ6_bitCount_0f7a4_3 : decode cJ6_bitCount_0f7a4 3 = .ok (.iushr, 1) := by decide +kernel
theorem dJ6_bitCount_0f7a4_4 : decode cJ6_bitCount_0f7a4 4 = .ok (.ldc_w 265, 3) := by decide +kernel
theorem dJ6_bitCount_0f7a4_7 : decode cJ6_bitCount_0f7a4 7 = .ok (.iand, 1) := by decide +kernel
theorem dJ6_bitCount_0f7a4_8 : decode cJ6_bitCount_0f7a4 8 = .ok (.isub, 1) := by decide +kernel
theorem dJ6_bitCount_0f7a4_9 : decode cJ6_bitCount_0f7a4 9 = .ok (.istore_n 0, 1) := by decide +kernel
theorem dJ6_bitCount_0f7a4_10 : decode cJ6_bitCount_0f7a4 10 = .ok (.iload_n 0, 1) := by decide +kernel
theorem dJ6_bitCount_0f7a4_11 : decode cJ6_bitCount_0f7a4 11 = .ok (.ldc_w 266, 3) := by decide +kernel
theorem dJ6_bitCount_0f7a4_14 : decode cJ6_bitCount_0f7a4 14 = .ok (.iand, 1) := by decide +kernel
theorem dJ6_bitCount_0f7a4_15 : decode cJ6_bitCount_0f7a4 15 = .ok (.iload_n 0, 1) := by decide +kernel
theorem dJ6_bitCount_0f7a4_16 : decode cJ6_bitCount_0f7a4 16 = .ok (.iconst 2, 1) := by decide +kernel
theorem dJ6_bitCount_0f7a4_17 : decode cJ6_bitCount_0f7a4 17 = .ok (.iushr, 1) := by decide +kernel
theorem dJ6_bitCount_0f7a4_18 : decode cJ6_bitCount_0f7a4 18 = .ok (.ldc_w 266, 3) := by decide +kernel
theorem dJ6_bitCount_0f7a4_21 : decode cJ6_bitCount_0f7a4 21 = .ok (.iand, 1) := by decide +kernel
theorem dJ6_bitCount_0f7a4_22 : decode cJ6_bitCount_0f7a4 22 = .ok (.iadd, 1) := by decide +kernel
theorem dJ6_bitCount_0f7a4_23 : decode cJ6_bitCount_0f7a4 23 = .ok (.istore_n 0, 1) := by decide +kernel
theorem dJ6_bitCount_0f7a4_24 : decode cJ6_bitCount_0f7a4 24 = .ok (.iload_n 0, 1) := by decide +kernel
theorem dJ6_bitCount_0f7a4_25 : decode cJ6_bitCount_0f7a4 25 = .ok (.iload_n 0, 1) := by decide +kernel
theorem dJ6_bitCount_0f7a4_26 : decode cJ6_bitCount_0f7a4 26 = .ok (.iconst 4, 1) := by decide +kernel
theorem dJ6_bitCount_0f7a4_27 : decode cJ6_bitCount_0f7a4 27 = .ok (.iushr, 1) := by decide +kernel
theorem dJ6_bitCount_0f7a4_28 : decode cJ6_bitCount_0f7a4 28 = .ok (.iadd, 1) := by decide +kernel
theorem dJ6_bitCount_0f7a4_29 : decode cJ6_bitCount_0f7a4 29 = .ok (.ldc_w 267, 3) := by decide +kernel
theorem dJ6_bitCount_0f7a4_32 : decode cJ6_bitCount_0f7a4 32 = .ok (.iand, 1) := by decide +kernel
theorem dJ6_bitCount_0f7a4_33 : decode cJ6_bitCount_0f7a4 33 = .ok (.istore_n 0, 1) := by decide +kernel
theorem dJ6_bitCount_0f7a4_34 : decode cJ6_bitCount_0f7a4 34 = .ok (.iload_n 0, 1) := by decide +kernel
theorem dJ6_bitCount_0f7a4_35 : decode cJ6_bitCount_0f7a4 35 = .ok (.iload_n 0, 1) := by decide +kernel
theorem dJ6_bitCount_0f7a4_36 : decode cJ6_bitCount_0f7a4 36 = .ok (.bipush 8, 2) := by decide +kernel
theorem dJ6_bitCount_0f7a4_38 : decode cJ6_bitCount_0f7a4 38 = .ok (.iushr, 1) := by decide +kernel
theorem dJ6_bitCount_0f7a4_39 : decode cJ6_bitCount_0f7a4 39 = .ok (.iadd, 1) := by decide +kernel
theorem dJ6_bitCount_0f7a4_40 : decode cJ6_bitCount_0f7a4 40 = .ok (.istore_n 0, 1) := by decide +kernel
theorem dJ6_bitCount_0f7a4_41 : decode cJ6_bitCount_0f7a4 41 = .ok (.iload_n 0, 1) := by decide +kernel
theorem dJ6_bitCount_0f7a4_42 : decode cJ6_bitCount_0f7a4 42 = .ok (.iload_n 0, 1) := by decide +kernel
theorem dJ6_bitCount_0f7a4_43 : decode cJ6_bitCount_0f7a4 43 = .ok (.bipush 16, 2) := by decide +kernel
theorem dJ6_bitCount_0f7a4_45 : decode cJ6_bitCount_0f7a4 45 = .ok (.iushr, 1) := by decide +kernel
theorem dJ6_bitCount_0f7a4_46 : decode cJ6_bitCount_0f7a4 46 = .ok (.iadd, 1) := by decide +kernel
theorem dJ6_bitCount_0f7a4_47 : decode cJ6_bitCount_0f7a4 47 = .ok (.istore_n 0, 1) := by decide +kernel
theorem dJ6_bitCount_0f7a4_48 : decode cJ6_bitCount_0f7a4 48 = .ok (.iload_n 0, 1) := by decide +kernel
theorem dJ6_bitCount_0f7a4_49 : decode cJ6_bitCount_0f7a4 49 = .ok (.bipush 63, 2) := by decide +kernel
theorem dJ6_bitCount_0f7a4_51 : decode cJ6_bitCount_0f7a4 51 = .ok (.iand, 1) := by decide +kernel
theorem dJ6_bitCount_0f7a4_52 : decode cJ6_bitCount_0f7a4 52 = .ok (.ireturn, 1) := by decide +kernel
theorem in_X0_state_X0 : ∀ w ∈ wsX00, w ∈ wsX0_state := fun _ h => List.mem_cons_of_mem _ (List.mem_append_right _ h)
theorem in_X8_now_X8 : ∀ w ∈ wsX80, w ∈ wsX8_now := fun _ h => List.mem_cons_of_mem _ (List.mem_append_left _ (List.mem_append_right _ h))
theorem in_X8_suit_X8 : ∀ w ∈ wsX80, w ∈ wsX8_suit := fun _ h => List.mem_cons_of_mem _ (List.mem_append_left _ (List.mem_append_left _ (List.mem_append_left _ (List.mem_append_left _ (List.mem_append_left _ (List.mem_append_left _ (List.mem_append_right _ h)))))))
theorem in_X8_suit_X3 : ∀ w ∈ wsX30, w ∈ wsX8_suit := fun _ h => List.mem_cons_of_mem _ (List.mem_append_left _ (List.mem_append_left _ (List.mem_append_left _ (List.mem_append_left _ (List.mem_append_left _ (List.mem_append_right _ h))))))
theorem in_X8_suit_X7 : ∀ w ∈ wsX70, w ∈ wsX8_suit := fun _ h => List.mem_cons_of_mem _ (List.mem_append_left _ (List.mem_append_left _ (List.mem_append_left _ (List.mem_append_left _ (List.mem_append_right _ h)))))
theorem in_X8_suit_X5 : ∀ w ∈ wsX50, w ∈ wsX8_suit := fun _ h => List.mem_cons_of_mem _ (List.mem_append_left _ (List.mem_append_left _ (List.mem_append_left _ (List.mem_append_right _ h))))
theorem in_X8_fault_X8 : ∀ w ∈ wsX80, w ∈ wsX8_fault := fun _ h => List.mem_cons_of_mem _ (List.mem_append_left _ (List.mem_append_right _ h))
theorem in_X8_fault_X3 : ∀ w ∈ wsX30, w ∈ wsX8_fault := fun _ h => List.mem_cons_of_mem _ (List.mem_append_right _ h)
theorem in_X8_point_X8 : ∀ w ∈ wsX80, w ∈ wsX8_point := fun _ h => List.mem_cons_of_mem _ (List.mem_append_left _ (List.mem_append_left _ (List.mem_append_left _ (List.mem_append_right _ h))))
theorem in_X8_point_X5 : ∀ w ∈ wsX50, w ∈ wsX8_point := fun _ h => List.mem_cons_of_mem _ (List.mem_append_left _ (List.mem_append_left _ (List.mem_append_right _ h)))
theorem in_X8_point_X4 : ∀ w ∈ wsX40, w ∈ wsX8_point := fun _ h => List.mem_cons_of_mem _ (List.mem_append_left _ (List.mem_append_right _ h))
theorem in_X1_pop_X1 : ∀ w ∈ wsX10, w ∈ wsX1_pop := fun _ h => List.mem_cons_of_mem _ (List.mem_append_right _ h)
theorem in_X1_push_X1 : ∀ w ∈ wsX10, w ∈ wsX1_push := fun _ h => List.mem_cons_of_mem _ (List.mem_append_right _ h)
theorem in_X1_value_X1 : ∀ w ∈ wsX10, w ∈ wsX1_value := fun _ h => List.mem_cons_of_mem _ (List.mem_append_right _ h)
theorem in_X2_borne_X2 : ∀ w ∈ wsX20, w ∈ wsX2_borne := fun _ h => List.mem_cons_of_mem _ (List.mem_append_left _ (List.mem_append_left _ (List.mem_append_right _ h)))
theorem in_X2_borne_X5 : ∀ w ∈ wsX50, w ∈ wsX2_borne := fun _ h => List.mem_cons_of_mem _ (List.mem_append_left _ (List.mem_append_right _ h))
theorem in_X2_borne_X1 : ∀ w ∈ wsX10, w ∈ wsX2_borne := fun _ h => List.mem_cons_of_mem _ (List.mem_append_right _ h)
theorem in_X2_weigh_X2 : ∀ w ∈ wsX20, w ∈ wsX2_weigh := fun _ h => List.mem_cons_of_mem _ (List.mem_append_left _ (List.mem_append_left _ (List.mem_append_right _ h)))
theorem in_X2_weigh_X5 : ∀ w ∈ wsX50, w ∈ wsX2_weigh := fun _ h => List.mem_cons_of_mem _ (List.mem_append_left _ (List.mem_append_right _ h))
theorem in_X5_isStrand_X5 : ∀ w ∈ wsX50, w ∈ wsX5_isStrand := fun _ h => List.mem_cons_of_mem _ (List.mem_append_right _ h)
theorem in_X2_take_X2 : ∀ w ∈ wsX20, w ∈ wsX2_take := fun _ h => List.mem_cons_of_mem _ (List.mem_append_left _ (List.mem_append_left _ (List.mem_append_right _ h)))
theorem in_X2_take_X5 : ∀ w ∈ wsX50, w ∈ wsX2_take := fun _ h => List.mem_cons_of_mem _ (List.mem_append_left _ (List.mem_append_right _ h))
theorem in_X2_take_X4 : ∀ w ∈ wsX40, w ∈ wsX2_take := fun _ h => List.mem_cons_of_mem _ (List.mem_append_right _ h)
theorem in_X8_look_X8 : ∀ w ∈ wsX80, w ∈ wsX8_look := fun _ h => List.mem_cons_of_mem _ (List.mem_append_left _ (List.mem_append_left _ (List.mem_append_left _ (List.mem_append_left _ (List.mem_append_right _ h)))))
theorem in_X8_strand_X8 : ∀ w ∈ wsX80, w ∈ wsX8_strand := fun _ h => List.mem_cons_of_mem _ (List.mem_append_left _ (List.mem_append_left _ (List.mem_append_left _ (List.mem_append_left _ (List.mem_append_left _ (List.mem_append_right _ h))))))
theorem in_X8_strand_X5 : ∀ w ∈ wsX50, w ∈ wsX8_strand := fun _ h => List.mem_cons_of_mem _ (List.mem_append_left _ (List.mem_append_left _ (List.mem_append_left _ (List.mem_append_left _ (List.mem_append_right _ h)))))
theorem in_X8_strand_X4 : ∀ w ∈ wsX40, w ∈ wsX8_strand := fun _ h => List.mem_cons_of_mem _ (List.mem_append_left _ (List.mem_append_left _ (List.mem_append_left _ (List.mem_append_right _ h))))
theorem in_X8_strand_X2 : ∀ w ∈ wsX20, w ∈ wsX8_strand := fun _ h => List.mem_cons_of_mem _ (List.mem_append_left _ (List.mem_append_left _ (List.mem_append_right _ h)))
theorem in_X4_copy_X4 : ∀ w ∈ wsX40, w ∈ wsX4_copy := fun _ h => List.mem_cons_of_mem _ (List.mem_append_right _ h)
theorem in_X0_nextState_X0 : ∀ w ∈ wsX00, w ∈ wsX0_nextState := fun _ h => List.mem_cons_of_mem _ (List.mem_append_left _ (List.mem_append_right _ h))
set_option maxHeartbeats 4000000 in
set_option maxRecDepth 100000 in
theorem s_X0_state_0 (l : Launch) (B0 : Nat) (adK adV : Nat → Nat) (D : va_G) (cy : Nat → ClassId) (ad : Nat → Nat) (fr0 : Nat → va_E) (tx : Int32) (rby : Int32) (rnx : Int32) (f : Nat → va_E) (hT : TYx ad cy fr0 tx rby rnx f) (sz : Nat) : TtR l yX0_state wsX0_state 0 0 [.ref (ad 5)] B0 adK adV D cy ad f sz (fun (g : Nat → va_E) => True ∧ (f = g)) (fun ra _ => ∃ q, isState q ∧ ra = ad q) := by
  refine TtR.of (cc := cX0_state) (maxL := 1) (ty := (.object "EightReasons$State")) (own := RX0) (by decide) rfl (Nat.le_of_ble_eq_true rfl) rfl ?_
  intro p e s m below meth c A ls hx hb hr hml hts hown hlk hK hE hP hD hS hA hAB hl
  have hl : lv_has ls 1 [(0, .ref (ad 5))] := hl
  refine st0 (fun H locs hP hS => ?_) hP hS
  refine lv_aload_n hx hb dX0_state_0 rfl (lv_at hl 0 rfl) ?_
  obtain ⟨x1, x3, x4, e5, h2⟩ := (show okX0 ad 5 (f 5) from hT.1 5 (by decide))
  refine va_get (D := D) (cl := vwCl) (ci := 0) (v := .ref (ad 6)) (C := RX0) (T := TX0) (N := 4) hx hb hts in_X0_state_X0 hown hK hP 5 (wl_at (by decide) e5) rfl 0 (by decide) (hts (.fieldLink RX0 13 "EightReasons$Acts" "states" "[LEightReasons$State;") (List.mem_of_getElem? (i := 1) rfl)) (fun _ h9 => h9) rfl dX0_state_1 ?_
  refine lv_aload_n hx hb dX0_state_4 rfl (lv_at hl 0 rfl) ?_
  refine va_get (D := D) (cl := vwCl) (ci := 0) (v := .int x1) (C := RX0) (T := TX0) (N := 4) hx hb hts in_X0_state_X0 hown hK hP 5 (wl_at (by decide) e5) rfl 1 (by decide) (hts (.fieldLink RX0 18 "EightReasons$Acts" "at" "I") (List.mem_of_getElem? (i := 2) rfl)) (fun _ h9 => h9) rfl dX0_state_5 ?_
  obtain ⟨g8, e6, h7⟩ := (show okS ad cy 41 60 (f 6) from hT.1 6 (by decide))
  have h10 := clampN (n := 41) (x := x1) (by omega) (by omega)
  refine va_aldq (C := RX4) hx hb hK hP 6 4 (wl_at (by decide) e6) rfl (vp_in_iff.mpr ⟨by omega, by omega⟩) dX0_state_8 (tpr (v := ad (60 + 2 * Int32.toNatClampNeg x1)) (h7 _ h10) ?_)
  have h9 : isState (60 + 2 * Int32.toNatClampNeg x1) := Or.inr ⟨0 + Int32.toNatClampNeg x1, by omega, by omega⟩
  exact tR hx hb hr hlk hP hS ⟨trivial, rfl⟩ ⟨(60 + 2 * Int32.toNatClampNeg x1), h9, rfl⟩ dX0_state_9
set_option maxHeartbeats 4000000 in
set_option maxRecDepth 100000 in
theorem s_X8_now_0 (l : Launch) (B0 : Nat) (adK adV : Nat → Nat) (D : va_G) (cy : Nat → ClassId) (ad : Nat → Nat) (fr0 : Nat → va_E) (tx : Int32) (rby : Int32) (rnx : Int32) (f : Nat → va_E) (hT : TYx ad cy fr0 tx rby rnx f) (sz : Nat) : TtR l yX8_now wsX8_now 1 20 [.ref (ad 0)] B0 adK adV D cy ad f sz (fun (g : Nat → va_E) => True ∧ (f = g)) (fun ra _ => ∃ q, isState q ∧ ra = ad q) := by
  refine TtR.of (cc := cX8_now) (maxL := 1) (ty := (.object "EightReasons$State")) (own := RX8) (by decide) rfl (Nat.le_of_ble_eq_true rfl) rfl ?_
  intro p e s m below meth c A ls hx hb hr hml hts hown hlk hK hE hP hD hS hA hAB hl
  have hl : lv_has ls 1 [(0, .ref (ad 0))] := hl
  refine st0 (fun H locs hP hS => ?_) hP hS
  refine lv_aload_n hx hb dX8_now_0 rfl (lv_at hl 0 rfl) ?_
  obtain ⟨t1, x3, x4, e6, h2, h5⟩ := (show okX8 ad tx 0 (f 0) from hT.1 0 (by decide))
  refine va_get (D := D) (cl := vwCl) (ci := 8) (v := .ref (ad 5)) (C := RX8) (T := TX8) (N := 13) hx hb hts in_X8_now_X8 hown hK hP 0 (wl_at (by decide) e6) rfl 2 (by decide) (hts (.fieldLink RX8 26 "EightReasons" "acts" "LEightReasons$Acts;") (List.mem_of_getElem? (i := 1) rfl)) (fun _ h9 => h9) rfl dX8_now_1 ?_
  obtain ⟨x7, x9, x10, e11, h8⟩ := (show okX0 ad 5 (f 5) from hT.1 5 (by decide))
  refine tVR (As := []) (rest := []) (i := 5) ⟨hx, hb, hml, hown, hts⟩ hK hE hP hD hS hA hAB (s_X0_state_0 l B0 adK adV D cy ad fr0 tx rby rnx f hT _) (cwV 0 hts gX8_now_X0_state rfl rfl rfl (by decide +kernel) ⟨Nat.le_of_ble_eq_true rfl, Nat.le_of_ble_eq_true rfl⟩) (by decide) 0 e11 rfl rfl hl.1 rfl (Nat.le_of_ble_eq_true rfl) dX8_now_4 ⟨Nat.le_of_ble_eq_true rfl, Nat.le_of_ble_eq_true rfl⟩ (fun ra g H locs hw hra hP hD hS => ?_)
  obtain ⟨hrs, rfl⟩ := hw
  obtain ⟨t12, h13, rfl⟩ := hra
  exact tR hx hb hr hlk hP hS ⟨trivial, rfl⟩ ⟨t12, h13, rfl⟩ dX8_now_7
set_option maxHeartbeats 4000000 in
set_option maxRecDepth 100000 in
theorem s_X8_suit_0 (l : Launch) (B0 : Nat) (adK adV : Nat → Nat) (D : va_G) (cy : Nat → ClassId) (ad : Nat → Nat) (fr0 : Nat → va_E) (tx : Int32) (rby : Int32) (rnx : Int32) (f : Nat → va_E) (hT : TYx ad cy fr0 tx rby rnx f) (sz : Nat) : TtI l yX8_suit wsX8_suit 56 1285 [.ref (ad 0)] B0 adK adV D cy ad f sz (fun (r : Int32) (g : Nat → va_E) => (-1 ≤ r.toInt ∧ r.toInt ≤ 10) ∧ (∃ (rby' : Int32) (rnx' : Int32), TYx ad cy fr0 tx rby' rnx' g)) := by
  refine TtI.of (cc := cX8_suit) (maxL := 1) (ty := .int) (own := RX8) (by decide) rfl (Nat.le_of_ble_eq_true rfl) rfl ?_
  intro p e s m below meth c A ls hx hb hr hml hts hown hlk hK hE hP hD hS hA hAB hl
  have hl : lv_has ls 1 [(0, .ref (ad 0))] := hl
  refine st0 (fun H locs hP hS => ?_) hP hS
  refine lv_aload_n hx hb dX8_suit_0 rfl (lv_at hl 0 rfl) ?_
  obtain ⟨t1, x3, x4, e6, h2, h5⟩ := (show okX8 ad tx 0 (f 0) from hT.1 0 (by decide))
  refine va_get (D := D) (cl := vwCl) (ci := 8) (v := .ref (ad 1)) (C := RX8) (T := TX8) (N := 13) hx hb hts in_X8_suit_X8 hown hK hP 0 (wl_at (by decide) e6) rfl 0 (by decide) (hts (.fieldLink RX8 10 "EightReasons" "reader" "LEightReasons$Reader;") (List.mem_of_getElem? (i := 1) rfl)) (fun _ h9 => h9) rfl dX8_suit_1 ?_
  obtain ⟨x7, x8, t10, x12, x14, x15, x16, y17, e18, h9, h11, h13⟩ := (show okX3 ad rby rnx 1 (f 1) from hT.1 1 (by decide))
  refine tVI (As := []) (rest := []) (i := 1) ⟨hx, hb, hml, hown, hts⟩ hK hE hP hD hS hA hAB (s_X3_read_0 l B0 adK adV D cy ad fr0 tx rby rnx f hT _) (cwV 0 hts gX8_suit_X3_read rfl rfl rfl (by decide +kernel) ⟨Nat.le_of_ble_eq_true rfl, Nat.le_of_ble_eq_true rfl⟩) (by decide) 3 e18 rfl rfl hl.1 rfl (Nat.le_of_ble_eq_true rfl) dX8_suit_4 ⟨Nat.le_of_ble_eq_true rfl, Nat.le_of_ble_eq_true rfl⟩ (fun r f H locs hw hP hD hS => ?_)
  obtain ⟨hrs, x19, hT⟩ := hw
  obtain ⟨x20, rfl⟩ : ∃ q, q = r := ⟨_, rfl⟩
  rcases hrs with rfl | rfl
  · refine lv_if_ne (tgt := 12) hx hb dX8_suit_7 (by decide) (fun _ => ?_) (fun c => absurd c (by decide))
    refine lv_aload_n hx hb dX8_suit_12 rfl (lv_at hl 0 rfl) ?_
    refine lv_aload_n hx hb dX8_suit_13 rfl (lv_at hl 0 rfl) ?_
    obtain ⟨t21, x23, x24, e26, h22, h25⟩ := (show okX8 ad tx 0 (f 0) from hT.1 0 (by decide))
    refine va_get (D := D) (cl := vwCl) (ci := 8) (v := .ref (ad 1)) (C := RX8) (T := TX8) (N := 13) hx hb hts in_X8_suit_X8 hown hK hP 0 (wl_at (by decide) e26) rfl 0 (by decide) (hts (.fieldLink RX8 10 "EightReasons" "reader" "LEightReasons$Reader;") (List.mem_of_getElem? (i := 1) rfl)) (fun _ h9 => h9) rfl dX8_suit_14 ?_
    refine lv_aload_n hx hb dX8_suit_17 rfl (lv_at hl 0 rfl) ?_
    refine va_get (D := D) (cl := vwCl) (ci := 8) (v := .ref (ad t21)) (C := RX8) (T := TX8) (N := 13) hx hb hts in_X8_suit_X8 hown hK hP 0 (wl_at (by decide) e26) rfl 1 (by decide) (hts (.fieldLink RX8 19 "EightReasons" "told" "LEightReasons$Suit;") (List.mem_of_getElem? (i := 2) rfl)) (fun _ h9 => h9) rfl dX8_suit_18 ?_
    obtain ⟨x27, x28, t30, x32, x34, x35, x36, y37, e38, h29, h31, h33⟩ := (show okX3 ad rby x19 1 (f 1) from hT.1 1 (by decide))
    refine tVR (As := [.ref (ad t21)]) (rest := [.ref (ad 0)]) (i := 1) ⟨hx, hb, hml, hown, hts⟩ hK hE hP hD hS hA hAB (s_X3_exchange_0 l B0 adK adV D cy ad fr0 tx rby x19 f hT t21 h22 _) (cwV 1 hts gX8_suit_X3_exchange rfl rfl rfl (by decide +kernel) ⟨Nat.le_of_ble_eq_true rfl, Nat.le_of_ble_eq_true rfl⟩) (by decide) 3 e38 rfl rfl hl.1 rfl (Nat.le_of_ble_eq_true rfl) dX8_suit_21 ⟨Nat.le_of_ble_eq_true rfl, Nat.le_of_ble_eq_true rfl⟩ (fun ra f H locs hw hra hP hD hS => ?_)
    obtain ⟨hrs, hT⟩ := hw
    obtain ⟨t39, h40, rfl⟩ := hra
    obtain ⟨t41, x43, x44, e46, h42, h45⟩ := (show okX8 ad tx 0 (f 0) from hT.1 0 (by decide))
    refine va_put (D := D) (cl := vwCl) (ci := 8) (v := .ref (ad t39)) (ty := tyX8 1) (C := RX8) (T := TX8) (N := 13) hx hb hts in_X8_suit_X8 tyX8 tyX8_ok nmX8 hown hK hP hD hS 0 (wl_at (by decide) e46) rfl 1 (by decide) (hts (.fieldLink RX8 19 "EightReasons" "told" "LEightReasons$Suit;") (List.mem_of_getElem? (i := 2) rfl)) (fun _ h9 => h9) rfl (tyX8_ok 1 (by decide)) rfl rfl (Nat.le_of_ble_eq_true rfl) dX8_suit_24 (fun H locs hP hD hS => ?_)
    obtain ⟨f, hT, hP, hD, e47, hj48⟩ := stU (by decide) (TYx.up hT (by decide) (show OKx ad cy tx rby x19 0 _ from (show okX8 ad tx 0 _ from ⟨t39, x43, x44, rfl, h40, by omega⟩))) hP hD
    refine lv_aload_n hx hb dX8_suit_27 rfl (lv_at hl 0 rfl) ?_
    refine va_get (D := D) (cl := vwCl) (ci := 8) (v := .ref (ad 1)) (C := RX8) (T := TX8) (N := 13) hx hb hts in_X8_suit_X8 hown hK hP 0 (wl_at (by decide) e47) rfl 0 (by decide) (hts (.fieldLink RX8 10 "EightReasons" "reader" "LEightReasons$Reader;") (List.mem_of_getElem? (i := 1) rfl)) (fun _ h9 => h9) rfl dX8_suit_28 ?_
    refine lv_iconst (v := 0) hx hb dX8_suit_31 (by decide) ?_
    obtain ⟨x49, x50, t52, x54, x56, x57, x58, y59, e60, h51, h53, h55⟩ := (show okX3 ad rby x19 1 (f 1) from hT.1 1 (by decide))
    refine va_put (D := D) (cl := vwCl) (ci := 3) (v := .int 0) (ty := tyX3 2) (C := RX3) (T := TX3) (N := 13) hx hb hts in_X8_suit_X3 tyX3 tyX3_ok nmX3 hown hK hP hD hS 1 (wl_at (by decide) e60) rfl 2 (by decide) (hts (.fieldLink RX8 69 "EightReasons$Reader" "bytes" "I") (List.mem_of_getElem? (i := 3) rfl)) (fun _ h9 => h9) rfl (tyX3_ok 2 (by decide)) rfl rfl (Nat.le_of_ble_eq_true rfl) dX8_suit_32 (fun H locs hP hD hS => ?_)
    have ttl_0 := tl_0
    obtain ⟨f, hT, hP, hD, e61, hj62⟩ := stU (by decide) (TYx.p1 hT (show OKx ad cy tx 0 x19 1 _ from (show okX3 ad 0 x19 1 _ from ⟨x49, x50, t52, x54, x56, x57, x58, y59, rfl, by omega, h53, by omega⟩))) hP hD
    have e63 := (hj62 0 (by decide)).trans e47
    refine lv_aload_n hx hb dX8_suit_35 rfl (lv_at hl 0 rfl) ?_
    refine va_get (D := D) (cl := vwCl) (ci := 8) (v := .ref (ad 5)) (C := RX8) (T := TX8) (N := 13) hx hb hts in_X8_suit_X8 hown hK hP 0 (wl_at (by decide) e63) rfl 2 (by decide) (hts (.fieldLink RX8 26 "EightReasons" "acts" "LEightReasons$Acts;") (List.mem_of_getElem? (i := 4) rfl)) (fun _ h9 => h9) rfl dX8_suit_36 ?_
    obtain ⟨x64, x66, x67, e68, h65⟩ := (show okX0 ad 5 (f 5) from hT.1 5 (by decide))
    refine tVV (As := []) (rest := []) (i := 5) ⟨hx, hb, hml, hown, hts⟩ hK hE hP hD hS hA hAB (s_X0_forget_0 l B0 adK adV D cy ad fr0 tx (0 : Int32) x19 f hT _) (cwV 0 hts gX8_suit_X0_forget rfl rfl rfl (by decide +kernel) ⟨Nat.le_of_ble_eq_true rfl, Nat.le_of_ble_eq_true rfl⟩) (by decide) 0 e68 rfl rfl hl.1 rfl (Nat.le_of_ble_eq_true rfl) dX8_suit_39 ⟨Nat.le_of_ble_eq_true rfl, Nat.le_of_ble_eq_true rfl⟩ (fun f H locs hw hP hD hS => ?_)
    obtain ⟨hrs, hT⟩ := hw
    refine lv_aload_n hx hb dX8_suit_42 rfl (lv_at hl 0 rfl) ?_
    obtain ⟨t69, x71, x72, e74, h70, h73⟩ := (show okX8 ad tx 0 (f 0) from hT.1 0 (by decide))
    refine tVR (As := []) (rest := []) (i := 0) ⟨hx, hb, hml, hown, hts⟩ hK hE hP hD hS hA hAB (s_X8_now_0 l B0 adK adV D cy ad fr0 tx (0 : Int32) x19 f hT _) (cwV 0 hts gX8_suit_X8_now rfl rfl rfl (by decide +kernel) ⟨Nat.le_of_ble_eq_true rfl, Nat.le_of_ble_eq_true rfl⟩) (by decide) 8 e74 rfl rfl hl.1 rfl (Nat.le_of_ble_eq_true rfl) dX8_suit_43 ⟨Nat.le_of_ble_eq_true rfl, Nat.le_of_ble_eq_true rfl⟩ (fun ra g H locs hw hra hP hD hS => ?_)
    obtain ⟨hrs, rfl⟩ := hw
    obtain ⟨t75, h76, rfl⟩ := hra
    refine lv_aload_n hx hb dX8_suit_46 rfl (lv_at hl 0 rfl) ?_
    refine va_get (D := D) (cl := vwCl) (ci := 8) (v := .ref (ad t69)) (C := RX8) (T := TX8) (N := 13) hx hb hts in_X8_suit_X8 hown hK hP 0 (wl_at (by decide) e74) rfl 1 (by decide) (hts (.fieldLink RX8 19 "EightReasons" "told" "LEightReasons$Suit;") (List.mem_of_getElem? (i := 2) rfl)) (fun _ h9 => h9) rfl dX8_suit_47 ?_
    obtain ⟨x77, x79, x80, x81, e82, h78⟩ := (ty_state hT h76)
    refine tVV (As := [.ref (ad t69)]) (rest := []) (i := t75) ⟨hx, hb, hml, hown, hts⟩ hK hE hP hD hS hA hAB (s_X4_startAs_0 l B0 adK adV D cy ad fr0 tx (0 : Int32) x19 f hT t75 h76 t69 h70 _) (cwV 1 hts gX8_suit_X4_startAs rfl rfl rfl (by decide +kernel) ⟨Nat.le_of_ble_eq_true rfl, Nat.le_of_ble_eq_true rfl⟩) (x_lt (x_state0 h76)) 4 e82 rfl rfl hl.1 rfl (Nat.le_of_ble_eq_true rfl) dX8_suit_50 ⟨Nat.le_of_ble_eq_true rfl, Nat.le_of_ble_eq_true rfl⟩ (fun f H locs hw hP hD hS => ?_)
    obtain ⟨hrs, hT⟩ := hw
    refine lv_aload_n hx hb dX8_suit_53 rfl (lv_at hl 0 rfl) ?_
    refine lv_iconst (v := 0) hx hb dX8_suit_54 (by decide) ?_
    obtain ⟨t83, x85, x86, e88, h84, h87⟩ := (show okX8 ad tx 0 (f 0) from hT.1 0 (by decide))
    refine va_put (D := D) (cl := vwCl) (ci := 8) (v := .int 0) (ty := tyX8 5) (C := RX8) (T := TX8) (N := 13) hx hb hts in_X8_suit_X8 tyX8 tyX8_ok nmX8 hown hK hP hD hS 0 (wl_at (by decide) e88) rfl 5 (by decide) (hts (.fieldLink RX8 96 "EightReasons" "filled" "I") (List.mem_of_getElem? (i := 5) rfl)) (fun _ h9 => h9) rfl (tyX8_ok 5 (by decide)) rfl rfl (Nat.le_of_ble_eq_true rfl) dX8_suit_55 (fun H locs hP hD hS => ?_)
    obtain ⟨f, hT, hP, hD, e89, hj90⟩ := stU (by decide) (TYx.up hT (by decide) (show OKx ad cy tx 0 x19 0 _ from (show okX8 ad tx 0 _ from ⟨t83, (0 : Int32), x86, rfl, h84, by omega⟩))) hP hD
    refine lv_aload_n hx hb dX8_suit_58 rfl (lv_at hl 0 rfl) ?_
    refine va_get (D := D) (cl := vwCl) (ci := 8) (v := .ref (ad 19)) (C := RX8) (T := TX8) (N := 13) hx hb hts in_X8_suit_X8 hown hK hP 0 (wl_at (by decide) e89) rfl 10 (by decide) (hts (.fieldLink RX8 58 "EightReasons" "witness" "LEightReasons$Witness;") (List.mem_of_getElem? (i := 6) rfl)) (fun _ h9 => h9) rfl dX8_suit_59 ?_
    refine lv_iconst (v := 0) hx hb dX8_suit_62 (by decide) ?_
    obtain ⟨x91, e93, h92⟩ := (show okX7 ad 19 (f 19) from hT.1 19 (by decide))
    refine va_put (D := D) (cl := vwCl) (ci := 7) (v := .int 0) (ty := tyX7 0) (C := RX7) (T := TX7) (N := 5) hx hb hts in_X8_suit_X7 tyX7 tyX7_ok nmX7 hown hK hP hD hS 19 (wl_at (by decide) e93) rfl 0 (by decide) (hts (.fieldLink RX8 99 "EightReasons$Witness" "count" "I") (List.mem_of_getElem? (i := 7) rfl)) (fun _ h9 => h9) rfl (tyX7_ok 0 (by decide)) rfl rfl (Nat.le_of_ble_eq_true rfl) dX8_suit_63 (fun H locs hP hD hS => ?_)
    obtain ⟨f, hT, hP, hD, e94, hj95⟩ := stU (by decide) (TYx.up hT (by decide) (show OKx ad cy tx 0 x19 19 _ from (show okX7 ad 19 _ from ⟨(0 : Int32), rfl, by omega⟩))) hP hD
    have e96 := (hj95 0 (by decide)).trans e89
    refine lv_aload_n hx hb dX8_suit_66 rfl (lv_at hl 0 rfl) ?_
    refine lv_iconst (v := 0) hx hb dX8_suit_67 (by decide) ?_
    refine va_put (D := D) (cl := vwCl) (ci := 8) (v := .int 0) (ty := tyX8 9) (C := RX8) (T := TX8) (N := 13) hx hb hts in_X8_suit_X8 tyX8 tyX8_ok nmX8 hown hK hP hD hS 0 (wl_at (by decide) e96) rfl 9 (by decide) (hts (.fieldLink RX8 102 "EightReasons" "lyingCount" "I") (List.mem_of_getElem? (i := 8) rfl)) (fun _ h9 => h9) rfl (tyX8_ok 9 (by decide)) rfl rfl (Nat.le_of_ble_eq_true rfl) dX8_suit_68 (fun H locs hP hD hS => ?_)
    obtain ⟨f, hT, hP, hD, e97, hj98⟩ := stU (by decide) (TYx.up hT (by decide) (show OKx ad cy tx 0 x19 0 _ from (show okX8 ad tx 0 _ from ⟨t83, (0 : Int32), (0 : Int32), rfl, h84, by omega⟩))) hP hD
    have e99 := (hj98 19 (by decide)).trans e94
    refine lv_aload_n hx hb dX8_suit_71 rfl (lv_at hl 0 rfl) ?_
    refine va_get (D := D) (cl := vwCl) (ci := 8) (v := .ref (ad t83)) (C := RX8) (T := TX8) (N := 13) hx hb hts in_X8_suit_X8 hown hK hP 0 (wl_at (by decide) e97) rfl 1 (by decide) (hts (.fieldLink RX8 19 "EightReasons" "told" "LEightReasons$Suit;") (List.mem_of_getElem? (i := 2) rfl)) (fun _ h9 => h9) rfl dX8_suit_72 ?_
    obtain ⟨x100, x102, x103, x105, x106, e107, h101, h104⟩ := (ty_suit hT h84)
    refine va_get (D := D) (cl := vwCl) (ci := 5) (v := .int x100) (C := RX5) (T := TX5) (N := 12) hx hb hts in_X8_suit_X5 hown hK hP t83 (wl_at (x_lt (x_suit0 h84)) e107) rfl 0 (by decide) (hts (.fieldLink RX8 105 "EightReasons$Suit" "points" "I") (List.mem_of_getElem? (i := 9) rfl)) (fun _ h9 => h9) rfl dX8_suit_75 ?_
    exact tI hx hb hr hlk rfl hP hS ⟨(by omega), ⟨(0 : Int32), x19, hT⟩⟩ dX8_suit_78
  · refine lv_if_ne (tgt := 12) hx hb dX8_suit_7 (by decide) (fun c => absurd (by decide) c) (fun _ => ?_)
    refine lv_iconst (v := (-1)) hx hb dX8_suit_10 (by decide) ?_
    have ttl_m1 := tl_m1
    exact tI hx hb hr hlk rfl hP hS ⟨(by omega), ⟨rby, x19, hT⟩⟩ dX8_suit_11
set_option maxHeartbeats 4000000 in
set_option maxRecDepth 100000 in
theorem s_X8_fault_0 (l : Launch) (B0 : Nat) (adK adV : Nat → Nat) (D : va_G) (cy : Nat → ClassId) (ad : Nat → Nat) (fr0 : Nat → va_E) (tx : Int32) (rby : Int32) (rnx : Int32) (f : Nat → va_E) (hT : TYx ad cy fr0 tx rby rnx f) (p1 : Int32) (sz : Nat) : TtI l yX8_fault wsX8_fault 0 0 [.ref (ad 0), .int p1] B0 adK adV D cy ad f sz (fun (r : Int32) (g : Nat → va_E) => True ∧ (f = g)) := by
  refine TtI.of (cc := cX8_fault) (maxL := 2) (ty := .int) (own := RX8) (by decide) rfl (Nat.le_of_ble_eq_true rfl) rfl ?_
  intro p e s m below meth c A ls hx hb hr hml hts hown hlk hK hE hP hD hS hA hAB hl
  have hl : lv_has ls 2 [(0, .ref (ad 0)), (1, .int p1)] := hl
  refine st0 (fun H locs hP hS => ?_) hP hS
  refine lv_iload_n hx hb dX8_fault_0 rfl (lv_at hl 1 rfl) ?_
  have ttl_0 := tl_0
  refine lv_if_ne (tgt := 12) hx hb dX8_fault_1 (by decide) (fun c1 => ?_) (fun c1 => ?_)
  · have kc1 := c_ne c1
    refine lv_iload_n hx hb dX8_fault_12 rfl (lv_at hl 1 rfl) ?_
    refine lv_iconst (v := 1) hx hb dX8_fault_13 (by decide) ?_
    have ttl_1 := tl_1
    refine lv_icmp_ne (tgt := 27) hx hb dX8_fault_14 (by decide) (fun c2 => ?_) (fun c2 => ?_)
    · have kc2 := c_ne c2
      refine lv_iconst (v := (-1)) hx hb dX8_fault_27 (by decide) ?_
      have ttl_m1 := tl_m1
      exact tI hx hb hr hlk rfl hP hS ⟨trivial, rfl⟩ dX8_fault_28
    · have kc2 := c_eq c2
      refine lv_aload_n hx hb dX8_fault_17 rfl (lv_at hl 0 rfl) ?_
      obtain ⟨t3, x5, x6, e8, h4, h7⟩ := (show okX8 ad tx 0 (f 0) from hT.1 0 (by decide))
      refine va_get (D := D) (cl := vwCl) (ci := 8) (v := .ref (ad 1)) (C := RX8) (T := TX8) (N := 13) hx hb hts in_X8_fault_X8 hown hK hP 0 (wl_at (by decide) e8) rfl 0 (by decide) (hts (.fieldLink RX8 10 "EightReasons" "reader" "LEightReasons$Reader;") (List.mem_of_getElem? (i := 1) rfl)) (fun _ h9 => h9) rfl dX8_fault_18 ?_
      obtain ⟨x9, x10, t12, x14, x16, x17, x18, y19, e20, h11, h13, h15⟩ := (show okX3 ad rby rnx 1 (f 1) from hT.1 1 (by decide))
      refine va_get (D := D) (cl := vwCl) (ci := 3) (v := .int x10) (C := RX3) (T := TX3) (N := 13) hx hb hts in_X8_fault_X3 hown hK hP 1 (wl_at (by decide) e20) rfl 1 (by decide) (hts (.fieldLink RX8 111 "EightReasons$Reader" "place" "I") (List.mem_of_getElem? (i := 3) rfl)) (fun _ h9 => h9) rfl dX8_fault_21 ?_
      refine lv_goto (tgt := 28) hx hb dX8_fault_24 (by decide) ?_
      exact tI hx hb hr hlk rfl hP hS ⟨trivial, rfl⟩ dX8_fault_28
  · have kc1 := c_eq c1
    refine lv_aload_n hx hb dX8_fault_4 rfl (lv_at hl 0 rfl) ?_
    obtain ⟨t21, x23, x24, e26, h22, h25⟩ := (show okX8 ad tx 0 (f 0) from hT.1 0 (by decide))
    refine va_get (D := D) (cl := vwCl) (ci := 8) (v := .ref (ad 1)) (C := RX8) (T := TX8) (N := 13) hx hb hts in_X8_fault_X8 hown hK hP 0 (wl_at (by decide) e26) rfl 0 (by decide) (hts (.fieldLink RX8 10 "EightReasons" "reader" "LEightReasons$Reader;") (List.mem_of_getElem? (i := 1) rfl)) (fun _ h9 => h9) rfl dX8_fault_5 ?_
    obtain ⟨x27, x28, t30, x32, x34, x35, x36, y37, e38, h29, h31, h33⟩ := (show okX3 ad rby rnx 1 (f 1) from hT.1 1 (by decide))
    refine va_get (D := D) (cl := vwCl) (ci := 3) (v := .int x27) (C := RX3) (T := TX3) (N := 13) hx hb hts in_X8_fault_X3 hown hK hP 1 (wl_at (by decide) e38) rfl 0 (by decide) (hts (.fieldLink RX8 108 "EightReasons$Reader" "fault" "I") (List.mem_of_getElem? (i := 2) rfl)) (fun _ h9 => h9) rfl dX8_fault_8 ?_
    exact tI hx hb hr hlk rfl hP hS ⟨trivial, rfl⟩ dX8_fault_11
set_option maxHeartbeats 4000000 in
set_option maxRecDepth 100000 in
theorem s_X8_point_0 (l : Launch) (B0 : Nat) (adK adV : Nat → Nat) (D : va_G) (cy : Nat → ClassId) (ad : Nat → Nat) (fr0 : Nat → va_E) (tx : Int32) (rby : Int32) (rnx : Int32) (f : Nat → va_E) (hT : TYx ad cy fr0 tx rby rnx f) (p1 : Int32) (p2 : Int32) (sz : Nat) : TtI l yX8_point wsX8_point 2 40 [.ref (ad 0), .int p1, .int p2] B0 adK adV D cy ad f sz (fun (r : Int32) (g : Nat → va_E) => True ∧ (f = g)) := by
  refine TtI.of (cc := cX8_point) (maxL := 3) (ty := .int) (own := RX8) (by decide) rfl (Nat.le_of_ble_eq_true rfl) rfl ?_
  intro p e s m below meth c A ls hx hb hr hml hts hown hlk hK hE hP hD hS hA hAB hl
  have hl : lv_has ls 3 [(0, .ref (ad 0)), (1, .int p1), (2, .int p2)] := hl
  refine st0 (fun H locs hP hS => ?_) hP hS
  refine lv_aload_n hx hb dX8_point_0 rfl (lv_at hl 0 rfl) ?_
  obtain ⟨t1, x3, x4, e6, h2, h5⟩ := (show okX8 ad tx 0 (f 0) from hT.1 0 (by decide))
  refine va_get (D := D) (cl := vwCl) (ci := 8) (v := .ref (ad t1)) (C := RX8) (T := TX8) (N := 13) hx hb hts in_X8_point_X8 hown hK hP 0 (wl_at (by decide) e6) rfl 1 (by decide) (hts (.fieldLink RX8 19 "EightReasons" "told" "LEightReasons$Suit;") (List.mem_of_getElem? (i := 1) rfl)) (fun _ h9 => h9) rfl dX8_point_1 ?_
  refine lv_iload_n hx hb dX8_point_4 rfl (lv_at hl 1 rfl) ?_
  obtain ⟨x7, x9, x10, x12, x13, e14, h8, h11⟩ := (ty_suit hT h2)
  refine tVI (As := [.int p1]) (rest := []) (i := t1) ⟨hx, hb, hml, hown, hts⟩ hK hE hP hD hS hA hAB (s_X5_isPoint_0 l B0 adK adV D cy ad fr0 tx rby rnx f hT t1 h2 p1 _) (cwV 1 hts gX8_point_X5_isPoint rfl rfl rfl (by decide +kernel) ⟨Nat.le_of_ble_eq_true rfl, Nat.le_of_ble_eq_true rfl⟩) (x_lt (x_suit0 h2)) 5 e14 rfl rfl hl.1 rfl (Nat.le_of_ble_eq_true rfl) dX8_point_5 ⟨Nat.le_of_ble_eq_true rfl, Nat.le_of_ble_eq_true rfl⟩ (fun r g H locs hw hP hD hS => ?_)
  obtain ⟨hrs, rfl⟩ := hw
  obtain ⟨x15, rfl⟩ : ∃ q, q = r := ⟨_, rfl⟩
  rcases hrs with ⟨rfl, h16, h17⟩ | rfl
  · refine lv_if_ne (tgt := 13) hx hb dX8_point_8 (by decide) (fun _ => ?_) (fun c => absurd c (by decide))
    refine lv_iload_n hx hb dX8_point_13 rfl (lv_at hl 2 rfl) ?_
    rcases sw_0_4 p2 with c18 | c18 | c18 | c18 | c18 | c18
    · refine lv_tableOut (tgt := 102) hx hb dX8_point_14 c18 (by decide) ?_
      refine lv_iconst (v := (-1)) hx hb dX8_point_102 (by decide) ?_
      have ttl_m1 := tl_m1
      exact tI hx hb hr hlk rfl hP hS ⟨trivial, rfl⟩ dX8_point_103
    · have kc18 := (c_eq c18).trans tl_0
      refine lv_tableIn (off := 34) (tgt := 48) hx hb dX8_point_14 (by rw [kc18]; decide) (by rw [kc18]; decide) (by rw [kc18]; decide) (by decide) ?_
      refine lv_aload_n hx hb dX8_point_48 rfl (lv_at hl 0 rfl) ?_
      refine va_get (D := D) (cl := vwCl) (ci := 8) (v := .ref (ad t1)) (C := RX8) (T := TX8) (N := 13) hx hb hts in_X8_point_X8 hown hK hP 0 (wl_at (by decide) e6) rfl 1 (by decide) (hts (.fieldLink RX8 19 "EightReasons" "told" "LEightReasons$Suit;") (List.mem_of_getElem? (i := 1) rfl)) (fun _ h9 => h9) rfl dX8_point_49 ?_
      refine va_get (D := D) (cl := vwCl) (ci := 5) (v := .int x9) (C := RX5) (T := TX5) (N := 12) hx hb hts in_X8_point_X5 hown hK hP t1 (wl_at (x_lt (x_suit0 h2)) e14) rfl 1 (by decide) (hts (.fieldLink RX8 118 "EightReasons$Suit" "facts" "I") (List.mem_of_getElem? (i := 2) rfl)) (fun _ h9 => h9) rfl dX8_point_52 ?_
      refine lv_iload_n hx hb dX8_point_55 rfl (lv_at hl 1 rfl) ?_
      refine lv_ishr hx hb dX8_point_56 ?_
      refine lv_topi (fun x19 ex19 => ?_)
      refine lv_iconst (v := 1) hx hb dX8_point_57 (by decide) ?_
      have ttl_1 := tl_1
      refine lv_iand hx hb dX8_point_58 ?_
      refine lv_topi (fun x20 ex20 => ?_)
      have hx20 := r_andr ex20 (by omega)
      exact tI hx hb hr hlk rfl hP hS ⟨trivial, rfl⟩ dX8_point_59
    · have kc18 := (c_eq c18).trans tl_1
      refine lv_tableIn (off := 46) (tgt := 60) hx hb dX8_point_14 (by rw [kc18]; decide) (by rw [kc18]; decide) (by rw [kc18]; decide) (by decide) ?_
      refine lv_aload_n hx hb dX8_point_60 rfl (lv_at hl 0 rfl) ?_
      refine va_get (D := D) (cl := vwCl) (ci := 8) (v := .ref (ad t1)) (C := RX8) (T := TX8) (N := 13) hx hb hts in_X8_point_X8 hown hK hP 0 (wl_at (by decide) e6) rfl 1 (by decide) (hts (.fieldLink RX8 19 "EightReasons" "told" "LEightReasons$Suit;") (List.mem_of_getElem? (i := 1) rfl)) (fun _ h9 => h9) rfl dX8_point_61 ?_
      refine va_get (D := D) (cl := vwCl) (ci := 5) (v := .ref (ad (t1 + 1))) (C := RX5) (T := TX5) (N := 12) hx hb hts in_X8_point_X5 hown hK hP t1 (wl_at (x_lt (x_suit0 h2)) e14) rfl 5 (by decide) (hts (.fieldLink RX8 121 "EightReasons$Suit" "needs" "[I") (List.mem_of_getElem? (i := 3) rfl)) (fun _ h9 => h9) rfl dX8_point_64 ?_
      refine lv_iload_n hx hb dX8_point_67 rfl (lv_at hl 1 rfl) ?_
      obtain ⟨g22, e21⟩ := (ty_suit1 hT h2)
      refine va_iald hx hb hK hP (t1 + 1) 0 (wl_at (x_lt (x_suit h2 (by decide))) e21) rfl (vp_in_iff.mpr ⟨by omega, by omega⟩) dX8_point_68 ?_
      refine lv_topi (fun x23 ex23 => ?_)
      exact tI hx hb hr hlk rfl hP hS ⟨trivial, rfl⟩ dX8_point_69
    · have kc18 := (c_eq c18).trans tl_2
      refine lv_tableIn (off := 56) (tgt := 70) hx hb dX8_point_14 (by rw [kc18]; decide) (by rw [kc18]; decide) (by rw [kc18]; decide) (by decide) ?_
      refine lv_aload_n hx hb dX8_point_70 rfl (lv_at hl 0 rfl) ?_
      refine tVR (As := []) (rest := []) (i := 0) ⟨hx, hb, hml, hown, hts⟩ hK hE hP hD hS hA hAB (s_X8_now_0 l B0 adK adV D cy ad fr0 tx rby rnx f hT _) (cwV 0 hts gX8_point_X8_now rfl rfl rfl (by decide +kernel) ⟨Nat.le_of_ble_eq_true rfl, Nat.le_of_ble_eq_true rfl⟩) (by decide) 8 e6 rfl rfl hl.1 rfl (Nat.le_of_ble_eq_true rfl) dX8_point_71 ⟨Nat.le_of_ble_eq_true rfl, Nat.le_of_ble_eq_true rfl⟩ (fun ra g H locs hw hra hP hD hS => ?_)
      obtain ⟨hrs, rfl⟩ := hw
      obtain ⟨t24, h25, rfl⟩ := hra
      obtain ⟨x26, x28, x29, x30, e31, h27⟩ := (ty_state hT h25)
      refine va_get (D := D) (cl := vwCl) (ci := 4) (v := .int x28) (C := RX4) (T := TX4) (N := 5) hx hb hts in_X8_point_X4 hown hK hP t24 (wl_at (x_lt (x_state0 h25)) e31) rfl 2 (by decide) (hts (.fieldLink RX8 124 "EightReasons$State" "struck" "I") (List.mem_of_getElem? (i := 4) rfl)) (fun _ h9 => h9) rfl dX8_point_74 ?_
      refine lv_iload_n hx hb dX8_point_77 rfl (lv_at hl 1 rfl) ?_
      refine lv_ishr hx hb dX8_point_78 ?_
      refine lv_topi (fun x32 ex32 => ?_)
      refine lv_iconst (v := 1) hx hb dX8_point_79 (by decide) ?_
      have ttl_1 := tl_1
      refine lv_iand hx hb dX8_point_80 ?_
      refine lv_topi (fun x33 ex33 => ?_)
      have hx33 := r_andr ex33 (by omega)
      exact tI hx hb hr hlk rfl hP hS ⟨trivial, rfl⟩ dX8_point_81
    · have kc18 := (c_eq c18).trans tl_3
      refine lv_tableIn (off := 68) (tgt := 82) hx hb dX8_point_14 (by rw [kc18]; decide) (by rw [kc18]; decide) (by rw [kc18]; decide) (by decide) ?_
      refine lv_aload_n hx hb dX8_point_82 rfl (lv_at hl 0 rfl) ?_
      refine va_get (D := D) (cl := vwCl) (ci := 8) (v := .ref (ad t1)) (C := RX8) (T := TX8) (N := 13) hx hb hts in_X8_point_X8 hown hK hP 0 (wl_at (by decide) e6) rfl 1 (by decide) (hts (.fieldLink RX8 19 "EightReasons" "told" "LEightReasons$Suit;") (List.mem_of_getElem? (i := 1) rfl)) (fun _ h9 => h9) rfl dX8_point_83 ?_
      refine va_get (D := D) (cl := vwCl) (ci := 5) (v := .ref (ad (t1 + 2))) (C := RX5) (T := TX5) (N := 12) hx hb hts in_X8_point_X5 hown hK hP t1 (wl_at (x_lt (x_suit0 h2)) e14) rfl 6 (by decide) (hts (.fieldLink RX8 127 "EightReasons$Suit" "into" "[I") (List.mem_of_getElem? (i := 5) rfl)) (fun _ h9 => h9) rfl dX8_point_86 ?_
      refine lv_iload_n hx hb dX8_point_89 rfl (lv_at hl 1 rfl) ?_
      obtain ⟨g35, e34⟩ := (ty_suit2 hT h2)
      refine va_iald hx hb hK hP (t1 + 2) 0 (wl_at (x_lt (x_suit h2 (by decide))) e34) rfl (vp_in_iff.mpr ⟨by omega, by omega⟩) dX8_point_90 ?_
      refine lv_topi (fun x36 ex36 => ?_)
      exact tI hx hb hr hlk rfl hP hS ⟨trivial, rfl⟩ dX8_point_91
    · have kc18 := (c_eq c18).trans tl_4
      refine lv_tableIn (off := 78) (tgt := 92) hx hb dX8_point_14 (by rw [kc18]; decide) (by rw [kc18]; decide) (by rw [kc18]; decide) (by decide) ?_
      refine lv_aload_n hx hb dX8_point_92 rfl (lv_at hl 0 rfl) ?_
      refine va_get (D := D) (cl := vwCl) (ci := 8) (v := .ref (ad t1)) (C := RX8) (T := TX8) (N := 13) hx hb hts in_X8_point_X8 hown hK hP 0 (wl_at (by decide) e6) rfl 1 (by decide) (hts (.fieldLink RX8 19 "EightReasons" "told" "LEightReasons$Suit;") (List.mem_of_getElem? (i := 1) rfl)) (fun _ h9 => h9) rfl dX8_point_93 ?_
      refine va_get (D := D) (cl := vwCl) (ci := 5) (v := .ref (ad (t1 + 3))) (C := RX5) (T := TX5) (N := 12) hx hb hts in_X8_point_X5 hown hK hP t1 (wl_at (x_lt (x_suit0 h2)) e14) rfl 7 (by decide) (hts (.fieldLink RX8 130 "EightReasons$Suit" "from" "[I") (List.mem_of_getElem? (i := 6) rfl)) (fun _ h9 => h9) rfl dX8_point_96 ?_
      refine lv_iload_n hx hb dX8_point_99 rfl (lv_at hl 1 rfl) ?_
      obtain ⟨g38, e37⟩ := (ty_suit3 hT h2)
      refine va_iald hx hb hK hP (t1 + 3) 0 (wl_at (x_lt (x_suit h2 (by decide))) e37) rfl (vp_in_iff.mpr ⟨by omega, by omega⟩) dX8_point_100 ?_
      refine lv_topi (fun x39 ex39 => ?_)
      exact tI hx hb hr hlk rfl hP hS ⟨trivial, rfl⟩ dX8_point_101
  · refine lv_if_ne (tgt := 13) hx hb dX8_point_8 (by decide) (fun c => absurd (by decide) c) (fun _ => ?_)
    refine lv_iconst (v := (-1)) hx hb dX8_point_11 (by decide) ?_
    have ttl_m1 := tl_m1
    exact tI hx hb hr hlk rfl hP hS ⟨trivial, rfl⟩ dX8_point_12
set_option maxHeartbeats 4000000 in
set_option maxRecDepth 100000 in
theorem s_J6_bitCount_0f7a4_0 (l : Launch) (B0 : Nat) (adK adV : Nat → Nat) (D : va_G) (cy : Nat → ClassId) (ad : Nat → Nat) (f : Nat → va_E) (p0 : Int32) (sz : Nat) : TtI l yJ6_bitCount_0f7a4 wsJ6_bitCount_0f7a4 0 0 [.int p0] B0 adK adV D cy ad f sz (fun (r : Int32) (g : Nat → va_E) => (0 ≤ r.toInt ∧ r.toInt ≤ 63) ∧ (f = g)) := by
  refine TtI.of (cc := cJ6_bitCount_0f7a4) (maxL := 1) (ty := .int) (own := RJ6) (by decide) rfl (Nat.le_of_ble_eq_true rfl) rfl ?_
  intro p e s m below meth c A ls hx hb hr hml hts hown hlk hK hE hP hD hS hA hAB hl
  have hl : lv_has ls 1 [(0, .int p0)] := hl
  refine st0 (fun H locs hP hS => ?_) hP hS
  refine lv_iload_n hx hb dJ6_bitCount_0f7a4_0 rfl (lv_at hl 0 rfl) ?_
  refine lv_iload_n hx hb dJ6_bitCount_0f7a4_1 rfl (lv_at hl 0 rfl) ?_
  refine lv_iconst (v := 1) hx hb dJ6_bitCount_0f7a4_2 (by decide) ?_
  refine lv_iushr hx hb dJ6_bitCount_0f7a4_3 rfl ?_
  refine lv_topi (fun x1 ex1 => ?_)
  refine lv_ldcw (v := 1431655765) hx hb hown (hts (.constant RJ6 265 (1431655765)) (List.mem_of_getElem? (i := 1) rfl)) dJ6_bitCount_0f7a4_4 ?_
  have ttl_1431655765 := tl_1431655765
  refine lv_iand hx hb dJ6_bitCount_0f7a4_7 ?_
  refine lv_topi (fun x2 ex2 => ?_)
  have hx2 := r_andr ex2 (by omega)
  refine lv_isub hx hb dJ6_bitCount_0f7a4_8 ?_
  refine lv_topi (fun x3 ex3 => ?_)
  refine lv_istore_n (lv' := [(0, .int x3)]) hx hb dJ6_bitCount_0f7a4_9 rfl hl (by decide) rfl (fun ls hl => ?_)
  refine lv_iload_n hx hb dJ6_bitCount_0f7a4_10 rfl (lv_at hl 0 rfl) ?_
  refine lv_ldcw (v := 858993459) hx hb hown (hts (.constant RJ6 266 (858993459)) (List.mem_of_getElem? (i := 2) rfl)) dJ6_bitCount_0f7a4_11 ?_
  have ttl_858993459 := tl_858993459
  refine lv_iand hx hb dJ6_bitCount_0f7a4_14 ?_
  refine lv_topi (fun x4 ex4 => ?_)
  have hx4 := r_andr ex4 (by omega)
  refine lv_iload_n hx hb dJ6_bitCount_0f7a4_15 rfl (lv_at hl 0 rfl) ?_
  refine lv_iconst (v := 2) hx hb dJ6_bitCount_0f7a4_16 (by decide) ?_
  refine lv_iushr hx hb dJ6_bitCount_0f7a4_17 rfl ?_
  refine lv_topi (fun x5 ex5 => ?_)
  refine lv_ldcw (v := 858993459) hx hb hown (hts (.constant RJ6 266 (858993459)) (List.mem_of_getElem? (i := 2) rfl)) dJ6_bitCount_0f7a4_18 ?_
  refine lv_iand hx hb dJ6_bitCount_0f7a4_21 ?_
  refine lv_topi (fun x6 ex6 => ?_)
  have hx6 := r_andr ex6 (by omega)
  refine lv_iadd hx hb dJ6_bitCount_0f7a4_22 ?_
  refine lv_topi (fun x7 ex7 => ?_)
  have hx7 := r_add ex7 (by omega) (by omega)
  refine lv_istore_n (lv' := [(0, .int x7)]) hx hb dJ6_bitCount_0f7a4_23 rfl hl (by decide) rfl (fun ls hl => ?_)
  refine lv_iload_n hx hb dJ6_bitCount_0f7a4_24 rfl (lv_at hl 0 rfl) ?_
  refine lv_iload_n hx hb dJ6_bitCount_0f7a4_25 rfl (lv_at hl 0 rfl) ?_
  refine lv_iconst (v := 4) hx hb dJ6_bitCount_0f7a4_26 (by decide) ?_
  refine lv_iushr hx hb dJ6_bitCount_0f7a4_27 rfl ?_
  refine lv_topi (fun x8 ex8 => ?_)
  refine lv_iadd hx hb dJ6_bitCount_0f7a4_28 ?_
  refine lv_topi (fun x9 ex9 => ?_)
  refine lv_ldcw (v := 252645135) hx hb hown (hts (.constant RJ6 267 (252645135)) (List.mem_of_getElem? (i := 3) rfl)) dJ6_bitCount_0f7a4_29 ?_
  have ttl_252645135 := tl_252645135
  refine lv_iand hx hb dJ6_bitCount_0f7a4_32 ?_
  refine lv_topi (fun x10 ex10 => ?_)
  have hx10 := r_andr ex10 (by omega)
  refine lv_istore_n (lv' := [(0, .int x10)]) hx hb dJ6_bitCount_0f7a4_33 rfl hl (by decide) rfl (fun ls hl => ?_)
  refine lv_iload_n hx hb dJ6_bitCount_0f7a4_34 rfl (lv_at hl 0 rfl) ?_
  refine lv_iload_n hx hb dJ6_bitCount_0f7a4_35 rfl (lv_at hl 0 rfl) ?_
  refine lv_bipush (v := 8) hx hb dJ6_bitCount_0f7a4_36 (by decide) ?_
  refine lv_iushr hx hb dJ6_bitCount_0f7a4_38 rfl ?_
  refine lv_topi (fun x11 ex11 => ?_)
  refine lv_iadd hx hb dJ6_bitCount_0f7a4_39 ?_
  refine lv_topi (fun x12 ex12 => ?_)
  refine lv_istore_n (lv' := [(0, .int x12)]) hx hb dJ6_bitCount_0f7a4_40 rfl hl (by decide) rfl (fun ls hl => ?_)
  refine lv_iload_n hx hb dJ6_bitCount_0f7a4_41 rfl (lv_at hl 0 rfl) ?_
  refine lv_iload_n hx hb dJ6_bitCount_0f7a4_42 rfl (lv_at hl 0 rfl) ?_
  refine lv_bipush (v := 16) hx hb dJ6_bitCount_0f7a4_43 (by decide) ?_
  refine lv_iushr hx hb dJ6_bitCount_0f7a4_45 rfl ?_
  refine lv_topi (fun x13 ex13 => ?_)
  refine lv_iadd hx hb dJ6_bitCount_0f7a4_46 ?_
  refine lv_topi (fun x14 ex14 => ?_)
  refine lv_istore_n (lv' := [(0, .int x14)]) hx hb dJ6_bitCount_0f7a4_47 rfl hl (by decide) rfl (fun ls hl => ?_)
  refine lv_iload_n hx hb dJ6_bitCount_0f7a4_48 rfl (lv_at hl 0 rfl) ?_
  refine lv_bipush (v := 63) hx hb dJ6_bitCount_0f7a4_49 (by decide) ?_
  have ttl_63 := tl_63
  refine lv_iand hx hb dJ6_bitCount_0f7a4_51 ?_
  refine lv_topi (fun x15 ex15 => ?_)
  have hx15 := r_andr ex15 (by omega)
  exact tI hx hb hr hlk rfl hP hS ⟨(by omega), rfl⟩ dJ6_bitCount_0f7a4_52
set_option maxHeartbeats 4000000 in
set_option maxRecDepth 100000 in
theorem s_X1_joined_0 (l : Launch) (B0 : Nat) (adK adV : Nat → Nat) (D : va_G) (cy : Nat → ClassId) (ad : Nat → Nat) (f : Nat → va_E) (p0 : Int32) (hp0 : p0.toInt ≤ 999) (p1 : Int32) (p2 : Int32) (sz : Nat) : TtI l yX1_joined wsX1_joined 0 0 [.int p0, .int p1, .int p2] B0 adK adV D cy ad f sz (fun (r : Int32) (g : Nat → va_E) => True ∧ (f = g)) := by
  refine TtI.of (cc := cX1_joined) (maxL := 3) (ty := .int) (own := RX1) (by decide) rfl (Nat.le_of_ble_eq_true rfl) rfl ?_
  intro p e s m below meth c A ls hx hb hr hml hts hown hlk hK hE hP hD hS hA hAB hl
  have hl : lv_has ls 3 [(0, .int p0), (1, .int p1), (2, .int p2)] := hl
  refine st0 (fun H locs hP hS => ?_) hP hS
  have j183 : ∀ (H : Heap) (locs : List Loc) (ls : Array Slot), (8 ≤ p0.toInt ∧ p0.toInt ≤ 8) → (va_P D vwCl (wl ad f) H) → (va_D A (wl ad f)) → (va_S A s.heap H locs) → (lv_has ls 3 [(0, .int p0), (1, .int p1), (2, .int p2)]) → W p l e (rmO 0 0 0 0) s m ([.int p0, .int p1, .int p2] : List Value).toArray below meth c H locs 0 0 (MQ below (va_Qi (fun (r : Int32) (g : Nat → va_E) => True ∧ (f = g)) (fun g t => PstT D ad g t) A) ([.int p0, .int p1, .int p2] : List Value).toArray s 0 0 A) (F0 m 183 ls []) := by
    intro H locs ls hv183_l0 hP hD hS hl
    refine lv_iconst (v := 1) hx hb dX1_joined_183 (by decide) ?_
    refine lv_goto (tgt := 188) hx hb dX1_joined_184 (by decide) ?_
    have ttl_1 := tl_1
    exact tI hx hb hr hlk rfl hP hS ⟨trivial, rfl⟩ dX1_joined_188
  refine lv_iload_n hx hb dX1_joined_0 rfl (lv_at hl 0 rfl) ?_
  by_cases c1 : p0 = 8
  · have kc1 := (c_eq c1).trans tl_8
    refine lv_lookup (off := 174) (tgt := 175) hx hb dX1_joined_1 (by decide) (by rw [kc1]; decide) (by decide) ?_
    refine lv_iload_n hx hb dX1_joined_175 rfl (lv_at hl 1 rfl) ?_
    have ttl_0 := tl_0
    refine lv_if_ne (tgt := 183) hx hb dX1_joined_176 (by decide) (fun c2 => ?_) (fun c2 => ?_)
    · have kc2 := c_ne c2
      exact j183 H locs ls (by omega) hP hD hS (lv_sub hl [0, 1, 2] rfl)
    · have kc2 := c_eq c2
      refine lv_iload_n hx hb dX1_joined_179 rfl (lv_at hl 2 rfl) ?_
      refine lv_if_eq (tgt := 187) hx hb dX1_joined_180 (by decide) (fun c3 => ?_) (fun c3 => ?_)
      · have kc3 := c_eq c3
        refine lv_iconst (v := 0) hx hb dX1_joined_187 (by decide) ?_
        exact tI hx hb hr hlk rfl hP hS ⟨trivial, rfl⟩ dX1_joined_188
      · have kc3 := c_ne c3
        exact j183 H locs ls (by omega) hP hD hS (lv_sub hl [0, 1, 2] rfl)
  by_cases c4 : p0 = 9
  · have kc4 := (c_eq c4).trans tl_9
    refine lv_lookup (off := 160) (tgt := 161) hx hb dX1_joined_1 (by decide) (by rw [kc4]; decide) (by decide) ?_
    refine lv_iload_n hx hb dX1_joined_161 rfl (lv_at hl 1 rfl) ?_
    have ttl_0 := tl_0
    refine lv_if_eq (tgt := 173) hx hb dX1_joined_162 (by decide) (fun c5 => ?_) (fun c5 => ?_)
    · have kc5 := c_eq c5
      refine lv_iconst (v := 0) hx hb dX1_joined_173 (by decide) ?_
      exact tI hx hb hr hlk rfl hP hS ⟨trivial, rfl⟩ dX1_joined_174
    · have kc5 := c_ne c5
      refine lv_iload_n hx hb dX1_joined_165 rfl (lv_at hl 2 rfl) ?_
      refine lv_if_eq (tgt := 173) hx hb dX1_joined_166 (by decide) (fun c6 => ?_) (fun c6 => ?_)
      · have kc6 := c_eq c6
        refine lv_iconst (v := 0) hx hb dX1_joined_173 (by decide) ?_
        exact tI hx hb hr hlk rfl hP hS ⟨trivial, rfl⟩ dX1_joined_174
      · have kc6 := c_ne c6
        refine lv_iconst (v := 1) hx hb dX1_joined_169 (by decide) ?_
        refine lv_goto (tgt := 174) hx hb dX1_joined_170 (by decide) ?_
        have ttl_1 := tl_1
        exact tI hx hb hr hlk rfl hP hS ⟨trivial, rfl⟩ dX1_joined_174
  by_cases c7 : p0 = 37
  · have kc7 := (c_eq c7).trans tl_37
    refine lv_lookup (off := 115) (tgt := 116) hx hb dX1_joined_1 (by decide) (by rw [kc7]; decide) (by decide) ?_
    refine lv_iload_n hx hb dX1_joined_116 rfl (lv_at hl 2 rfl) ?_
    have ttl_0 := tl_0
    refine lv_if_ne (tgt := 124) hx hb dX1_joined_117 (by decide) (fun c8 => ?_) (fun c8 => ?_)
    · have kc8 := c_ne c8
      refine lv_iload_n hx hb dX1_joined_124 rfl (lv_at hl 1 rfl) ?_
      refine lv_iload_n hx hb dX1_joined_125 rfl (lv_at hl 2 rfl) ?_
      refine lv_irem hx hb dX1_joined_126 (ne0 (by omega)) ?_
      refine lv_topi (fun x9 ex9 => ?_)
      exact tI hx hb hr hlk rfl hP hS ⟨trivial, rfl⟩ dX1_joined_127
    · have kc8 := c_eq c8
      refine lv_iconst (v := 0) hx hb dX1_joined_120 (by decide) ?_
      refine lv_goto (tgt := 127) hx hb dX1_joined_121 (by decide) ?_
      exact tI hx hb hr hlk rfl hP hS ⟨trivial, rfl⟩ dX1_joined_127
  by_cases c10 : p0 = 42
  · have kc10 := (c_eq c10).trans tl_42
    refine lv_lookup (off := 99) (tgt := 100) hx hb dX1_joined_1 (by decide) (by rw [kc10]; decide) (by decide) ?_
    refine lv_iload_n hx hb dX1_joined_100 rfl (lv_at hl 1 rfl) ?_
    refine lv_iload_n hx hb dX1_joined_101 rfl (lv_at hl 2 rfl) ?_
    refine lv_imul hx hb dX1_joined_102 ?_
    refine lv_topi (fun x11 ex11 => ?_)
    exact tI hx hb hr hlk rfl hP hS ⟨trivial, rfl⟩ dX1_joined_103
  by_cases c12 : p0 = 43
  · have kc12 := (c_eq c12).trans tl_43
    refine lv_lookup (off := 91) (tgt := 92) hx hb dX1_joined_1 (by decide) (by rw [kc12]; decide) (by decide) ?_
    refine lv_iload_n hx hb dX1_joined_92 rfl (lv_at hl 1 rfl) ?_
    refine lv_iload_n hx hb dX1_joined_93 rfl (lv_at hl 2 rfl) ?_
    refine lv_iadd hx hb dX1_joined_94 ?_
    refine lv_topi (fun x13 ex13 => ?_)
    exact tI hx hb hr hlk rfl hP hS ⟨trivial, rfl⟩ dX1_joined_95
  by_cases c14 : p0 = 45
  · have kc14 := (c_eq c14).trans tl_45
    refine lv_lookup (off := 95) (tgt := 96) hx hb dX1_joined_1 (by decide) (by rw [kc14]; decide) (by decide) ?_
    refine lv_iload_n hx hb dX1_joined_96 rfl (lv_at hl 1 rfl) ?_
    refine lv_iload_n hx hb dX1_joined_97 rfl (lv_at hl 2 rfl) ?_
    refine lv_isub hx hb dX1_joined_98 ?_
    refine lv_topi (fun x15 ex15 => ?_)
    exact tI hx hb hr hlk rfl hP hS ⟨trivial, rfl⟩ dX1_joined_99
  by_cases c16 : p0 = 47
  · have kc16 := (c_eq c16).trans tl_47
    refine lv_lookup (off := 103) (tgt := 104) hx hb dX1_joined_1 (by decide) (by rw [kc16]; decide) (by decide) ?_
    refine lv_iload_n hx hb dX1_joined_104 rfl (lv_at hl 2 rfl) ?_
    have ttl_0 := tl_0
    refine lv_if_ne (tgt := 112) hx hb dX1_joined_105 (by decide) (fun c17 => ?_) (fun c17 => ?_)
    · have kc17 := c_ne c17
      refine lv_iload_n hx hb dX1_joined_112 rfl (lv_at hl 1 rfl) ?_
      refine lv_iload_n hx hb dX1_joined_113 rfl (lv_at hl 2 rfl) ?_
      refine lv_idiv hx hb dX1_joined_114 (ne0 (by omega)) ?_
      refine lv_topi (fun x18 ex18 => ?_)
      exact tI hx hb hr hlk rfl hP hS ⟨trivial, rfl⟩ dX1_joined_115
    · have kc17 := c_eq c17
      refine lv_iconst (v := 0) hx hb dX1_joined_108 (by decide) ?_
      refine lv_goto (tgt := 115) hx hb dX1_joined_109 (by decide) ?_
      exact tI hx hb hr hlk rfl hP hS ⟨trivial, rfl⟩ dX1_joined_115
  by_cases c19 : p0 = 60
  · have kc19 := (c_eq c19).trans tl_60
    refine lv_lookup (off := 127) (tgt := 128) hx hb dX1_joined_1 (by decide) (by rw [kc19]; decide) (by decide) ?_
    refine lv_iload_n hx hb dX1_joined_128 rfl (lv_at hl 1 rfl) ?_
    refine lv_iload_n hx hb dX1_joined_129 rfl (lv_at hl 2 rfl) ?_
    refine lv_icmp_ge (tgt := 137) hx hb dX1_joined_130 (by decide) (fun c20 => ?_) (fun c20 => ?_)
    · have kc20 := c_le c20
      refine lv_iconst (v := 0) hx hb dX1_joined_137 (by decide) ?_
      have ttl_0 := tl_0
      exact tI hx hb hr hlk rfl hP hS ⟨trivial, rfl⟩ dX1_joined_138
    · have kc20 := c_nle c20
      refine lv_iconst (v := 1) hx hb dX1_joined_133 (by decide) ?_
      refine lv_goto (tgt := 138) hx hb dX1_joined_134 (by decide) ?_
      have ttl_1 := tl_1
      exact tI hx hb hr hlk rfl hP hS ⟨trivial, rfl⟩ dX1_joined_138
  by_cases c21 : p0 = 61
  · have kc21 := (c_eq c21).trans tl_61
    refine lv_lookup (off := 149) (tgt := 150) hx hb dX1_joined_1 (by decide) (by rw [kc21]; decide) (by decide) ?_
    refine lv_iload_n hx hb dX1_joined_150 rfl (lv_at hl 1 rfl) ?_
    refine lv_iload_n hx hb dX1_joined_151 rfl (lv_at hl 2 rfl) ?_
    refine lv_icmp_ne (tgt := 159) hx hb dX1_joined_152 (by decide) (fun c22 => ?_) (fun c22 => ?_)
    · have kc22 := c_ne c22
      refine lv_iconst (v := 0) hx hb dX1_joined_159 (by decide) ?_
      have ttl_0 := tl_0
      exact tI hx hb hr hlk rfl hP hS ⟨trivial, rfl⟩ dX1_joined_160
    · have kc22 := c_eq c22
      refine lv_iconst (v := 1) hx hb dX1_joined_155 (by decide) ?_
      refine lv_goto (tgt := 160) hx hb dX1_joined_156 (by decide) ?_
      have ttl_1 := tl_1
      exact tI hx hb hr hlk rfl hP hS ⟨trivial, rfl⟩ dX1_joined_160
  by_cases c23 : p0 = 62
  · have kc23 := (c_eq c23).trans tl_62
    refine lv_lookup (off := 138) (tgt := 139) hx hb dX1_joined_1 (by decide) (by rw [kc23]; decide) (by decide) ?_
    refine lv_iload_n hx hb dX1_joined_139 rfl (lv_at hl 1 rfl) ?_
    refine lv_iload_n hx hb dX1_joined_140 rfl (lv_at hl 2 rfl) ?_
    refine lv_icmp_le (tgt := 148) hx hb dX1_joined_141 (by decide) (fun c24 => ?_) (fun c24 => ?_)
    · have kc24 := c_le c24
      refine lv_iconst (v := 0) hx hb dX1_joined_148 (by decide) ?_
      have ttl_0 := tl_0
      exact tI hx hb hr hlk rfl hP hS ⟨trivial, rfl⟩ dX1_joined_149
    · have kc24 := c_nle c24
      refine lv_iconst (v := 1) hx hb dX1_joined_144 (by decide) ?_
      refine lv_goto (tgt := 149) hx hb dX1_joined_145 (by decide) ?_
      have ttl_1 := tl_1
      exact tI hx hb hr hlk rfl hP hS ⟨trivial, rfl⟩ dX1_joined_149
  refine lv_lookup (off := 188) (tgt := 189) hx hb dX1_joined_1 (by decide) ((lv_osw c1 tl_8).trans <| (lv_osw c4 tl_9).trans <| (lv_osw c7 tl_37).trans <| (lv_osw c10 tl_42).trans <| (lv_osw c12 tl_43).trans <| (lv_osw c14 tl_45).trans <| (lv_osw c16 tl_47).trans <| (lv_osw c19 tl_60).trans <| (lv_osw c21 tl_61).trans <| (lv_osw c23 tl_62).trans <| lv_osw0) (by decide) ?_
  refine lv_iconst (v := 0) hx hb dX1_joined_189 (by decide) ?_
  have ttl_0 := tl_0
  exact tI hx hb hr hlk rfl hP hS ⟨trivial, rfl⟩ dX1_joined_190
set_option maxHeartbeats 4000000 in
set_option maxRecDepth 100000 in
theorem s_X1_pop_0 (l : Launch) (B0 : Nat) (adK adV : Nat → Nat) (D : va_G) (cy : Nat → ClassId) (ad : Nat → Nat) (fr0 : Nat → va_E) (tx : Int32) (rby : Int32) (rnx : Int32) (f : Nat → va_E) (hT : TYx ad cy fr0 tx rby rnx f) (q0 : Nat) (hq0 : isSuit q0) (sz : Nat) : TtI l yX1_pop wsX1_pop 0 0 [.ref (ad (q0 + 7))] B0 adK adV D cy ad f sz (fun (r : Int32) (g : Nat → va_E) => True ∧ (TYx ad cy fr0 tx rby rnx g)) := by
  refine TtI.of (cc := cX1_pop) (maxL := 1) (ty := .int) (own := RX1) (by decide) rfl (Nat.le_of_ble_eq_true rfl) rfl ?_
  intro p e s m below meth c A ls hx hb hr hml hts hown hlk hK hE hP hD hS hA hAB hl
  have hl : lv_has ls 1 [(0, .ref (ad (q0 + 7)))] := hl
  refine st0 (fun H locs hP hS => ?_) hP hS
  refine lv_aload_n hx hb dX1_pop_0 rfl (lv_at hl 0 rfl) ?_
  obtain ⟨x1, x3, x4, e6, h2, h5⟩ := (ty_suit7 hT hq0)
  refine va_get (D := D) (cl := vwCl) (ci := 1) (v := .int x4) (C := RX1) (T := TX1) (N := 6) hx hb hts in_X1_pop_X1 hown hK hP (q0 + 7) (wl_at (x_lt (x_suit hq0 (by decide))) e6) rfl 5 (by decide) (hts (.fieldLink RX1 25 "EightReasons$Formula" "height" "I") (List.mem_of_getElem? (i := 1) rfl)) (fun _ h9 => h9) rfl dX1_pop_1 ?_
  have ttl_0 := tl_0
  refine lv_if_ne (tgt := 9) hx hb dX1_pop_4 (by decide) (fun c7 => ?_) (fun c7 => ?_)
  · have kc7 := c_ne c7
    refine lv_aload_n hx hb dX1_pop_9 rfl (lv_at hl 0 rfl) ?_
    refine lv_dup hx hb dX1_pop_10 rfl ?_
    refine va_get (D := D) (cl := vwCl) (ci := 1) (v := .int x4) (C := RX1) (T := TX1) (N := 6) hx hb hts in_X1_pop_X1 hown hK hP (q0 + 7) (wl_at (x_lt (x_suit hq0 (by decide))) e6) rfl 5 (by decide) (hts (.fieldLink RX1 25 "EightReasons$Formula" "height" "I") (List.mem_of_getElem? (i := 1) rfl)) (fun _ h9 => h9) rfl dX1_pop_11 ?_
    refine lv_iconst (v := 1) hx hb dX1_pop_14 (by decide) ?_
    have ttl_1 := tl_1
    refine lv_isub hx hb dX1_pop_15 ?_
    refine lv_topi (fun x8 ex8 => ?_)
    have hx8 := r_sub ex8 (by omega) (by omega)
    refine va_put (D := D) (cl := vwCl) (ci := 1) (v := .int x8) (ty := tyX1 5) (C := RX1) (T := TX1) (N := 6) hx hb hts in_X1_pop_X1 tyX1 tyX1_ok nmX1 hown hK hP hD hS (q0 + 7) (wl_at (x_lt (x_suit hq0 (by decide))) e6) rfl 5 (by decide) (hts (.fieldLink RX1 25 "EightReasons$Formula" "height" "I") (List.mem_of_getElem? (i := 1) rfl)) (fun _ h9 => h9) rfl (tyX1_ok 5 (by decide)) rfl rfl (Nat.le_of_ble_eq_true rfl) dX1_pop_16 (fun H locs hP hD hS => ?_)
    obtain ⟨f, hT, hP, hD, e9, hj10⟩ := stU (x_lt (x_suit hq0 (by decide))) (TYx.up hT (x_suit hq0 (by decide)) (ok_suit7 hq0 ⟨x1, x3, x8, rfl, by omega, by omega⟩)) hP hD
    refine lv_aload_n hx hb dX1_pop_19 rfl (lv_at hl 0 rfl) ?_
    refine va_get (D := D) (cl := vwCl) (ci := 1) (v := .ref (ad (q0 + 10))) (C := RX1) (T := TX1) (N := 6) hx hb hts in_X1_pop_X1 hown hK hP (q0 + 7) (wl_at (x_lt (x_suit hq0 (by decide))) e9) rfl 4 (by decide) (hts (.fieldLink RX1 18 "EightReasons$Formula" "stack" "[I") (List.mem_of_getElem? (i := 2) rfl)) (fun _ h9 => h9) rfl dX1_pop_20 ?_
    refine lv_aload_n hx hb dX1_pop_23 rfl (lv_at hl 0 rfl) ?_
    refine va_get (D := D) (cl := vwCl) (ci := 1) (v := .int x8) (C := RX1) (T := TX1) (N := 6) hx hb hts in_X1_pop_X1 hown hK hP (q0 + 7) (wl_at (x_lt (x_suit hq0 (by decide))) e9) rfl 5 (by decide) (hts (.fieldLink RX1 25 "EightReasons$Formula" "height" "I") (List.mem_of_getElem? (i := 1) rfl)) (fun _ h9 => h9) rfl dX1_pop_24 ?_
    obtain ⟨g12, e11⟩ := (ty_suit10 hT hq0)
    refine va_iald hx hb hK hP (q0 + 10) 0 (wl_at (x_lt (x_suit hq0 (by decide))) e11) rfl (vp_in_iff.mpr ⟨by omega, by omega⟩) dX1_pop_27 ?_
    refine lv_topi (fun x13 ex13 => ?_)
    exact tI hx hb hr hlk rfl hP hS ⟨trivial, hT⟩ dX1_pop_28
  · have kc7 := c_eq c7
    refine lv_iconst (v := 0) hx hb dX1_pop_7 (by decide) ?_
    exact tI hx hb hr hlk rfl hP hS ⟨trivial, hT⟩ dX1_pop_8
set_option maxHeartbeats 4000000 in
set_option maxRecDepth 100000 in
theorem s_X1_push_0 (l : Launch) (B0 : Nat) (adK adV : Nat → Nat) (D : va_G) (cy : Nat → ClassId) (ad : Nat → Nat) (fr0 : Nat → va_E) (tx : Int32) (rby : Int32) (rnx : Int32) (f : Nat → va_E) (hT : TYx ad cy fr0 tx rby rnx f) (q0 : Nat) (hq0 : isSuit q0) (p1 : Int32) (sz : Nat) : TtV l yX1_push wsX1_push 0 0 [.ref (ad (q0 + 7)), .int p1] B0 adK adV D cy ad f sz (fun (g : Nat → va_E) => True ∧ (TYx ad cy fr0 tx rby rnx g)) := by
  refine TtV.of (cc := cX1_push) (maxL := 2) (own := RX1) (by decide) rfl (Nat.le_of_ble_eq_true rfl) rfl ?_
  intro p e s m below meth c A ls hx hb hr hml hts hown hlk hK hE hP hD hS hA hAB hl
  have hl : lv_has ls 2 [(0, .ref (ad (q0 + 7))), (1, .int p1)] := hl
  refine st0 (fun H locs hP hS => ?_) hP hS
  refine lv_aload_n hx hb dX1_push_0 rfl (lv_at hl 0 rfl) ?_
  obtain ⟨x1, x3, x4, e6, h2, h5⟩ := (ty_suit7 hT hq0)
  refine va_get (D := D) (cl := vwCl) (ci := 1) (v := .int x4) (C := RX1) (T := TX1) (N := 6) hx hb hts in_X1_push_X1 hown hK hP (q0 + 7) (wl_at (x_lt (x_suit hq0 (by decide))) e6) rfl 5 (by decide) (hts (.fieldLink RX1 25 "EightReasons$Formula" "height" "I") (List.mem_of_getElem? (i := 1) rfl)) (fun _ h9 => h9) rfl dX1_push_1 ?_
  refine lv_aload_n hx hb dX1_push_4 rfl (lv_at hl 0 rfl) ?_
  refine va_get (D := D) (cl := vwCl) (ci := 1) (v := .ref (ad (q0 + 10))) (C := RX1) (T := TX1) (N := 6) hx hb hts in_X1_push_X1 hown hK hP (q0 + 7) (wl_at (x_lt (x_suit hq0 (by decide))) e6) rfl 4 (by decide) (hts (.fieldLink RX1 18 "EightReasons$Formula" "stack" "[I") (List.mem_of_getElem? (i := 2) rfl)) (fun _ h9 => h9) rfl dX1_push_5 ?_
  obtain ⟨g8, e7⟩ := (ty_suit10 hT hq0)
  refine va_alen hx hb hK hP (q0 + 10) 0 (wl_at (x_lt (x_suit hq0 (by decide))) e7) rfl (v := 30) rfl dX1_push_8 ?_
  have ttl_30 := tl_30
  refine lv_icmp_ge (tgt := 32) hx hb dX1_push_9 (by decide) (fun c9 => ?_) (fun c9 => ?_)
  · have kc9 := c_le c9
    exact tV hx hb hr hlk hP hS ⟨trivial, hT⟩ dX1_push_32
  · have kc9 := c_nle c9
    refine lv_aload_n hx hb dX1_push_12 rfl (lv_at hl 0 rfl) ?_
    refine va_get (D := D) (cl := vwCl) (ci := 1) (v := .ref (ad (q0 + 10))) (C := RX1) (T := TX1) (N := 6) hx hb hts in_X1_push_X1 hown hK hP (q0 + 7) (wl_at (x_lt (x_suit hq0 (by decide))) e6) rfl 4 (by decide) (hts (.fieldLink RX1 18 "EightReasons$Formula" "stack" "[I") (List.mem_of_getElem? (i := 2) rfl)) (fun _ h9 => h9) rfl dX1_push_13 ?_
    refine lv_aload_n hx hb dX1_push_16 rfl (lv_at hl 0 rfl) ?_
    refine va_get (D := D) (cl := vwCl) (ci := 1) (v := .int x4) (C := RX1) (T := TX1) (N := 6) hx hb hts in_X1_push_X1 hown hK hP (q0 + 7) (wl_at (x_lt (x_suit hq0 (by decide))) e6) rfl 5 (by decide) (hts (.fieldLink RX1 25 "EightReasons$Formula" "height" "I") (List.mem_of_getElem? (i := 1) rfl)) (fun _ h9 => h9) rfl dX1_push_17 ?_
    refine lv_iload_n hx hb dX1_push_20 rfl (lv_at hl 1 rfl) ?_
    refine va_iast hx hb hK hP hD hS (q0 + 10) 0 (wl_at (x_lt (x_suit hq0 (by decide))) e7) rfl (vp_in_iff.mpr ⟨by omega, by omega⟩) dX1_push_21 (fun H locs hP hD hS => ?_)
    obtain ⟨f, hT, hP, hD, e10, hj11⟩ := stU (x_lt (x_suit hq0 (by decide))) (TYx.up hT (x_suit hq0 (by decide)) (ok_suit10 hq0 ⟨_, rfl⟩)) hP hD
    have e12 := (hj11 (q0 + 7) (by omega)).trans e6
    refine lv_aload_n hx hb dX1_push_22 rfl (lv_at hl 0 rfl) ?_
    refine lv_dup hx hb dX1_push_23 rfl ?_
    refine va_get (D := D) (cl := vwCl) (ci := 1) (v := .int x4) (C := RX1) (T := TX1) (N := 6) hx hb hts in_X1_push_X1 hown hK hP (q0 + 7) (wl_at (x_lt (x_suit hq0 (by decide))) e12) rfl 5 (by decide) (hts (.fieldLink RX1 25 "EightReasons$Formula" "height" "I") (List.mem_of_getElem? (i := 1) rfl)) (fun _ h9 => h9) rfl dX1_push_24 ?_
    refine lv_iconst (v := 1) hx hb dX1_push_27 (by decide) ?_
    have ttl_1 := tl_1
    refine lv_iadd hx hb dX1_push_28 ?_
    refine lv_topi (fun x13 ex13 => ?_)
    have hx13 := r_add ex13 (by omega) (by omega)
    refine va_put (D := D) (cl := vwCl) (ci := 1) (v := .int x13) (ty := tyX1 5) (C := RX1) (T := TX1) (N := 6) hx hb hts in_X1_push_X1 tyX1 tyX1_ok nmX1 hown hK hP hD hS (q0 + 7) (wl_at (x_lt (x_suit hq0 (by decide))) e12) rfl 5 (by decide) (hts (.fieldLink RX1 25 "EightReasons$Formula" "height" "I") (List.mem_of_getElem? (i := 1) rfl)) (fun _ h9 => h9) rfl (tyX1_ok 5 (by decide)) rfl rfl (Nat.le_of_ble_eq_true rfl) dX1_push_29 (fun H locs hP hD hS => ?_)
    obtain ⟨f, hT, hP, hD, e14, hj15⟩ := stU (x_lt (x_suit hq0 (by decide))) (TYx.up hT (x_suit hq0 (by decide)) (ok_suit7 hq0 ⟨x1, x3, x13, rfl, by omega, by omega⟩)) hP hD
    exact tV hx hb hr hlk hP hS ⟨trivial, hT⟩ dX1_push_32
set_option maxHeartbeats 4000000 in
set_option maxRecDepth 100000 in
theorem s_X1_value_0 (l : Launch) (B0 : Nat) (adK adV : Nat → Nat) (D : va_G) (cy : Nat → ClassId) (ad : Nat → Nat) (fr0 : Nat → va_E) (tx : Int32) (rby : Int32) (rnx : Int32) (f : Nat → va_E) (hT : TYx ad cy fr0 tx rby rnx f) (q0 : Nat) (hq0 : isSuit q0) (p1 : Int32) (p2 : Int32) (hp2 : 0 ≤ p2.toInt ∧ p2.toInt ≤ 63) (p3 : Int32) (hp3 : 0 ≤ p3.toInt ∧ p3.toInt ≤ 63) (p4 : Int32) (p5 : Int32) (sz : Nat) : TtI l yX1_value wsX1_value 1 22 [.ref (ad (q0 + 7)), .int p1, .int p2, .int p3, .int p4, .int p5] B0 adK adV D cy ad f sz (fun (r : Int32) (g : Nat → va_E) => True ∧ (TYx ad cy fr0 tx rby rnx g)) := by
  refine TtI.of (cc := cX1_value) (maxL := 9) (ty := .int) (own := RX1) (by decide) rfl (Nat.le_of_ble_eq_true rfl) rfl ?_
  intro p e s m below meth c A ls hx hb hr hml hts hown hlk hK hE hP hD hS hA hAB hl
  have hl : lv_has ls 9 [(0, .ref (ad (q0 + 7))), (1, .int p1), (2, .int p2), (3, .int p3), (4, .int p4), (5, .int p5)] := hl
  refine st0 (fun H locs hP hS => ?_) hP hS
  have j48 : ∀ (N : Nat) (f : Nat → va_E) (H : Heap) (locs : List Loc) (ls : Array Slot) (v48_l6 : Int32), (288 - v48_l6.toInt ≤ (N : Int)) → (0 ≤ v48_l6.toInt ∧ v48_l6.toInt ≤ 287) → (0 ≤ p2.toInt ∧ p2.toInt ≤ 63) → (0 ≤ p3.toInt ∧ p3.toInt ≤ 63) → (TYx ad cy fr0 tx rby rnx f) → (va_P D vwCl (wl ad f) H) → (va_D A (wl ad f)) → (va_S A s.heap H locs) → (lv_has ls 9 [(6, .int v48_l6), (0, .ref (ad (q0 + 7))), (1, .int p1), (2, .int p2), (3, .int p3), (4, .int p4), (5, .int p5)]) → W p l e (rmO 1 22 0 0) s m ([.ref (ad (q0 + 7)), .int p1, .int p2, .int p3, .int p4, .int p5] : List Value).toArray below meth c H locs 0 0 (MQ below (va_Qi (fun (r : Int32) (g : Nat → va_E) => True ∧ (TYx ad cy fr0 tx rby rnx g)) (fun g t => PstT D ad g t) A) ([.ref (ad (q0 + 7)), .int p1, .int p2, .int p3, .int p4, .int p5] : List Value).toArray s 0 0 A) (F0 m 48 ls []) := by
    intro N
    induction N with
    | zero => intro f H locs ls v48_l6 hN hv48_l6 hv48_l2 hv48_l3 hT hP hD hS hl; exact absurd hN (by omega)
    | succ N ih48 =>
      intro f H locs ls v48_l6 hN hv48_l6 hv48_l2 hv48_l3 hT hP hD hS hl
      have j156 : ∀ (f : Nat → va_E) (H : Heap) (locs : List Loc) (ls : Array Slot) (v156_l7 : Int32), (0 ≤ v48_l6.toInt ∧ v48_l6.toInt ≤ 268) → (0 ≤ p2.toInt ∧ p2.toInt ≤ 63) → (0 ≤ p3.toInt ∧ p3.toInt ≤ 63) → (TYx ad cy fr0 tx rby rnx f) → (va_P D vwCl (wl ad f) H) → (va_D A (wl ad f)) → (va_S A s.heap H locs) → (lv_has ls 9 [(7, .int v156_l7), (6, .int v48_l6), (0, .ref (ad (q0 + 7))), (1, .int p1), (2, .int p2), (3, .int p3), (4, .int p4), (5, .int p5)]) → W p l e (rmO 1 22 0 0) s m ([.ref (ad (q0 + 7)), .int p1, .int p2, .int p3, .int p4, .int p5] : List Value).toArray below meth c H locs 0 0 (MQ below (va_Qi (fun (r : Int32) (g : Nat → va_E) => True ∧ (TYx ad cy fr0 tx rby rnx g)) (fun g t => PstT D ad g t) A) ([.ref (ad (q0 + 7)), .int p1, .int p2, .int p3, .int p4, .int p5] : List Value).toArray s 0 0 A) (F0 m 156 ls []) := by
        intro f H locs ls v156_l7 hv156_l6 hv156_l2 hv156_l3 hT hP hD hS hl
        obtain ⟨x1, ex1⟩ : ∃ q : Int32, q = v48_l6 + Int32.ofInt (1) := ⟨_, rfl⟩
        refine lv_iinc (v := x1) (lv' := [(6, .int x1), (7, .int v156_l7), (0, .ref (ad (q0 + 7))), (1, .int p1), (2, .int p2), (3, .int p3), (4, .int p4), (5, .int p5)]) hx hb dX1_value_156 hl (k := 1) rfl ex1.symm (by decide) rfl (fun ls hl => ?_)
        have hx1 := r_inc ex1 (by decide) (by omega) (by omega)
        refine lv_goto (tgt := 48) hx hb dX1_value_159 (by decide) ?_
        exact ih48 f H locs ls x1 (by omega) (by omega) (by omega) (by omega) hT hP hD hS (lv_sub hl [0, 2, 3, 4, 5, 6, 7] rfl)
      have j129 : ∀ (f : Nat → va_E) (H : Heap) (locs : List Loc) (ls : Array Slot) (v129_l7 : Int32) (v129_s1 : Int32), (10 ≤ v129_l7.toInt ∧ v129_l7.toInt ≤ 10) → (0 ≤ v48_l6.toInt ∧ v48_l6.toInt ≤ 268) → (0 ≤ p2.toInt ∧ p2.toInt ≤ 63) → (0 ≤ p3.toInt ∧ p3.toInt ≤ 63) → (0 ≤ v129_s1.toInt ∧ v129_s1.toInt ≤ 1) → (TYx ad cy fr0 tx rby rnx f) → (va_P D vwCl (wl ad f) H) → (va_D A (wl ad f)) → (va_S A s.heap H locs) → (lv_has ls 9 [(7, .int v129_l7), (6, .int v48_l6), (0, .ref (ad (q0 + 7))), (1, .int p1), (2, .int p2), (3, .int p3), (4, .int p4), (5, .int p5)]) → W p l e (rmO 1 22 0 0) s m ([.ref (ad (q0 + 7)), .int p1, .int p2, .int p3, .int p4, .int p5] : List Value).toArray below meth c H locs 0 0 (MQ below (va_Qi (fun (r : Int32) (g : Nat → va_E) => True ∧ (TYx ad cy fr0 tx rby rnx g)) (fun g t => PstT D ad g t) A) ([.ref (ad (q0 + 7)), .int p1, .int p2, .int p3, .int p4, .int p5] : List Value).toArray s 0 0 A) (F0 m 129 ls [.int v129_s1, .ref (ad (q0 + 7))]) := by
        intro f H locs ls v129_l7 v129_s1 hv129_l7 hv129_l6 hv129_l2 hv129_l3 hv129_s1 hT hP hD hS hl
        obtain ⟨x2, x4, x5, e7, h3, h6⟩ := (ty_suit7 hT hq0)
        refine tVV (As := [.int v129_s1]) (rest := []) (i := (q0 + 7)) ⟨hx, hb, hml, hown, hts⟩ hK hE hP hD hS hA hAB (s_X1_push_0 l B0 adK adV D cy ad fr0 tx rby rnx f hT q0 hq0 v129_s1 _) (cwV 1 hts gX1_value_X1_push rfl rfl rfl (by decide +kernel) ⟨Nat.le_of_ble_eq_true rfl, Nat.le_of_ble_eq_true rfl⟩) (x_lt (x_suit hq0 (by decide))) 1 e7 rfl rfl hl.1 rfl (Nat.le_of_ble_eq_true rfl) dX1_value_129 ⟨Nat.le_of_ble_eq_true rfl, Nat.le_of_ble_eq_true rfl⟩ (fun f H locs hw hP hD hS => ?_)
        obtain ⟨hrs, hT⟩ := hw
        refine lv_goto (tgt := 156) hx hb dX1_value_132 (by decide) ?_
        exact j156 f H locs ls v129_l7 (by omega) (by omega) (by omega) hT hP hD hS (lv_sub hl [0, 1, 2, 3, 4, 5, 6, 7] rfl)
      refine lv_iload hx hb dX1_value_48 (lv_at hl 0 rfl) ?_
      refine lv_aload_n hx hb dX1_value_50 rfl (lv_at hl 1 rfl) ?_
      obtain ⟨x8, x10, x11, e13, h9, h12⟩ := (ty_suit7 hT hq0)
      refine va_get (D := D) (cl := vwCl) (ci := 1) (v := .int x8) (C := RX1) (T := TX1) (N := 6) hx hb hts in_X1_value_X1 hown hK hP (q0 + 7) (wl_at (x_lt (x_suit hq0 (by decide))) e13) rfl 1 (by decide) (hts (.fieldLink RX1 21 "EightReasons$Formula" "length" "I") (List.mem_of_getElem? (i := 3) rfl)) (fun _ h9 => h9) rfl dX1_value_51 ?_
      refine lv_icmp_ge (tgt := 162) hx hb dX1_value_54 (by decide) (fun c14 => ?_) (fun c14 => ?_)
      · have kc14 := c_le c14
        refine lv_aload_n hx hb dX1_value_162 rfl (lv_at hl 1 rfl) ?_
        refine tVI (As := []) (rest := []) (i := (q0 + 7)) ⟨hx, hb, hml, hown, hts⟩ hK hE hP hD hS hA hAB (s_X1_pop_0 l B0 adK adV D cy ad fr0 tx rby rnx f hT q0 hq0 _) (cwV 0 hts gX1_value_X1_pop rfl rfl rfl (by decide +kernel) ⟨Nat.le_of_ble_eq_true rfl, Nat.le_of_ble_eq_true rfl⟩) (x_lt (x_suit hq0 (by decide))) 1 e13 rfl rfl hl.1 rfl (Nat.le_of_ble_eq_true rfl) dX1_value_163 ⟨Nat.le_of_ble_eq_true rfl, Nat.le_of_ble_eq_true rfl⟩ (fun r f H locs hw hP hD hS => ?_)
        obtain ⟨hrs, hT⟩ := hw
        obtain ⟨x15, rfl⟩ : ∃ q, q = r := ⟨_, rfl⟩
        have h16 := hrs
        exact tI hx hb hr hlk rfl hP hS ⟨trivial, hT⟩ dX1_value_166
      · have kc14 := c_nle c14
        refine lv_aload_n hx hb dX1_value_57 rfl (lv_at hl 1 rfl) ?_
        refine va_get (D := D) (cl := vwCl) (ci := 1) (v := .ref (ad (q0 + 8))) (C := RX1) (T := TX1) (N := 6) hx hb hts in_X1_value_X1 hown hK hP (q0 + 7) (wl_at (x_lt (x_suit hq0 (by decide))) e13) rfl 0 (by decide) (hts (.fieldLink RX1 9 "EightReasons$Formula" "code" "[I") (List.mem_of_getElem? (i := 4) rfl)) (fun _ h9 => h9) rfl dX1_value_58 ?_
        refine lv_iload hx hb dX1_value_61 (lv_at hl 0 rfl) ?_
        obtain ⟨g18, e17⟩ := (ty_suit8 hT hq0)
        refine va_iald hx hb hK hP (q0 + 8) 0 (wl_at (x_lt (x_suit hq0 (by decide))) e17) rfl (vp_in_iff.mpr ⟨by omega, by omega⟩) dX1_value_63 ?_
        refine lv_topi (fun x19 ex19 => ?_)
        refine lv_istore (lv' := [(7, .int x19), (6, .int v48_l6), (0, .ref (ad (q0 + 7))), (1, .int p1), (2, .int p2), (3, .int p3), (4, .int p4), (5, .int p5)]) hx hb dX1_value_64 hl (by decide) rfl (fun ls hl => ?_)
        refine lv_iload hx hb dX1_value_66 (lv_at hl 0 rfl) ?_
        refine lv_sipush (v := 1000) hx hb dX1_value_68 (by decide) ?_
        have ttl_1000 := tl_1000
        refine lv_icmp_lt (tgt := 87) hx hb dX1_value_71 (by decide) (fun c20 => ?_) (fun c20 => ?_)
        · have kc20 := c_lt c20
          refine lv_iload hx hb dX1_value_87 (lv_at hl 0 rfl) ?_
          refine tSI (As := [.int x19]) (rest := []) ⟨hx, hb, hml, hown, hts⟩ hK hE hP hD hS hA hAB (s_X1_isUnitWord_0 l B0 adK adV D cy ad f x19 _) (va_cwS 1 hts gX1_value_X1_isUnitWord rfl rfl rfl (by decide +kernel) ⟨Nat.le_of_ble_eq_true rfl, Nat.le_of_ble_eq_true rfl⟩) rfl hl.1 rfl (Nat.le_of_ble_eq_true rfl) dX1_value_89 ⟨Nat.le_of_ble_eq_true rfl, Nat.le_of_ble_eq_true rfl⟩ (fun r g H locs hw hP hD hS => ?_)
          obtain ⟨hrs, rfl⟩ := hw
          obtain ⟨x21, rfl⟩ : ∃ q, q = r := ⟨_, rfl⟩
          rcases hrs with ⟨rfl, h22, h23⟩ | rfl
          · refine lv_if_eq (tgt := 109) hx hb dX1_value_92 (by decide) (fun c => absurd c (by decide)) (fun _ => ?_)
            refine lv_aload_n hx hb dX1_value_95 rfl (lv_at hl 2 rfl) ?_
            refine lv_aload_n hx hb dX1_value_96 rfl (lv_at hl 2 rfl) ?_
            refine va_get (D := D) (cl := vwCl) (ci := 1) (v := .ref (ad (q0 + 9))) (C := RX1) (T := TX1) (N := 6) hx hb hts in_X1_value_X1 hown hK hP (q0 + 7) (wl_at (x_lt (x_suit hq0 (by decide))) e13) rfl 3 (by decide) (hts (.fieldLink RX1 15 "EightReasons$Formula" "given" "[I") (List.mem_of_getElem? (i := 1) rfl)) (fun _ h9 => h9) rfl dX1_value_97 ?_
            refine lv_iload hx hb dX1_value_100 (lv_at hl 0 rfl) ?_
            obtain ⟨g25, e24⟩ := (ty_suit9 hT hq0)
            refine va_iald hx hb hK hP (q0 + 9) 0 (wl_at (x_lt (x_suit hq0 (by decide))) e24) rfl (vp_in_iff.mpr ⟨by omega, by omega⟩) dX1_value_102 ?_
            refine lv_topi (fun x26 ex26 => ?_)
            refine tVV (As := [.int x26]) (rest := []) (i := (q0 + 7)) ⟨hx, hb, hml, hown, hts⟩ hK hE hP hD hS hA hAB (s_X1_push_0 l B0 adK adV D cy ad fr0 tx rby rnx f hT q0 hq0 x26 _) (cwV 1 hts gX1_value_X1_push rfl rfl rfl (by decide +kernel) ⟨Nat.le_of_ble_eq_true rfl, Nat.le_of_ble_eq_true rfl⟩) (x_lt (x_suit hq0 (by decide))) 1 e13 rfl rfl hl.1 rfl (Nat.le_of_ble_eq_true rfl) dX1_value_103 ⟨Nat.le_of_ble_eq_true rfl, Nat.le_of_ble_eq_true rfl⟩ (fun f H locs hw hP hD hS => ?_)
            obtain ⟨hrs, hT⟩ := hw
            refine lv_goto (tgt := 156) hx hb dX1_value_106 (by decide) ?_
            exact j156 f H locs ls x19 (by omega) (by omega) (by omega) hT hP hD hS (lv_sub hl [0, 1, 2, 3, 4, 5, 6, 7] rfl)
          · refine lv_if_eq (tgt := 109) hx hb dX1_value_92 (by decide) (fun _ => ?_) (fun c => absurd (by decide) c)
            refine lv_iload hx hb dX1_value_109 (lv_at hl 0 rfl) ?_
            refine lv_bipush (v := 10) hx hb dX1_value_111 (by decide) ?_
            have ttl_10 := tl_10
            refine lv_icmp_ne (tgt := 135) hx hb dX1_value_113 (by decide) (fun c27 => ?_) (fun c27 => ?_)
            · have kc27 := c_ne c27
              refine lv_aload_n hx hb dX1_value_135 rfl (lv_at hl 2 rfl) ?_
              refine tVI (As := []) (rest := []) (i := (q0 + 7)) ⟨hx, hb, hml, hown, hts⟩ hK hE hP hD hS hA hAB (s_X1_pop_0 l B0 adK adV D cy ad fr0 tx rby rnx f hT q0 hq0 _) (cwV 0 hts gX1_value_X1_pop rfl rfl rfl (by decide +kernel) ⟨Nat.le_of_ble_eq_true rfl, Nat.le_of_ble_eq_true rfl⟩) (x_lt (x_suit hq0 (by decide))) 1 e13 rfl rfl hl.1 rfl (Nat.le_of_ble_eq_true rfl) dX1_value_136 ⟨Nat.le_of_ble_eq_true rfl, Nat.le_of_ble_eq_true rfl⟩ (fun r f H locs hw hP hD hS => ?_)
              obtain ⟨hrs, hT⟩ := hw
              obtain ⟨x28, rfl⟩ : ∃ q, q = r := ⟨_, rfl⟩
              have h29 := hrs
              refine lv_istore (lv' := [(8, .int x28), (7, .int x19), (6, .int v48_l6), (0, .ref (ad (q0 + 7))), (1, .int p1), (2, .int p2), (3, .int p3), (4, .int p4), (5, .int p5)]) hx hb dX1_value_139 hl (by decide) rfl (fun ls hl => ?_)
              refine lv_aload_n hx hb dX1_value_141 rfl (lv_at hl 3 rfl) ?_
              refine lv_iload hx hb dX1_value_142 (lv_at hl 1 rfl) ?_
              refine lv_aload_n hx hb dX1_value_144 rfl (lv_at hl 3 rfl) ?_
              obtain ⟨x30, x32, x33, e35, h31, h34⟩ := (ty_suit7 hT hq0)
              refine tVI (As := []) (rest := [.int x19, .ref (ad (q0 + 7))]) (i := (q0 + 7)) ⟨hx, hb, hml, hown, hts⟩ hK hE hP hD hS hA hAB (s_X1_pop_0 l B0 adK adV D cy ad fr0 tx rby rnx f hT q0 hq0 _) (cwV 0 hts gX1_value_X1_pop rfl rfl rfl (by decide +kernel) ⟨Nat.le_of_ble_eq_true rfl, Nat.le_of_ble_eq_true rfl⟩) (x_lt (x_suit hq0 (by decide))) 1 e35 rfl rfl hl.1 rfl (Nat.le_of_ble_eq_true rfl) dX1_value_145 ⟨Nat.le_of_ble_eq_true rfl, Nat.le_of_ble_eq_true rfl⟩ (fun r f H locs hw hP hD hS => ?_)
              obtain ⟨hrs, hT⟩ := hw
              obtain ⟨x36, rfl⟩ : ∃ q, q = r := ⟨_, rfl⟩
              have h37 := hrs
              refine lv_iload hx hb dX1_value_148 (lv_at hl 0 rfl) ?_
              refine tSI (As := [.int x19, .int x36, .int x28]) (rest := [.ref (ad (q0 + 7))]) ⟨hx, hb, hml, hown, hts⟩ hK hE hP hD hS hA hAB (s_X1_joined_0 l B0 adK adV D cy ad f x19 (by omega) x36 x28 _) (va_cwS 3 hts gX1_value_X1_joined rfl rfl rfl (by decide +kernel) ⟨Nat.le_of_ble_eq_true rfl, Nat.le_of_ble_eq_true rfl⟩) rfl hl.1 rfl (Nat.le_of_ble_eq_true rfl) dX1_value_150 ⟨Nat.le_of_ble_eq_true rfl, Nat.le_of_ble_eq_true rfl⟩ (fun r g H locs hw hP hD hS => ?_)
              obtain ⟨hrs, rfl⟩ := hw
              obtain ⟨x38, rfl⟩ : ∃ q, q = r := ⟨_, rfl⟩
              have h39 := hrs
              obtain ⟨x40, x42, x43, e45, h41, h44⟩ := (ty_suit7 hT hq0)
              refine tVV (As := [.int x38]) (rest := []) (i := (q0 + 7)) ⟨hx, hb, hml, hown, hts⟩ hK hE hP hD hS hA hAB (s_X1_push_0 l B0 adK adV D cy ad fr0 tx rby rnx f hT q0 hq0 x38 _) (cwV 1 hts gX1_value_X1_push rfl rfl rfl (by decide +kernel) ⟨Nat.le_of_ble_eq_true rfl, Nat.le_of_ble_eq_true rfl⟩) (x_lt (x_suit hq0 (by decide))) 1 e45 rfl rfl hl.1 rfl (Nat.le_of_ble_eq_true rfl) dX1_value_153 ⟨Nat.le_of_ble_eq_true rfl, Nat.le_of_ble_eq_true rfl⟩ (fun f H locs hw hP hD hS => ?_)
              obtain ⟨hrs, hT⟩ := hw
              exact j156 f H locs ls x19 (by omega) (by omega) (by omega) hT hP hD hS (lv_sub hl [1, 2, 3, 4, 5, 6, 7, 8] rfl)
            · have kc27 := c_eq c27
              refine lv_aload_n hx hb dX1_value_116 rfl (lv_at hl 2 rfl) ?_
              refine lv_aload_n hx hb dX1_value_117 rfl (lv_at hl 2 rfl) ?_
              refine tVI (As := []) (rest := [.ref (ad (q0 + 7))]) (i := (q0 + 7)) ⟨hx, hb, hml, hown, hts⟩ hK hE hP hD hS hA hAB (s_X1_pop_0 l B0 adK adV D cy ad fr0 tx rby rnx f hT q0 hq0 _) (cwV 0 hts gX1_value_X1_pop rfl rfl rfl (by decide +kernel) ⟨Nat.le_of_ble_eq_true rfl, Nat.le_of_ble_eq_true rfl⟩) (x_lt (x_suit hq0 (by decide))) 1 e13 rfl rfl hl.1 rfl (Nat.le_of_ble_eq_true rfl) dX1_value_118 ⟨Nat.le_of_ble_eq_true rfl, Nat.le_of_ble_eq_true rfl⟩ (fun r f H locs hw hP hD hS => ?_)
              obtain ⟨hrs, hT⟩ := hw
              obtain ⟨x46, rfl⟩ : ∃ q, q = r := ⟨_, rfl⟩
              have h47 := hrs
              have ttl_0 := tl_0
              refine lv_if_ne (tgt := 128) hx hb dX1_value_121 (by decide) (fun c48 => ?_) (fun c48 => ?_)
              · have kc48 := c_ne c48
                refine lv_iconst (v := 0) hx hb dX1_value_128 (by decide) ?_
                exact j129 f H locs ls x19 (0 : Int32) (by omega) (by omega) (by omega) (by omega) (by omega) hT hP hD hS (lv_sub hl [0, 1, 2, 3, 4, 5, 6, 7] rfl)
              · have kc48 := c_eq c48
                refine lv_iconst (v := 1) hx hb dX1_value_124 (by decide) ?_
                refine lv_goto (tgt := 129) hx hb dX1_value_125 (by decide) ?_
                have ttl_1 := tl_1
                exact j129 f H locs ls x19 (1 : Int32) (by omega) (by omega) (by omega) (by omega) (by omega) hT hP hD hS (lv_sub hl [0, 1, 2, 3, 4, 5, 6, 7] rfl)
        · have kc20 := c_nlt c20
          refine lv_aload_n hx hb dX1_value_74 rfl (lv_at hl 2 rfl) ?_
          refine lv_iload hx hb dX1_value_75 (lv_at hl 0 rfl) ?_
          refine lv_sipush (v := 1000) hx hb dX1_value_77 (by decide) ?_
          have hg49 := rgI x19
          refine lv_isub hx hb dX1_value_80 ?_
          refine lv_topi (fun x50 ex50 => ?_)
          have hx50 := r_sub ex50 (by omega) (by omega)
          refine tVV (As := [.int x50]) (rest := []) (i := (q0 + 7)) ⟨hx, hb, hml, hown, hts⟩ hK hE hP hD hS hA hAB (s_X1_push_0 l B0 adK adV D cy ad fr0 tx rby rnx f hT q0 hq0 x50 _) (cwV 1 hts gX1_value_X1_push rfl rfl rfl (by decide +kernel) ⟨Nat.le_of_ble_eq_true rfl, Nat.le_of_ble_eq_true rfl⟩) (x_lt (x_suit hq0 (by decide))) 1 e13 rfl rfl hl.1 rfl (Nat.le_of_ble_eq_true rfl) dX1_value_81 ⟨Nat.le_of_ble_eq_true rfl, Nat.le_of_ble_eq_true rfl⟩ (fun f H locs hw hP hD hS => ?_)
          obtain ⟨hrs, hT⟩ := hw
          refine lv_goto (tgt := 156) hx hb dX1_value_84 (by decide) ?_
          exact j156 f H locs ls x19 (by omega) (by omega) (by omega) hT hP hD hS (lv_sub hl [0, 1, 2, 3, 4, 5, 6, 7] rfl)
  refine lv_aload_n hx hb dX1_value_0 rfl (lv_at hl 0 rfl) ?_
  obtain ⟨x51, x53, x54, e56, h52, h55⟩ := (ty_suit7 hT hq0)
  refine va_get (D := D) (cl := vwCl) (ci := 1) (v := .ref (ad (q0 + 9))) (C := RX1) (T := TX1) (N := 6) hx hb hts in_X1_value_X1 hown hK hP (q0 + 7) (wl_at (x_lt (x_suit hq0 (by decide))) e56) rfl 3 (by decide) (hts (.fieldLink RX1 15 "EightReasons$Formula" "given" "[I") (List.mem_of_getElem? (i := 1) rfl)) (fun _ h9 => h9) rfl dX1_value_1 ?_
  refine lv_iconst (v := 4) hx hb dX1_value_4 (by decide) ?_
  refine lv_iload_n hx hb dX1_value_5 rfl (lv_at hl 1 rfl) ?_
  obtain ⟨g58, e57⟩ := (ty_suit9 hT hq0)
  have ttl_4 := tl_4
  refine va_iast hx hb hK hP hD hS (q0 + 9) 0 (wl_at (x_lt (x_suit hq0 (by decide))) e57) rfl (vin (by decide)) dX1_value_6 (fun H locs hP hD hS => ?_)
  obtain ⟨f, hT, hP, hD, e59, hj60⟩ := stU (x_lt (x_suit hq0 (by decide))) (TYx.up hT (x_suit hq0 (by decide)) (ok_suit9 hq0 ⟨_, rfl⟩)) hP hD
  have e61 := (hj60 (q0 + 7) (by omega)).trans e56
  refine lv_aload_n hx hb dX1_value_7 rfl (lv_at hl 0 rfl) ?_
  refine va_get (D := D) (cl := vwCl) (ci := 1) (v := .ref (ad (q0 + 9))) (C := RX1) (T := TX1) (N := 6) hx hb hts in_X1_value_X1 hown hK hP (q0 + 7) (wl_at (x_lt (x_suit hq0 (by decide))) e61) rfl 3 (by decide) (hts (.fieldLink RX1 15 "EightReasons$Formula" "given" "[I") (List.mem_of_getElem? (i := 1) rfl)) (fun _ h9 => h9) rfl dX1_value_8 ?_
  refine lv_bipush (v := 11) hx hb dX1_value_11 (by decide) ?_
  refine lv_iload_n hx hb dX1_value_13 rfl (lv_at hl 2 rfl) ?_
  obtain ⟨g63, e62⟩ := (ty_suit9 hT hq0)
  have ttl_11 := tl_11
  refine va_iast hx hb hK hP hD hS (q0 + 9) 0 (wl_at (x_lt (x_suit hq0 (by decide))) e62) rfl (vin (by decide)) dX1_value_14 (fun H locs hP hD hS => ?_)
  obtain ⟨f, hT, hP, hD, e64, hj65⟩ := stU (x_lt (x_suit hq0 (by decide))) (TYx.up hT (x_suit hq0 (by decide)) (ok_suit9 hq0 ⟨_, rfl⟩)) hP hD
  have e66 := (hj65 (q0 + 7) (by omega)).trans e61
  refine lv_aload_n hx hb dX1_value_15 rfl (lv_at hl 0 rfl) ?_
  refine va_get (D := D) (cl := vwCl) (ci := 1) (v := .ref (ad (q0 + 9))) (C := RX1) (T := TX1) (N := 6) hx hb hts in_X1_value_X1 hown hK hP (q0 + 7) (wl_at (x_lt (x_suit hq0 (by decide))) e66) rfl 3 (by decide) (hts (.fieldLink RX1 15 "EightReasons$Formula" "given" "[I") (List.mem_of_getElem? (i := 1) rfl)) (fun _ h9 => h9) rfl dX1_value_16 ?_
  refine lv_bipush (v := 12) hx hb dX1_value_19 (by decide) ?_
  refine lv_iload_n hx hb dX1_value_21 rfl (lv_at hl 3 rfl) ?_
  obtain ⟨g68, e67⟩ := (ty_suit9 hT hq0)
  have ttl_12 := tl_12
  refine va_iast hx hb hK hP hD hS (q0 + 9) 0 (wl_at (x_lt (x_suit hq0 (by decide))) e67) rfl (vin (by decide)) dX1_value_22 (fun H locs hP hD hS => ?_)
  obtain ⟨f, hT, hP, hD, e69, hj70⟩ := stU (x_lt (x_suit hq0 (by decide))) (TYx.up hT (x_suit hq0 (by decide)) (ok_suit9 hq0 ⟨_, rfl⟩)) hP hD
  have e71 := (hj70 (q0 + 7) (by omega)).trans e66
  refine lv_aload_n hx hb dX1_value_23 rfl (lv_at hl 0 rfl) ?_
  refine va_get (D := D) (cl := vwCl) (ci := 1) (v := .ref (ad (q0 + 9))) (C := RX1) (T := TX1) (N := 6) hx hb hts in_X1_value_X1 hown hK hP (q0 + 7) (wl_at (x_lt (x_suit hq0 (by decide))) e71) rfl 3 (by decide) (hts (.fieldLink RX1 15 "EightReasons$Formula" "given" "[I") (List.mem_of_getElem? (i := 1) rfl)) (fun _ h9 => h9) rfl dX1_value_24 ?_
  refine lv_iconst (v := 2) hx hb dX1_value_27 (by decide) ?_
  refine lv_iload hx hb dX1_value_28 (lv_at hl 4 rfl) ?_
  obtain ⟨g73, e72⟩ := (ty_suit9 hT hq0)
  have ttl_2 := tl_2
  refine va_iast hx hb hK hP hD hS (q0 + 9) 0 (wl_at (x_lt (x_suit hq0 (by decide))) e72) rfl (vin (by decide)) dX1_value_30 (fun H locs hP hD hS => ?_)
  obtain ⟨f, hT, hP, hD, e74, hj75⟩ := stU (x_lt (x_suit hq0 (by decide))) (TYx.up hT (x_suit hq0 (by decide)) (ok_suit9 hq0 ⟨_, rfl⟩)) hP hD
  have e76 := (hj75 (q0 + 7) (by omega)).trans e71
  refine lv_aload_n hx hb dX1_value_31 rfl (lv_at hl 0 rfl) ?_
  refine va_get (D := D) (cl := vwCl) (ci := 1) (v := .ref (ad (q0 + 9))) (C := RX1) (T := TX1) (N := 6) hx hb hts in_X1_value_X1 hown hK hP (q0 + 7) (wl_at (x_lt (x_suit hq0 (by decide))) e76) rfl 3 (by decide) (hts (.fieldLink RX1 15 "EightReasons$Formula" "given" "[I") (List.mem_of_getElem? (i := 1) rfl)) (fun _ h9 => h9) rfl dX1_value_32 ?_
  refine lv_bipush (v := 13) hx hb dX1_value_35 (by decide) ?_
  refine lv_iload hx hb dX1_value_37 (lv_at hl 5 rfl) ?_
  obtain ⟨g78, e77⟩ := (ty_suit9 hT hq0)
  have ttl_13 := tl_13
  refine va_iast hx hb hK hP hD hS (q0 + 9) 0 (wl_at (x_lt (x_suit hq0 (by decide))) e77) rfl (vin (by decide)) dX1_value_39 (fun H locs hP hD hS => ?_)
  obtain ⟨f, hT, hP, hD, e79, hj80⟩ := stU (x_lt (x_suit hq0 (by decide))) (TYx.up hT (x_suit hq0 (by decide)) (ok_suit9 hq0 ⟨_, rfl⟩)) hP hD
  have e81 := (hj80 (q0 + 7) (by omega)).trans e76
  refine lv_aload_n hx hb dX1_value_40 rfl (lv_at hl 0 rfl) ?_
  refine lv_iconst (v := 0) hx hb dX1_value_41 (by decide) ?_
  refine va_put (D := D) (cl := vwCl) (ci := 1) (v := .int 0) (ty := tyX1 5) (C := RX1) (T := TX1) (N := 6) hx hb hts in_X1_value_X1 tyX1 tyX1_ok nmX1 hown hK hP hD hS (q0 + 7) (wl_at (x_lt (x_suit hq0 (by decide))) e81) rfl 5 (by decide) (hts (.fieldLink RX1 25 "EightReasons$Formula" "height" "I") (List.mem_of_getElem? (i := 2) rfl)) (fun _ h9 => h9) rfl (tyX1_ok 5 (by decide)) rfl rfl (Nat.le_of_ble_eq_true rfl) dX1_value_42 (fun H locs hP hD hS => ?_)
  have ttl_0 := tl_0
  obtain ⟨f, hT, hP, hD, e82, hj83⟩ := stU (x_lt (x_suit hq0 (by decide))) (TYx.up hT (x_suit hq0 (by decide)) (ok_suit7 hq0 ⟨x51, x53, (0 : Int32), rfl, by omega, by omega⟩)) hP hD
  refine lv_iconst (v := 0) hx hb dX1_value_45 (by decide) ?_
  refine lv_istore (lv' := [(6, .int 0), (0, .ref (ad (q0 + 7))), (1, .int p1), (2, .int p2), (3, .int p3), (4, .int p4), (5, .int p5)]) hx hb dX1_value_46 hl (by decide) rfl (fun ls hl => ?_)
  exact j48 (Int.toNat (288 - (0 : Int32).toInt)) f H locs ls (0 : Int32) (by omega) (by omega) (by omega) (by omega) hT hP hD hS (lv_sub hl [0, 1, 2, 3, 4, 5, 6] rfl)
set_option maxHeartbeats 4000000 in
set_option maxRecDepth 100000 in
theorem s_X2_borne_0 (l : Launch) (B0 : Nat) (adK adV : Nat → Nat) (D : va_G) (cy : Nat → ClassId) (ad : Nat → Nat) (fr0 : Nat → va_E) (tx : Int32) (rby : Int32) (rnx : Int32) (f : Nat → va_E) (hT : TYx ad cy fr0 tx rby rnx f) (p1 : Int32) (hp1 : 0 ≤ p1.toInt ∧ p1.toInt ≤ 11) (p2 : Int32) (sz : Nat) : TtI l yX2_borne wsX2_borne 2 50 [.ref (ad 10), .int p1, .int p2] B0 adK adV D cy ad f sz (fun (r : Int32) (g : Nat → va_E) => True ∧ (TYx ad cy fr0 tx rby rnx g)) := by
  refine TtI.of (cc := cX2_borne) (maxL := 8) (ty := .int) (own := RX2) (by decide) rfl (Nat.le_of_ble_eq_true rfl) rfl ?_
  intro p e s m below meth c A ls hx hb hr hml hts hown hlk hK hE hP hD hS hA hAB hl
  have hl : lv_has ls 8 [(0, .ref (ad 10)), (1, .int p1), (2, .int p2)] := hl
  refine st0 (fun H locs hP hS => ?_) hP hS
  have j173 : ∀ (f : Nat → va_E) (H : Heap) (locs : List Loc) (ls : Array Slot) (v173_l6 : Int32) (v173_l5 : Int32) (v173_l4 : Int32) (v173_l3 : Int32), (0 ≤ v173_l6.toInt ∧ v173_l6.toInt ≤ 1199) → (0 ≤ v173_l5.toInt ∧ v173_l5.toInt ≤ 63) → (0 ≤ v173_l4.toInt ∧ v173_l4.toInt ≤ 63) → (0 ≤ v173_l3.toInt ∧ v173_l3.toInt ≤ 9) → (0 ≤ p1.toInt ∧ p1.toInt ≤ 11) → (TYx ad cy fr0 tx rby rnx f) → (va_P D vwCl (wl ad f) H) → (va_D A (wl ad f)) → (va_S A s.heap H locs) → (lv_has ls 8 [(6, .int v173_l6), (5, .int v173_l5), (4, .int v173_l4), (3, .int v173_l3), (0, .ref (ad 10)), (1, .int p1), (2, .int p2)]) → W p l e (rmO 2 50 0 0) s m ([.ref (ad 10), .int p1, .int p2] : List Value).toArray below meth c H locs 0 0 (MQ below (va_Qi (fun (r : Int32) (g : Nat → va_E) => True ∧ (TYx ad cy fr0 tx rby rnx g)) (fun g t => PstT D ad g t) A) ([.ref (ad 10), .int p1, .int p2] : List Value).toArray s 0 0 A) (F0 m 173 ls []) := by
    intro f H locs ls v173_l6 v173_l5 v173_l4 v173_l3 hv173_l6 hv173_l5 hv173_l4 hv173_l3 hv173_l1 hT hP hD hS hl
    refine lv_aload_n hx hb dX2_borne_173 rfl (lv_at hl 4 rfl) ?_
    obtain ⟨x1, t2, x4, x5, e6, h3⟩ := (show okX2 ad 10 (f 10) from hT.1 10 (by decide))
    refine va_get (D := D) (cl := vwCl) (ci := 2) (v := .ref (ad 16)) (C := RX2) (T := TX2) (N := 10) hx hb hts in_X2_borne_X2 hown hK hP 10 (wl_at (by decide) e6) rfl 8 (by decide) (hts (.fieldLink RX2 34 "EightReasons$Loom" "known" "[I") (List.mem_of_getElem? (i := 9) rfl)) (fun _ h9 => h9) rfl dX2_borne_174 ?_
    refine lv_iload hx hb dX2_borne_177 (lv_at hl 0 rfl) ?_
    obtain ⟨g8, e7⟩ := (show okI cy 1200 (f 16) from hT.1 16 (by decide))
    refine va_iald hx hb hK hP 16 0 (wl_at (by decide) e7) rfl (vp_in_iff.mpr ⟨by omega, by omega⟩) dX2_borne_179 ?_
    refine lv_topi (fun x9 ex9 => ?_)
    refine lv_sipush (v := 1023) hx hb dX2_borne_180 (by decide) ?_
    have ttl_1023 := tl_1023
    refine lv_iand hx hb dX2_borne_183 ?_
    refine lv_topi (fun x10 ex10 => ?_)
    have hx10 := r_andr ex10 (by omega)
    exact tI hx hb hr hlk rfl hP hS ⟨trivial, hT⟩ dX2_borne_184
  refine lv_aload_n hx hb dX2_borne_0 rfl (lv_at hl 0 rfl) ?_
  obtain ⟨x11, t12, x14, x15, e16, h13⟩ := (show okX2 ad 10 (f 10) from hT.1 10 (by decide))
  refine va_get (D := D) (cl := vwCl) (ci := 2) (v := .ref (ad t12)) (C := RX2) (T := TX2) (N := 10) hx hb hts in_X2_borne_X2 hown hK hP 10 (wl_at (by decide) e16) rfl 4 (by decide) (hts (.fieldLink RX2 24 "EightReasons$Loom" "suit" "LEightReasons$Suit;") (List.mem_of_getElem? (i := 1) rfl)) (fun _ h9 => h9) rfl dX2_borne_1 ?_
  obtain ⟨x17, x19, x20, x22, x23, e24, h18, h21⟩ := (ty_suit hT h13)
  refine va_get (D := D) (cl := vwCl) (ci := 5) (v := .ref (ad (t12 + 7))) (C := RX5) (T := TX5) (N := 12) hx hb hts in_X2_borne_X5 hown hK hP t12 (wl_at (x_lt (x_suit0 h13)) e24) rfl 11 (by decide) (hts (.fieldLink RX2 84 "EightReasons$Suit" "formula" "LEightReasons$Formula;") (List.mem_of_getElem? (i := 2) rfl)) (fun _ h9 => h9) rfl dX2_borne_4 ?_
  obtain ⟨x25, x27, x28, e30, h26, h29⟩ := (ty_suit7 hT h13)
  refine va_get (D := D) (cl := vwCl) (ci := 1) (v := .int x25) (C := RX1) (T := TX1) (N := 6) hx hb hts in_X2_borne_X1 hown hK hP (t12 + 7) (wl_at (x_lt (x_suit h13 (by decide))) e30) rfl 1 (by decide) (hts (.fieldLink RX2 88 "EightReasons$Formula" "length" "I") (List.mem_of_getElem? (i := 3) rfl)) (fun _ h9 => h9) rfl dX2_borne_7 ?_
  have ttl_0 := tl_0
  refine lv_if_ne (tgt := 20) hx hb dX2_borne_10 (by decide) (fun c31 => ?_) (fun c31 => ?_)
  · have kc31 := c_ne c31
    refine lv_aload_n hx hb dX2_borne_20 rfl (lv_at hl 0 rfl) ?_
    refine va_get (D := D) (cl := vwCl) (ci := 2) (v := .ref (ad t12)) (C := RX2) (T := TX2) (N := 10) hx hb hts in_X2_borne_X2 hown hK hP 10 (wl_at (by decide) e16) rfl 4 (by decide) (hts (.fieldLink RX2 24 "EightReasons$Loom" "suit" "LEightReasons$Suit;") (List.mem_of_getElem? (i := 1) rfl)) (fun _ h9 => h9) rfl dX2_borne_21 ?_
    refine va_get (D := D) (cl := vwCl) (ci := 5) (v := .ref (ad (t12 + 5))) (C := RX5) (T := TX5) (N := 12) hx hb hts in_X2_borne_X5 hown hK hP t12 (wl_at (x_lt (x_suit0 h13)) e24) rfl 9 (by decide) (hts (.fieldLink RX2 93 "EightReasons$Suit" "target" "[I") (List.mem_of_getElem? (i := 5) rfl)) (fun _ h9 => h9) rfl dX2_borne_24 ?_
    refine lv_iload_n hx hb dX2_borne_27 rfl (lv_at hl 1 rfl) ?_
    obtain ⟨g34, e32, h33⟩ := (ty_suit5 hT h13)
    refine va_iald hx hb hK hP (t12 + 5) 0 (wl_at (x_lt (x_suit h13 (by decide))) e32) rfl (vp_in_iff.mpr ⟨by omega, by omega⟩) dX2_borne_28 ?_
    refine lv_topi (fun x35 ex35 => ?_)
    have hx35 := r_el (h33 _ (Nat.mod_one _)) ex35
    refine lv_istore_n (lv' := [(3, .int x35), (0, .ref (ad 10)), (1, .int p1), (2, .int p2)]) hx hb dX2_borne_29 rfl hl (by decide) rfl (fun ls hl => ?_)
    refine lv_aload_n hx hb dX2_borne_30 rfl (lv_at hl 1 rfl) ?_
    refine va_get (D := D) (cl := vwCl) (ci := 2) (v := .ref (ad t12)) (C := RX2) (T := TX2) (N := 10) hx hb hts in_X2_borne_X2 hown hK hP 10 (wl_at (by decide) e16) rfl 4 (by decide) (hts (.fieldLink RX2 24 "EightReasons$Loom" "suit" "LEightReasons$Suit;") (List.mem_of_getElem? (i := 1) rfl)) (fun _ h9 => h9) rfl dX2_borne_31 ?_
    refine va_get (D := D) (cl := vwCl) (ci := 5) (v := .ref (ad (t12 + 2))) (C := RX5) (T := TX5) (N := 12) hx hb hts in_X2_borne_X5 hown hK hP t12 (wl_at (x_lt (x_suit0 h13)) e24) rfl 6 (by decide) (hts (.fieldLink RX2 96 "EightReasons$Suit" "into" "[I") (List.mem_of_getElem? (i := 6) rfl)) (fun _ h9 => h9) rfl dX2_borne_34 ?_
    refine lv_iload_n hx hb dX2_borne_37 rfl (lv_at hl 0 rfl) ?_
    obtain ⟨g37, e36⟩ := (ty_suit2 hT h13)
    refine va_iald hx hb hK hP (t12 + 2) 0 (wl_at (x_lt (x_suit h13 (by decide))) e36) rfl (vp_in_iff.mpr ⟨by omega, by omega⟩) dX2_borne_38 ?_
    refine lv_topi (fun x38 ex38 => ?_)
    refine lv_iload_n hx hb dX2_borne_39 rfl (lv_at hl 3 rfl) ?_
    refine lv_iand hx hb dX2_borne_40 ?_
    refine lv_topi (fun x39 ex39 => ?_)
    refine tSI (As := [.int x39]) (rest := []) ⟨hx, hb, hml, hown, hts⟩ hK hE hP hD hS hA hAB (s_J6_bitCount_0f7a4_0 l B0 adK adV D cy ad f x39 _) (va_cwS 1 hts gX2_borne_J6_bitCount_0f7a4 rfl rfl rfl (by decide +kernel) ⟨Nat.le_of_ble_eq_true rfl, Nat.le_of_ble_eq_true rfl⟩) rfl hl.1 rfl (Nat.le_of_ble_eq_true rfl) dX2_borne_41 ⟨Nat.le_of_ble_eq_true rfl, Nat.le_of_ble_eq_true rfl⟩ (fun r g H locs hw hP hD hS => ?_)
    obtain ⟨hrs, rfl⟩ := hw
    obtain ⟨x40, rfl⟩ : ∃ q, q = r := ⟨_, rfl⟩
    have h41 := hrs
    refine lv_istore (lv' := [(4, .int x40), (3, .int x35), (0, .ref (ad 10)), (1, .int p1), (2, .int p2)]) hx hb dX2_borne_44 hl (by decide) rfl (fun ls hl => ?_)
    refine lv_aload_n hx hb dX2_borne_46 rfl (lv_at hl 2 rfl) ?_
    refine va_get (D := D) (cl := vwCl) (ci := 2) (v := .ref (ad t12)) (C := RX2) (T := TX2) (N := 10) hx hb hts in_X2_borne_X2 hown hK hP 10 (wl_at (by decide) e16) rfl 4 (by decide) (hts (.fieldLink RX2 24 "EightReasons$Loom" "suit" "LEightReasons$Suit;") (List.mem_of_getElem? (i := 1) rfl)) (fun _ h9 => h9) rfl dX2_borne_47 ?_
    refine va_get (D := D) (cl := vwCl) (ci := 5) (v := .ref (ad (t12 + 3))) (C := RX5) (T := TX5) (N := 12) hx hb hts in_X2_borne_X5 hown hK hP t12 (wl_at (x_lt (x_suit0 h13)) e24) rfl 7 (by decide) (hts (.fieldLink RX2 105 "EightReasons$Suit" "from" "[I") (List.mem_of_getElem? (i := 7) rfl)) (fun _ h9 => h9) rfl dX2_borne_50 ?_
    refine lv_aload_n hx hb dX2_borne_53 rfl (lv_at hl 2 rfl) ?_
    refine va_get (D := D) (cl := vwCl) (ci := 2) (v := .ref (ad t12)) (C := RX2) (T := TX2) (N := 10) hx hb hts in_X2_borne_X2 hown hK hP 10 (wl_at (by decide) e16) rfl 4 (by decide) (hts (.fieldLink RX2 24 "EightReasons$Loom" "suit" "LEightReasons$Suit;") (List.mem_of_getElem? (i := 1) rfl)) (fun _ h9 => h9) rfl dX2_borne_54 ?_
    refine va_get (D := D) (cl := vwCl) (ci := 5) (v := .ref (ad (t12 + 4))) (C := RX5) (T := TX5) (N := 12) hx hb hts in_X2_borne_X5 hown hK hP t12 (wl_at (x_lt (x_suit0 h13)) e24) rfl 8 (by decide) (hts (.fieldLink RX2 108 "EightReasons$Suit" "source" "[I") (List.mem_of_getElem? (i := 8) rfl)) (fun _ h9 => h9) rfl dX2_borne_57 ?_
    refine lv_iload_n hx hb dX2_borne_60 rfl (lv_at hl 3 rfl) ?_
    obtain ⟨g44, e42, h43⟩ := (ty_suit4 hT h13)
    refine va_iald hx hb hK hP (t12 + 4) 0 (wl_at (x_lt (x_suit h13 (by decide))) e42) rfl (vp_in_iff.mpr ⟨by omega, by omega⟩) dX2_borne_61 ?_
    refine lv_topi (fun x45 ex45 => ?_)
    have hx45 := r_el (h43 _ (Nat.mod_one _)) ex45
    obtain ⟨g47, e46⟩ := (ty_suit3 hT h13)
    refine va_iald hx hb hK hP (t12 + 3) 0 (wl_at (x_lt (x_suit h13 (by decide))) e46) rfl (vp_in_iff.mpr ⟨by omega, by omega⟩) dX2_borne_62 ?_
    refine lv_topi (fun x48 ex48 => ?_)
    refine lv_iload_n hx hb dX2_borne_63 rfl (lv_at hl 4 rfl) ?_
    refine lv_iand hx hb dX2_borne_64 ?_
    refine lv_topi (fun x49 ex49 => ?_)
    refine tSI (As := [.int x49]) (rest := []) ⟨hx, hb, hml, hown, hts⟩ hK hE hP hD hS hA hAB (s_J6_bitCount_0f7a4_0 l B0 adK adV D cy ad f x49 _) (va_cwS 1 hts gX2_borne_J6_bitCount_0f7a4 rfl rfl rfl (by decide +kernel) ⟨Nat.le_of_ble_eq_true rfl, Nat.le_of_ble_eq_true rfl⟩) rfl hl.1 rfl (Nat.le_of_ble_eq_true rfl) dX2_borne_65 ⟨Nat.le_of_ble_eq_true rfl, Nat.le_of_ble_eq_true rfl⟩ (fun r g H locs hw hP hD hS => ?_)
    obtain ⟨hrs, rfl⟩ := hw
    obtain ⟨x50, rfl⟩ : ∃ q, q = r := ⟨_, rfl⟩
    have h51 := hrs
    refine lv_istore (lv' := [(5, .int x50), (4, .int x40), (3, .int x35), (0, .ref (ad 10)), (1, .int p1), (2, .int p2)]) hx hb dX2_borne_68 hl (by decide) rfl (fun ls hl => ?_)
    refine lv_iload_n hx hb dX2_borne_70 rfl (lv_at hl 4 rfl) ?_
    refine lv_bipush (v := 10) hx hb dX2_borne_71 (by decide) ?_
    refine lv_imul hx hb dX2_borne_73 ?_
    refine lv_topi (fun x52 ex52 => ?_)
    have hx52 := r_mulr ex52 tl_10 (by omega) (by omega)
    refine lv_iload hx hb dX2_borne_74 (lv_at hl 1 rfl) ?_
    refine lv_iadd hx hb dX2_borne_76 ?_
    refine lv_topi (fun x53 ex53 => ?_)
    have hx53 := r_add ex53 (by omega) (by omega)
    refine lv_bipush (v := 10) hx hb dX2_borne_77 (by decide) ?_
    refine lv_imul hx hb dX2_borne_79 ?_
    refine lv_topi (fun x54 ex54 => ?_)
    have hx54 := r_mulr ex54 tl_10 (by omega) (by omega)
    refine lv_iload hx hb dX2_borne_80 (lv_at hl 0 rfl) ?_
    refine lv_iadd hx hb dX2_borne_82 ?_
    refine lv_topi (fun x55 ex55 => ?_)
    have hx55 := r_add ex55 (by omega) (by omega)
    refine lv_istore (lv' := [(6, .int x55), (5, .int x50), (4, .int x40), (3, .int x35), (0, .ref (ad 10)), (1, .int p1), (2, .int p2)]) hx hb dX2_borne_83 hl (by decide) rfl (fun ls hl => ?_)
    refine lv_iload hx hb dX2_borne_85 (lv_at hl 0 rfl) ?_
    refine lv_aload_n hx hb dX2_borne_87 rfl (lv_at hl 4 rfl) ?_
    refine va_get (D := D) (cl := vwCl) (ci := 2) (v := .ref (ad 16)) (C := RX2) (T := TX2) (N := 10) hx hb hts in_X2_borne_X2 hown hK hP 10 (wl_at (by decide) e16) rfl 8 (by decide) (hts (.fieldLink RX2 34 "EightReasons$Loom" "known" "[I") (List.mem_of_getElem? (i := 9) rfl)) (fun _ h9 => h9) rfl dX2_borne_88 ?_
    obtain ⟨g57, e56⟩ := (show okI cy 1200 (f 16) from hT.1 16 (by decide))
    refine va_alen hx hb hK hP 16 0 (wl_at (by decide) e56) rfl (v := 1200) rfl dX2_borne_91 ?_
    have ttl_1200 := tl_1200
    refine lv_icmp_lt (tgt := 97) hx hb dX2_borne_92 (by decide) (fun c58 => ?_) (fun c58 => ?_)
    · have kc58 := c_lt c58
      refine lv_aload_n hx hb dX2_borne_97 rfl (lv_at hl 4 rfl) ?_
      refine va_get (D := D) (cl := vwCl) (ci := 2) (v := .ref (ad 16)) (C := RX2) (T := TX2) (N := 10) hx hb hts in_X2_borne_X2 hown hK hP 10 (wl_at (by decide) e16) rfl 8 (by decide) (hts (.fieldLink RX2 34 "EightReasons$Loom" "known" "[I") (List.mem_of_getElem? (i := 9) rfl)) (fun _ h9 => h9) rfl dX2_borne_98 ?_
      refine lv_iload hx hb dX2_borne_101 (lv_at hl 0 rfl) ?_
      refine va_iald hx hb hK hP 16 0 (wl_at (by decide) e56) rfl (vp_in_iff.mpr ⟨by omega, by omega⟩) dX2_borne_103 ?_
      refine lv_topi (fun x59 ex59 => ?_)
      refine lv_bipush (v := 10) hx hb dX2_borne_104 (by decide) ?_
      refine lv_ishr hx hb dX2_borne_106 ?_
      refine lv_topi (fun x60 ex60 => ?_)
      refine lv_aload_n hx hb dX2_borne_107 rfl (lv_at hl 4 rfl) ?_
      refine va_get (D := D) (cl := vwCl) (ci := 2) (v := .int x15) (C := RX2) (T := TX2) (N := 10) hx hb hts in_X2_borne_X2 hown hK hP 10 (wl_at (by decide) e16) rfl 9 (by decide) (hts (.fieldLink RX2 61 "EightReasons$Loom" "era" "I") (List.mem_of_getElem? (i := 10) rfl)) (fun _ h9 => h9) rfl dX2_borne_108 ?_
      refine lv_icmp_eq (tgt := 173) hx hb dX2_borne_111 (by decide) (fun c61 => ?_) (fun c61 => ?_)
      · have kc61 := c_eq c61
        exact j173 f H locs ls x55 x50 x40 x35 (by omega) (by omega) (by omega) (by omega) (by omega) hT hP hD hS (lv_sub hl [0, 1, 2, 3, 4, 5, 6] rfl)
      · have kc61 := c_ne c61
        refine lv_aload_n hx hb dX2_borne_114 rfl (lv_at hl 4 rfl) ?_
        refine va_get (D := D) (cl := vwCl) (ci := 2) (v := .ref (ad t12)) (C := RX2) (T := TX2) (N := 10) hx hb hts in_X2_borne_X2 hown hK hP 10 (wl_at (by decide) e16) rfl 4 (by decide) (hts (.fieldLink RX2 24 "EightReasons$Loom" "suit" "LEightReasons$Suit;") (List.mem_of_getElem? (i := 1) rfl)) (fun _ h9 => h9) rfl dX2_borne_115 ?_
        refine va_get (D := D) (cl := vwCl) (ci := 5) (v := .ref (ad (t12 + 7))) (C := RX5) (T := TX5) (N := 12) hx hb hts in_X2_borne_X5 hown hK hP t12 (wl_at (x_lt (x_suit0 h13)) e24) rfl 11 (by decide) (hts (.fieldLink RX2 84 "EightReasons$Suit" "formula" "LEightReasons$Formula;") (List.mem_of_getElem? (i := 2) rfl)) (fun _ h9 => h9) rfl dX2_borne_118 ?_
        refine lv_aload_n hx hb dX2_borne_121 rfl (lv_at hl 4 rfl) ?_
        refine va_get (D := D) (cl := vwCl) (ci := 2) (v := .ref (ad 14)) (C := RX2) (T := TX2) (N := 10) hx hb hts in_X2_borne_X2 hown hK hP 10 (wl_at (by decide) e16) rfl 6 (by decide) (hts (.fieldLink RX2 28 "EightReasons$Loom" "strong" "[I") (List.mem_of_getElem? (i := 4) rfl)) (fun _ h9 => h9) rfl dX2_borne_122 ?_
        refine lv_iload_n hx hb dX2_borne_125 rfl (lv_at hl 5 rfl) ?_
        obtain ⟨g63, e62⟩ := (show okI cy 12 (f 14) from hT.1 14 (by decide))
        refine va_iald hx hb hK hP 14 0 (wl_at (by decide) e62) rfl (vp_in_iff.mpr ⟨by omega, by omega⟩) dX2_borne_126 ?_
        refine lv_topi (fun x64 ex64 => ?_)
        refine lv_iload hx hb dX2_borne_127 (lv_at hl 2 rfl) ?_
        refine lv_iload hx hb dX2_borne_129 (lv_at hl 1 rfl) ?_
        refine lv_aload_n hx hb dX2_borne_131 rfl (lv_at hl 4 rfl) ?_
        refine va_get (D := D) (cl := vwCl) (ci := 2) (v := .ref (ad 15)) (C := RX2) (T := TX2) (N := 10) hx hb hts in_X2_borne_X2 hown hK hP 10 (wl_at (by decide) e16) rfl 7 (by decide) (hts (.fieldLink RX2 31 "EightReasons$Loom" "needs" "[I") (List.mem_of_getElem? (i := 11) rfl)) (fun _ h9 => h9) rfl dX2_borne_132 ?_
        refine lv_iload_n hx hb dX2_borne_135 rfl (lv_at hl 3 rfl) ?_
        obtain ⟨g66, e65⟩ := (show okI cy 10 (f 15) from hT.1 15 (by decide))
        refine va_iald hx hb hK hP 15 0 (wl_at (by decide) e65) rfl (vp_in_iff.mpr ⟨by omega, by omega⟩) dX2_borne_136 ?_
        refine lv_topi (fun x67 ex67 => ?_)
        refine lv_aload_n hx hb dX2_borne_137 rfl (lv_at hl 4 rfl) ?_
        refine va_get (D := D) (cl := vwCl) (ci := 2) (v := .int x14) (C := RX2) (T := TX2) (N := 10) hx hb hts in_X2_borne_X2 hown hK hP 10 (wl_at (by decide) e16) rfl 5 (by decide) (hts (.fieldLink RX2 52 "EightReasons$Loom" "day" "I") (List.mem_of_getElem? (i := 12) rfl)) (fun _ h9 => h9) rfl dX2_borne_138 ?_
        refine tVI (As := [.int x64, .int x40, .int x50, .int x67, .int x14]) (rest := []) (i := (t12 + 7)) ⟨hx, hb, hml, hown, hts⟩ hK hE hP hD hS hA hAB (s_X1_value_0 l B0 adK adV D cy ad fr0 tx rby rnx f hT t12 h13 x64 x40 (by omega) x50 (by omega) x67 x14 _) (cwV 5 hts gX2_borne_X1_value rfl rfl rfl (by decide +kernel) ⟨Nat.le_of_ble_eq_true rfl, Nat.le_of_ble_eq_true rfl⟩) (x_lt (x_suit h13 (by decide))) 1 e30 rfl rfl hl.1 rfl (Nat.le_of_ble_eq_true rfl) dX2_borne_141 ⟨Nat.le_of_ble_eq_true rfl, Nat.le_of_ble_eq_true rfl⟩ (fun r f H locs hw hP hD hS => ?_)
        obtain ⟨hrs, hT⟩ := hw
        obtain ⟨x68, rfl⟩ : ∃ q, q = r := ⟨_, rfl⟩
        have h69 := hrs
        refine lv_istore (lv' := [(7, .int x68), (6, .int x55), (5, .int x50), (4, .int x40), (3, .int x35), (0, .ref (ad 10)), (1, .int p1), (2, .int p2)]) hx hb dX2_borne_144 hl (by decide) rfl (fun ls hl => ?_)
        refine lv_aload_n hx hb dX2_borne_146 rfl (lv_at hl 5 rfl) ?_
        obtain ⟨x70, t71, x73, x74, e75, h72⟩ := (show okX2 ad 10 (f 10) from hT.1 10 (by decide))
        refine va_get (D := D) (cl := vwCl) (ci := 2) (v := .ref (ad 16)) (C := RX2) (T := TX2) (N := 10) hx hb hts in_X2_borne_X2 hown hK hP 10 (wl_at (by decide) e75) rfl 8 (by decide) (hts (.fieldLink RX2 34 "EightReasons$Loom" "known" "[I") (List.mem_of_getElem? (i := 9) rfl)) (fun _ h9 => h9) rfl dX2_borne_147 ?_
        refine lv_iload hx hb dX2_borne_150 (lv_at hl 1 rfl) ?_
        refine lv_aload_n hx hb dX2_borne_152 rfl (lv_at hl 5 rfl) ?_
        refine va_get (D := D) (cl := vwCl) (ci := 2) (v := .int x74) (C := RX2) (T := TX2) (N := 10) hx hb hts in_X2_borne_X2 hown hK hP 10 (wl_at (by decide) e75) rfl 9 (by decide) (hts (.fieldLink RX2 61 "EightReasons$Loom" "era" "I") (List.mem_of_getElem? (i := 10) rfl)) (fun _ h9 => h9) rfl dX2_borne_153 ?_
        refine lv_bipush (v := 10) hx hb dX2_borne_156 (by decide) ?_
        refine lv_ishl hx hb dX2_borne_158 ?_
        refine lv_topi (fun x76 ex76 => ?_)
        refine lv_iconst (v := 0) hx hb dX2_borne_159 (by decide) ?_
        refine lv_sipush (v := 999) hx hb dX2_borne_160 (by decide) ?_
        refine lv_iload hx hb dX2_borne_163 (lv_at hl 0 rfl) ?_
        have ttl_999 := tl_999
        refine va_mmin hx hb (hml.trans hl.1.symm) hown (hts (.methodLink RX2 115 Lib.Math.min.name) (List.mem_of_getElem? (i := 13) rfl)) (hts (.static Lib.Math.min.name) (List.mem_of_getElem? (i := 14) rfl)) (hts (.initialized "java/lang/Math") (List.mem_of_getElem? (i := 15) rfl)) (hts (.code Lib.Math.min.name Lib.Math.min.code 2 (some .int)) (List.mem_of_getElem? (i := 16) rfl)) (Nat.le_of_ble_eq_true rfl) (Nat.le_of_ble_eq_true rfl) (Nat.le_of_ble_eq_true rfl) (Nat.le_of_ble_eq_true rfl) dX2_borne_165 ?_
        refine lv_topi (fun x77 ex77 => ?_)
        have hx77 := r_min ex77
        refine va_mmax hx hb (hml.trans hl.1.symm) hown (hts (.methodLink RX2 68 Lib.Math.max.name) (List.mem_of_getElem? (i := 17) rfl)) (hts (.static Lib.Math.max.name) (List.mem_of_getElem? (i := 18) rfl)) (hts (.initialized "java/lang/Math") (List.mem_of_getElem? (i := 15) rfl)) (hts (.code Lib.Math.max.name Lib.Math.max.code 2 (some .int)) (List.mem_of_getElem? (i := 19) rfl)) (Nat.le_of_ble_eq_true rfl) (Nat.le_of_ble_eq_true rfl) (Nat.le_of_ble_eq_true rfl) (Nat.le_of_ble_eq_true rfl) dX2_borne_168 ?_
        refine lv_topi (fun x78 ex78 => ?_)
        have hx78 := r_max ex78
        refine lv_ior hx hb dX2_borne_171 ?_
        refine lv_topi (fun x79 ex79 => ?_)
        obtain ⟨g81, e80⟩ := (show okI cy 1200 (f 16) from hT.1 16 (by decide))
        refine va_iast hx hb hK hP hD hS 16 0 (wl_at (by decide) e80) rfl (vp_in_iff.mpr ⟨by omega, by omega⟩) dX2_borne_172 (fun H locs hP hD hS => ?_)
        obtain ⟨f, hT, hP, hD, e82, hj83⟩ := stU (by decide) (TYx.up hT (by decide) (show OKx ad cy tx rby rnx 16 _ from (show okI cy 1200 _ from ⟨_, rfl⟩))) hP hD
        have e84 := (hj83 10 (by decide)).trans e75
        exact j173 f H locs ls x55 x50 x40 x35 (by omega) (by omega) (by omega) (by omega) (by omega) hT hP hD hS (lv_sub hl [1, 2, 3, 4, 5, 6, 7] rfl)
    · have kc58 := c_nlt c58
      refine lv_iconst (v := 0) hx hb dX2_borne_95 (by decide) ?_
      exact tI hx hb hr hlk rfl hP hS ⟨trivial, hT⟩ dX2_borne_96
  · have kc31 := c_eq c31
    refine lv_aload_n hx hb dX2_borne_13 rfl (lv_at hl 0 rfl) ?_
    refine va_get (D := D) (cl := vwCl) (ci := 2) (v := .ref (ad 14)) (C := RX2) (T := TX2) (N := 10) hx hb hts in_X2_borne_X2 hown hK hP 10 (wl_at (by decide) e16) rfl 6 (by decide) (hts (.fieldLink RX2 28 "EightReasons$Loom" "strong" "[I") (List.mem_of_getElem? (i := 4) rfl)) (fun _ h9 => h9) rfl dX2_borne_14 ?_
    refine lv_iload_n hx hb dX2_borne_17 rfl (lv_at hl 1 rfl) ?_
    obtain ⟨g86, e85⟩ := (show okI cy 12 (f 14) from hT.1 14 (by decide))
    refine va_iald hx hb hK hP 14 0 (wl_at (by decide) e85) rfl (vp_in_iff.mpr ⟨by omega, by omega⟩) dX2_borne_18 ?_
    refine lv_topi (fun x87 ex87 => ?_)
    exact tI hx hb hr hlk rfl hP hS ⟨trivial, hT⟩ dX2_borne_19
set_option maxHeartbeats 4000000 in
set_option maxRecDepth 100000 in
theorem s_X2_weigh_0 (l : Launch) (B0 : Nat) (adK adV : Nat → Nat) (D : va_G) (cy : Nat → ClassId) (ad : Nat → Nat) (fr0 : Nat → va_E) (tx : Int32) (rby : Int32) (rnx : Int32) (f : Nat → va_E) (hT : TYx ad cy fr0 tx rby rnx f) (p1 : Int32) (sz : Nat) : TtV l yX2_weigh wsX2_weigh 3 77 [.ref (ad 10), .int p1] B0 adK adV D cy ad f sz (fun (g : Nat → va_E) => True ∧ (TYx ad cy fr0 tx rby rnx g)) := by
  refine TtV.of (cc := cX2_weigh) (maxL := 4) (own := RX2) (by decide) rfl (Nat.le_of_ble_eq_true rfl) rfl ?_
  intro p e s m below meth c A ls hx hb hr hml hts hown hlk hK hE hP hD hS hA hAB hl
  have hl : lv_has ls 4 [(0, .ref (ad 10)), (1, .int p1)] := hl
  refine st0 (fun H locs hP hS => ?_) hP hS
  have j2 : ∀ (N : Nat) (f : Nat → va_E) (H : Heap) (locs : List Loc) (ls : Array Slot) (v2_l2 : Int32), (13 - v2_l2.toInt ≤ (N : Int)) → (0 ≤ v2_l2.toInt ∧ v2_l2.toInt ≤ 12) → (TYx ad cy fr0 tx rby rnx f) → (va_P D vwCl (wl ad f) H) → (va_D A (wl ad f)) → (va_S A s.heap H locs) → (lv_has ls 4 [(2, .int v2_l2), (0, .ref (ad 10)), (1, .int p1)]) → W p l e (rmO 3 77 0 0) s m ([.ref (ad 10), .int p1] : List Value).toArray below meth c H locs 0 0 (MQ below (va_Qv (fun (g : Nat → va_E) => True ∧ (TYx ad cy fr0 tx rby rnx g)) (fun g t => PstT D ad g t) A) ([.ref (ad 10), .int p1] : List Value).toArray s 0 0 A) (F0 m 2 ls []) := by
    intro N
    induction N with
    | zero => intro f H locs ls v2_l2 hN hv2_l2 hT hP hD hS hl; exact absurd hN (by omega)
    | succ N ih2 =>
      intro f H locs ls v2_l2 hN hv2_l2 hT hP hD hS hl
      have j55 : ∀ (f : Nat → va_E) (H : Heap) (locs : List Loc) (ls : Array Slot) (v55_l3 : Int32) (v55_s2 : Int32), (0 ≤ v55_l3.toInt ∧ v55_l3.toInt ≤ 1) → (0 ≤ v2_l2.toInt ∧ v2_l2.toInt ≤ 11) → (0 ≤ v2_l2.toInt ∧ v2_l2.toInt ≤ 11) → (TYx ad cy fr0 tx rby rnx f) → (va_P D vwCl (wl ad f) H) → (va_D A (wl ad f)) → (va_S A s.heap H locs) → (lv_has ls 4 [(3, .int v55_l3), (2, .int v2_l2), (0, .ref (ad 10)), (1, .int p1)]) → W p l e (rmO 3 77 0 0) s m ([.ref (ad 10), .int p1] : List Value).toArray below meth c H locs 0 0 (MQ below (va_Qv (fun (g : Nat → va_E) => True ∧ (TYx ad cy fr0 tx rby rnx g)) (fun g t => PstT D ad g t) A) ([.ref (ad 10), .int p1] : List Value).toArray s 0 0 A) (F0 m 55 ls [.int v55_s2, .int v2_l2, .ref (ad 11)]) := by
        intro f H locs ls v55_l3 v55_s2 hv55_l3 hv55_l2 hv55_s1 hT hP hD hS hl
        obtain ⟨g2, e1⟩ := (show okI cy 12 (f 11) from hT.1 11 (by decide))
        refine va_iast hx hb hK hP hD hS 11 0 (wl_at (by decide) e1) rfl (vp_in_iff.mpr ⟨by omega, by omega⟩) dX2_weigh_55 (fun H locs hP hD hS => ?_)
        obtain ⟨f, hT, hP, hD, e3, hj4⟩ := stU (by decide) (TYx.up hT (by decide) (show OKx ad cy tx rby rnx 11 _ from (show okI cy 12 _ from ⟨_, rfl⟩))) hP hD
        obtain ⟨x5, ex5⟩ : ∃ q : Int32, q = v2_l2 + Int32.ofInt (1) := ⟨_, rfl⟩
        refine lv_iinc (v := x5) (lv' := [(2, .int x5), (3, .int v55_l3), (0, .ref (ad 10)), (1, .int p1)]) hx hb dX2_weigh_56 hl (k := 1) rfl ex5.symm (by decide) rfl (fun ls hl => ?_)
        have hx5 := r_inc ex5 (by decide) (by omega) (by omega)
        refine lv_goto (tgt := 2) hx hb dX2_weigh_59 (by decide) ?_
        exact ih2 f H locs ls x5 (by omega) (by omega) hT hP hD hS (lv_sub hl [0, 2, 3] rfl)
      have j35 : ∀ (f : Nat → va_E) (H : Heap) (locs : List Loc) (ls : Array Slot) (v35_s0 : Int32), (0 ≤ v2_l2.toInt ∧ v2_l2.toInt ≤ 11) → (0 ≤ v35_s0.toInt ∧ v35_s0.toInt ≤ 1) → (TYx ad cy fr0 tx rby rnx f) → (va_P D vwCl (wl ad f) H) → (va_D A (wl ad f)) → (va_S A s.heap H locs) → (lv_has ls 4 [(2, .int v2_l2), (0, .ref (ad 10)), (1, .int p1)]) → W p l e (rmO 3 77 0 0) s m ([.ref (ad 10), .int p1] : List Value).toArray below meth c H locs 0 0 (MQ below (va_Qv (fun (g : Nat → va_E) => True ∧ (TYx ad cy fr0 tx rby rnx g)) (fun g t => PstT D ad g t) A) ([.ref (ad 10), .int p1] : List Value).toArray s 0 0 A) (F0 m 35 ls [.int v35_s0]) := by
        intro f H locs ls v35_s0 hv35_l2 hv35_s0 hT hP hD hS hl
        refine lv_istore_n (lv' := [(3, .int v35_s0), (2, .int v2_l2), (0, .ref (ad 10)), (1, .int p1)]) hx hb dX2_weigh_35 rfl hl (by decide) rfl (fun ls hl => ?_)
        refine lv_aload_n hx hb dX2_weigh_36 rfl (lv_at hl 2 rfl) ?_
        obtain ⟨x6, t7, x9, x10, e11, h8⟩ := (show okX2 ad 10 (f 10) from hT.1 10 (by decide))
        refine va_get (D := D) (cl := vwCl) (ci := 2) (v := .ref (ad 11)) (C := RX2) (T := TX2) (N := 10) hx hb hts in_X2_weigh_X2 hown hK hP 10 (wl_at (by decide) e11) rfl 1 (by decide) (hts (.fieldLink RX2 9 "EightReasons$Loom" "load" "[I") (List.mem_of_getElem? (i := 4) rfl)) (fun _ h9 => h9) rfl dX2_weigh_37 ?_
        refine lv_iload_n hx hb dX2_weigh_40 rfl (lv_at hl 1 rfl) ?_
        refine lv_iload_n hx hb dX2_weigh_41 rfl (lv_at hl 0 rfl) ?_
        have ttl_0 := tl_0
        refine lv_if_eq (tgt := 54) hx hb dX2_weigh_42 (by decide) (fun c12 => ?_) (fun c12 => ?_)
        · have kc12 := c_eq c12
          refine lv_iconst (v := 0) hx hb dX2_weigh_54 (by decide) ?_
          exact j55 f H locs ls v35_s0 (0 : Int32) (by omega) (by omega) (by omega) hT hP hD hS (lv_sub hl [0, 1, 2, 3] rfl)
        · have kc12 := c_ne c12
          refine lv_aload_n hx hb dX2_weigh_45 rfl (lv_at hl 2 rfl) ?_
          refine lv_iload_n hx hb dX2_weigh_46 rfl (lv_at hl 1 rfl) ?_
          refine lv_iload_n hx hb dX2_weigh_47 rfl (lv_at hl 3 rfl) ?_
          refine tVI (As := [.int v2_l2, .int p1]) (rest := [.int v2_l2, .ref (ad 11)]) (i := 10) ⟨hx, hb, hml, hown, hts⟩ hK hE hP hD hS hA hAB (s_X2_borne_0 l B0 adK adV D cy ad fr0 tx rby rnx f hT v2_l2 (by omega) p1 _) (cwV 2 hts gX2_weigh_X2_borne rfl rfl rfl (by decide +kernel) ⟨Nat.le_of_ble_eq_true rfl, Nat.le_of_ble_eq_true rfl⟩) (by decide) 2 e11 rfl rfl hl.1 rfl (Nat.le_of_ble_eq_true rfl) dX2_weigh_48 ⟨Nat.le_of_ble_eq_true rfl, Nat.le_of_ble_eq_true rfl⟩ (fun r f H locs hw hP hD hS => ?_)
          obtain ⟨hrs, hT⟩ := hw
          obtain ⟨x13, rfl⟩ : ∃ q, q = r := ⟨_, rfl⟩
          have h14 := hrs
          refine lv_goto (tgt := 55) hx hb dX2_weigh_51 (by decide) ?_
          exact j55 f H locs ls v35_s0 x13 (by omega) (by omega) (by omega) hT hP hD hS (lv_sub hl [0, 1, 2, 3] rfl)
      have j34 : ∀ (f : Nat → va_E) (H : Heap) (locs : List Loc) (ls : Array Slot), (0 ≤ v2_l2.toInt ∧ v2_l2.toInt ≤ 11) → (TYx ad cy fr0 tx rby rnx f) → (va_P D vwCl (wl ad f) H) → (va_D A (wl ad f)) → (va_S A s.heap H locs) → (lv_has ls 4 [(2, .int v2_l2), (0, .ref (ad 10)), (1, .int p1)]) → W p l e (rmO 3 77 0 0) s m ([.ref (ad 10), .int p1] : List Value).toArray below meth c H locs 0 0 (MQ below (va_Qv (fun (g : Nat → va_E) => True ∧ (TYx ad cy fr0 tx rby rnx g)) (fun g t => PstT D ad g t) A) ([.ref (ad 10), .int p1] : List Value).toArray s 0 0 A) (F0 m 34 ls []) := by
        intro f H locs ls hv34_l2 hT hP hD hS hl
        refine lv_iconst (v := 0) hx hb dX2_weigh_34 (by decide) ?_
        have ttl_0 := tl_0
        exact j35 f H locs ls (0 : Int32) (by omega) (by omega) hT hP hD hS (lv_sub hl [0, 1, 2] rfl)
      refine lv_iload_n hx hb dX2_weigh_2 rfl (lv_at hl 0 rfl) ?_
      refine lv_aload_n hx hb dX2_weigh_3 rfl (lv_at hl 1 rfl) ?_
      obtain ⟨x15, t16, x18, x19, e20, h17⟩ := (show okX2 ad 10 (f 10) from hT.1 10 (by decide))
      refine va_get (D := D) (cl := vwCl) (ci := 2) (v := .ref (ad t16)) (C := RX2) (T := TX2) (N := 10) hx hb hts in_X2_weigh_X2 hown hK hP 10 (wl_at (by decide) e20) rfl 4 (by decide) (hts (.fieldLink RX2 24 "EightReasons$Loom" "suit" "LEightReasons$Suit;") (List.mem_of_getElem? (i := 1) rfl)) (fun _ h9 => h9) rfl dX2_weigh_4 ?_
      obtain ⟨x21, x23, x24, x26, x27, e28, h22, h25⟩ := (ty_suit hT h17)
      refine va_get (D := D) (cl := vwCl) (ci := 5) (v := .int x24) (C := RX5) (T := TX5) (N := 12) hx hb hts in_X2_weigh_X5 hown hK hP t16 (wl_at (x_lt (x_suit0 h17)) e28) rfl 2 (by decide) (hts (.fieldLink RX2 74 "EightReasons$Suit" "strands" "I") (List.mem_of_getElem? (i := 2) rfl)) (fun _ h9 => h9) rfl dX2_weigh_7 ?_
      refine lv_icmp_ge (tgt := 62) hx hb dX2_weigh_10 (by decide) (fun c29 => ?_) (fun c29 => ?_)
      · have kc29 := c_le c29
        exact tV hx hb hr hlk hP hS ⟨trivial, hT⟩ dX2_weigh_62
      · have kc29 := c_nle c29
        refine lv_iload_n hx hb dX2_weigh_13 rfl (lv_at hl 2 rfl) ?_
        refine lv_iload_n hx hb dX2_weigh_14 rfl (lv_at hl 0 rfl) ?_
        refine tNI (As := [.int p1, .int v2_l2]) (rest := []) (host := RX8) ⟨hx, hb, hml, hown, hts⟩ hK hE hP hD hS hA hAB (s_X8_has_0 l B0 adK adV D cy ad f p1 v2_l2 _) ⟨va_cnB 2 hts gX2_weigh_X8_has_n77 rfl rfl rfl (hE.2.1 _ (List.mem_of_getElem? (i := 7) rfl)) (hts (.initialized RX8) (List.mem_of_getElem? (i := 6) rfl)) (by decide +kernel) ⟨Nat.le_of_ble_eq_true rfl, Nat.le_of_ble_eq_true rfl⟩, (hts (.static yX8_has) (List.mem_of_getElem? (i := 5) rfl)), trivial⟩ rfl hl.1 rfl (Nat.le_of_ble_eq_true rfl) dX2_weigh_15 ⟨Nat.le_of_ble_eq_true rfl, Nat.le_of_ble_eq_true rfl⟩ (fun r g H locs hw hP hD hS => ?_)
        obtain ⟨hrs, rfl⟩ := hw
        obtain ⟨x30, rfl⟩ : ∃ q, q = r := ⟨_, rfl⟩
        rcases hrs with rfl | rfl
        · refine lv_if_eq (tgt := 34) hx hb dX2_weigh_18 (by decide) (fun c => absurd c (by decide)) (fun _ => ?_)
          refine lv_aload_n hx hb dX2_weigh_21 rfl (lv_at hl 1 rfl) ?_
          refine va_get (D := D) (cl := vwCl) (ci := 2) (v := .ref (ad 14)) (C := RX2) (T := TX2) (N := 10) hx hb hts in_X2_weigh_X2 hown hK hP 10 (wl_at (by decide) e20) rfl 6 (by decide) (hts (.fieldLink RX2 28 "EightReasons$Loom" "strong" "[I") (List.mem_of_getElem? (i := 3) rfl)) (fun _ h9 => h9) rfl dX2_weigh_22 ?_
          refine lv_iload_n hx hb dX2_weigh_25 rfl (lv_at hl 0 rfl) ?_
          obtain ⟨g32, e31⟩ := (show okI cy 12 (f 14) from hT.1 14 (by decide))
          refine va_iald hx hb hK hP 14 0 (wl_at (by decide) e31) rfl (vp_in_iff.mpr ⟨by omega, by omega⟩) dX2_weigh_26 ?_
          refine lv_topi (fun x33 ex33 => ?_)
          have ttl_0 := tl_0
          refine lv_if_le (tgt := 34) hx hb dX2_weigh_27 (by decide) (fun c34 => ?_) (fun c34 => ?_)
          · have kc34 := c_le c34
            exact j34 f H locs ls (by omega) hT hP hD hS (lv_sub hl [0, 1, 2] rfl)
          · have kc34 := c_nle c34
            refine lv_iconst (v := 1) hx hb dX2_weigh_30 (by decide) ?_
            refine lv_goto (tgt := 35) hx hb dX2_weigh_31 (by decide) ?_
            have ttl_1 := tl_1
            exact j35 f H locs ls (1 : Int32) (by omega) (by omega) hT hP hD hS (lv_sub hl [0, 1, 2] rfl)
        · refine lv_if_eq (tgt := 34) hx hb dX2_weigh_18 (by decide) (fun _ => ?_) (fun c => absurd (by decide) c)
          exact j34 f H locs ls (by omega) hT hP hD hS (lv_sub hl [0, 1, 2] rfl)
  refine lv_iconst (v := 0) hx hb dX2_weigh_0 (by decide) ?_
  refine lv_istore_n (lv' := [(2, .int 0), (0, .ref (ad 10)), (1, .int p1)]) hx hb dX2_weigh_1 rfl hl (by decide) rfl (fun ls hl => ?_)
  have ttl_0 := tl_0
  exact j2 (Int.toNat (13 - (0 : Int32).toInt)) f H locs ls (0 : Int32) (by omega) (by omega) hT hP hD hS (lv_sub hl [0, 1, 2] rfl)
set_option maxHeartbeats 4000000 in
set_option maxRecDepth 100000 in
theorem s_X5_isStrand_0 (l : Launch) (B0 : Nat) (adK adV : Nat → Nat) (D : va_G) (cy : Nat → ClassId) (ad : Nat → Nat) (fr0 : Nat → va_E) (tx : Int32) (rby : Int32) (rnx : Int32) (f : Nat → va_E) (hT : TYx ad cy fr0 tx rby rnx f) (q0 : Nat) (hq0 : isSuit q0) (p1 : Int32) (sz : Nat) : TtI l yX5_isStrand wsX5_isStrand 0 0 [.ref (ad q0), .int p1] B0 adK adV D cy ad f sz (fun (r : Int32) (g : Nat → va_E) => ((r = 1 ∧ 0 ≤ p1.toInt ∧ p1.toInt ≤ 11) ∨ (r = 0)) ∧ (f = g)) := by
  refine TtI.of (cc := cX5_isStrand) (maxL := 2) (ty := .boolean) (own := RX5) (by decide) rfl (Nat.le_of_ble_eq_true rfl) rfl ?_
  intro p e s m below meth c A ls hx hb hr hml hts hown hlk hK hE hP hD hS hA hAB hl
  have hl : lv_has ls 2 [(0, .ref (ad q0)), (1, .int p1)] := hl
  refine st0 (fun H locs hP hS => ?_) hP hS
  refine lv_iload_n hx hb dX5_isStrand_0 rfl (lv_at hl 1 rfl) ?_
  have ttl_0 := tl_0
  refine lv_if_lt (tgt := 16) hx hb dX5_isStrand_1 (by decide) (fun c1 => ?_) (fun c1 => ?_)
  · have kc1 := c_lt c1
    refine lv_iconst (v := 0) hx hb dX5_isStrand_16 (by decide) ?_
    exact tI hx hb hr hlk rfl hP hS ⟨(Or.inr rfl), rfl⟩ dX5_isStrand_17
  · have kc1 := c_nlt c1
    refine lv_iload_n hx hb dX5_isStrand_4 rfl (lv_at hl 1 rfl) ?_
    refine lv_aload_n hx hb dX5_isStrand_5 rfl (lv_at hl 0 rfl) ?_
    obtain ⟨x2, x4, x5, x7, x8, e9, h3, h6⟩ := (ty_suit hT hq0)
    refine va_get (D := D) (cl := vwCl) (ci := 5) (v := .int x5) (C := RX5) (T := TX5) (N := 12) hx hb hts in_X5_isStrand_X5 hown hK hP q0 (wl_at (x_lt (x_suit0 hq0)) e9) rfl 2 (by decide) (hts (.fieldLink RX5 44 "EightReasons$Suit" "strands" "I") (List.mem_of_getElem? (i := 1) rfl)) (fun _ h9 => h9) rfl dX5_isStrand_6 ?_
    refine lv_icmp_ge (tgt := 16) hx hb dX5_isStrand_9 (by decide) (fun c10 => ?_) (fun c10 => ?_)
    · have kc10 := c_le c10
      refine lv_iconst (v := 0) hx hb dX5_isStrand_16 (by decide) ?_
      exact tI hx hb hr hlk rfl hP hS ⟨(Or.inr rfl), rfl⟩ dX5_isStrand_17
    · have kc10 := c_nle c10
      refine lv_iconst (v := 1) hx hb dX5_isStrand_12 (by decide) ?_
      refine lv_goto (tgt := 17) hx hb dX5_isStrand_13 (by decide) ?_
      have ttl_1 := tl_1
      exact tI hx hb hr hlk rfl hP hS ⟨(Or.inl ⟨rfl, by omega, by omega⟩), rfl⟩ dX5_isStrand_17
set_option maxHeartbeats 4000000 in
set_option maxRecDepth 100000 in
theorem s_X2_take_0 (l : Launch) (B0 : Nat) (adK adV : Nat → Nat) (D : va_G) (cy : Nat → ClassId) (ad : Nat → Nat) (fr0 : Nat → va_E) (tx : Int32) (rby : Int32) (rnx : Int32) (f : Nat → va_E) (hT : TYx ad cy fr0 tx rby rnx f) (q1 : Nat) (hq1 : isSuit q1) (q2 : Nat) (hq2 : isState q2) (sz : Nat) : TtV l yX2_take wsX2_take 1 60 [.ref (ad 10), .ref (ad q1), .ref (ad q2)] B0 adK adV D cy ad f sz (fun (g : Nat → va_E) => True ∧ (TYx ad cy fr0 tx rby rnx g)) := by
  refine TtV.of (cc := cX2_take) (maxL := 3) (own := RX2) (by decide) rfl (Nat.le_of_ble_eq_true rfl) rfl ?_
  intro p e s m below meth c A ls hx hb hr hml hts hown hlk hK hE hP hD hS hA hAB hl
  have hl : lv_has ls 3 [(0, .ref (ad 10)), (1, .ref (ad q1)), (2, .ref (ad q2))] := hl
  refine st0 (fun H locs hP hS => ?_) hP hS
  refine lv_aload_n hx hb dX2_take_0 rfl (lv_at hl 0 rfl) ?_
  refine lv_aload_n hx hb dX2_take_1 rfl (lv_at hl 1 rfl) ?_
  obtain ⟨x1, t2, x4, x5, e6, h3⟩ := (show okX2 ad 10 (f 10) from hT.1 10 (by decide))
  refine va_put (D := D) (cl := vwCl) (ci := 2) (v := .ref (ad q1)) (ty := tyX2 4) (C := RX2) (T := TX2) (N := 10) hx hb hts in_X2_take_X2 tyX2 tyX2_ok nmX2 hown hK hP hD hS 10 (wl_at (by decide) e6) rfl 4 (by decide) (hts (.fieldLink RX2 24 "EightReasons$Loom" "suit" "LEightReasons$Suit;") (List.mem_of_getElem? (i := 1) rfl)) (fun _ h9 => h9) rfl (tyX2_ok 4 (by decide)) rfl rfl (Nat.le_of_ble_eq_true rfl) dX2_take_2 (fun H locs hP hD hS => ?_)
  obtain ⟨f, hT, hP, hD, e7, hj8⟩ := stU (by decide) (TYx.up hT (by decide) (show OKx ad cy tx rby rnx 10 _ from (show okX2 ad 10 _ from ⟨x1, q1, x4, x5, rfl, hq1⟩))) hP hD
  refine lv_aload_n hx hb dX2_take_5 rfl (lv_at hl 0 rfl) ?_
  refine lv_aload_n hx hb dX2_take_6 rfl (lv_at hl 1 rfl) ?_
  obtain ⟨x9, x11, x12, x14, x15, e16, h10, h13⟩ := (ty_suit hT hq1)
  refine va_get (D := D) (cl := vwCl) (ci := 5) (v := .int x11) (C := RX5) (T := TX5) (N := 12) hx hb hts in_X2_take_X5 hown hK hP q1 (wl_at (x_lt (x_suit0 hq1)) e16) rfl 1 (by decide) (hts (.fieldLink RX2 37 "EightReasons$Suit" "facts" "I") (List.mem_of_getElem? (i := 2) rfl)) (fun _ h9 => h9) rfl dX2_take_7 ?_
  refine lv_aload_n hx hb dX2_take_10 rfl (lv_at hl 2 rfl) ?_
  obtain ⟨x17, x19, x20, x21, e22, h18⟩ := (ty_state hT hq2)
  refine va_get (D := D) (cl := vwCl) (ci := 4) (v := .int x19) (C := RX4) (T := TX4) (N := 5) hx hb hts in_X2_take_X4 hown hK hP q2 (wl_at (x_lt (x_state0 hq2)) e22) rfl 2 (by decide) (hts (.fieldLink RX2 41 "EightReasons$State" "struck" "I") (List.mem_of_getElem? (i := 3) rfl)) (fun _ h9 => h9) rfl dX2_take_11 ?_
  refine lv_iconst (v := (-1)) hx hb dX2_take_14 (by decide) ?_
  refine lv_ixor hx hb dX2_take_15 ?_
  refine lv_topi (fun x23 ex23 => ?_)
  refine lv_iand hx hb dX2_take_16 ?_
  refine lv_topi (fun x24 ex24 => ?_)
  refine va_put (D := D) (cl := vwCl) (ci := 2) (v := .int x24) (ty := tyX2 0) (C := RX2) (T := TX2) (N := 10) hx hb hts in_X2_take_X2 tyX2 tyX2_ok nmX2 hown hK hP hD hS 10 (wl_at (by decide) e7) rfl 0 (by decide) (hts (.fieldLink RX2 46 "EightReasons$Loom" "proved" "I") (List.mem_of_getElem? (i := 4) rfl)) (fun _ h9 => h9) rfl (tyX2_ok 0 (by decide)) rfl rfl (Nat.le_of_ble_eq_true rfl) dX2_take_17 (fun H locs hP hD hS => ?_)
  obtain ⟨f, hT, hP, hD, e25, hj26⟩ := stU (by decide) (TYx.up hT (by decide) (show OKx ad cy tx rby rnx 10 _ from (show okX2 ad 10 _ from ⟨x24, q1, x4, x5, rfl, hq1⟩))) hP hD
  refine lv_aload_n hx hb dX2_take_20 rfl (lv_at hl 0 rfl) ?_
  refine lv_aload_n hx hb dX2_take_21 rfl (lv_at hl 2 rfl) ?_
  obtain ⟨x27, x29, x30, x31, e32, h28⟩ := (ty_state hT hq2)
  refine va_get (D := D) (cl := vwCl) (ci := 4) (v := .int x30) (C := RX4) (T := TX4) (N := 5) hx hb hts in_X2_take_X4 hown hK hP q2 (wl_at (x_lt (x_state0 hq2)) e32) rfl 3 (by decide) (hts (.fieldLink RX2 49 "EightReasons$State" "day" "I") (List.mem_of_getElem? (i := 5) rfl)) (fun _ h9 => h9) rfl dX2_take_22 ?_
  refine va_put (D := D) (cl := vwCl) (ci := 2) (v := .int x30) (ty := tyX2 5) (C := RX2) (T := TX2) (N := 10) hx hb hts in_X2_take_X2 tyX2 tyX2_ok nmX2 hown hK hP hD hS 10 (wl_at (by decide) e25) rfl 5 (by decide) (hts (.fieldLink RX2 52 "EightReasons$Loom" "day" "I") (List.mem_of_getElem? (i := 6) rfl)) (fun _ h9 => h9) rfl (tyX2_ok 5 (by decide)) rfl rfl (Nat.le_of_ble_eq_true rfl) dX2_take_25 (fun H locs hP hD hS => ?_)
  obtain ⟨f, hT, hP, hD, e33, hj34⟩ := stU (by decide) (TYx.up hT (by decide) (show OKx ad cy tx rby rnx 10 _ from (show okX2 ad 10 _ from ⟨x24, q1, x30, x5, rfl, hq1⟩))) hP hD
  refine lv_aload_n hx hb dX2_take_28 rfl (lv_at hl 2 rfl) ?_
  obtain ⟨x35, x37, x38, x39, e40, h36⟩ := (ty_state hT hq2)
  refine va_get (D := D) (cl := vwCl) (ci := 4) (v := .ref (ad (q2 + 1))) (C := RX4) (T := TX4) (N := 5) hx hb hts in_X2_take_X4 hown hK hP q2 (wl_at (x_lt (x_state0 hq2)) e40) rfl 0 (by decide) (hts (.fieldLink RX2 53 "EightReasons$State" "strong" "[I") (List.mem_of_getElem? (i := 7) rfl)) (fun _ h9 => h9) rfl dX2_take_29 ?_
  refine lv_iconst (v := 0) hx hb dX2_take_32 (by decide) ?_
  refine lv_aload_n hx hb dX2_take_33 rfl (lv_at hl 0 rfl) ?_
  refine va_get (D := D) (cl := vwCl) (ci := 2) (v := .ref (ad 14)) (C := RX2) (T := TX2) (N := 10) hx hb hts in_X2_take_X2 hown hK hP 10 (wl_at (by decide) e33) rfl 6 (by decide) (hts (.fieldLink RX2 28 "EightReasons$Loom" "strong" "[I") (List.mem_of_getElem? (i := 8) rfl)) (fun _ h9 => h9) rfl dX2_take_34 ?_
  refine lv_iconst (v := 0) hx hb dX2_take_37 (by decide) ?_
  refine lv_bipush (v := 12) hx hb dX2_take_38 (by decide) ?_
  obtain ⟨g42, e41⟩ := (ty_strow hT hq2)
  obtain ⟨g44, e43⟩ := (show okI cy 12 (f 14) from hT.1 14 (by decide))
  refine va_copyi hx hb (hml.trans hl.1.symm) hown (hts (.methodLink RX2 54 arraycopyName) (List.mem_of_getElem? (i := 9) rfl)) (hts (.native arraycopyName) (List.mem_of_getElem? (i := 10) rfl)) (hts (.static arraycopyName) (List.mem_of_getElem? (i := 11) rfl)) (hts (.initialized "java/lang/System") (List.mem_of_getElem? (i := 12) rfl)) hK hP hD hS (q2 + 1) 14 0 0 (ty := .int) (wl_at (x_lt (x_state hq2 (by decide))) e41) (wl_at (by decide) e43) rfl rfl rfl (by decide) (by decide) (by decide) (by decide) (by decide) (fun _ _ => rfl) (Nat.le_of_ble_eq_true rfl) (Nat.le_of_ble_eq_true rfl) dX2_take_40 (fun H locs hP hD hS => ?_)
  obtain ⟨f, hT, hP, hD, e45, hj46⟩ := stU (by decide) (TYx.up hT (by decide) (show OKx ad cy tx rby rnx 14 _ from (show okI cy 12 _ from ⟨_, rfl⟩))) hP hD
  have e47 := (hj46 10 (by decide)).trans e33
  refine lv_aload_n hx hb dX2_take_43 rfl (lv_at hl 1 rfl) ?_
  obtain ⟨x48, x50, x51, x53, x54, e55, h49, h52⟩ := (ty_suit hT hq1)
  refine va_get (D := D) (cl := vwCl) (ci := 5) (v := .ref (ad (q1 + 1))) (C := RX5) (T := TX5) (N := 12) hx hb hts in_X2_take_X5 hown hK hP q1 (wl_at (x_lt (x_suit0 hq1)) e55) rfl 5 (by decide) (hts (.fieldLink RX2 60 "EightReasons$Suit" "needs" "[I") (List.mem_of_getElem? (i := 13) rfl)) (fun _ h9 => h9) rfl dX2_take_44 ?_
  refine lv_iconst (v := 0) hx hb dX2_take_47 (by decide) ?_
  refine lv_aload_n hx hb dX2_take_48 rfl (lv_at hl 0 rfl) ?_
  refine va_get (D := D) (cl := vwCl) (ci := 2) (v := .ref (ad 15)) (C := RX2) (T := TX2) (N := 10) hx hb hts in_X2_take_X2 hown hK hP 10 (wl_at (by decide) e47) rfl 7 (by decide) (hts (.fieldLink RX2 31 "EightReasons$Loom" "needs" "[I") (List.mem_of_getElem? (i := 14) rfl)) (fun _ h9 => h9) rfl dX2_take_49 ?_
  refine lv_iconst (v := 0) hx hb dX2_take_52 (by decide) ?_
  refine lv_bipush (v := 10) hx hb dX2_take_53 (by decide) ?_
  obtain ⟨g57, e56⟩ := (ty_suit1 hT hq1)
  obtain ⟨g59, e58⟩ := (show okI cy 10 (f 15) from hT.1 15 (by decide))
  refine va_copyi hx hb (hml.trans hl.1.symm) hown (hts (.methodLink RX2 54 arraycopyName) (List.mem_of_getElem? (i := 9) rfl)) (hts (.native arraycopyName) (List.mem_of_getElem? (i := 10) rfl)) (hts (.static arraycopyName) (List.mem_of_getElem? (i := 11) rfl)) (hts (.initialized "java/lang/System") (List.mem_of_getElem? (i := 12) rfl)) hK hP hD hS (q1 + 1) 15 0 0 (ty := .int) (wl_at (x_lt (x_suit hq1 (by decide))) e56) (wl_at (by decide) e58) rfl rfl rfl (by decide) (by decide) (by decide) (by decide) (by decide) (fun _ _ => rfl) (Nat.le_of_ble_eq_true rfl) (Nat.le_of_ble_eq_true rfl) dX2_take_55 (fun H locs hP hD hS => ?_)
  obtain ⟨f, hT, hP, hD, e60, hj61⟩ := stU (by decide) (TYx.up hT (by decide) (show OKx ad cy tx rby rnx 15 _ from (show okI cy 10 _ from ⟨_, rfl⟩))) hP hD
  have e62 := (hj61 10 (by decide)).trans e47
  refine lv_aload_n hx hb dX2_take_58 rfl (lv_at hl 0 rfl) ?_
  refine lv_dup hx hb dX2_take_59 rfl ?_
  refine va_get (D := D) (cl := vwCl) (ci := 2) (v := .int x5) (C := RX2) (T := TX2) (N := 10) hx hb hts in_X2_take_X2 hown hK hP 10 (wl_at (by decide) e62) rfl 9 (by decide) (hts (.fieldLink RX2 61 "EightReasons$Loom" "era" "I") (List.mem_of_getElem? (i := 15) rfl)) (fun _ h9 => h9) rfl dX2_take_60 ?_
  refine lv_iconst (v := 1) hx hb dX2_take_63 (by decide) ?_
  refine lv_iadd hx hb dX2_take_64 ?_
  refine lv_topi (fun x63 ex63 => ?_)
  refine va_put (D := D) (cl := vwCl) (ci := 2) (v := .int x63) (ty := tyX2 9) (C := RX2) (T := TX2) (N := 10) hx hb hts in_X2_take_X2 tyX2 tyX2_ok nmX2 hown hK hP hD hS 10 (wl_at (by decide) e62) rfl 9 (by decide) (hts (.fieldLink RX2 61 "EightReasons$Loom" "era" "I") (List.mem_of_getElem? (i := 15) rfl)) (fun _ h9 => h9) rfl (tyX2_ok 9 (by decide)) rfl rfl (Nat.le_of_ble_eq_true rfl) dX2_take_65 (fun H locs hP hD hS => ?_)
  obtain ⟨f, hT, hP, hD, e64, hj65⟩ := stU (by decide) (TYx.up hT (by decide) (show OKx ad cy tx rby rnx 10 _ from (show okX2 ad 10 _ from ⟨x24, q1, x30, x63, rfl, hq1⟩))) hP hD
  exact tV hx hb hr hlk hP hS ⟨trivial, hT⟩ dX2_take_68
set_option maxHeartbeats 4000000 in
set_option maxRecDepth 100000 in
theorem s_X8_look_0 (l : Launch) (B0 : Nat) (adK adV : Nat → Nat) (D : va_G) (cy : Nat → ClassId) (ad : Nat → Nat) (fr0 : Nat → va_E) (tx : Int32) (rby : Int32) (rnx : Int32) (f : Nat → va_E) (hT : TYx ad cy fr0 tx rby rnx f) (sz : Nat) : TtV l yX8_look wsX8_look 2 82 [.ref (ad 0)] B0 adK adV D cy ad f sz (fun (g : Nat → va_E) => True ∧ (TYx ad cy fr0 tx rby rnx g)) := by
  refine TtV.of (cc := cX8_look) (maxL := 1) (own := RX8) (by decide) rfl (Nat.le_of_ble_eq_true rfl) rfl ?_
  intro p e s m below meth c A ls hx hb hr hml hts hown hlk hK hE hP hD hS hA hAB hl
  have hl : lv_has ls 1 [(0, .ref (ad 0))] := hl
  refine st0 (fun H locs hP hS => ?_) hP hS
  refine lv_aload_n hx hb dX8_look_0 rfl (lv_at hl 0 rfl) ?_
  obtain ⟨t1, x3, x4, e6, h2, h5⟩ := (show okX8 ad tx 0 (f 0) from hT.1 0 (by decide))
  refine va_get (D := D) (cl := vwCl) (ci := 8) (v := .ref (ad 10)) (C := RX8) (T := TX8) (N := 13) hx hb hts in_X8_look_X8 hown hK hP 0 (wl_at (by decide) e6) rfl 6 (by decide) (hts (.fieldLink RX8 44 "EightReasons" "loom" "LEightReasons$Loom;") (List.mem_of_getElem? (i := 1) rfl)) (fun _ h9 => h9) rfl dX8_look_1 ?_
  refine lv_aload_n hx hb dX8_look_4 rfl (lv_at hl 0 rfl) ?_
  refine va_get (D := D) (cl := vwCl) (ci := 8) (v := .ref (ad t1)) (C := RX8) (T := TX8) (N := 13) hx hb hts in_X8_look_X8 hown hK hP 0 (wl_at (by decide) e6) rfl 1 (by decide) (hts (.fieldLink RX8 19 "EightReasons" "told" "LEightReasons$Suit;") (List.mem_of_getElem? (i := 2) rfl)) (fun _ h9 => h9) rfl dX8_look_5 ?_
  refine lv_aload_n hx hb dX8_look_8 rfl (lv_at hl 0 rfl) ?_
  refine tVR (As := []) (rest := [.ref (ad t1), .ref (ad 10)]) (i := 0) ⟨hx, hb, hml, hown, hts⟩ hK hE hP hD hS hA hAB (s_X8_now_0 l B0 adK adV D cy ad fr0 tx rby rnx f hT _) (cwV 0 hts gX8_look_X8_now rfl rfl rfl (by decide +kernel) ⟨Nat.le_of_ble_eq_true rfl, Nat.le_of_ble_eq_true rfl⟩) (by decide) 8 e6 rfl rfl hl.1 rfl (Nat.le_of_ble_eq_true rfl) dX8_look_9 ⟨Nat.le_of_ble_eq_true rfl, Nat.le_of_ble_eq_true rfl⟩ (fun ra g H locs hw hra hP hD hS => ?_)
  obtain ⟨hrs, rfl⟩ := hw
  obtain ⟨t7, h8, rfl⟩ := hra
  obtain ⟨x9, t10, x12, x13, e14, h11⟩ := (show okX2 ad 10 (f 10) from hT.1 10 (by decide))
  refine tVV (As := [.ref (ad t1), .ref (ad t7)]) (rest := []) (i := 10) ⟨hx, hb, hml, hown, hts⟩ hK hE hP hD hS hA hAB (s_X2_take_0 l B0 adK adV D cy ad fr0 tx rby rnx f hT t1 h2 t7 h8 _) (cwV 2 hts gX8_look_X2_take rfl rfl rfl (by decide +kernel) ⟨Nat.le_of_ble_eq_true rfl, Nat.le_of_ble_eq_true rfl⟩) (by decide) 2 e14 rfl rfl hl.1 rfl (Nat.le_of_ble_eq_true rfl) dX8_look_12 ⟨Nat.le_of_ble_eq_true rfl, Nat.le_of_ble_eq_true rfl⟩ (fun f H locs hw hP hD hS => ?_)
  obtain ⟨hrs, hT⟩ := hw
  exact tV hx hb hr hlk hP hS ⟨trivial, hT⟩ dX8_look_15
set_option maxHeartbeats 4000000 in
set_option maxRecDepth 100000 in
theorem s_X8_strand_0 (l : Launch) (B0 : Nat) (adK adV : Nat → Nat) (D : va_G) (cy : Nat → ClassId) (ad : Nat → Nat) (fr0 : Nat → va_E) (tx : Int32) (rby : Int32) (rnx : Int32) (f : Nat → va_E) (hT : TYx ad cy fr0 tx rby rnx f) (p1 : Int32) (p2 : Int32) (sz : Nat) : TtI l yX8_strand wsX8_strand 4 102 [.ref (ad 0), .int p1, .int p2] B0 adK adV D cy ad f sz (fun (r : Int32) (g : Nat → va_E) => True ∧ (TYx ad cy fr0 tx rby rnx g)) := by
  refine TtI.of (cc := cX8_strand) (maxL := 3) (ty := .int) (own := RX8) (by decide) rfl (Nat.le_of_ble_eq_true rfl) rfl ?_
  intro p e s m below meth c A ls hx hb hr hml hts hown hlk hK hE hP hD hS hA hAB hl
  have hl : lv_has ls 3 [(0, .ref (ad 0)), (1, .int p1), (2, .int p2)] := hl
  refine st0 (fun H locs hP hS => ?_) hP hS
  refine lv_aload_n hx hb dX8_strand_0 rfl (lv_at hl 0 rfl) ?_
  obtain ⟨t1, x3, x4, e6, h2, h5⟩ := (show okX8 ad tx 0 (f 0) from hT.1 0 (by decide))
  refine va_get (D := D) (cl := vwCl) (ci := 8) (v := .ref (ad t1)) (C := RX8) (T := TX8) (N := 13) hx hb hts in_X8_strand_X8 hown hK hP 0 (wl_at (by decide) e6) rfl 1 (by decide) (hts (.fieldLink RX8 19 "EightReasons" "told" "LEightReasons$Suit;") (List.mem_of_getElem? (i := 1) rfl)) (fun _ h9 => h9) rfl dX8_strand_1 ?_
  refine lv_iload_n hx hb dX8_strand_4 rfl (lv_at hl 1 rfl) ?_
  obtain ⟨x7, x9, x10, x12, x13, e14, h8, h11⟩ := (ty_suit hT h2)
  refine tVI (As := [.int p1]) (rest := []) (i := t1) ⟨hx, hb, hml, hown, hts⟩ hK hE hP hD hS hA hAB (s_X5_isStrand_0 l B0 adK adV D cy ad fr0 tx rby rnx f hT t1 h2 p1 _) (cwV 1 hts gX8_strand_X5_isStrand rfl rfl rfl (by decide +kernel) ⟨Nat.le_of_ble_eq_true rfl, Nat.le_of_ble_eq_true rfl⟩) (x_lt (x_suit0 h2)) 5 e14 rfl rfl hl.1 rfl (Nat.le_of_ble_eq_true rfl) dX8_strand_5 ⟨Nat.le_of_ble_eq_true rfl, Nat.le_of_ble_eq_true rfl⟩ (fun r g H locs hw hP hD hS => ?_)
  obtain ⟨hrs, rfl⟩ := hw
  obtain ⟨x15, rfl⟩ : ∃ q, q = r := ⟨_, rfl⟩
  rcases hrs with ⟨rfl, h16, h17⟩ | rfl
  · refine lv_if_ne (tgt := 13) hx hb dX8_strand_8 (by decide) (fun _ => ?_) (fun c => absurd c (by decide))
    refine lv_iload_n hx hb dX8_strand_13 rfl (lv_at hl 2 rfl) ?_
    rcases sw_0_4 p2 with c18 | c18 | c18 | c18 | c18 | c18
    · refine lv_tableOut (tgt := 118) hx hb dX8_strand_14 c18 (by decide) ?_
      refine lv_iconst (v := (-1)) hx hb dX8_strand_118 (by decide) ?_
      have ttl_m1 := tl_m1
      exact tI hx hb hr hlk rfl hP hS ⟨trivial, hT⟩ dX8_strand_119
    · have kc18 := (c_eq c18).trans tl_0
      refine lv_tableIn (off := 34) (tgt := 48) hx hb dX8_strand_14 (by rw [kc18]; decide) (by rw [kc18]; decide) (by rw [kc18]; decide) (by decide) ?_
      refine lv_aload_n hx hb dX8_strand_48 rfl (lv_at hl 0 rfl) ?_
      refine va_get (D := D) (cl := vwCl) (ci := 8) (v := .ref (ad t1)) (C := RX8) (T := TX8) (N := 13) hx hb hts in_X8_strand_X8 hown hK hP 0 (wl_at (by decide) e6) rfl 1 (by decide) (hts (.fieldLink RX8 19 "EightReasons" "told" "LEightReasons$Suit;") (List.mem_of_getElem? (i := 1) rfl)) (fun _ h9 => h9) rfl dX8_strand_49 ?_
      refine va_get (D := D) (cl := vwCl) (ci := 5) (v := .ref (ad (t1 + 4))) (C := RX5) (T := TX5) (N := 12) hx hb hts in_X8_strand_X5 hown hK hP t1 (wl_at (x_lt (x_suit0 h2)) e14) rfl 8 (by decide) (hts (.fieldLink RX8 136 "EightReasons$Suit" "source" "[I") (List.mem_of_getElem? (i := 2) rfl)) (fun _ h9 => h9) rfl dX8_strand_52 ?_
      refine lv_iload_n hx hb dX8_strand_55 rfl (lv_at hl 1 rfl) ?_
      obtain ⟨g21, e19, h20⟩ := (ty_suit4 hT h2)
      refine va_iald hx hb hK hP (t1 + 4) 0 (wl_at (x_lt (x_suit h2 (by decide))) e19) rfl (vp_in_iff.mpr ⟨by omega, by omega⟩) dX8_strand_56 ?_
      refine lv_topi (fun x22 ex22 => ?_)
      have hx22 := r_el (h20 _ (Nat.mod_one _)) ex22
      exact tI hx hb hr hlk rfl hP hS ⟨trivial, hT⟩ dX8_strand_57
    · have kc18 := (c_eq c18).trans tl_1
      refine lv_tableIn (off := 44) (tgt := 58) hx hb dX8_strand_14 (by rw [kc18]; decide) (by rw [kc18]; decide) (by rw [kc18]; decide) (by decide) ?_
      refine lv_aload_n hx hb dX8_strand_58 rfl (lv_at hl 0 rfl) ?_
      refine va_get (D := D) (cl := vwCl) (ci := 8) (v := .ref (ad t1)) (C := RX8) (T := TX8) (N := 13) hx hb hts in_X8_strand_X8 hown hK hP 0 (wl_at (by decide) e6) rfl 1 (by decide) (hts (.fieldLink RX8 19 "EightReasons" "told" "LEightReasons$Suit;") (List.mem_of_getElem? (i := 1) rfl)) (fun _ h9 => h9) rfl dX8_strand_59 ?_
      refine va_get (D := D) (cl := vwCl) (ci := 5) (v := .ref (ad (t1 + 5))) (C := RX5) (T := TX5) (N := 12) hx hb hts in_X8_strand_X5 hown hK hP t1 (wl_at (x_lt (x_suit0 h2)) e14) rfl 9 (by decide) (hts (.fieldLink RX8 139 "EightReasons$Suit" "target" "[I") (List.mem_of_getElem? (i := 3) rfl)) (fun _ h9 => h9) rfl dX8_strand_62 ?_
      refine lv_iload_n hx hb dX8_strand_65 rfl (lv_at hl 1 rfl) ?_
      obtain ⟨g25, e23, h24⟩ := (ty_suit5 hT h2)
      refine va_iald hx hb hK hP (t1 + 5) 0 (wl_at (x_lt (x_suit h2 (by decide))) e23) rfl (vp_in_iff.mpr ⟨by omega, by omega⟩) dX8_strand_66 ?_
      refine lv_topi (fun x26 ex26 => ?_)
      have hx26 := r_el (h24 _ (Nat.mod_one _)) ex26
      exact tI hx hb hr hlk rfl hP hS ⟨trivial, hT⟩ dX8_strand_67
    · have kc18 := (c_eq c18).trans tl_2
      refine lv_tableIn (off := 54) (tgt := 68) hx hb dX8_strand_14 (by rw [kc18]; decide) (by rw [kc18]; decide) (by rw [kc18]; decide) (by decide) ?_
      refine lv_aload_n hx hb dX8_strand_68 rfl (lv_at hl 0 rfl) ?_
      refine tVR (As := []) (rest := []) (i := 0) ⟨hx, hb, hml, hown, hts⟩ hK hE hP hD hS hA hAB (s_X8_now_0 l B0 adK adV D cy ad fr0 tx rby rnx f hT _) (cwV 0 hts gX8_strand_X8_now rfl rfl rfl (by decide +kernel) ⟨Nat.le_of_ble_eq_true rfl, Nat.le_of_ble_eq_true rfl⟩) (by decide) 8 e6 rfl rfl hl.1 rfl (Nat.le_of_ble_eq_true rfl) dX8_strand_69 ⟨Nat.le_of_ble_eq_true rfl, Nat.le_of_ble_eq_true rfl⟩ (fun ra g H locs hw hra hP hD hS => ?_)
      obtain ⟨hrs, rfl⟩ := hw
      obtain ⟨t27, h28, rfl⟩ := hra
      obtain ⟨x29, x31, x32, x33, e34, h30⟩ := (ty_state hT h28)
      refine va_get (D := D) (cl := vwCl) (ci := 4) (v := .ref (ad (t27 + 1))) (C := RX4) (T := TX4) (N := 5) hx hb hts in_X8_strand_X4 hown hK hP t27 (wl_at (x_lt (x_state0 h28)) e34) rfl 0 (by decide) (hts (.fieldLink RX8 142 "EightReasons$State" "strong" "[I") (List.mem_of_getElem? (i := 4) rfl)) (fun _ h9 => h9) rfl dX8_strand_72 ?_
      refine lv_iload_n hx hb dX8_strand_75 rfl (lv_at hl 1 rfl) ?_
      obtain ⟨g36, e35⟩ := (ty_strow hT h28)
      refine va_iald hx hb hK hP (t27 + 1) 0 (wl_at (x_lt (x_state h28 (by decide))) e35) rfl (vp_in_iff.mpr ⟨by omega, by omega⟩) dX8_strand_76 ?_
      refine lv_topi (fun x37 ex37 => ?_)
      exact tI hx hb hr hlk rfl hP hS ⟨trivial, hT⟩ dX8_strand_77
    · have kc18 := (c_eq c18).trans tl_3
      refine lv_tableIn (off := 64) (tgt := 78) hx hb dX8_strand_14 (by rw [kc18]; decide) (by rw [kc18]; decide) (by rw [kc18]; decide) (by decide) ?_
      refine lv_aload_n hx hb dX8_strand_78 rfl (lv_at hl 0 rfl) ?_
      refine tVR (As := []) (rest := []) (i := 0) ⟨hx, hb, hml, hown, hts⟩ hK hE hP hD hS hA hAB (s_X8_now_0 l B0 adK adV D cy ad fr0 tx rby rnx f hT _) (cwV 0 hts gX8_strand_X8_now rfl rfl rfl (by decide +kernel) ⟨Nat.le_of_ble_eq_true rfl, Nat.le_of_ble_eq_true rfl⟩) (by decide) 8 e6 rfl rfl hl.1 rfl (Nat.le_of_ble_eq_true rfl) dX8_strand_79 ⟨Nat.le_of_ble_eq_true rfl, Nat.le_of_ble_eq_true rfl⟩ (fun ra g H locs hw hra hP hD hS => ?_)
      obtain ⟨hrs, rfl⟩ := hw
      obtain ⟨t38, h39, rfl⟩ := hra
      obtain ⟨x40, x42, x43, x44, e45, h41⟩ := (ty_state hT h39)
      refine va_get (D := D) (cl := vwCl) (ci := 4) (v := .int x40) (C := RX4) (T := TX4) (N := 5) hx hb hts in_X8_strand_X4 hown hK hP t38 (wl_at (x_lt (x_state0 h39)) e45) rfl 1 (by decide) (hts (.fieldLink RX8 145 "EightReasons$State" "tied" "I") (List.mem_of_getElem? (i := 5) rfl)) (fun _ h9 => h9) rfl dX8_strand_82 ?_
      refine lv_iload_n hx hb dX8_strand_85 rfl (lv_at hl 1 rfl) ?_
      refine lv_ishr hx hb dX8_strand_86 ?_
      refine lv_topi (fun x46 ex46 => ?_)
      refine lv_iconst (v := 1) hx hb dX8_strand_87 (by decide) ?_
      have ttl_1 := tl_1
      refine lv_iand hx hb dX8_strand_88 ?_
      refine lv_topi (fun x47 ex47 => ?_)
      have hx47 := r_andr ex47 (by omega)
      exact tI hx hb hr hlk rfl hP hS ⟨trivial, hT⟩ dX8_strand_89
    · have kc18 := (c_eq c18).trans tl_4
      refine lv_tableIn (off := 76) (tgt := 90) hx hb dX8_strand_14 (by rw [kc18]; decide) (by rw [kc18]; decide) (by rw [kc18]; decide) (by decide) ?_
      refine lv_aload_n hx hb dX8_strand_90 rfl (lv_at hl 0 rfl) ?_
      refine tVV (As := []) (rest := []) (i := 0) ⟨hx, hb, hml, hown, hts⟩ hK hE hP hD hS hA hAB (s_X8_look_0 l B0 adK adV D cy ad fr0 tx rby rnx f hT _) (cwV 0 hts gX8_strand_X8_look rfl rfl rfl (by decide +kernel) ⟨Nat.le_of_ble_eq_true rfl, Nat.le_of_ble_eq_true rfl⟩) (by decide) 8 e6 rfl rfl hl.1 rfl (Nat.le_of_ble_eq_true rfl) dX8_strand_91 ⟨Nat.le_of_ble_eq_true rfl, Nat.le_of_ble_eq_true rfl⟩ (fun f H locs hw hP hD hS => ?_)
      obtain ⟨hrs, hT⟩ := hw
      refine lv_aload_n hx hb dX8_strand_94 rfl (lv_at hl 0 rfl) ?_
      obtain ⟨t48, x50, x51, e53, h49, h52⟩ := (show okX8 ad tx 0 (f 0) from hT.1 0 (by decide))
      refine va_get (D := D) (cl := vwCl) (ci := 8) (v := .ref (ad 10)) (C := RX8) (T := TX8) (N := 13) hx hb hts in_X8_strand_X8 hown hK hP 0 (wl_at (by decide) e53) rfl 6 (by decide) (hts (.fieldLink RX8 44 "EightReasons" "loom" "LEightReasons$Loom;") (List.mem_of_getElem? (i := 6) rfl)) (fun _ h9 => h9) rfl dX8_strand_95 ?_
      refine lv_aload_n hx hb dX8_strand_98 rfl (lv_at hl 0 rfl) ?_
      refine tVR (As := []) (rest := [.ref (ad 10)]) (i := 0) ⟨hx, hb, hml, hown, hts⟩ hK hE hP hD hS hA hAB (s_X8_now_0 l B0 adK adV D cy ad fr0 tx rby rnx f hT _) (cwV 0 hts gX8_strand_X8_now rfl rfl rfl (by decide +kernel) ⟨Nat.le_of_ble_eq_true rfl, Nat.le_of_ble_eq_true rfl⟩) (by decide) 8 e53 rfl rfl hl.1 rfl (Nat.le_of_ble_eq_true rfl) dX8_strand_99 ⟨Nat.le_of_ble_eq_true rfl, Nat.le_of_ble_eq_true rfl⟩ (fun ra g H locs hw hra hP hD hS => ?_)
      obtain ⟨hrs, rfl⟩ := hw
      obtain ⟨t54, h55, rfl⟩ := hra
      obtain ⟨x56, x58, x59, x60, e61, h57⟩ := (ty_state hT h55)
      refine va_get (D := D) (cl := vwCl) (ci := 4) (v := .int x56) (C := RX4) (T := TX4) (N := 5) hx hb hts in_X8_strand_X4 hown hK hP t54 (wl_at (x_lt (x_state0 h55)) e61) rfl 1 (by decide) (hts (.fieldLink RX8 145 "EightReasons$State" "tied" "I") (List.mem_of_getElem? (i := 5) rfl)) (fun _ h9 => h9) rfl dX8_strand_102 ?_
      obtain ⟨x62, t63, x65, x66, e67, h64⟩ := (show okX2 ad 10 (f 10) from hT.1 10 (by decide))
      refine tVV (As := [.int x56]) (rest := []) (i := 10) ⟨hx, hb, hml, hown, hts⟩ hK hE hP hD hS hA hAB (s_X2_weigh_0 l B0 adK adV D cy ad fr0 tx rby rnx f hT x56 _) (cwV 1 hts gX8_strand_X2_weigh rfl rfl rfl (by decide +kernel) ⟨Nat.le_of_ble_eq_true rfl, Nat.le_of_ble_eq_true rfl⟩) (by decide) 2 e67 rfl rfl hl.1 rfl (Nat.le_of_ble_eq_true rfl) dX8_strand_105 ⟨Nat.le_of_ble_eq_true rfl, Nat.le_of_ble_eq_true rfl⟩ (fun f H locs hw hP hD hS => ?_)
      obtain ⟨hrs, hT⟩ := hw
      refine lv_aload_n hx hb dX8_strand_108 rfl (lv_at hl 0 rfl) ?_
      obtain ⟨t68, x70, x71, e73, h69, h72⟩ := (show okX8 ad tx 0 (f 0) from hT.1 0 (by decide))
      refine va_get (D := D) (cl := vwCl) (ci := 8) (v := .ref (ad 10)) (C := RX8) (T := TX8) (N := 13) hx hb hts in_X8_strand_X8 hown hK hP 0 (wl_at (by decide) e73) rfl 6 (by decide) (hts (.fieldLink RX8 44 "EightReasons" "loom" "LEightReasons$Loom;") (List.mem_of_getElem? (i := 6) rfl)) (fun _ h9 => h9) rfl dX8_strand_109 ?_
      obtain ⟨x74, t75, x77, x78, e79, h76⟩ := (show okX2 ad 10 (f 10) from hT.1 10 (by decide))
      refine va_get (D := D) (cl := vwCl) (ci := 2) (v := .ref (ad 11)) (C := RX2) (T := TX2) (N := 10) hx hb hts in_X8_strand_X2 hown hK hP 10 (wl_at (by decide) e79) rfl 1 (by decide) (hts (.fieldLink RX8 154 "EightReasons$Loom" "load" "[I") (List.mem_of_getElem? (i := 7) rfl)) (fun _ h9 => h9) rfl dX8_strand_112 ?_
      refine lv_iload_n hx hb dX8_strand_115 rfl (lv_at hl 1 rfl) ?_
      obtain ⟨g81, e80⟩ := (show okI cy 12 (f 11) from hT.1 11 (by decide))
      refine va_iald hx hb hK hP 11 0 (wl_at (by decide) e80) rfl (vp_in_iff.mpr ⟨by omega, by omega⟩) dX8_strand_116 ?_
      refine lv_topi (fun x82 ex82 => ?_)
      exact tI hx hb hr hlk rfl hP hS ⟨trivial, hT⟩ dX8_strand_117
  · refine lv_if_ne (tgt := 13) hx hb dX8_strand_8 (by decide) (fun c => absurd (by decide) c) (fun _ => ?_)
    refine lv_iconst (v := (-1)) hx hb dX8_strand_11 (by decide) ?_
    have ttl_m1 := tl_m1
    exact tI hx hb hr hlk rfl hP hS ⟨trivial, hT⟩ dX8_strand_12
set_option maxHeartbeats 4000000 in
set_option maxRecDepth 100000 in
theorem s_X4_copy_0 (l : Launch) (B0 : Nat) (adK adV : Nat → Nat) (D : va_G) (cy : Nat → ClassId) (ad : Nat → Nat) (fr0 : Nat → va_E) (tx : Int32) (rby : Int32) (rnx : Int32) (f : Nat → va_E) (hT : TYx ad cy fr0 tx rby rnx f) (q0 : Nat) (hq0 : isState q0) (q1 : Nat) (hq1 : isState q1) (sz : Nat) : TtV l yX4_copy wsX4_copy 1 60 [.ref (ad q0), .ref (ad q1)] B0 adK adV D cy ad f sz (fun (g : Nat → va_E) => True ∧ (TYx ad cy fr0 tx rby rnx g)) := by
  refine TtV.of (cc := cX4_copy) (maxL := 2) (own := RX4) (by decide) rfl (Nat.le_of_ble_eq_true rfl) rfl ?_
  intro p e s m below meth c A ls hx hb hr hml hts hown hlk hK hE hP hD hS hA hAB hl
  have hl : lv_has ls 2 [(0, .ref (ad q0)), (1, .ref (ad q1))] := hl
  refine st0 (fun H locs hP hS => ?_) hP hS
  refine lv_aload_n hx hb dX4_copy_0 rfl (lv_at hl 1 rfl) ?_
  obtain ⟨x1, x3, x4, x5, e6, h2⟩ := (ty_state hT hq1)
  refine va_get (D := D) (cl := vwCl) (ci := 4) (v := .ref (ad (q1 + 1))) (C := RX4) (T := TX4) (N := 5) hx hb hts in_X4_copy_X4 hown hK hP q1 (wl_at (x_lt (x_state0 hq1)) e6) rfl 0 (by decide) (hts (.fieldLink RX4 9 "EightReasons$State" "strong" "[I") (List.mem_of_getElem? (i := 1) rfl)) (fun _ h9 => h9) rfl dX4_copy_1 ?_
  refine lv_iconst (v := 0) hx hb dX4_copy_4 (by decide) ?_
  refine lv_aload_n hx hb dX4_copy_5 rfl (lv_at hl 0 rfl) ?_
  obtain ⟨x7, x9, x10, x11, e12, h8⟩ := (ty_state hT hq0)
  refine va_get (D := D) (cl := vwCl) (ci := 4) (v := .ref (ad (q0 + 1))) (C := RX4) (T := TX4) (N := 5) hx hb hts in_X4_copy_X4 hown hK hP q0 (wl_at (x_lt (x_state0 hq0)) e12) rfl 0 (by decide) (hts (.fieldLink RX4 9 "EightReasons$State" "strong" "[I") (List.mem_of_getElem? (i := 1) rfl)) (fun _ h9 => h9) rfl dX4_copy_6 ?_
  refine lv_iconst (v := 0) hx hb dX4_copy_9 (by decide) ?_
  refine lv_bipush (v := 12) hx hb dX4_copy_10 (by decide) ?_
  obtain ⟨g14, e13⟩ := (ty_strow hT hq1)
  obtain ⟨g16, e15⟩ := (ty_strow hT hq0)
  refine va_copyi hx hb (hml.trans hl.1.symm) hown (hts (.methodLink RX4 18 arraycopyName) (List.mem_of_getElem? (i := 2) rfl)) (hts (.native arraycopyName) (List.mem_of_getElem? (i := 3) rfl)) (hts (.static arraycopyName) (List.mem_of_getElem? (i := 4) rfl)) (hts (.initialized "java/lang/System") (List.mem_of_getElem? (i := 5) rfl)) hK hP hD hS (q1 + 1) (q0 + 1) 0 0 (ty := .int) (wl_at (x_lt (x_state hq1 (by decide))) e13) (wl_at (x_lt (x_state hq0 (by decide))) e15) rfl rfl rfl (by decide) (by decide) (by decide) (by decide) (by decide) (fun _ _ => rfl) (Nat.le_of_ble_eq_true rfl) (Nat.le_of_ble_eq_true rfl) dX4_copy_12 (fun H locs hP hD hS => ?_)
  obtain ⟨f, hT, hP, hD, e17, hj18⟩ := stU (x_lt (x_state hq0 (by decide))) (TYx.up hT (x_state hq0 (by decide)) (ok_strow hq0 ⟨_, rfl⟩)) hP hD
  have e19 := (hj18 q0 (by omega)).trans e12
  refine lv_aload_n hx hb dX4_copy_15 rfl (lv_at hl 0 rfl) ?_
  refine lv_aload_n hx hb dX4_copy_16 rfl (lv_at hl 1 rfl) ?_
  obtain ⟨x20, x22, x23, x24, e25, h21⟩ := (ty_state hT hq1)
  refine va_get (D := D) (cl := vwCl) (ci := 4) (v := .int x20) (C := RX4) (T := TX4) (N := 5) hx hb hts in_X4_copy_X4 hown hK hP q1 (wl_at (x_lt (x_state0 hq1)) e25) rfl 1 (by decide) (hts (.fieldLink RX4 28 "EightReasons$State" "tied" "I") (List.mem_of_getElem? (i := 6) rfl)) (fun _ h9 => h9) rfl dX4_copy_17 ?_
  refine va_put (D := D) (cl := vwCl) (ci := 4) (v := .int x20) (ty := tyX4 1) (C := RX4) (T := TX4) (N := 5) hx hb hts in_X4_copy_X4 tyX4 tyX4_ok nmX4 hown hK hP hD hS q0 (wl_at (x_lt (x_state0 hq0)) e19) rfl 1 (by decide) (hts (.fieldLink RX4 28 "EightReasons$State" "tied" "I") (List.mem_of_getElem? (i := 6) rfl)) (fun _ h9 => h9) rfl (tyX4_ok 1 (by decide)) rfl rfl (Nat.le_of_ble_eq_true rfl) dX4_copy_20 (fun H locs hP hD hS => ?_)
  obtain ⟨f, hT, hP, hD, e26, hj27⟩ := stU (x_lt (x_state0 hq0)) (TYx.up hT (x_state0 hq0) (ok_state hq0 ⟨x20, x9, x10, x11, rfl, by omega⟩)) hP hD
  refine lv_aload_n hx hb dX4_copy_23 rfl (lv_at hl 0 rfl) ?_
  refine lv_aload_n hx hb dX4_copy_24 rfl (lv_at hl 1 rfl) ?_
  obtain ⟨x28, x30, x31, x32, e33, h29⟩ := (ty_state hT hq1)
  refine va_get (D := D) (cl := vwCl) (ci := 4) (v := .int x30) (C := RX4) (T := TX4) (N := 5) hx hb hts in_X4_copy_X4 hown hK hP q1 (wl_at (x_lt (x_state0 hq1)) e33) rfl 2 (by decide) (hts (.fieldLink RX4 32 "EightReasons$State" "struck" "I") (List.mem_of_getElem? (i := 7) rfl)) (fun _ h9 => h9) rfl dX4_copy_25 ?_
  refine va_put (D := D) (cl := vwCl) (ci := 4) (v := .int x30) (ty := tyX4 2) (C := RX4) (T := TX4) (N := 5) hx hb hts in_X4_copy_X4 tyX4 tyX4_ok nmX4 hown hK hP hD hS q0 (wl_at (x_lt (x_state0 hq0)) e26) rfl 2 (by decide) (hts (.fieldLink RX4 32 "EightReasons$State" "struck" "I") (List.mem_of_getElem? (i := 7) rfl)) (fun _ h9 => h9) rfl (tyX4_ok 2 (by decide)) rfl rfl (Nat.le_of_ble_eq_true rfl) dX4_copy_28 (fun H locs hP hD hS => ?_)
  obtain ⟨f, hT, hP, hD, e34, hj35⟩ := stU (x_lt (x_state0 hq0)) (TYx.up hT (x_state0 hq0) (ok_state hq0 ⟨x20, x30, x10, x11, rfl, by omega⟩)) hP hD
  refine lv_aload_n hx hb dX4_copy_31 rfl (lv_at hl 0 rfl) ?_
  refine lv_aload_n hx hb dX4_copy_32 rfl (lv_at hl 1 rfl) ?_
  obtain ⟨x36, x38, x39, x40, e41, h37⟩ := (ty_state hT hq1)
  refine va_get (D := D) (cl := vwCl) (ci := 4) (v := .int x39) (C := RX4) (T := TX4) (N := 5) hx hb hts in_X4_copy_X4 hown hK hP q1 (wl_at (x_lt (x_state0 hq1)) e41) rfl 3 (by decide) (hts (.fieldLink RX4 35 "EightReasons$State" "day" "I") (List.mem_of_getElem? (i := 8) rfl)) (fun _ h9 => h9) rfl dX4_copy_33 ?_
  refine va_put (D := D) (cl := vwCl) (ci := 4) (v := .int x39) (ty := tyX4 3) (C := RX4) (T := TX4) (N := 5) hx hb hts in_X4_copy_X4 tyX4 tyX4_ok nmX4 hown hK hP hD hS q0 (wl_at (x_lt (x_state0 hq0)) e34) rfl 3 (by decide) (hts (.fieldLink RX4 35 "EightReasons$State" "day" "I") (List.mem_of_getElem? (i := 8) rfl)) (fun _ h9 => h9) rfl (tyX4_ok 3 (by decide)) rfl rfl (Nat.le_of_ble_eq_true rfl) dX4_copy_36 (fun H locs hP hD hS => ?_)
  obtain ⟨f, hT, hP, hD, e42, hj43⟩ := stU (x_lt (x_state0 hq0)) (TYx.up hT (x_state0 hq0) (ok_state hq0 ⟨x20, x30, x39, x11, rfl, by omega⟩)) hP hD
  refine lv_aload_n hx hb dX4_copy_39 rfl (lv_at hl 0 rfl) ?_
  refine lv_aload_n hx hb dX4_copy_40 rfl (lv_at hl 1 rfl) ?_
  obtain ⟨x44, x46, x47, x48, e49, h45⟩ := (ty_state hT hq1)
  refine va_get (D := D) (cl := vwCl) (ci := 4) (v := .int x48) (C := RX4) (T := TX4) (N := 5) hx hb hts in_X4_copy_X4 hown hK hP q1 (wl_at (x_lt (x_state0 hq1)) e49) rfl 4 (by decide) (hts (.fieldLink RX4 41 "EightReasons$State" "seed" "I") (List.mem_of_getElem? (i := 9) rfl)) (fun _ h9 => h9) rfl dX4_copy_41 ?_
  refine va_put (D := D) (cl := vwCl) (ci := 4) (v := .int x48) (ty := tyX4 4) (C := RX4) (T := TX4) (N := 5) hx hb hts in_X4_copy_X4 tyX4 tyX4_ok nmX4 hown hK hP hD hS q0 (wl_at (x_lt (x_state0 hq0)) e42) rfl 4 (by decide) (hts (.fieldLink RX4 41 "EightReasons$State" "seed" "I") (List.mem_of_getElem? (i := 9) rfl)) (fun _ h9 => h9) rfl (tyX4_ok 4 (by decide)) rfl rfl (Nat.le_of_ble_eq_true rfl) dX4_copy_44 (fun H locs hP hD hS => ?_)
  obtain ⟨f, hT, hP, hD, e50, hj51⟩ := stU (x_lt (x_state0 hq0)) (TYx.up hT (x_state0 hq0) (ok_state hq0 ⟨x20, x30, x39, x48, rfl, by omega⟩)) hP hD
  exact tV hx hb hr hlk hP hS ⟨trivial, hT⟩ dX4_copy_47
set_option maxHeartbeats 4000000 in
set_option maxRecDepth 100000 in
theorem s_X0_nextState_0 (l : Launch) (B0 : Nat) (adK adV : Nat → Nat) (D : va_G) (cy : Nat → ClassId) (ad : Nat → Nat) (fr0 : Nat → va_E) (tx : Int32) (rby : Int32) (rnx : Int32) (f : Nat → va_E) (hT : TYx ad cy fr0 tx rby rnx f) (sz : Nat) : TtR l yX0_nextState wsX0_nextState 2 81 [.ref (ad 5)] B0 adK adV D cy ad f sz (fun (g : Nat → va_E) => True ∧ (TYx ad cy fr0 tx rby rnx g)) (fun ra _ => ∃ q, isState q ∧ ra = ad q) := by
  refine TtR.of (cc := cX0_nextState) (maxL := 2) (ty := (.object "EightReasons$State")) (own := RX0) (by decide) rfl (Nat.le_of_ble_eq_true rfl) rfl ?_
  intro p e s m below meth c A ls hx hb hr hml hts hown hlk hK hE hP hD hS hA hAB hl
  have hl : lv_has ls 2 [(0, .ref (ad 5))] := hl
  refine st0 (fun H locs hP hS => ?_) hP hS
  refine lv_aload_n hx hb dX0_nextState_0 rfl (lv_at hl 0 rfl) ?_
  obtain ⟨x1, x3, x4, e5, h2⟩ := (show okX0 ad 5 (f 5) from hT.1 5 (by decide))
  refine va_get (D := D) (cl := vwCl) (ci := 0) (v := .ref (ad 6)) (C := RX0) (T := TX0) (N := 4) hx hb hts in_X0_nextState_X0 hown hK hP 5 (wl_at (by decide) e5) rfl 0 (by decide) (hts (.fieldLink RX0 13 "EightReasons$Acts" "states" "[LEightReasons$State;") (List.mem_of_getElem? (i := 1) rfl)) (fun _ h9 => h9) rfl dX0_nextState_1 ?_
  refine lv_aload_n hx hb dX0_nextState_4 rfl (lv_at hl 0 rfl) ?_
  refine va_get (D := D) (cl := vwCl) (ci := 0) (v := .int x1) (C := RX0) (T := TX0) (N := 4) hx hb hts in_X0_nextState_X0 hown hK hP 5 (wl_at (by decide) e5) rfl 1 (by decide) (hts (.fieldLink RX0 18 "EightReasons$Acts" "at" "I") (List.mem_of_getElem? (i := 2) rfl)) (fun _ h9 => h9) rfl dX0_nextState_5 ?_
  obtain ⟨g8, e6, h7⟩ := (show okS ad cy 41 60 (f 6) from hT.1 6 (by decide))
  have h10 := clampN (n := 41) (x := x1) (by omega) (by omega)
  refine va_aldq (C := RX4) hx hb hK hP 6 4 (wl_at (by decide) e6) rfl (vp_in_iff.mpr ⟨by omega, by omega⟩) dX0_nextState_8 (tpr (v := ad (60 + 2 * Int32.toNatClampNeg x1)) (h7 _ h10) ?_)
  have h9 : isState (60 + 2 * Int32.toNatClampNeg x1) := Or.inr ⟨0 + Int32.toNatClampNeg x1, by omega, by omega⟩
  refine lv_astore_n (lv' := [(1, .ref (ad (60 + 2 * Int32.toNatClampNeg x1))), (0, .ref (ad 5))]) hx hb dX0_nextState_9 rfl hl (by decide) rfl (fun ls hl => ?_)
  refine lv_aload_n hx hb dX0_nextState_10 rfl (lv_at hl 1 rfl) ?_
  refine lv_aload_n hx hb dX0_nextState_11 rfl (lv_at hl 1 rfl) ?_
  refine va_get (D := D) (cl := vwCl) (ci := 0) (v := .int x1) (C := RX0) (T := TX0) (N := 4) hx hb hts in_X0_nextState_X0 hown hK hP 5 (wl_at (by decide) e5) rfl 1 (by decide) (hts (.fieldLink RX0 18 "EightReasons$Acts" "at" "I") (List.mem_of_getElem? (i := 2) rfl)) (fun _ h9 => h9) rfl dX0_nextState_12 ?_
  refine lv_iconst (v := 1) hx hb dX0_nextState_15 (by decide) ?_
  have ttl_1 := tl_1
  refine lv_iadd hx hb dX0_nextState_16 ?_
  refine lv_topi (fun x11 ex11 => ?_)
  have hx11 := r_add ex11 (by omega) (by omega)
  refine lv_bipush (v := 41) hx hb dX0_nextState_17 (by decide) ?_
  refine lv_irem hx hb dX0_nextState_19 (by decide) ?_
  refine lv_topi (fun x12 ex12 => ?_)
  have hx12 := r_rem ex12 tl_41 (by omega) (by decide)
  refine va_put (D := D) (cl := vwCl) (ci := 0) (v := .int x12) (ty := tyX0 1) (C := RX0) (T := TX0) (N := 4) hx hb hts in_X0_nextState_X0 tyX0 tyX0_ok nmX0 hown hK hP hD hS 5 (wl_at (by decide) e5) rfl 1 (by decide) (hts (.fieldLink RX0 18 "EightReasons$Acts" "at" "I") (List.mem_of_getElem? (i := 2) rfl)) (fun _ h9 => h9) rfl (tyX0_ok 1 (by decide)) rfl rfl (Nat.le_of_ble_eq_true rfl) dX0_nextState_20 (fun H locs hP hD hS => ?_)
  obtain ⟨f, hT, hP, hD, e13, hj14⟩ := stU (by decide) (TYx.up hT (by decide) (show OKx ad cy tx rby rnx 5 _ from (show okX0 ad 5 _ from ⟨x12, x3, x4, rfl, by omega⟩))) hP hD
  have e15 := (hj14 6 (by decide)).trans e6
  refine lv_aload_n hx hb dX0_nextState_23 rfl (lv_at hl 1 rfl) ?_
  refine va_get (D := D) (cl := vwCl) (ci := 0) (v := .ref (ad 6)) (C := RX0) (T := TX0) (N := 4) hx hb hts in_X0_nextState_X0 hown hK hP 5 (wl_at (by decide) e13) rfl 0 (by decide) (hts (.fieldLink RX0 13 "EightReasons$Acts" "states" "[LEightReasons$State;") (List.mem_of_getElem? (i := 1) rfl)) (fun _ h9 => h9) rfl dX0_nextState_24 ?_
  refine lv_aload_n hx hb dX0_nextState_27 rfl (lv_at hl 1 rfl) ?_
  refine va_get (D := D) (cl := vwCl) (ci := 0) (v := .int x12) (C := RX0) (T := TX0) (N := 4) hx hb hts in_X0_nextState_X0 hown hK hP 5 (wl_at (by decide) e13) rfl 1 (by decide) (hts (.fieldLink RX0 18 "EightReasons$Acts" "at" "I") (List.mem_of_getElem? (i := 2) rfl)) (fun _ h9 => h9) rfl dX0_nextState_28 ?_
  have h17 := clampN (n := 41) (x := x12) (by omega) (by omega)
  refine va_aldq (C := RX4) hx hb hK hP 6 4 (wl_at (by decide) e15) rfl (vp_in_iff.mpr ⟨by omega, by omega⟩) dX0_nextState_31 (tpr (v := ad (60 + 2 * Int32.toNatClampNeg x12)) (h7 _ h17) ?_)
  have h16 : isState (60 + 2 * Int32.toNatClampNeg x12) := Or.inr ⟨0 + Int32.toNatClampNeg x12, by omega, by omega⟩
  refine lv_aload_n hx hb dX0_nextState_32 rfl (lv_at hl 0 rfl) ?_
  obtain ⟨x18, x20, x21, x22, e23, h19⟩ := (ty_state hT h16)
  refine tVV (As := [.ref (ad (60 + 2 * Int32.toNatClampNeg x1))]) (rest := []) (i := (60 + 2 * Int32.toNatClampNeg x12)) ⟨hx, hb, hml, hown, hts⟩ hK hE hP hD hS hA hAB (s_X4_copy_0 l B0 adK adV D cy ad fr0 tx rby rnx f hT (60 + 2 * Int32.toNatClampNeg x12) h16 (60 + 2 * Int32.toNatClampNeg x1) h9 _) (cwV 1 hts gX0_nextState_X4_copy rfl rfl rfl (by decide +kernel) ⟨Nat.le_of_ble_eq_true rfl, Nat.le_of_ble_eq_true rfl⟩) (x_lt (x_state0 h16)) 4 e23 rfl rfl hl.1 rfl (Nat.le_of_ble_eq_true rfl) dX0_nextState_33 ⟨Nat.le_of_ble_eq_true rfl, Nat.le_of_ble_eq_true rfl⟩ (fun f H locs hw hP hD hS => ?_)
  obtain ⟨hrs, hT⟩ := hw
  refine lv_aload_n hx hb dX0_nextState_36 rfl (lv_at hl 1 rfl) ?_
  refine lv_aload_n hx hb dX0_nextState_37 rfl (lv_at hl 1 rfl) ?_
  obtain ⟨x24, x26, x27, e28, h25⟩ := (show okX0 ad 5 (f 5) from hT.1 5 (by decide))
  refine va_get (D := D) (cl := vwCl) (ci := 0) (v := .int x26) (C := RX0) (T := TX0) (N := 4) hx hb hts in_X0_nextState_X0 hown hK hP 5 (wl_at (by decide) e28) rfl 2 (by decide) (hts (.fieldLink RX0 26 "EightReasons$Acts" "undoable" "I") (List.mem_of_getElem? (i := 3) rfl)) (fun _ h9 => h9) rfl dX0_nextState_38 ?_
  refine lv_iconst (v := 1) hx hb dX0_nextState_41 (by decide) ?_
  refine lv_iadd hx hb dX0_nextState_42 ?_
  refine lv_topi (fun x29 ex29 => ?_)
  refine lv_bipush (v := 40) hx hb dX0_nextState_43 (by decide) ?_
  have ttl_40 := tl_40
  refine va_mmin hx hb (hml.trans hl.1.symm) hown (hts (.methodLink RX0 29 Lib.Math.min.name) (List.mem_of_getElem? (i := 4) rfl)) (hts (.static Lib.Math.min.name) (List.mem_of_getElem? (i := 5) rfl)) (hts (.initialized "java/lang/Math") (List.mem_of_getElem? (i := 6) rfl)) (hts (.code Lib.Math.min.name Lib.Math.min.code 2 (some .int)) (List.mem_of_getElem? (i := 7) rfl)) (Nat.le_of_ble_eq_true rfl) (Nat.le_of_ble_eq_true rfl) (Nat.le_of_ble_eq_true rfl) (Nat.le_of_ble_eq_true rfl) dX0_nextState_45 ?_
  refine lv_topi (fun x30 ex30 => ?_)
  have hx30 := r_min ex30
  refine va_put (D := D) (cl := vwCl) (ci := 0) (v := .int x30) (ty := tyX0 2) (C := RX0) (T := TX0) (N := 4) hx hb hts in_X0_nextState_X0 tyX0 tyX0_ok nmX0 hown hK hP hD hS 5 (wl_at (by decide) e28) rfl 2 (by decide) (hts (.fieldLink RX0 26 "EightReasons$Acts" "undoable" "I") (List.mem_of_getElem? (i := 3) rfl)) (fun _ h9 => h9) rfl (tyX0_ok 2 (by decide)) rfl rfl (Nat.le_of_ble_eq_true rfl) dX0_nextState_48 (fun H locs hP hD hS => ?_)
  obtain ⟨f, hT, hP, hD, e31, hj32⟩ := stU (by decide) (TYx.up hT (by decide) (show OKx ad cy tx rby rnx 5 _ from (show okX0 ad 5 _ from ⟨x24, x30, x27, rfl, by omega⟩))) hP hD
  refine lv_aload_n hx hb dX0_nextState_51 rfl (lv_at hl 1 rfl) ?_
  refine lv_iconst (v := 0) hx hb dX0_nextState_52 (by decide) ?_
  refine va_put (D := D) (cl := vwCl) (ci := 0) (v := .int 0) (ty := tyX0 3) (C := RX0) (T := TX0) (N := 4) hx hb hts in_X0_nextState_X0 tyX0 tyX0_ok nmX0 hown hK hP hD hS 5 (wl_at (by decide) e31) rfl 3 (by decide) (hts (.fieldLink RX0 35 "EightReasons$Acts" "redoable" "I") (List.mem_of_getElem? (i := 8) rfl)) (fun _ h9 => h9) rfl (tyX0_ok 3 (by decide)) rfl rfl (Nat.le_of_ble_eq_true rfl) dX0_nextState_53 (fun H locs hP hD hS => ?_)
  obtain ⟨f, hT, hP, hD, e33, hj34⟩ := stU (by decide) (TYx.up hT (by decide) (show OKx ad cy tx rby rnx 5 _ from (show okX0 ad 5 _ from ⟨x24, x30, (0 : Int32), rfl, by omega⟩))) hP hD
  refine lv_aload_n hx hb dX0_nextState_56 rfl (lv_at hl 1 rfl) ?_
  refine va_get (D := D) (cl := vwCl) (ci := 0) (v := .ref (ad 6)) (C := RX0) (T := TX0) (N := 4) hx hb hts in_X0_nextState_X0 hown hK hP 5 (wl_at (by decide) e33) rfl 0 (by decide) (hts (.fieldLink RX0 13 "EightReasons$Acts" "states" "[LEightReasons$State;") (List.mem_of_getElem? (i := 1) rfl)) (fun _ h9 => h9) rfl dX0_nextState_57 ?_
  refine lv_aload_n hx hb dX0_nextState_60 rfl (lv_at hl 1 rfl) ?_
  refine va_get (D := D) (cl := vwCl) (ci := 0) (v := .int x24) (C := RX0) (T := TX0) (N := 4) hx hb hts in_X0_nextState_X0 hown hK hP 5 (wl_at (by decide) e33) rfl 1 (by decide) (hts (.fieldLink RX0 18 "EightReasons$Acts" "at" "I") (List.mem_of_getElem? (i := 2) rfl)) (fun _ h9 => h9) rfl dX0_nextState_61 ?_
  obtain ⟨g37, e35, h36⟩ := (show okS ad cy 41 60 (f 6) from hT.1 6 (by decide))
  have h39 := clampN (n := 41) (x := x24) (by omega) (by omega)
  refine va_aldq (C := RX4) hx hb hK hP 6 4 (wl_at (by decide) e35) rfl (vp_in_iff.mpr ⟨by omega, by omega⟩) dX0_nextState_64 (tpr (v := ad (60 + 2 * Int32.toNatClampNeg x24)) (h36 _ h39) ?_)
  have h38 : isState (60 + 2 * Int32.toNatClampNeg x24) := Or.inr ⟨0 + Int32.toNatClampNeg x24, by omega, by omega⟩
  exact tR hx hb hr hlk hP hS ⟨trivial, hT⟩ ⟨(60 + 2 * Int32.toNatClampNeg x24), h38, rfl⟩ dX0_nextState_65
