theorem dX0_state_0 : decode cX0_state 0 = .ok (.aload_n 0, 1) := by decide +kernel
theorem dX0_state_1 : decode cX0_state 1 = .ok (.getfield 13, 3) := by decide +kernel
theorem dX0_state_4 : decode cX0_state 4 = .ok (.aload_n 0, 1) := by decide +kernel
theorem dX0_state_5 : decode cX0_state 5 = .ok (.getfield 18, 3) := by decide +kernel
theorem dX0_state_8 : decode cX0_state 8 = .ok (.aaload, 1) := by decide +kernel
theorem dX0_state_9 : decode cX0_state 9 = .ok (.areturn, 1) := by decide +kernel
set_option maxRecDepth 20000 in
theorem ggX0_nextState_X4_copy : GoodIn wsX0_nextState wsX4_copy := goodIn_r _ [13, 14, 15, 16, 17, 18, 19, 20, 21, 22, 27, 28, 29, 30, 31] (by decide +kernel) (by decide +kernel)
set_option maxRecDepth 20000 in
theorem gX0_nextState_X4_copy : GoodIn wsX0_nextState (wsV RX0 22 RX4 yX4_copy wsX4_copy) := goodIn_app (goodIn_of _ (by decide +kernel)) ggX0_nextState_X4_copy
theorem dX0_nextState_0 : decode cX0_nextState 0 = .ok (.aload_n 0, 1) := by decide +kernel
theorem dX0_nextState_1 : decode cX0_nextState 1 = .ok (.getfield 13, 3) := by decide +kernel
theorem dX0_nextState_4 : decode cX0_nextState 4 = .ok (.aload_n 0, 1) := by decide +kernel
theorem dX0_nextState_5 : decode cX0_nextState 5 = .ok (.getfield 18, 3) := by decide +kernel
theorem dX0_nextState_8 : decode cX0_nextState 8 = .ok (.aaload, 1) := by decide +kernel
theorem dX0_nextState_9 : decode cX0_nextState 9 = .ok (.astore_n 1, 1) := by decide +kernel
theorem dX0_nextState_10 : decode cX0_nextState 10 = .ok (.aload_n 0, 1) := by decide +kernel
theorem dX0_nextState_11 : decode cX0_nextState 11 = .ok (.aload_n 0, 1) := by decide +kernel
theorem dX0_nextState_12 : decode cX0_nextState 12 = .ok (.getfield 18, 3) := by decide +kernel
theorem dX0_nextState_15 : decode cX0_nextState 15 = .ok (.iconst 1, 1) := by decide +kernel
theorem dX0_nextState_16 : decode cX0_nextState 16 = .ok (.iadd, 1) := by decide +kernel
theorem dX0_nextState_17 : decode cX0_nextState 17 = .ok (.bipush 41, 2) := by decide +kernel
theorem dX0_nextState_19 : decode cX0_nextState 19 = .ok (.irem, 1) := by decide +kernel
theorem dX0_nextState_20 : decode cX0_nextState 20 = .ok (.putfield 18, 3) := by decide +kernel
theorem dX0_nextState_23 : decode cX0_nextState 23 = .ok (.aload_n 0, 1) := by decide +kernel
theorem dX0_nextState_24 : decode cX0_nextState 24 = .ok (.getfield 13, 3) := by decide +kernel
theorem dX0_nextState_27 : decode cX0_nextState 27 = .ok (.aload_n 0, 1) := by decide +kernel
theorem dX0_nextState_28 : decode cX0_nextState 28 = .ok (.getfield 18, 3) := by decide +kernel
theorem dX0_nextState_31 : decode cX0_nextState 31 = .ok (.aaload, 1) := by decide +kernel
theorem dX0_nextState_32 : decode cX0_nextState 32 = .ok (.aload_n 1, 1) := by decide +kernel
theorem dX0_nextState_33 : decode cX0_nextState 33 = .ok (.invokevirtual 22, 3) := by decide +kernel
theorem dX0_nextState_36 : decode cX0_nextState 36 = .ok (.aload_n 0, 1) := by decide +kernel
theorem dX0_nextState_37 : decode cX0_nextState 37 = .ok (.aload_n 0, 1) := by decide +kernel
theorem dX0_nextState_38 : decode cX0_nextState 38 = .ok (.getfield 26, 3) := by decide +kernel
theorem dX0_nextState_41 : decode cX0_nextState 41 = .ok (.iconst 1, 1) := by decide +kernel
theorem dX0_nextState_42 : decode cX0_nextState 42 = .ok (.iadd, 1) := by decide +kernel
theorem dX0_nextState_43 : decode cX0_nextState 43 = .ok (.bipush 40, 2) := by decide +kernel
theorem dX0_nextState_45 : decode cX0_nextState 45 = .ok (.invokestatic 29, 3) := by decide +kernel
theorem dX0_nextState_48 : decode cX0_nextState 48 = .ok (.putfield 26, 3) := by decide +kernel
theorem dX0_nextState_51 : decode cX0_nextState 51 = .ok (.aload_n 0, 1) := by decide +kernel
theorem dX0_nextState_52 : decode cX0_nextState 52 = .ok (.iconst 0, 1) := by decide +kernel
theorem dX0_nextState_53 : decode cX0_nextState 53 = .ok (.putfield 35, 3) := by decide +kernel
theorem dX0_nextState_56 : decode cX0_nextState 56 = .ok (.aload_n 0, 1) := by decide +kernel
theorem dX0_nextState_57 : decode cX0_nextState 57 = .ok (.getfield 13, 3) := by decide +kernel
theorem dX0_nextState_60 : decode cX0_nextState 60 = .ok (.aload_n 0, 1) := by decide +kernel
theorem dX0_nextState_61 : decode cX0_nextState 61 = .ok (.getfield 18, 3) := by decide +kernel
theorem dX0_nextState_64 : decode cX0_nextState 64 = .ok (.aaload, 1) := by decide +kernel
theorem dX0_nextState_65 : decode cX0_nextState 65 = .ok (.areturn, 1) := by decide +kernel
theorem dX0_goBack_0 : decode cX0_goBack 0 = .ok (.aload_n 0, 1) := by decide +kernel
theorem dX0_goBack_1 : decode cX0_goBack 1 = .ok (.getfield 26, 3) := by decide +kernel
theorem dX0_goBack_4 : decode cX0_goBack 4 = .ok (.ifCond .ne 5, 3) := by decide +kernel
theorem dX0_goBack_7 : decode cX0_goBack 7 = .ok (.iconst 0, 1) := by decide +kernel
theorem dX0_goBack_8 : decode cX0_goBack 8 = .ok (.ireturn, 1) := by decide +kernel
theorem dX0_goOn_0 : decode cX0_goOn 0 = .ok (.aload_n 0, 1) := by decide +kernel
theorem dX0_goOn_1 : decode cX0_goOn 1 = .ok (.getfield 35, 3) := by decide +kernel
theorem dX0_goOn_4 : decode cX0_goOn 4 = .ok (.ifCond .ne 5, 3) := by decide +kernel
theorem dX0_goOn_7 : decode cX0_goOn 7 = .ok (.iconst 0, 1) := by decide +kernel
theorem dX0_goOn_8 : decode cX0_goOn 8 = .ok (.ireturn, 1) := by decide +kernel
theorem dX0_forget_0 : decode cX0_forget 0 = .ok (.aload_n 0, 1) := by decide +kernel
theorem dX0_forget_1 : decode cX0_forget 1 = .ok (.iconst 0, 1) := by decide +kernel
theorem dX0_forget_2 : decode cX0_forget 2 = .ok (.putfield 26, 3) := by decide +kernel
theorem dX0_forget_5 : decode cX0_forget 5 = .ok (.aload_n 0, 1) := by decide +kernel
theorem dX0_forget_6 : decode cX0_forget 6 = .ok (.iconst 0, 1) := by decide +kernel
theorem dX0_forget_7 : decode cX0_forget 7 = .ok (.putfield 35, 3) := by decide +kernel
theorem dX0_forget_10 : decode cX0_forget 10 = .ok (.return_, 1) := by decide +kernel
theorem dX2_take_0 : decode cX2_take 0 = .ok (.aload_n 0, 1) := by decide +kernel
theorem dX2_take_1 : decode cX2_take 1 = .ok (.aload_n 1, 1) := by decide +kernel
theorem dX2_take_2 : decode cX2_take 2 = .ok (.putfield 24, 3) := by decide +kernel
theorem dX2_take_5 : decode cX2_take 5 = .ok (.aload_n 0, 1) := by decide +kernel
theorem dX2_take_6 : decode cX2_take 6 = .ok (.aload_n 1, 1) := by decide +kernel
theorem dX2_take_7 : decode cX2_take 7 = .ok (.getfield 37, 3) := by decide +kernel
theorem dX2_take_10 : decode cX2_take 10 = .ok (.aload_n 2, 1) := by decide +kernel
theorem dX2_take_11 : decode cX2_take 11 = .ok (.getfield 41, 3) := by decide +kernel
theorem dX2_take_14 : decode cX2_take 14 = .ok (.iconst (-1), 1) := by decide +kernel
theorem dX2_take_15 : decode cX2_take 15 = .ok (.ixor, 1) := by decide +kernel
theorem dX2_take_16 : decode cX2_take 16 = .ok (.iand, 1) := by decide +kernel
theorem dX2_take_17 : decode cX2_take 17 = .ok (.putfield 46, 3) := by decide +kernel
theorem dX2_take_20 : decode cX2_take 20 = .ok (.aload_n 0, 1) := by decide +kernel
theorem dX2_take_21 : decode cX2_take 21 = .ok (.aload_n 2, 1) := by decide +kernel
theorem dX2_take_22 : decode cX2_take 22 = .ok (.getfield 49, 3) := by decide +kernel
theorem dX2_take_25 : decode cX2_take 25 = .ok (.putfield 52, 3) := by decide +kernel
theorem dX2_take_28 : decode cX2_take 28 = .ok (.aload_n 2, 1) := by decide +kernel
theorem dX2_take_29 : decode cX2_take 29 = .ok (.getfield 53, 3) := by decide +kernel
theorem dX2_take_32 : decode cX2_take 32 = .ok (.iconst 0, 1) := by decide +kernel
theorem dX2_take_33 : decode cX2_take 33 = .ok (.aload_n 0, 1) := by decide +kernel
theorem dX2_take_34 : decode cX2_take 34 = .ok (.getfield 28, 3) := by decide +kernel
theorem dX2_take_37 : decode cX2_take 37 = .ok (.iconst 0, 1) := by decide +kernel
theorem dX2_take_38 : decode cX2_take 38 = .ok (.bipush 12, 2) := by decide +kernel
theorem dX2_take_40 : decode cX2_take 40 = .ok (.invokestatic 54, 3) := by decide +kernel
theorem dX2_take_43 : decode cX2_take 43 = .ok (.aload_n 1, 1) := by decide +kernel
theorem dX2_take_44 : decode cX2_take 44 = .ok (.getfield 60, 3) := by decide +kernel
theorem dX2_take_47 : decode cX2_take 47 = .ok (.iconst 0, 1) := by decide +kernel
theorem dX2_take_48 : decode cX2_take 48 = .ok (.aload_n 0, 1) := by decide +kernel
theorem dX2_take_49 : decode cX2_take 49 = .ok (.getfield 31, 3) := by decide +kernel
theorem dX2_take_52 : decode cX2_take 52 = .ok (.iconst 0, 1) := by decide +kernel
theorem dX2_take_53 : decode cX2_take 53 = .ok (.bipush 10, 2) := by decide +kernel
theorem dX2_take_55 : decode cX2_take 55 = .ok (.invokestatic 54, 3) := by decide +kernel
theorem dX2_take_58 : decode cX2_take 58 = .ok (.aload_n 0, 1) := by decide +kernel
theorem dX2_take_59 : decode cX2_take 59 = .ok (.dup, 1) := by decide +kernel
theorem dX2_take_60 : decode cX2_take 60 = .ok (.getfield 61, 3) := by decide +kernel
theorem dX2_take_63 : decode cX2_take 63 = .ok (.iconst 1, 1) := by decide +kernel
theorem dX2_take_64 : decode cX2_take 64 = .ok (.iadd, 1) := by decide +kernel
theorem dX2_take_65 : decode cX2_take 65 = .ok (.putfield 61, 3) := by decide +kernel
theorem dX2_take_68 : decode cX2_take 68 = .ok (.return_, 1) := by decide +kernel
theorem dX2_weaken_0 : decode cX2_weaken 0 = .ok (.iconst 0, 1) := by decide +kernel
theorem dX2_weaken_1 : decode cX2_weaken 1 = .ok (.istore_n 2, 1) := by decide +kernel
theorem dX2_weaken_2 : decode cX2_weaken 2 = .ok (.iload_n 2, 1) := by decide +kernel
theorem dX2_weaken_3 : decode cX2_weaken 3 = .ok (.bipush 12, 2) := by decide +kernel
theorem dX2_weaken_5 : decode cX2_weaken 5 = .ok (.if_icmp .ge 27, 3) := by decide +kernel
theorem dX2_weaken_8 : decode cX2_weaken 8 = .ok (.aload_n 0, 1) := by decide +kernel
theorem dX2_weaken_9 : decode cX2_weaken 9 = .ok (.getfield 28, 3) := by decide +kernel
theorem dX2_weaken_12 : decode cX2_weaken 12 = .ok (.iload_n 2, 1) := by decide +kernel
theorem dX2_weaken_13 : decode cX2_weaken 13 = .ok (.iconst 0, 1) := by decide +kernel
theorem dX2_weaken_14 : decode cX2_weaken 14 = .ok (.aload_n 0, 1) := by decide +kernel
theorem dX2_weaken_15 : decode cX2_weaken 15 = .ok (.getfield 28, 3) := by decide +kernel
theorem dX2_weaken_18 : decode cX2_weaken 18 = .ok (.iload_n 2, 1) := by decide +kernel
theorem dX2_weaken_19 : decode cX2_weaken 19 = .ok (.iaload, 1) := by decide +kernel
theorem dX2_weaken_20 : decode cX2_weaken 20 = .ok (.iload_n 1, 1) := by decide +kernel
theorem dX2_weaken_21 : decode cX2_weaken 21 = .ok (.isub, 1) := by decide +kernel
theorem dX2_weaken_22 : decode cX2_weaken 22 = .ok (.invokestatic 68, 3) := by decide +kernel
theorem dX2_weaken_25 : decode cX2_weaken 25 = .ok (.iastore, 1) := by decide +kernel
theorem dX2_weaken_26 : decode cX2_weaken 26 = .ok (.iinc 2 1, 3) := by decide +kernel
theorem dX2_weaken_29 : decode cX2_weaken 29 = .ok (.goto (-27), 3) := by decide +kernel
theorem dX2_weaken_32 : decode cX2_weaken 32 = .ok (.aload_n 0, 1) := by decide +kernel
theorem dX2_weaken_33 : decode cX2_weaken 33 = .ok (.dup, 1) := by decide +kernel
theorem dX2_weaken_34 : decode cX2_weaken 34 = .ok (.getfield 61, 3) := by decide +kernel
theorem dX2_weaken_37 : decode cX2_weaken 37 = .ok (.iconst 1, 1) := by decide +kernel
theorem dX2_weaken_38 : decode cX2_weaken 38 = .ok (.iadd, 1) := by decide +kernel
theorem dX2_weaken_39 : decode cX2_weaken 39 = .ok (.putfield 61, 3) := by decide +kernel
theorem dX2_weaken_42 : decode cX2_weaken 42 = .ok (.return_, 1) := by decide +kernel
theorem dX2_weigh_0 : decode cX2_weigh 0 = .ok (.iconst 0, 1) := by decide +kernel
theorem dX2_weigh_1 : decode cX2_weigh 1 = .ok (.istore_n 2, 1) := by decide +kernel
theorem dX2_weigh_2 : decode cX2_weigh 2 = .ok (.iload_n 2, 1) := by decide +kernel
theorem dX2_weigh_3 : decode cX2_weigh 3 = .ok (.aload_n 0, 1) := by decide +kernel
theorem dX2_weigh_4 : decode cX2_weigh 4 = .ok (.getfield 24, 3) := by decide +kernel
theorem dX2_weigh_7 : decode cX2_weigh 7 = .ok (.getfield 74, 3) := by decide +kernel
theorem dX2_weigh_10 : decode cX2_weigh 10 = .ok (.if_icmp .ge 52, 3) := by decide +kernel
theorem dX2_weigh_62 : decode cX2_weigh 62 = .ok (.return_, 1) := by decide +kernel
set_option maxRecDepth 20000 in
theorem ggX2_standing_X2_weigh : GoodIn wsX2_standing wsX2_weigh := goodIn_r _ [7, 2, 8, 9, 10, 11, 12, 13, 14, 15, 16, 6, 17, 18, 19, 20, 21, 22, 23, 24, 25, 26, 27, 28, 29, 30, 31, 32, 33, 34, 35, 36, 37, 38, 39, 40, 41, 42, 43, 44, 45, 46, 47, 48, 49, 50, 51, 52, 53, 54, 55, 56, 57, 58, 59, 60, 61, 62, 63, 64, 65, 92, 93, 94, 95, 96, 97, 98, 99, 100, 101, 102, 103, 104, 105, 106, 107, 108, 109, 110, 111, 112, 113, 114, 115, 116, 117, 118, 119] (by decide +kernel) (by decide +kernel)
set_option maxRecDepth 20000 in
theorem gX2_standing_X2_weigh : GoodIn wsX2_standing (wsV RX2 118 RX2 yX2_weigh wsX2_weigh) := goodIn_app (goodIn_of _ (by decide +kernel)) ggX2_standing_X2_weigh
set_option maxRecDepth 20000 in
theorem ggX2_standing_X2_clearSums : GoodIn wsX2_standing wsX2_clearSums := goodIn_r _ [69, 70, 92, 93, 94, 95, 96, 97, 98, 99, 100, 101] (by decide +kernel) (by decide +kernel)
set_option maxRecDepth 20000 in
theorem gX2_standing_X2_clearSums : GoodIn wsX2_standing (wsV RX2 122 RX2 yX2_clearSums wsX2_clearSums) := goodIn_app (goodIn_of _ (by decide +kernel)) ggX2_standing_X2_clearSums
set_option maxRecDepth 20000 in
theorem ggX2_standing_X2_rankAs : GoodIn wsX2_standing wsX2_rankAs := goodIn_r _ [74, 2, 75, 76, 11, 12, 13, 92, 93, 94, 95, 96, 97, 98, 99, 100, 101, 102, 103, 104, 105, 106, 107, 108, 109, 110, 111, 112, 113] (by decide +kernel) (by decide +kernel)
set_option maxRecDepth 20000 in
theorem gX2_standing_X2_rankAs : GoodIn wsX2_standing (wsV RX2 125 RX2 yX2_rankAs wsX2_rankAs) := goodIn_app (goodIn_of _ (by decide +kernel)) ggX2_standing_X2_rankAs
set_option maxRecDepth 20000 in
theorem ggX2_standing_X2_addFrom : GoodIn wsX2_standing wsX2_addFrom := goodIn_r _ [80, 2, 8, 23, 70, 20, 10, 11, 12, 13, 92, 93, 94, 95, 96, 97, 98, 99, 100, 101, 102, 103, 104, 105, 106, 107, 108, 109, 110, 111, 112, 113] (by decide +kernel) (by decide +kernel)
set_option maxRecDepth 20000 in
theorem gX2_standing_X2_addFrom : GoodIn wsX2_standing (wsV RX2 129 RX2 yX2_addFrom wsX2_addFrom) := goodIn_app (goodIn_of _ (by decide +kernel)) ggX2_standing_X2_addFrom
set_option maxRecDepth 20000 in
theorem ggX2_standing_X5_claims : GoodIn wsX2_standing wsX5_claims := goodIn_r _ [85, 86, 87, 102, 103, 104, 105, 106, 107, 108, 109, 110, 111, 112, 113] (by decide +kernel) (by decide +kernel)
set_option maxRecDepth 20000 in
theorem gX2_standing_X5_claims : GoodIn wsX2_standing (wsV RX2 132 RX5 yX5_claims wsX5_claims) := goodIn_app (goodIn_of _ (by decide +kernel)) ggX2_standing_X5_claims
set_option maxRecDepth 20000 in
theorem ggX2_standing_X2_enough : GoodIn wsX2_standing wsX2_enough := goodIn_r _ [91, 2, 75, 70, 26, 11, 12, 13, 92, 93, 94, 95, 96, 97, 98, 99, 100, 101, 102, 103, 104, 105, 106, 107, 108, 109, 110, 111, 112, 113] (by decide +kernel) (by decide +kernel)
set_option maxRecDepth 20000 in
theorem gX2_standing_X2_enough : GoodIn wsX2_standing (wsV RX2 136 RX2 yX2_enough wsX2_enough) := goodIn_app (goodIn_of _ (by decide +kernel)) ggX2_standing_X2_enough
theorem dX2_standing_0 : decode cX2_standing 0 = .ok (.aload_n 0, 1) := by decide +kernel
theorem dX2_standing_1 : decode cX2_standing 1 = .ok (.iload_n 1, 1) := by decide +kernel
theorem dX2_standing_2 : decode cX2_standing 2 = .ok (.invokevirtual 118, 3) := by decide +kernel
theorem dX2_standing_5 : decode cX2_standing 5 = .ok (.aload_n 0, 1) := by decide +kernel
theorem dX2_standing_6 : decode cX2_standing 6 = .ok (.invokevirtual 122, 3) := by decide +kernel
theorem dX2_standing_9 : decode cX2_standing 9 = .ok (.aload_n 0, 1) := by decide +kernel
theorem dX2_standing_10 : decode cX2_standing 10 = .ok (.getfield 46, 3) := by decide +kernel
theorem dX2_standing_13 : decode cX2_standing 13 = .ok (.istore_n 2, 1) := by decide +kernel
theorem dX2_standing_14 : decode cX2_standing 14 = .ok (.aload_n 0, 1) := by decide +kernel
theorem dX2_standing_15 : decode cX2_standing 15 = .ok (.getfield 46, 3) := by decide +kernel
theorem dX2_standing_18 : decode cX2_standing 18 = .ok (.istore_n 3, 1) := by decide +kernel
theorem dX2_standing_19 : decode cX2_standing 19 = .ok (.aload_n 0, 1) := by decide +kernel
theorem dX2_standing_20 : decode cX2_standing 20 = .ok (.iconst 0, 1) := by decide +kernel
theorem dX2_standing_21 : decode cX2_standing 21 = .ok (.iload_n 3, 1) := by decide +kernel
theorem dX2_standing_22 : decode cX2_standing 22 = .ok (.invokevirtual 125, 3) := by decide +kernel
theorem dX2_standing_25 : decode cX2_standing 25 = .ok (.iconst 1, 1) := by decide +kernel
theorem dX2_standing_26 : decode cX2_standing 26 = .ok (.istore 4, 2) := by decide +kernel
theorem dX2_standing_28 : decode cX2_standing 28 = .ok (.iload 4, 2) := by decide +kernel
theorem dX2_standing_30 : decode cX2_standing 30 = .ok (.bipush 11, 2) := by decide +kernel
theorem dX2_standing_32 : decode cX2_standing 32 = .ok (.if_icmp .gt 48, 3) := by decide +kernel
theorem dX2_standing_35 : decode cX2_standing 35 = .ok (.aload_n 0, 1) := by decide +kernel
theorem dX2_standing_36 : decode cX2_standing 36 = .ok (.iload_n 3, 1) := by decide +kernel
theorem dX2_standing_37 : decode cX2_standing 37 = .ok (.invokevirtual 129, 3) := by decide +kernel
theorem dX2_standing_40 : decode cX2_standing 40 = .ok (.aload_n 0, 1) := by decide +kernel
theorem dX2_standing_41 : decode cX2_standing 41 = .ok (.aload_n 0, 1) := by decide +kernel
theorem dX2_standing_42 : decode cX2_standing 42 = .ok (.getfield 24, 3) := by decide +kernel
theorem dX2_standing_45 : decode cX2_standing 45 = .ok (.invokevirtual 132, 3) := by decide +kernel
theorem dX2_standing_48 : decode cX2_standing 48 = .ok (.iload_n 2, 1) := by decide +kernel
theorem dX2_standing_49 : decode cX2_standing 49 = .ok (.iconst (-1), 1) := by decide +kernel
theorem dX2_standing_50 : decode cX2_standing 50 = .ok (.ixor, 1) := by decide +kernel
theorem dX2_standing_51 : decode cX2_standing 51 = .ok (.iand, 1) := by decide +kernel
theorem dX2_standing_52 : decode cX2_standing 52 = .ok (.invokevirtual 136, 3) := by decide +kernel
theorem dX2_standing_55 : decode cX2_standing 55 = .ok (.istore_n 3, 1) := by decide +kernel
theorem dX2_standing_56 : decode cX2_standing 56 = .ok (.iload_n 3, 1) := by decide +kernel
theorem dX2_standing_57 : decode cX2_standing 57 = .ok (.ifCond .ne 6, 3) := by decide +kernel
theorem dX2_standing_60 : decode cX2_standing 60 = .ok (.goto 20, 3) := by decide +kernel
theorem dX2_standing_80 : decode cX2_standing 80 = .ok (.iload_n 2, 1) := by decide +kernel
theorem dX2_standing_81 : decode cX2_standing 81 = .ok (.ireturn, 1) := by decide +kernel
set_option maxRecDepth 20000 in
theorem ggX2_greatest_X2_weigh : GoodIn wsX2_greatest wsX2_weigh := goodIn_r _ [7, 1, 8, 9, 10, 11, 12, 13, 14, 15, 16, 6, 17, 18, 19, 20, 21, 22, 23, 24, 25, 26, 27, 28, 29, 30, 31, 32, 33, 34, 35, 36, 37, 38, 39, 40, 41, 42, 43, 44, 45, 46, 47, 48, 49, 50, 51, 52, 53, 54, 55, 56, 57, 58, 59, 60, 61, 62, 63, 64, 65, 87, 88, 89, 90, 91, 92, 93, 94, 95, 96, 97, 98, 99, 100, 101, 102, 103, 104, 105, 106, 107, 108, 109, 110, 111, 112, 113, 114] (by decide +kernel) (by decide +kernel)
set_option maxRecDepth 20000 in
theorem gX2_greatest_X2_weigh : GoodIn wsX2_greatest (wsV RX2 118 RX2 yX2_weigh wsX2_weigh) := goodIn_app (goodIn_of _ (by decide +kernel)) ggX2_greatest_X2_weigh
set_option maxRecDepth 20000 in
theorem ggX2_greatest_X5_claims : GoodIn wsX2_greatest wsX5_claims := goodIn_r _ [70, 71, 72, 97, 98, 99, 100, 101, 102, 103, 104, 105, 106, 107, 108] (by decide +kernel) (by decide +kernel)
set_option maxRecDepth 20000 in
theorem gX2_greatest_X5_claims : GoodIn wsX2_greatest (wsV RX2 132 RX5 yX5_claims wsX5_claims) := goodIn_app (goodIn_of _ (by decide +kernel)) ggX2_greatest_X5_claims
set_option maxRecDepth 20000 in
theorem ggX2_greatest_X2_clearSums : GoodIn wsX2_greatest wsX2_clearSums := goodIn_r _ [76, 77, 87, 88, 89, 90, 91, 92, 93, 94, 95, 96] (by decide +kernel) (by decide +kernel)
set_option maxRecDepth 20000 in
theorem gX2_greatest_X2_clearSums : GoodIn wsX2_greatest (wsV RX2 122 RX2 yX2_clearSums wsX2_clearSums) := goodIn_app (goodIn_of _ (by decide +kernel)) ggX2_greatest_X2_clearSums
set_option maxRecDepth 20000 in
theorem ggX2_greatest_X2_addFrom : GoodIn wsX2_greatest wsX2_addFrom := goodIn_r _ [81, 1, 8, 23, 77, 20, 10, 11, 12, 13, 87, 88, 89, 90, 91, 92, 93, 94, 95, 96, 97, 98, 99, 100, 101, 102, 103, 104, 105, 106, 107, 108] (by decide +kernel) (by decide +kernel)
set_option maxRecDepth 20000 in
theorem gX2_greatest_X2_addFrom : GoodIn wsX2_greatest (wsV RX2 129 RX2 yX2_addFrom wsX2_addFrom) := goodIn_app (goodIn_of _ (by decide +kernel)) ggX2_greatest_X2_addFrom
set_option maxRecDepth 20000 in
theorem ggX2_greatest_X2_enough : GoodIn wsX2_greatest wsX2_enough := goodIn_r _ [85, 1, 86, 77, 26, 11, 12, 13, 87, 88, 89, 90, 91, 92, 93, 94, 95, 96, 97, 98, 99, 100, 101, 102, 103, 104, 105, 106, 107, 108] (by decide +kernel) (by decide +kernel)
set_option maxRecDepth 20000 in
theorem gX2_greatest_X2_enough : GoodIn wsX2_greatest (wsV RX2 136 RX2 yX2_enough wsX2_enough) := goodIn_app (goodIn_of _ (by decide +kernel)) ggX2_greatest_X2_enough
theorem dX2_greatest_0 : decode cX2_greatest 0 = .ok (.aload_n 0, 1) := by decide +kernel
theorem dX2_greatest_1 : decode cX2_greatest 1 = .ok (.iload_n 1, 1) := by decide +kernel
theorem dX2_greatest_2 : decode cX2_greatest 2 = .ok (.invokevirtual 118, 3) := by decide +kernel
theorem dX2_greatest_5 : decode cX2_greatest 5 = .ok (.aload_n 0, 1) := by decide +kernel
theorem dX2_greatest_6 : decode cX2_greatest 6 = .ok (.getfield 24, 3) := by decide +kernel
theorem dX2_greatest_9 : decode cX2_greatest 9 = .ok (.invokevirtual 132, 3) := by decide +kernel
theorem dX2_greatest_12 : decode cX2_greatest 12 = .ok (.istore_n 2, 1) := by decide +kernel
theorem dX2_greatest_13 : decode cX2_greatest 13 = .ok (.iconst 0, 1) := by decide +kernel
theorem dX2_greatest_14 : decode cX2_greatest 14 = .ok (.istore_n 3, 1) := by decide +kernel
theorem dX2_greatest_15 : decode cX2_greatest 15 = .ok (.iload_n 3, 1) := by decide +kernel
theorem dX2_greatest_16 : decode cX2_greatest 16 = .ok (.bipush 10, 2) := by decide +kernel
theorem dX2_greatest_18 : decode cX2_greatest 18 = .ok (.if_icmp .gt 29, 3) := by decide +kernel
theorem dX2_greatest_21 : decode cX2_greatest 21 = .ok (.aload_n 0, 1) := by decide +kernel
theorem dX2_greatest_22 : decode cX2_greatest 22 = .ok (.invokevirtual 122, 3) := by decide +kernel
theorem dX2_greatest_25 : decode cX2_greatest 25 = .ok (.aload_n 0, 1) := by decide +kernel
theorem dX2_greatest_26 : decode cX2_greatest 26 = .ok (.aload_n 0, 1) := by decide +kernel
theorem dX2_greatest_27 : decode cX2_greatest 27 = .ok (.getfield 46, 3) := by decide +kernel
theorem dX2_greatest_30 : decode cX2_greatest 30 = .ok (.iload_n 2, 1) := by decide +kernel
theorem dX2_greatest_31 : decode cX2_greatest 31 = .ok (.ior, 1) := by decide +kernel
theorem dX2_greatest_32 : decode cX2_greatest 32 = .ok (.invokevirtual 129, 3) := by decide +kernel
theorem dX2_greatest_35 : decode cX2_greatest 35 = .ok (.aload_n 0, 1) := by decide +kernel
theorem dX2_greatest_36 : decode cX2_greatest 36 = .ok (.iload_n 2, 1) := by decide +kernel
theorem dX2_greatest_37 : decode cX2_greatest 37 = .ok (.invokevirtual 136, 3) := by decide +kernel
theorem dX2_greatest_40 : decode cX2_greatest 40 = .ok (.istore_n 2, 1) := by decide +kernel
theorem dX2_greatest_41 : decode cX2_greatest 41 = .ok (.iinc 3 1, 3) := by decide +kernel
theorem dX2_greatest_44 : decode cX2_greatest 44 = .ok (.goto (-29), 3) := by decide +kernel
theorem dX2_greatest_47 : decode cX2_greatest 47 = .ok (.aload_n 0, 1) := by decide +kernel
theorem dX2_greatest_48 : decode cX2_greatest 48 = .ok (.getfield 46, 3) := by decide +kernel
theorem dX2_greatest_51 : decode cX2_greatest 51 = .ok (.iload_n 2, 1) := by decide +kernel
theorem dX2_greatest_52 : decode cX2_greatest 52 = .ok (.ior, 1) := by decide +kernel
theorem dX2_greatest_53 : decode cX2_greatest 53 = .ok (.ireturn, 1) := by decide +kernel
theorem dX2_clearSums_0 : decode cX2_clearSums 0 = .ok (.iconst 0, 1) := by decide +kernel
theorem dX2_clearSums_1 : decode cX2_clearSums 1 = .ok (.istore_n 1, 1) := by decide +kernel
theorem dX2_clearSums_2 : decode cX2_clearSums 2 = .ok (.iload_n 1, 1) := by decide +kernel
theorem dX2_clearSums_3 : decode cX2_clearSums 3 = .ok (.bipush 10, 2) := by decide +kernel
theorem dX2_clearSums_5 : decode cX2_clearSums 5 = .ok (.if_icmp .ge 16, 3) := by decide +kernel
theorem dX2_clearSums_8 : decode cX2_clearSums 8 = .ok (.aload_n 0, 1) := by decide +kernel
theorem dX2_clearSums_9 : decode cX2_clearSums 9 = .ok (.getfield 15, 3) := by decide +kernel
theorem dX2_clearSums_12 : decode cX2_clearSums 12 = .ok (.iload_n 1, 1) := by decide +kernel
theorem dX2_clearSums_13 : decode cX2_clearSums 13 = .ok (.iconst 0, 1) := by decide +kernel
theorem dX2_clearSums_14 : decode cX2_clearSums 14 = .ok (.iastore, 1) := by decide +kernel
theorem dX2_clearSums_15 : decode cX2_clearSums 15 = .ok (.iinc 1 1, 3) := by decide +kernel
theorem dX2_clearSums_18 : decode cX2_clearSums 18 = .ok (.goto (-16), 3) := by decide +kernel
theorem dX2_clearSums_21 : decode cX2_clearSums 21 = .ok (.return_, 1) := by decide +kernel
theorem dX2_addFrom_0 : decode cX2_addFrom 0 = .ok (.iconst 0, 1) := by decide +kernel
theorem dX2_addFrom_1 : decode cX2_addFrom 1 = .ok (.istore_n 2, 1) := by decide +kernel
theorem dX2_addFrom_2 : decode cX2_addFrom 2 = .ok (.iload_n 2, 1) := by decide +kernel
theorem dX2_addFrom_3 : decode cX2_addFrom 3 = .ok (.aload_n 0, 1) := by decide +kernel
theorem dX2_addFrom_4 : decode cX2_addFrom 4 = .ok (.getfield 24, 3) := by decide +kernel
theorem dX2_addFrom_7 : decode cX2_addFrom 7 = .ok (.getfield 74, 3) := by decide +kernel
theorem dX2_addFrom_10 : decode cX2_addFrom 10 = .ok (.if_icmp .ge 48, 3) := by decide +kernel
theorem dX2_addFrom_58 : decode cX2_addFrom 58 = .ok (.return_, 1) := by decide +kernel
theorem dX2_enough_0 : decode cX2_enough 0 = .ok (.iconst 0, 1) := by decide +kernel
theorem dX2_enough_1 : decode cX2_enough 1 = .ok (.istore_n 2, 1) := by decide +kernel
theorem dX2_enough_2 : decode cX2_enough 2 = .ok (.iconst 0, 1) := by decide +kernel
theorem dX2_enough_3 : decode cX2_enough 3 = .ok (.istore_n 3, 1) := by decide +kernel
theorem dX2_enough_4 : decode cX2_enough 4 = .ok (.iload_n 3, 1) := by decide +kernel
theorem dX2_enough_5 : decode cX2_enough 5 = .ok (.aload_n 0, 1) := by decide +kernel
theorem dX2_enough_6 : decode cX2_enough 6 = .ok (.getfield 24, 3) := by decide +kernel
theorem dX2_enough_9 : decode cX2_enough 9 = .ok (.getfield 139, 3) := by decide +kernel
theorem dX2_enough_12 : decode cX2_enough 12 = .ok (.if_icmp .ge 38, 3) := by decide +kernel
theorem dX2_enough_50 : decode cX2_enough 50 = .ok (.iload_n 2, 1) := by decide +kernel
theorem dX2_enough_51 : decode cX2_enough 51 = .ok (.ireturn, 1) := by decide +kernel
theorem dX2_rankAs_0 : decode cX2_rankAs 0 = .ok (.iconst 0, 1) := by decide +kernel
theorem dX2_rankAs_1 : decode cX2_rankAs 1 = .ok (.istore_n 3, 1) := by decide +kernel
theorem dX2_rankAs_2 : decode cX2_rankAs 2 = .ok (.iload_n 3, 1) := by decide +kernel
theorem dX2_rankAs_3 : decode cX2_rankAs 3 = .ok (.aload_n 0, 1) := by decide +kernel
theorem dX2_rankAs_4 : decode cX2_rankAs 4 = .ok (.getfield 24, 3) := by decide +kernel
theorem dX2_rankAs_7 : decode cX2_rankAs 7 = .ok (.getfield 139, 3) := by decide +kernel
theorem dX2_rankAs_10 : decode cX2_rankAs 10 = .ok (.if_icmp .ge 24, 3) := by decide +kernel
theorem dX2_rankAs_34 : decode cX2_rankAs 34 = .ok (.return_, 1) := by decide +kernel
theorem dX3_append_0 : decode cX3_append 0 = .ok (.bipush 24, 2) := by decide +kernel
theorem dX3_append_2 : decode cX3_append 2 = .ok (.istore_n 2, 1) := by decide +kernel
theorem dX3_append_3 : decode cX3_append 3 = .ok (.iload_n 2, 1) := by decide +kernel
theorem dX3_append_4 : decode cX3_append 4 = .ok (.ifCond .lt 42, 3) := by decide +kernel
theorem dX3_append_7 : decode cX3_append 7 = .ok (.aload_n 0, 1) := by decide +kernel
theorem dX3_append_8 : decode cX3_append 8 = .ok (.getfield 49, 3) := by decide +kernel
theorem dX3_append_11 : decode cX3_append 11 = .ok (.sipush 1600, 3) := by decide +kernel
theorem dX3_append_14 : decode cX3_append 14 = .ok (.if_icmp .ge 32, 3) := by decide +kernel
theorem dX3_append_17 : decode cX3_append 17 = .ok (.aload_n 0, 1) := by decide +kernel
theorem dX3_append_18 : decode cX3_append 18 = .ok (.getfield 15, 3) := by decide +kernel
theorem dX3_append_21 : decode cX3_append 21 = .ok (.aload_n 0, 1) := by decide +kernel
theorem dX3_append_22 : decode cX3_append 22 = .ok (.getfield 49, 3) := by decide +kernel
theorem dX3_append_25 : decode cX3_append 25 = .ok (.iload_n 1, 1) := by decide +kernel
theorem dX3_append_26 : decode cX3_append 26 = .ok (.iload_n 2, 1) := by decide +kernel
theorem dX3_append_27 : decode cX3_append 27 = .ok (.ishr, 1) := by decide +kernel
theorem dX3_append_28 : decode cX3_append 28 = .ok (.i2b, 1) := by decide +kernel
theorem dX3_append_29 : decode cX3_append 29 = .ok (.bastore, 1) := by decide +kernel
theorem dX3_append_30 : decode cX3_append 30 = .ok (.aload_n 0, 1) := by decide +kernel
theorem dX3_append_31 : decode cX3_append 31 = .ok (.dup, 1) := by decide +kernel
theorem dX3_append_32 : decode cX3_append 32 = .ok (.getfield 49, 3) := by decide +kernel
theorem dX3_append_35 : decode cX3_append 35 = .ok (.iconst 1, 1) := by decide +kernel
theorem dX3_append_36 : decode cX3_append 36 = .ok (.iadd, 1) := by decide +kernel
theorem dX3_append_37 : decode cX3_append 37 = .ok (.putfield 49, 3) := by decide +kernel
theorem dX3_append_40 : decode cX3_append 40 = .ok (.iinc 2 (-8), 3) := by decide +kernel
theorem dX3_append_43 : decode cX3_append 43 = .ok (.goto (-40), 3) := by decide +kernel
theorem dX3_append_46 : decode cX3_append 46 = .ok (.return_, 1) := by decide +kernel
theorem dX3_exchange_0 : decode cX3_exchange 0 = .ok (.aload_n 0, 1) := by decide +kernel
theorem dX3_exchange_1 : decode cX3_exchange 1 = .ok (.getfield 22, 3) := by decide +kernel
theorem dX3_exchange_4 : decode cX3_exchange 4 = .ok (.astore_n 2, 1) := by decide +kernel
theorem dX3_exchange_5 : decode cX3_exchange 5 = .ok (.aload_n 0, 1) := by decide +kernel
theorem dX3_exchange_6 : decode cX3_exchange 6 = .ok (.aload_n 1, 1) := by decide +kernel
theorem dX3_exchange_7 : decode cX3_exchange 7 = .ok (.putfield 22, 3) := by decide +kernel
theorem dX3_exchange_10 : decode cX3_exchange 10 = .ok (.aload_n 2, 1) := by decide +kernel
theorem dX3_exchange_11 : decode cX3_exchange 11 = .ok (.areturn, 1) := by decide +kernel
set_option maxRecDepth 20000 in
theorem ggX3_read_X5_clear : GoodIn wsX3_read wsX5_clear := goodIn_r _ [11, 12, 13, 14, 15, 16, 17, 18, 19, 277, 278, 279, 280, 281, 282, 283, 284, 285, 286, 287, 288, 289, 290, 291, 292, 293, 294] (by decide +kernel) (by decide +kernel)
set_option maxRecDepth 20000 in
theorem gX3_read_X5_clear : GoodIn wsX3_read (wsV RX3 52 RX5 yX5_clear wsX5_clear) := goodIn_app (goodIn_of _ (by decide +kernel)) ggX3_read_X5_clear
set_option maxRecDepth 20000 in
theorem ggX3_read_X3_advance : GoodIn wsX3_read wsX3_advance := goodIn_r _ [24, 5, 25, 26, 27, 6, 28, 29, 23, 30, 31, 32, 33, 34, 35, 36, 37, 38, 39, 40, 41, 42, 43, 44, 45, 46, 47, 48, 49, 50, 51, 52, 53, 54, 55, 56, 57, 58, 59, 60, 61, 62, 63, 64, 65, 66, 67, 68, 69, 70, 71, 72, 73, 74, 75, 76, 77, 78, 79, 80, 81, 82, 83, 84, 85, 86, 87, 88, 89, 90, 91, 92, 93, 94, 95, 96, 97, 98, 99, 100, 101, 102, 103, 104, 105, 106, 107, 108, 109, 110, 111, 112, 113, 114, 115, 116, 117, 118, 119, 120, 121, 122, 123, 124, 125, 126, 127, 128, 129, 130, 131, 132, 133, 134, 135, 136, 137, 138, 264, 265, 266, 267, 268, 269, 270, 271, 272, 273, 274, 275, 276] (by decide +kernel) (by decide +kernel)
set_option maxRecDepth 20000 in
theorem gX3_read_X3_advance : GoodIn wsX3_read (wsV RX3 64 RX3 yX3_advance wsX3_advance) := goodIn_app (goodIn_of _ (by decide +kernel)) ggX3_read_X3_advance
theorem dX3_read_0 : decode cX3_read 0 = .ok (.aload_n 0, 1) := by decide +kernel
theorem dX3_read_1 : decode cX3_read 1 = .ok (.getfield 22, 3) := by decide +kernel
theorem dX3_read_4 : decode cX3_read 4 = .ok (.invokevirtual 52, 3) := by decide +kernel
theorem dX3_read_7 : decode cX3_read 7 = .ok (.aload_n 0, 1) := by decide +kernel
theorem dX3_read_8 : decode cX3_read 8 = .ok (.iconst 0, 1) := by decide +kernel
theorem dX3_read_9 : decode cX3_read 9 = .ok (.putfield 55, 3) := by decide +kernel
theorem dX3_read_12 : decode cX3_read 12 = .ok (.aload_n 0, 1) := by decide +kernel
theorem dX3_read_13 : decode cX3_read 13 = .ok (.iconst (-1), 1) := by decide +kernel
theorem dX3_read_14 : decode cX3_read 14 = .ok (.putfield 9, 3) := by decide +kernel
theorem dX3_read_17 : decode cX3_read 17 = .ok (.aload_n 0, 1) := by decide +kernel
theorem dX3_read_18 : decode cX3_read 18 = .ok (.iconst 0, 1) := by decide +kernel
theorem dX3_read_19 : decode cX3_read 19 = .ok (.putfield 58, 3) := by decide +kernel
theorem dX3_read_22 : decode cX3_read 22 = .ok (.aload_n 0, 1) := by decide +kernel
theorem dX3_read_23 : decode cX3_read 23 = .ok (.iconst 0, 1) := by decide +kernel
theorem dX3_read_24 : decode cX3_read 24 = .ok (.putfield 61, 3) := by decide +kernel
theorem dX3_read_27 : decode cX3_read 27 = .ok (.aload_n 0, 1) := by decide +kernel
theorem dX3_read_28 : decode cX3_read 28 = .ok (.invokevirtual 64, 3) := by decide +kernel
theorem dX3_read_31 : decode cX3_read 31 = .ok (.iconst 0, 1) := by decide +kernel
theorem dX3_read_32 : decode cX3_read 32 = .ok (.istore_n 1, 1) := by decide +kernel
theorem dX3_read_33 : decode cX3_read 33 = .ok (.iload_n 1, 1) := by decide +kernel
theorem dX3_read_34 : decode cX3_read 34 = .ok (.sipush 1600, 3) := by decide +kernel
theorem dX3_read_37 : decode cX3_read 37 = .ok (.if_icmp .gt 29, 3) := by decide +kernel
theorem dX3_read_40 : decode cX3_read 40 = .ok (.aload_n 0, 1) := by decide +kernel
theorem dX3_read_41 : decode cX3_read 41 = .ok (.getfield 55, 3) := by decide +kernel
theorem dX3_read_44 : decode cX3_read 44 = .ok (.ifCond .ne 22, 3) := by decide +kernel
theorem dX3_read_47 : decode cX3_read 47 = .ok (.aload_n 0, 1) := by decide +kernel
theorem dX3_read_48 : decode cX3_read 48 = .ok (.getfield 67, 3) := by decide +kernel
theorem dX3_read_51 : decode cX3_read 51 = .ok (.bipush 16, 2) := by decide +kernel
theorem dX3_read_53 : decode cX3_read 53 = .ok (.if_icmp .eq 13, 3) := by decide +kernel
theorem dX3_read_66 : decode cX3_read 66 = .ok (.aload_n 0, 1) := by decide +kernel
theorem dX3_read_67 : decode cX3_read 67 = .ok (.getfield 55, 3) := by decide +kernel
theorem dX3_read_70 : decode cX3_read 70 = .ok (.ifCond .ne 7, 3) := by decide +kernel
theorem dX3_read_73 : decode cX3_read 73 = .ok (.iconst 1, 1) := by decide +kernel
theorem dX3_read_74 : decode cX3_read 74 = .ok (.goto 4, 3) := by decide +kernel
theorem dX3_read_78 : decode cX3_read 78 = .ok (.ireturn, 1) := by decide +kernel
theorem dX3_advance_0 : decode cX3_advance 0 = .ok (.aload_n 0, 1) := by decide +kernel
theorem dX3_advance_1 : decode cX3_advance 1 = .ok (.getfield 61, 3) := by decide +kernel
theorem dX3_advance_4 : decode cX3_advance 4 = .ok (.aload_n 0, 1) := by decide +kernel
theorem dX3_advance_5 : decode cX3_advance 5 = .ok (.getfield 49, 3) := by decide +kernel
theorem dX3_advance_8 : decode cX3_advance 8 = .ok (.if_icmp .ge 31, 3) := by decide +kernel
theorem dX3_advance_39 : decode cX3_advance 39 = .ok (.aload_n 0, 1) := by decide +kernel
theorem dX3_advance_40 : decode cX3_advance 40 = .ok (.aload_n 0, 1) := by decide +kernel
theorem dX3_advance_41 : decode cX3_advance 41 = .ok (.getfield 61, 3) := by decide +kernel
theorem dX3_advance_44 : decode cX3_advance 44 = .ok (.putfield 77, 3) := by decide +kernel
theorem dX3_advance_47 : decode cX3_advance 47 = .ok (.aload_n 0, 1) := by decide +kernel
theorem dX3_advance_48 : decode cX3_advance 48 = .ok (.getfield 61, 3) := by decide +kernel
theorem dX3_advance_51 : decode cX3_advance 51 = .ok (.aload_n 0, 1) := by decide +kernel
theorem dX3_advance_52 : decode cX3_advance 52 = .ok (.getfield 49, 3) := by decide +kernel
theorem dX3_advance_55 : decode cX3_advance 55 = .ok (.if_icmp .lt 12, 3) := by decide +kernel
theorem dX3_advance_58 : decode cX3_advance 58 = .ok (.aload_n 0, 1) := by decide +kernel
theorem dX3_advance_59 : decode cX3_advance 59 = .ok (.bipush 16, 2) := by decide +kernel
theorem dX3_advance_61 : decode cX3_advance 61 = .ok (.putfield 67, 3) := by decide +kernel
theorem dX3_advance_64 : decode cX3_advance 64 = .ok (.goto 91, 3) := by decide +kernel
theorem dX3_advance_155 : decode cX3_advance 155 = .ok (.return_, 1) := by decide +kernel
set_option maxRecDepth 20000 in
theorem ggX4_startAs_X5_allStrands : GoodIn wsX4_startAs wsX5_allStrands := goodIn_r _ [16, 17, 18, 19, 20, 21, 22, 23, 24, 25, 26, 27, 28, 29] (by decide +kernel) (by decide +kernel)
set_option maxRecDepth 20000 in
theorem gX4_startAs_X5_allStrands : GoodIn wsX4_startAs (wsV RX4 24 RX5 yX5_allStrands wsX5_allStrands) := goodIn_app (goodIn_of _ (by decide +kernel)) ggX4_startAs_X5_allStrands
theorem dX4_startAs_0 : decode cX4_startAs 0 = .ok (.aload_n 1, 1) := by decide +kernel
theorem dX4_startAs_1 : decode cX4_startAs 1 = .ok (.getfield 15, 3) := by decide +kernel
theorem dX4_startAs_4 : decode cX4_startAs 4 = .ok (.iconst 0, 1) := by decide +kernel
theorem dX4_startAs_5 : decode cX4_startAs 5 = .ok (.aload_n 0, 1) := by decide +kernel
theorem dX4_startAs_6 : decode cX4_startAs 6 = .ok (.getfield 9, 3) := by decide +kernel
theorem dX4_startAs_9 : decode cX4_startAs 9 = .ok (.iconst 0, 1) := by decide +kernel
theorem dX4_startAs_10 : decode cX4_startAs 10 = .ok (.bipush 12, 2) := by decide +kernel
theorem dX4_startAs_12 : decode cX4_startAs 12 = .ok (.invokestatic 18, 3) := by decide +kernel
theorem dX4_startAs_15 : decode cX4_startAs 15 = .ok (.aload_n 0, 1) := by decide +kernel
theorem dX4_startAs_16 : decode cX4_startAs 16 = .ok (.aload_n 1, 1) := by decide +kernel
theorem dX4_startAs_17 : decode cX4_startAs 17 = .ok (.invokevirtual 24, 3) := by decide +kernel
theorem dX4_startAs_20 : decode cX4_startAs 20 = .ok (.putfield 28, 3) := by decide +kernel
theorem dX4_startAs_23 : decode cX4_startAs 23 = .ok (.aload_n 0, 1) := by decide +kernel
theorem dX4_startAs_24 : decode cX4_startAs 24 = .ok (.iconst 0, 1) := by decide +kernel
theorem dX4_startAs_25 : decode cX4_startAs 25 = .ok (.putfield 32, 3) := by decide +kernel
theorem dX4_startAs_28 : decode cX4_startAs 28 = .ok (.aload_n 0, 1) := by decide +kernel
theorem dX4_startAs_29 : decode cX4_startAs 29 = .ok (.iconst 0, 1) := by decide +kernel
theorem dX4_startAs_30 : decode cX4_startAs 30 = .ok (.putfield 35, 3) := by decide +kernel
theorem dX4_startAs_33 : decode cX4_startAs 33 = .ok (.aload_n 0, 1) := by decide +kernel
theorem dX4_startAs_34 : decode cX4_startAs 34 = .ok (.aload_n 1, 1) := by decide +kernel
theorem dX4_startAs_35 : decode cX4_startAs 35 = .ok (.getfield 38, 3) := by decide +kernel
theorem dX4_startAs_38 : decode cX4_startAs 38 = .ok (.putfield 41, 3) := by decide +kernel
theorem dX4_startAs_41 : decode cX4_startAs 41 = .ok (.return_, 1) := by decide +kernel
theorem dX4_copy_0 : decode cX4_copy 0 = .ok (.aload_n 1, 1) := by decide +kernel
theorem dX4_copy_1 : decode cX4_copy 1 = .ok (.getfield 9, 3) := by decide +kernel
theorem dX4_copy_4 : decode cX4_copy 4 = .ok (.iconst 0, 1) := by decide +kernel
theorem dX4_copy_5 : decode cX4_copy 5 = .ok (.aload_n 0, 1) := by decide +kernel
theorem dX4_copy_6 : decode cX4_copy 6 = .ok (.getfield 9, 3) := by decide +kernel
theorem dX4_copy_9 : decode cX4_copy 9 = .ok (.iconst 0, 1) := by decide +kernel
theorem dX4_copy_10 : decode cX4_copy 10 = .ok (.bipush 12, 2) := by decide +kernel
theorem dX4_copy_12 : decode cX4_copy 12 = .ok (.invokestatic 18, 3) := by decide +kernel
theorem dX4_copy_15 : decode cX4_copy 15 = .ok (.aload_n 0, 1) := by decide +kernel
theorem dX4_copy_16 : decode cX4_copy 16 = .ok (.aload_n 1, 1) := by decide +kernel
theorem dX4_copy_17 : decode cX4_copy 17 = .ok (.getfield 28, 3) := by decide +kernel
theorem dX4_copy_20 : decode cX4_copy 20 = .ok (.putfield 28, 3) := by decide +kernel
theorem dX4_copy_23 : decode cX4_copy 23 = .ok (.aload_n 0, 1) := by decide +kernel
theorem dX4_copy_24 : decode cX4_copy 24 = .ok (.aload_n 1, 1) := by decide +kernel
theorem dX4_copy_25 : decode cX4_copy 25 = .ok (.getfield 32, 3) := by decide +kernel
theorem dX4_copy_28 : decode cX4_copy 28 = .ok (.putfield 32, 3) := by decide +kernel
theorem dX4_copy_31 : decode cX4_copy 31 = .ok (.aload_n 0, 1) := by decide +kernel
theorem dX4_copy_32 : decode cX4_copy 32 = .ok (.aload_n 1, 1) := by decide +kernel
theorem dX4_copy_33 : decode cX4_copy 33 = .ok (.getfield 35, 3) := by decide +kernel
theorem dX4_copy_36 : decode cX4_copy 36 = .ok (.putfield 35, 3) := by decide +kernel
theorem dX4_copy_39 : decode cX4_copy 39 = .ok (.aload_n 0, 1) := by decide +kernel
theorem dX4_copy_40 : decode cX4_copy 40 = .ok (.aload_n 1, 1) := by decide +kernel
theorem dX4_copy_41 : decode cX4_copy 41 = .ok (.getfield 41, 3) := by decide +kernel
theorem dX4_copy_44 : decode cX4_copy 44 = .ok (.putfield 41, 3) := by decide +kernel
theorem dX4_copy_47 : decode cX4_copy 47 = .ok (.return_, 1) := by decide +kernel
theorem dX4_pass_0 : decode cX4_pass 0 = .ok (.iconst 0, 1) := by decide +kernel
theorem dX4_pass_1 : decode cX4_pass 1 = .ok (.istore_n 2, 1) := by decide +kernel
theorem dX4_pass_2 : decode cX4_pass 2 = .ok (.aload_n 0, 1) := by decide +kernel
theorem dX4_pass_3 : decode cX4_pass 3 = .ok (.dup, 1) := by decide +kernel
theorem dX4_pass_4 : decode cX4_pass 4 = .ok (.getfield 35, 3) := by decide +kernel
theorem dX4_pass_7 : decode cX4_pass 7 = .ok (.iconst 1, 1) := by decide +kernel
theorem dX4_pass_8 : decode cX4_pass 8 = .ok (.iadd, 1) := by decide +kernel
theorem dX4_pass_9 : decode cX4_pass 9 = .ok (.putfield 35, 3) := by decide +kernel
theorem dX4_pass_12 : decode cX4_pass 12 = .ok (.iconst 0, 1) := by decide +kernel
theorem dX4_pass_13 : decode cX4_pass 13 = .ok (.istore_n 3, 1) := by decide +kernel
theorem dX4_pass_14 : decode cX4_pass 14 = .ok (.iload_n 3, 1) := by decide +kernel
theorem dX4_pass_15 : decode cX4_pass 15 = .ok (.aload_n 1, 1) := by decide +kernel
theorem dX4_pass_16 : decode cX4_pass 16 = .ok (.getfield 44, 3) := by decide +kernel
theorem dX4_pass_19 : decode cX4_pass 19 = .ok (.if_icmp .ge 78, 3) := by decide +kernel
theorem dX4_pass_97 : decode cX4_pass 97 = .ok (.iload_n 2, 1) := by decide +kernel
theorem dX4_pass_98 : decode cX4_pass 98 = .ok (.ireturn, 1) := by decide +kernel
theorem dX5_clear_0 : decode cX5_clear 0 = .ok (.aload_n 0, 1) := by decide +kernel
theorem dX5_clear_1 : decode cX5_clear 1 = .ok (.iconst 0, 1) := by decide +kernel
theorem dX5_clear_2 : decode cX5_clear 2 = .ok (.putfield 37, 3) := by decide +kernel
theorem dX5_clear_5 : decode cX5_clear 5 = .ok (.aload_n 0, 1) := by decide +kernel
theorem dX5_clear_6 : decode cX5_clear 6 = .ok (.iconst 0, 1) := by decide +kernel
theorem dX5_clear_7 : decode cX5_clear 7 = .ok (.putfield 41, 3) := by decide +kernel
theorem dX5_clear_10 : decode cX5_clear 10 = .ok (.aload_n 0, 1) := by decide +kernel
theorem dX5_clear_11 : decode cX5_clear 11 = .ok (.iconst 0, 1) := by decide +kernel
theorem dX5_clear_12 : decode cX5_clear 12 = .ok (.putfield 44, 3) := by decide +kernel
theorem dX5_clear_15 : decode cX5_clear 15 = .ok (.aload_n 0, 1) := by decide +kernel
theorem dX5_clear_16 : decode cX5_clear 16 = .ok (.iconst 0, 1) := by decide +kernel
theorem dX5_clear_17 : decode cX5_clear 17 = .ok (.putfield 47, 3) := by decide +kernel
theorem dX5_clear_20 : decode cX5_clear 20 = .ok (.aload_n 0, 1) := by decide +kernel
theorem dX5_clear_21 : decode cX5_clear 21 = .ok (.iconst 0, 1) := by decide +kernel
theorem dX5_clear_22 : decode cX5_clear 22 = .ok (.putfield 50, 3) := by decide +kernel
theorem dX5_clear_25 : decode cX5_clear 25 = .ok (.aload_n 0, 1) := by decide +kernel
theorem dX5_clear_26 : decode cX5_clear 26 = .ok (.getfield 33, 3) := by decide +kernel
theorem dX5_clear_29 : decode cX5_clear 29 = .ok (.iconst 0, 1) := by decide +kernel
theorem dX5_clear_30 : decode cX5_clear 30 = .ok (.putfield 53, 3) := by decide +kernel
theorem dX5_clear_33 : decode cX5_clear 33 = .ok (.aload_n 0, 1) := by decide +kernel
theorem dX5_clear_34 : decode cX5_clear 34 = .ok (.getfield 33, 3) := by decide +kernel
theorem dX5_clear_37 : decode cX5_clear 37 = .ok (.iconst 0, 1) := by decide +kernel
theorem dX5_clear_38 : decode cX5_clear 38 = .ok (.putfield 56, 3) := by decide +kernel
theorem dX5_clear_41 : decode cX5_clear 41 = .ok (.return_, 1) := by decide +kernel
theorem dX5_isPoint_0 : decode cX5_isPoint 0 = .ok (.iload_n 1, 1) := by decide +kernel
theorem dX5_isPoint_1 : decode cX5_isPoint 1 = .ok (.ifCond .lt 15, 3) := by decide +kernel
theorem dX5_isPoint_4 : decode cX5_isPoint 4 = .ok (.iload_n 1, 1) := by decide +kernel
theorem dX5_isPoint_5 : decode cX5_isPoint 5 = .ok (.aload_n 0, 1) := by decide +kernel
theorem dX5_isPoint_6 : decode cX5_isPoint 6 = .ok (.getfield 37, 3) := by decide +kernel
theorem dX5_isPoint_9 : decode cX5_isPoint 9 = .ok (.if_icmp .ge 7, 3) := by decide +kernel
theorem dX5_isPoint_16 : decode cX5_isPoint 16 = .ok (.iconst 0, 1) := by decide +kernel
theorem dX5_isPoint_17 : decode cX5_isPoint 17 = .ok (.ireturn, 1) := by decide +kernel
set_option maxRecDepth 20000 in
theorem ggX5_isFact_X5_isPoint : GoodIn wsX5_isFact wsX5_isPoint := goodIn_r _ [6, 7, 11, 12, 13, 14, 15, 16, 17, 18, 19, 20, 21, 22] (by decide +kernel) (by decide +kernel)
set_option maxRecDepth 20000 in
theorem gX5_isFact_X5_isPoint : GoodIn wsX5_isFact (wsV RX5 59 RX5 yX5_isPoint wsX5_isPoint) := goodIn_app (goodIn_of _ (by decide +kernel)) ggX5_isFact_X5_isPoint
theorem dX5_isFact_0 : decode cX5_isFact 0 = .ok (.aload_n 0, 1) := by decide +kernel
theorem dX5_isFact_1 : decode cX5_isFact 1 = .ok (.iload_n 1, 1) := by decide +kernel
theorem dX5_isFact_2 : decode cX5_isFact 2 = .ok (.invokevirtual 59, 3) := by decide +kernel
theorem dX5_isFact_5 : decode cX5_isFact 5 = .ok (.ifCond .eq 18, 3) := by decide +kernel
theorem dX5_isFact_23 : decode cX5_isFact 23 = .ok (.iconst 0, 1) := by decide +kernel
theorem dX5_isFact_24 : decode cX5_isFact 24 = .ok (.ireturn, 1) := by decide +kernel
set_option maxRecDepth 20000 in
theorem ggX5_isClaim_X5_isPoint : GoodIn wsX5_isClaim wsX5_isPoint := goodIn_r _ [6, 7, 11, 12, 13, 14, 15, 16, 17, 18, 19, 20, 21, 22] (by decide +kernel) (by decide +kernel)
set_option maxRecDepth 20000 in
theorem gX5_isClaim_X5_isPoint : GoodIn wsX5_isClaim (wsV RX5 59 RX5 yX5_isPoint wsX5_isPoint) := goodIn_app (goodIn_of _ (by decide +kernel)) ggX5_isClaim_X5_isPoint
theorem dX5_isClaim_0 : decode cX5_isClaim 0 = .ok (.aload_n 0, 1) := by decide +kernel
theorem dX5_isClaim_1 : decode cX5_isClaim 1 = .ok (.iload_n 1, 1) := by decide +kernel
theorem dX5_isClaim_2 : decode cX5_isClaim 2 = .ok (.invokevirtual 59, 3) := by decide +kernel
theorem dX5_isClaim_5 : decode cX5_isClaim 5 = .ok (.ifCond .eq 18, 3) := by decide +kernel
theorem dX5_isClaim_23 : decode cX5_isClaim 23 = .ok (.iconst 0, 1) := by decide +kernel
theorem dX5_isClaim_24 : decode cX5_isClaim 24 = .ok (.ireturn, 1) := by decide +kernel
theorem dX5_isStrand_0 : decode cX5_isStrand 0 = .ok (.iload_n 1, 1) := by decide +kernel
theorem dX5_isStrand_1 : decode cX5_isStrand 1 = .ok (.ifCond .lt 15, 3) := by decide +kernel
theorem dX5_isStrand_4 : decode cX5_isStrand 4 = .ok (.iload_n 1, 1) := by decide +kernel
theorem dX5_isStrand_5 : decode cX5_isStrand 5 = .ok (.aload_n 0, 1) := by decide +kernel
theorem dX5_isStrand_6 : decode cX5_isStrand 6 = .ok (.getfield 44, 3) := by decide +kernel
theorem dX5_isStrand_9 : decode cX5_isStrand 9 = .ok (.if_icmp .ge 7, 3) := by decide +kernel
theorem dX5_isStrand_16 : decode cX5_isStrand 16 = .ok (.iconst 0, 1) := by decide +kernel
theorem dX5_isStrand_17 : decode cX5_isStrand 17 = .ok (.ireturn, 1) := by decide +kernel
theorem dX5_claims_0 : decode cX5_claims 0 = .ok (.iconst 1, 1) := by decide +kernel
theorem dX5_claims_1 : decode cX5_claims 1 = .ok (.aload_n 0, 1) := by decide +kernel
theorem dX5_claims_2 : decode cX5_claims 2 = .ok (.getfield 37, 3) := by decide +kernel
theorem dX5_claims_5 : decode cX5_claims 5 = .ok (.ishl, 1) := by decide +kernel
theorem dX5_claims_6 : decode cX5_claims 6 = .ok (.iconst 1, 1) := by decide +kernel
theorem dX5_claims_7 : decode cX5_claims 7 = .ok (.isub, 1) := by decide +kernel
theorem dX5_claims_8 : decode cX5_claims 8 = .ok (.aload_n 0, 1) := by decide +kernel
theorem dX5_claims_9 : decode cX5_claims 9 = .ok (.getfield 41, 3) := by decide +kernel
theorem dX5_claims_12 : decode cX5_claims 12 = .ok (.iconst (-1), 1) := by decide +kernel
theorem dX5_claims_13 : decode cX5_claims 13 = .ok (.ixor, 1) := by decide +kernel
theorem dX5_claims_14 : decode cX5_claims 14 = .ok (.iand, 1) := by decide +kernel
theorem dX5_claims_15 : decode cX5_claims 15 = .ok (.ireturn, 1) := by decide +kernel
theorem dX5_allStrands_0 : decode cX5_allStrands 0 = .ok (.iconst 1, 1) := by decide +kernel
theorem dX5_allStrands_1 : decode cX5_allStrands 1 = .ok (.aload_n 0, 1) := by decide +kernel
theorem dX5_allStrands_2 : decode cX5_allStrands 2 = .ok (.getfield 44, 3) := by decide +kernel
theorem dX5_allStrands_5 : decode cX5_allStrands 5 = .ok (.ishl, 1) := by decide +kernel
theorem dX5_allStrands_6 : decode cX5_allStrands 6 = .ok (.iconst 1, 1) := by decide +kernel
theorem dX5_allStrands_7 : decode cX5_allStrands 7 = .ok (.isub, 1) := by decide +kernel
theorem dX5_allStrands_8 : decode cX5_allStrands 8 = .ok (.ireturn, 1) := by decide +kernel
set_option maxRecDepth 20000 in
theorem ggX6_collect_J6_bitCount_0f7a4 : GoodIn wsX6_collect wsJ6_bitCount_0f7a4 := goodIn_r _ [5, 6, 7, 8] (by decide +kernel) (by decide +kernel)
set_option maxRecDepth 20000 in
theorem gX6_collect_J6_bitCount_0f7a4 : GoodIn wsX6_collect (va_wsS RX6 22 yJ6_bitCount_0f7a4 wsJ6_bitCount_0f7a4) := goodIn_app (goodIn_of _ (by decide +kernel)) ggX6_collect_J6_bitCount_0f7a4
set_option maxRecDepth 20000 in
theorem ggX6_collect_X2_standing : GoodIn wsX6_collect wsX2_standing := goodIn_r _ [13, 14, 15, 16, 17, 18, 12, 19, 20, 21, 22, 23, 24, 25, 26, 27, 28, 29, 30, 31, 32, 33, 34, 35, 36, 37, 38, 39, 40, 41, 42, 43, 44, 45, 46, 47, 3, 4, 5, 6, 7, 8, 48, 49, 50, 51, 52, 53, 54, 55, 56, 57, 58, 59, 60, 61, 62, 63, 64, 65, 66, 67, 68, 69, 70, 71, 72, 73, 74, 75, 76, 77, 78, 79, 80, 81, 82, 83, 84, 85, 86, 87, 88, 89, 90, 91, 92, 93, 94, 95, 96, 97, 122, 123, 124, 125, 126, 127, 128, 129, 130, 131, 132, 133, 134, 135, 136, 137, 138, 139, 140, 141, 142, 143, 144, 145, 146, 147, 148, 149] (by decide +kernel) (by decide +kernel)
set_option maxRecDepth 20000 in
theorem gX6_collect_X2_standing : GoodIn wsX6_collect (wsV RX6 28 RX2 yX2_standing wsX2_standing) := goodIn_app (goodIn_of _ (by decide +kernel)) ggX6_collect_X2_standing
set_option maxRecDepth 20000 in
theorem ggX6_collect_X7_fits : GoodIn wsX6_collect wsX7_fits := goodIn_r _ [102, 103, 104, 105, 106, 107, 108, 101, 109, 110, 111, 23, 24, 25, 150, 151, 152, 153, 154] (by decide +kernel) (by decide +kernel)
set_option maxRecDepth 20000 in
theorem gX6_collect_X7_fits : GoodIn wsX6_collect (wsV RX6 33 RX7 yX7_fits wsX7_fits) := goodIn_app (goodIn_of _ (by decide +kernel)) ggX6_collect_X7_fits
set_option maxRecDepth 20000 in
theorem ggX6_collect_X6_keep : GoodIn wsX6_collect wsX6_keep := goodIn_r _ [116, 1, 117, 118, 119, 120, 121] (by decide +kernel) (by decide +kernel)
set_option maxRecDepth 20000 in
theorem gX6_collect_X6_keep : GoodIn wsX6_collect (wsV RX6 39 RX6 yX6_keep wsX6_keep) := goodIn_app (goodIn_of _ (by decide +kernel)) ggX6_collect_X6_keep
theorem dX6_collect_0 : decode cX6_collect 0 = .ok (.aload_n 0, 1) := by decide +kernel
theorem dX6_collect_1 : decode cX6_collect 1 = .ok (.iconst 0, 1) := by decide +kernel
theorem dX6_collect_2 : decode cX6_collect 2 = .ok (.putfield 18, 3) := by decide +kernel
theorem dX6_collect_5 : decode cX6_collect 5 = .ok (.iconst 0, 1) := by decide +kernel
theorem dX6_collect_6 : decode cX6_collect 6 = .ok (.istore 5, 2) := by decide +kernel
theorem dX6_collect_8 : decode cX6_collect 8 = .ok (.iload 5, 2) := by decide +kernel
theorem dX6_collect_10 : decode cX6_collect 10 = .ok (.iload_n 2, 1) := by decide +kernel
theorem dX6_collect_11 : decode cX6_collect 11 = .ok (.if_icmp .gt 47, 3) := by decide +kernel
theorem dX6_collect_14 : decode cX6_collect 14 = .ok (.iload 5, 2) := by decide +kernel
theorem dX6_collect_16 : decode cX6_collect 16 = .ok (.invokestatic 22, 3) := by decide +kernel
theorem dX6_collect_19 : decode cX6_collect 19 = .ok (.iconst 2, 1) := by decide +kernel
theorem dX6_collect_20 : decode cX6_collect 20 = .ok (.if_icmp .gt 32, 3) := by decide +kernel
theorem dX6_collect_23 : decode cX6_collect 23 = .ok (.aload_n 1, 1) := by decide +kernel
theorem dX6_collect_24 : decode cX6_collect 24 = .ok (.iload_n 2, 1) := by decide +kernel
theorem dX6_collect_25 : decode cX6_collect 25 = .ok (.iload 5, 2) := by decide +kernel
theorem dX6_collect_27 : decode cX6_collect 27 = .ok (.ixor, 1) := by decide +kernel
theorem dX6_collect_28 : decode cX6_collect 28 = .ok (.invokevirtual 28, 3) := by decide +kernel
theorem dX6_collect_31 : decode cX6_collect 31 = .ok (.istore 6, 2) := by decide +kernel
theorem dX6_collect_33 : decode cX6_collect 33 = .ok (.aload_n 3, 1) := by decide +kernel
theorem dX6_collect_34 : decode cX6_collect 34 = .ok (.iload 6, 2) := by decide +kernel
theorem dX6_collect_36 : decode cX6_collect 36 = .ok (.iload 4, 2) := by decide +kernel
theorem dX6_collect_38 : decode cX6_collect 38 = .ok (.invokevirtual 33, 3) := by decide +kernel
theorem dX6_collect_41 : decode cX6_collect 41 = .ok (.ifCond .eq 11, 3) := by decide +kernel
theorem dX6_collect_44 : decode cX6_collect 44 = .ok (.aload_n 0, 1) := by decide +kernel
theorem dX6_collect_45 : decode cX6_collect 45 = .ok (.iload 5, 2) := by decide +kernel
theorem dX6_collect_47 : decode cX6_collect 47 = .ok (.iload 6, 2) := by decide +kernel
theorem dX6_collect_49 : decode cX6_collect 49 = .ok (.invokevirtual 39, 3) := by decide +kernel
theorem dX6_collect_52 : decode cX6_collect 52 = .ok (.iinc 5 1, 3) := by decide +kernel
theorem dX6_collect_55 : decode cX6_collect 55 = .ok (.goto (-47), 3) := by decide +kernel
theorem dX6_collect_58 : decode cX6_collect 58 = .ok (.return_, 1) := by decide +kernel
theorem dX6_keep_0 : decode cX6_keep 0 = .ok (.aload_n 0, 1) := by decide +kernel
theorem dX6_keep_1 : decode cX6_keep 1 = .ok (.getfield 18, 3) := by decide +kernel
theorem dX6_keep_4 : decode cX6_keep 4 = .ok (.bipush 79, 2) := by decide +kernel
theorem dX6_keep_6 : decode cX6_keep 6 = .ok (.if_icmp .ge 33, 3) := by decide +kernel
theorem dX6_keep_9 : decode cX6_keep 9 = .ok (.aload_n 0, 1) := by decide +kernel
theorem dX6_keep_10 : decode cX6_keep 10 = .ok (.getfield 9, 3) := by decide +kernel
theorem dX6_keep_13 : decode cX6_keep 13 = .ok (.aload_n 0, 1) := by decide +kernel
theorem dX6_keep_14 : decode cX6_keep 14 = .ok (.getfield 18, 3) := by decide +kernel
theorem dX6_keep_17 : decode cX6_keep 17 = .ok (.iload_n 1, 1) := by decide +kernel
theorem dX6_keep_18 : decode cX6_keep 18 = .ok (.iastore, 1) := by decide +kernel
theorem dX6_keep_19 : decode cX6_keep 19 = .ok (.aload_n 0, 1) := by decide +kernel
theorem dX6_keep_20 : decode cX6_keep 20 = .ok (.getfield 15, 3) := by decide +kernel
theorem dX6_keep_23 : decode cX6_keep 23 = .ok (.aload_n 0, 1) := by decide +kernel
theorem dX6_keep_24 : decode cX6_keep 24 = .ok (.getfield 18, 3) := by decide +kernel
theorem dX6_keep_27 : decode cX6_keep 27 = .ok (.iload_n 2, 1) := by decide +kernel
theorem dX6_keep_28 : decode cX6_keep 28 = .ok (.iastore, 1) := by decide +kernel
theorem dX6_keep_29 : decode cX6_keep 29 = .ok (.aload_n 0, 1) := by decide +kernel
theorem dX6_keep_30 : decode cX6_keep 30 = .ok (.dup, 1) := by decide +kernel
theorem dX6_keep_31 : decode cX6_keep 31 = .ok (.getfield 18, 3) := by decide +kernel
theorem dX6_keep_34 : decode cX6_keep 34 = .ok (.iconst 1, 1) := by decide +kernel
theorem dX6_keep_35 : decode cX6_keep 35 = .ok (.iadd, 1) := by decide +kernel
theorem dX6_keep_36 : decode cX6_keep 36 = .ok (.putfield 18, 3) := by decide +kernel
theorem dX6_keep_39 : decode cX6_keep 39 = .ok (.return_, 1) := by decide +kernel
theorem dX7_takeBack_0 : decode cX7_takeBack 0 = .ok (.iload_n 1, 1) := by decide +kernel
theorem dX7_takeBack_1 : decode cX7_takeBack 1 = .ok (.ifCond .lt 21, 3) := by decide +kernel
theorem dX7_takeBack_4 : decode cX7_takeBack 4 = .ok (.iload_n 1, 1) := by decide +kernel
theorem dX7_takeBack_5 : decode cX7_takeBack 5 = .ok (.aload_n 0, 1) := by decide +kernel
theorem dX7_takeBack_6 : decode cX7_takeBack 6 = .ok (.getfield 25, 3) := by decide +kernel
theorem dX7_takeBack_9 : decode cX7_takeBack 9 = .ok (.if_icmp .ge 13, 3) := by decide +kernel
theorem dX7_takeBack_22 : decode cX7_takeBack 22 = .ok (.iconst 0, 1) := by decide +kernel
theorem dX7_takeBack_23 : decode cX7_takeBack 23 = .ok (.ireturn, 1) := by decide +kernel
theorem dX7_fits_0 : decode cX7_fits 0 = .ok (.iconst 0, 1) := by decide +kernel
theorem dX7_fits_1 : decode cX7_fits 1 = .ok (.istore_n 3, 1) := by decide +kernel
theorem dX7_fits_2 : decode cX7_fits 2 = .ok (.iload_n 3, 1) := by decide +kernel
theorem dX7_fits_3 : decode cX7_fits 3 = .ok (.aload_n 0, 1) := by decide +kernel
theorem dX7_fits_4 : decode cX7_fits 4 = .ok (.getfield 25, 3) := by decide +kernel
theorem dX7_fits_7 : decode cX7_fits 7 = .ok (.if_icmp .ge 39, 3) := by decide +kernel
theorem dX7_fits_46 : decode cX7_fits 46 = .ok (.iconst 1, 1) := by decide +kernel
theorem dX7_fits_47 : decode cX7_fits 47 = .ok (.ireturn, 1) := by decide +kernel
set_option maxRecDepth 20000 in
theorem ggX8_feed_X3_append : GoodIn wsX8_feed wsX3_append := goodIn_r _ [7, 8, 9, 23, 24, 25, 26, 27, 28, 29, 30, 31, 32, 33, 34, 35] (by decide +kernel) (by decide +kernel)
set_option maxRecDepth 20000 in
theorem gX8_feed_X3_append : GoodIn wsX8_feed (wsV RX8 73 RX3 yX3_append wsX3_append) := goodIn_app (goodIn_of _ (by decide +kernel)) ggX8_feed_X3_append
theorem dX8_feed_0 : decode cX8_feed 0 = .ok (.aload_n 0, 1) := by decide +kernel
theorem dX8_feed_1 : decode cX8_feed 1 = .ok (.getfield 10, 3) := by decide +kernel
theorem dX8_feed_4 : decode cX8_feed 4 = .ok (.getfield 69, 3) := by decide +kernel
theorem dX8_feed_7 : decode cX8_feed 7 = .ok (.bipush 20, 2) := by decide +kernel
theorem dX8_feed_9 : decode cX8_feed 9 = .ok (.iadd, 1) := by decide +kernel
theorem dX8_feed_10 : decode cX8_feed 10 = .ok (.sipush 1600, 3) := by decide +kernel
theorem dX8_feed_13 : decode cX8_feed 13 = .ok (.if_icmp .le 5, 3) := by decide +kernel
theorem dX8_feed_18 : decode cX8_feed 18 = .ok (.aload_n 0, 1) := by decide +kernel
theorem dX8_feed_19 : decode cX8_feed 19 = .ok (.getfield 10, 3) := by decide +kernel
theorem dX8_feed_22 : decode cX8_feed 22 = .ok (.iload_n 1, 1) := by decide +kernel
theorem dX8_feed_23 : decode cX8_feed 23 = .ok (.invokevirtual 73, 3) := by decide +kernel
theorem dX8_feed_26 : decode cX8_feed 26 = .ok (.aload_n 0, 1) := by decide +kernel
theorem dX8_feed_27 : decode cX8_feed 27 = .ok (.getfield 10, 3) := by decide +kernel
theorem dX8_feed_30 : decode cX8_feed 30 = .ok (.iload_n 2, 1) := by decide +kernel
theorem dX8_feed_31 : decode cX8_feed 31 = .ok (.invokevirtual 73, 3) := by decide +kernel
theorem dX8_feed_34 : decode cX8_feed 34 = .ok (.aload_n 0, 1) := by decide +kernel
theorem dX8_feed_35 : decode cX8_feed 35 = .ok (.getfield 10, 3) := by decide +kernel
theorem dX8_feed_38 : decode cX8_feed 38 = .ok (.iload_n 3, 1) := by decide +kernel
theorem dX8_feed_39 : decode cX8_feed 39 = .ok (.invokevirtual 73, 3) := by decide +kernel
theorem dX8_feed_42 : decode cX8_feed 42 = .ok (.aload_n 0, 1) := by decide +kernel
theorem dX8_feed_43 : decode cX8_feed 43 = .ok (.getfield 10, 3) := by decide +kernel
theorem dX8_feed_46 : decode cX8_feed 46 = .ok (.iload 4, 2) := by decide +kernel
theorem dX8_feed_48 : decode cX8_feed 48 = .ok (.invokevirtual 73, 3) := by decide +kernel
theorem dX8_feed_51 : decode cX8_feed 51 = .ok (.aload_n 0, 1) := by decide +kernel
theorem dX8_feed_52 : decode cX8_feed 52 = .ok (.getfield 10, 3) := by decide +kernel
theorem dX8_feed_55 : decode cX8_feed 55 = .ok (.iload 5, 2) := by decide +kernel
theorem dX8_feed_57 : decode cX8_feed 57 = .ok (.invokevirtual 73, 3) := by decide +kernel
theorem dX8_feed_60 : decode cX8_feed 60 = .ok (.aload_n 0, 1) := by decide +kernel
theorem dX8_feed_61 : decode cX8_feed 61 = .ok (.getfield 10, 3) := by decide +kernel
theorem dX8_feed_64 : decode cX8_feed 64 = .ok (.getfield 69, 3) := by decide +kernel
theorem dX8_feed_67 : decode cX8_feed 67 = .ok (.ireturn, 1) := by decide +kernel
theorem dX8_end_0 : decode cX8_end 0 = .ok (.iload_n 1, 1) := by decide +kernel
theorem dX8_end_1 : decode cX8_end 1 = .ok (.ifCond .lt 14, 3) := by decide +kernel
theorem dX8_end_4 : decode cX8_end 4 = .ok (.iload_n 1, 1) := by decide +kernel
theorem dX8_end_5 : decode cX8_end 5 = .ok (.aload_n 0, 1) := by decide +kernel
theorem dX8_end_6 : decode cX8_end 6 = .ok (.getfield 10, 3) := by decide +kernel
theorem dX8_end_9 : decode cX8_end 9 = .ok (.getfield 69, 3) := by decide +kernel
theorem dX8_end_12 : decode cX8_end 12 = .ok (.if_icmp .le 5, 3) := by decide +kernel
theorem dX8_end_15 : decode cX8_end 15 = .ok (.iconst (-1), 1) := by decide +kernel
theorem dX8_end_16 : decode cX8_end 16 = .ok (.ireturn, 1) := by decide +kernel
theorem dX8_end_17 : decode cX8_end 17 = .ok (.aload_n 0, 1) := by decide +kernel
theorem dX8_end_18 : decode cX8_end 18 = .ok (.getfield 10, 3) := by decide +kernel
theorem dX8_end_21 : decode cX8_end 21 = .ok (.iload_n 1, 1) := by decide +kernel
theorem dX8_end_22 : decode cX8_end 22 = .ok (.putfield 69, 3) := by decide +kernel
theorem dX8_end_25 : decode cX8_end 25 = .ok (.iload_n 1, 1) := by decide +kernel
theorem dX8_end_26 : decode cX8_end 26 = .ok (.ireturn, 1) := by decide +kernel
set_option maxRecDepth 20000 in
theorem ggX8_suit_X3_read : GoodIn wsX8_suit wsX3_read := goodIn_r _ [14, 15, 16, 17, 18, 19, 20, 21, 22, 23, 24, 25, 26, 27, 28, 29, 30, 31, 32, 33, 34, 35, 36, 13, 37, 38, 39, 40, 41, 42, 43, 44, 45, 46, 47, 48, 49, 50, 51, 52, 53, 54, 55, 56, 57, 58, 59, 60, 61, 62, 63, 64, 65, 66, 67, 68, 69, 70, 71, 72, 73, 74, 75, 76, 77, 78, 79, 80, 81, 82, 83, 84, 85, 86, 87, 88, 89, 90, 91, 92, 93, 94, 95, 96, 97, 98, 99, 100, 101, 102, 103, 104, 105, 106, 107, 108, 109, 110, 111, 112, 113, 114, 115, 116, 117, 118, 119, 120, 121, 122, 123, 124, 125, 126, 127, 128, 129, 130, 131, 132, 133, 134, 135, 136, 137, 138, 139, 140, 141, 142, 143, 144, 145, 146, 147, 148, 149, 150, 151, 152, 153, 154, 155, 156, 157, 158, 159, 160, 161, 162, 163, 164, 165, 166, 167, 168, 169, 170, 171, 172, 173, 174, 175, 176, 177, 178, 179, 180, 181, 182, 183, 184, 185, 186, 187, 188, 189, 190, 191, 192, 193, 194, 195, 196, 197, 198, 199, 200, 201, 202, 203, 204, 205, 206, 207, 208, 209, 210, 211, 212, 213, 214, 215, 216, 217, 218, 219, 220, 221, 222, 223, 224, 225, 226, 227, 228, 229, 230, 231, 232, 233, 234, 235, 236, 237, 238, 239, 240, 241, 242, 243, 244, 245, 246, 247, 248, 249, 250, 251, 252, 253, 254, 255, 256, 257, 258, 259, 260, 261, 262, 263, 264, 265, 266, 267, 268, 269, 270, 271, 272, 273, 274, 275, 276, 331, 332, 333, 334, 335, 336, 337, 338, 339, 340, 341, 342, 343, 349, 350, 351, 352, 353, 354, 355, 356, 357, 358, 359, 360, 361, 362, 363, 364, 365, 366] (by decide +kernel) (by decide +kernel)
set_option maxRecDepth 20000 in
theorem gX8_suit_X3_read : GoodIn wsX8_suit (wsV RX8 77 RX3 yX3_read wsX3_read) := goodIn_app (goodIn_of _ (by decide +kernel)) ggX8_suit_X3_read
set_option maxRecDepth 20000 in
theorem ggX8_suit_X3_exchange : GoodIn wsX8_suit wsX3_exchange := goodIn_r _ [280, 15, 331, 332, 333, 334, 335, 336, 337, 338, 339, 340, 341, 342, 343] (by decide +kernel) (by decide +kernel)
set_option maxRecDepth 20000 in
theorem gX8_suit_X3_exchange : GoodIn wsX8_suit (wsV RX8 81 RX3 yX3_exchange wsX3_exchange) := goodIn_app (goodIn_of _ (by decide +kernel)) ggX8_suit_X3_exchange
set_option maxRecDepth 20000 in
theorem ggX8_suit_X0_forget : GoodIn wsX8_suit wsX0_forget := goodIn_r _ [285, 286, 287, 367, 368, 369, 370] (by decide +kernel) (by decide +kernel)
set_option maxRecDepth 20000 in
theorem gX8_suit_X0_forget : GoodIn wsX8_suit (wsV RX8 85 RX0 yX0_forget wsX0_forget) := goodIn_app (goodIn_of _ (by decide +kernel)) ggX8_suit_X0_forget
set_option maxRecDepth 20000 in
theorem ggX8_suit_X8_now : GoodIn wsX8_suit wsX8_now := goodIn_r _ [291, 4, 292, 293, 294, 284, 295, 296, 297, 318, 319, 320, 321, 322, 323, 324, 325, 326, 327, 328, 329, 330, 367, 368, 369, 370] (by decide +kernel) (by decide +kernel)
set_option maxRecDepth 20000 in
theorem gX8_suit_X8_now : GoodIn wsX8_suit (wsV RX8 88 RX8 yX8_now wsX8_now) := goodIn_app (goodIn_of _ (by decide +kernel)) ggX8_suit_X8_now
set_option maxRecDepth 20000 in
theorem ggX8_suit_X4_startAs : GoodIn wsX8_suit wsX4_startAs := goodIn_r _ [302, 303, 304, 305, 306, 307, 308, 309, 310, 311, 312, 313, 314, 315, 316, 24, 317, 28, 349, 350, 351, 352, 353, 354, 355, 356, 357, 358, 359, 360, 371, 372, 373, 374, 375] (by decide +kernel) (by decide +kernel)
set_option maxRecDepth 20000 in
theorem gX8_suit_X4_startAs : GoodIn wsX8_suit (wsV RX8 92 RX4 yX4_startAs wsX4_startAs) := goodIn_app (goodIn_of _ (by decide +kernel)) ggX8_suit_X4_startAs
theorem dX8_suit_0 : decode cX8_suit 0 = .ok (.aload_n 0, 1) := by decide +kernel
theorem dX8_suit_1 : decode cX8_suit 1 = .ok (.getfield 10, 3) := by decide +kernel
theorem dX8_suit_4 : decode cX8_suit 4 = .ok (.invokevirtual 77, 3) := by decide +kernel
theorem dX8_suit_7 : decode cX8_suit 7 = .ok (.ifCond .ne 5, 3) := by decide +kernel
theorem dX8_suit_12 : decode cX8_suit 12 = .ok (.aload_n 0, 1) := by decide +kernel
theorem dX8_suit_13 : decode cX8_suit 13 = .ok (.aload_n 0, 1) := by decide +kernel
theorem dX8_suit_14 : decode cX8_suit 14 = .ok (.getfield 10, 3) := by decide +kernel
theorem dX8_suit_17 : decode cX8_suit 17 = .ok (.aload_n 0, 1) := by decide +kernel
theorem dX8_suit_18 : decode cX8_suit 18 = .ok (.getfield 19, 3) := by decide +kernel
theorem dX8_suit_21 : decode cX8_suit 21 = .ok (.invokevirtual 81, 3) := by decide +kernel
theorem dX8_suit_24 : decode cX8_suit 24 = .ok (.putfield 19, 3) := by decide +kernel
theorem dX8_suit_27 : decode cX8_suit 27 = .ok (.aload_n 0, 1) := by decide +kernel
theorem dX8_suit_28 : decode cX8_suit 28 = .ok (.getfield 10, 3) := by decide +kernel
theorem dX8_suit_31 : decode cX8_suit 31 = .ok (.iconst 0, 1) := by decide +kernel
theorem dX8_suit_32 : decode cX8_suit 32 = .ok (.putfield 69, 3) := by decide +kernel
theorem dX8_suit_35 : decode cX8_suit 35 = .ok (.aload_n 0, 1) := by decide +kernel
theorem dX8_suit_36 : decode cX8_suit 36 = .ok (.getfield 26, 3) := by decide +kernel
theorem dX8_suit_39 : decode cX8_suit 39 = .ok (.invokevirtual 85, 3) := by decide +kernel
theorem dX8_suit_42 : decode cX8_suit 42 = .ok (.aload_n 0, 1) := by decide +kernel
theorem dX8_suit_43 : decode cX8_suit 43 = .ok (.invokevirtual 88, 3) := by decide +kernel
theorem dX8_suit_46 : decode cX8_suit 46 = .ok (.aload_n 0, 1) := by decide +kernel
theorem dX8_suit_47 : decode cX8_suit 47 = .ok (.getfield 19, 3) := by decide +kernel
theorem dX8_suit_50 : decode cX8_suit 50 = .ok (.invokevirtual 92, 3) := by decide +kernel
theorem dX8_suit_53 : decode cX8_suit 53 = .ok (.aload_n 0, 1) := by decide +kernel
theorem dX8_suit_54 : decode cX8_suit 54 = .ok (.iconst 0, 1) := by decide +kernel
theorem dX8_suit_55 : decode cX8_suit 55 = .ok (.putfield 96, 3) := by decide +kernel
theorem dX8_suit_58 : decode cX8_suit 58 = .ok (.aload_n 0, 1) := by decide +kernel
theorem dX8_suit_59 : decode cX8_suit 59 = .ok (.getfield 58, 3) := by decide +kernel
theorem dX8_suit_62 : decode cX8_suit 62 = .ok (.iconst 0, 1) := by decide +kernel
theorem dX8_suit_63 : decode cX8_suit 63 = .ok (.putfield 99, 3) := by decide +kernel
theorem dX8_suit_66 : decode cX8_suit 66 = .ok (.aload_n 0, 1) := by decide +kernel
theorem dX8_suit_67 : decode cX8_suit 67 = .ok (.iconst 0, 1) := by decide +kernel
theorem dX8_suit_68 : decode cX8_suit 68 = .ok (.putfield 102, 3) := by decide +kernel
theorem dX8_suit_71 : decode cX8_suit 71 = .ok (.aload_n 0, 1) := by decide +kernel
theorem dX8_suit_72 : decode cX8_suit 72 = .ok (.getfield 19, 3) := by decide +kernel
theorem dX8_suit_75 : decode cX8_suit 75 = .ok (.getfield 105, 3) := by decide +kernel
theorem dX8_suit_78 : decode cX8_suit 78 = .ok (.ireturn, 1) := by decide +kernel
theorem dX8_fault_0 : decode cX8_fault 0 = .ok (.iload_n 1, 1) := by decide +kernel
theorem dX8_fault_1 : decode cX8_fault 1 = .ok (.ifCond .ne 11, 3) := by decide +kernel
theorem dX8_fault_4 : decode cX8_fault 4 = .ok (.aload_n 0, 1) := by decide +kernel
theorem dX8_fault_5 : decode cX8_fault 5 = .ok (.getfield 10, 3) := by decide +kernel
theorem dX8_fault_8 : decode cX8_fault 8 = .ok (.getfield 108, 3) := by decide +kernel
theorem dX8_fault_11 : decode cX8_fault 11 = .ok (.ireturn, 1) := by decide +kernel
theorem dX8_fault_12 : decode cX8_fault 12 = .ok (.iload_n 1, 1) := by decide +kernel
theorem dX8_fault_13 : decode cX8_fault 13 = .ok (.iconst 1, 1) := by decide +kernel
theorem dX8_fault_14 : decode cX8_fault 14 = .ok (.if_icmp .ne 13, 3) := by decide +kernel
theorem dX8_fault_17 : decode cX8_fault 17 = .ok (.aload_n 0, 1) := by decide +kernel
theorem dX8_fault_18 : decode cX8_fault 18 = .ok (.getfield 10, 3) := by decide +kernel
theorem dX8_fault_21 : decode cX8_fault 21 = .ok (.getfield 111, 3) := by decide +kernel
theorem dX8_fault_24 : decode cX8_fault 24 = .ok (.goto 4, 3) := by decide +kernel
theorem dX8_fault_27 : decode cX8_fault 27 = .ok (.iconst (-1), 1) := by decide +kernel
theorem dX8_fault_28 : decode cX8_fault 28 = .ok (.ireturn, 1) := by decide +kernel
set_option maxRecDepth 20000 in
theorem ggX8_point_X5_isPoint : GoodIn wsX8_point wsX5_isPoint := goodIn_r _ [11, 12, 39, 40, 41, 42, 43, 44, 45, 46, 47, 48, 49, 50] (by decide +kernel) (by decide +kernel)
set_option maxRecDepth 20000 in
theorem gX8_point_X5_isPoint : GoodIn wsX8_point (wsV RX8 114 RX5 yX5_isPoint wsX5_isPoint) := goodIn_app (goodIn_of _ (by decide +kernel)) ggX8_point_X5_isPoint
theorem dX8_point_0 : decode cX8_point 0 = .ok (.aload_n 0, 1) := by decide +kernel
theorem dX8_point_1 : decode cX8_point 1 = .ok (.getfield 19, 3) := by decide +kernel
theorem dX8_point_4 : decode cX8_point 4 = .ok (.iload_n 1, 1) := by decide +kernel
theorem dX8_point_5 : decode cX8_point 5 = .ok (.invokevirtual 114, 3) := by decide +kernel
theorem dX8_point_8 : decode cX8_point 8 = .ok (.ifCond .ne 5, 3) := by decide +kernel
theorem dX8_point_11 : decode cX8_point 11 = .ok (.iconst (-1), 1) := by decide +kernel
theorem dX8_point_12 : decode cX8_point 12 = .ok (.ireturn, 1) := by decide +kernel
set_option maxRecDepth 20000 in
theorem ggX8_strand_X5_isStrand : GoodIn wsX8_strand wsX5_isStrand := goodIn_r _ [12, 13, 121, 122, 123, 124, 125, 126, 127, 128, 129, 130, 131, 132] (by decide +kernel) (by decide +kernel)
set_option maxRecDepth 20000 in
theorem gX8_strand_X5_isStrand : GoodIn wsX8_strand (wsV RX8 133 RX5 yX5_isStrand wsX5_isStrand) := goodIn_app (goodIn_of _ (by decide +kernel)) ggX8_strand_X5_isStrand
theorem dX8_strand_0 : decode cX8_strand 0 = .ok (.aload_n 0, 1) := by decide +kernel
theorem dX8_strand_1 : decode cX8_strand 1 = .ok (.getfield 19, 3) := by decide +kernel
theorem dX8_strand_4 : decode cX8_strand 4 = .ok (.iload_n 1, 1) := by decide +kernel
theorem dX8_strand_5 : decode cX8_strand 5 = .ok (.invokevirtual 133, 3) := by decide +kernel
theorem dX8_strand_8 : decode cX8_strand 8 = .ok (.ifCond .ne 5, 3) := by decide +kernel
theorem dX8_strand_11 : decode cX8_strand 11 = .ok (.iconst (-1), 1) := by decide +kernel
theorem dX8_strand_12 : decode cX8_strand 12 = .ok (.ireturn, 1) := by decide +kernel
set_option maxRecDepth 20000 in
theorem ggX8_about_X8_now : GoodIn wsX8_about wsX8_now := goodIn_r _ [25, 9, 26, 27, 28, 29, 30, 31, 32, 33, 34, 35, 36, 37, 38, 39, 40, 41, 42, 43, 44, 45, 63, 64, 65, 66] (by decide +kernel) (by decide +kernel)
set_option maxRecDepth 20000 in
theorem gX8_about_X8_now : GoodIn wsX8_about (wsV RX8 88 RX8 yX8_now wsX8_now) := goodIn_app (goodIn_of _ (by decide +kernel)) ggX8_about_X8_now
theorem dX8_about_0 : decode cX8_about 0 = .ok (.iload_n 1, 1) := by decide +kernel
theorem dX8_about_1 : decode cX8_about 1 = .ok (.tableswitch 192 0 14 #[75, 83, 91, 99, 107, 115, 123, 131, 139, 147, 155, 160, 168, 179, 187], 75) := by decide +kernel
theorem dX8_about_76 : decode cX8_about 76 = .ok (.aload_n 0, 1) := by decide +kernel
theorem dX8_about_77 : decode cX8_about 77 = .ok (.getfield 19, 3) := by decide +kernel
theorem dX8_about_80 : decode cX8_about 80 = .ok (.getfield 105, 3) := by decide +kernel
theorem dX8_about_83 : decode cX8_about 83 = .ok (.ireturn, 1) := by decide +kernel
theorem dX8_about_84 : decode cX8_about 84 = .ok (.aload_n 0, 1) := by decide +kernel
theorem dX8_about_85 : decode cX8_about 85 = .ok (.getfield 19, 3) := by decide +kernel
theorem dX8_about_88 : decode cX8_about 88 = .ok (.getfield 157, 3) := by decide +kernel
theorem dX8_about_91 : decode cX8_about 91 = .ok (.ireturn, 1) := by decide +kernel
theorem dX8_about_92 : decode cX8_about 92 = .ok (.aload_n 0, 1) := by decide +kernel
theorem dX8_about_93 : decode cX8_about 93 = .ok (.getfield 19, 3) := by decide +kernel
theorem dX8_about_96 : decode cX8_about 96 = .ok (.getfield 118, 3) := by decide +kernel
theorem dX8_about_99 : decode cX8_about 99 = .ok (.ireturn, 1) := by decide +kernel
theorem dX8_about_100 : decode cX8_about 100 = .ok (.aload_n 0, 1) := by decide +kernel
theorem dX8_about_101 : decode cX8_about 101 = .ok (.invokevirtual 88, 3) := by decide +kernel
theorem dX8_about_104 : decode cX8_about 104 = .ok (.getfield 124, 3) := by decide +kernel
theorem dX8_about_107 : decode cX8_about 107 = .ok (.ireturn, 1) := by decide +kernel
theorem dX8_about_108 : decode cX8_about 108 = .ok (.aload_n 0, 1) := by decide +kernel
theorem dX8_about_109 : decode cX8_about 109 = .ok (.invokevirtual 88, 3) := by decide +kernel
theorem dX8_about_112 : decode cX8_about 112 = .ok (.getfield 145, 3) := by decide +kernel
theorem dX8_about_115 : decode cX8_about 115 = .ok (.ireturn, 1) := by decide +kernel
theorem dX8_about_116 : decode cX8_about 116 = .ok (.aload_n 0, 1) := by decide +kernel
theorem dX8_about_117 : decode cX8_about 117 = .ok (.invokevirtual 88, 3) := by decide +kernel
theorem dX8_about_120 : decode cX8_about 120 = .ok (.getfield 160, 3) := by decide +kernel
theorem dX8_about_123 : decode cX8_about 123 = .ok (.ireturn, 1) := by decide +kernel
theorem dX8_about_124 : decode cX8_about 124 = .ok (.aload_n 0, 1) := by decide +kernel
theorem dX8_about_125 : decode cX8_about 125 = .ok (.invokevirtual 88, 3) := by decide +kernel
theorem dX8_about_128 : decode cX8_about 128 = .ok (.getfield 163, 3) := by decide +kernel
theorem dX8_about_131 : decode cX8_about 131 = .ok (.ireturn, 1) := by decide +kernel
theorem dX8_about_132 : decode cX8_about 132 = .ok (.aload_n 0, 1) := by decide +kernel
theorem dX8_about_133 : decode cX8_about 133 = .ok (.getfield 26, 3) := by decide +kernel
theorem dX8_about_136 : decode cX8_about 136 = .ok (.getfield 166, 3) := by decide +kernel
theorem dX8_about_139 : decode cX8_about 139 = .ok (.ireturn, 1) := by decide +kernel
theorem dX8_about_140 : decode cX8_about 140 = .ok (.aload_n 0, 1) := by decide +kernel
theorem dX8_about_141 : decode cX8_about 141 = .ok (.getfield 26, 3) := by decide +kernel
theorem dX8_about_144 : decode cX8_about 144 = .ok (.getfield 169, 3) := by decide +kernel
theorem dX8_about_147 : decode cX8_about 147 = .ok (.ireturn, 1) := by decide +kernel
theorem dX8_about_148 : decode cX8_about 148 = .ok (.aload_n 0, 1) := by decide +kernel
theorem dX8_about_149 : decode cX8_about 149 = .ok (.getfield 58, 3) := by decide +kernel
theorem dX8_about_152 : decode cX8_about 152 = .ok (.getfield 99, 3) := by decide +kernel
theorem dX8_about_155 : decode cX8_about 155 = .ok (.ireturn, 1) := by decide +kernel
theorem dX8_about_156 : decode cX8_about 156 = .ok (.aload_n 0, 1) := by decide +kernel
theorem dX8_about_157 : decode cX8_about 157 = .ok (.getfield 172, 3) := by decide +kernel
theorem dX8_about_160 : decode cX8_about 160 = .ok (.ireturn, 1) := by decide +kernel
theorem dX8_about_161 : decode cX8_about 161 = .ok (.aload_n 0, 1) := by decide +kernel
theorem dX8_about_162 : decode cX8_about 162 = .ok (.getfield 10, 3) := by decide +kernel
theorem dX8_about_165 : decode cX8_about 165 = .ok (.getfield 69, 3) := by decide +kernel
theorem dX8_about_168 : decode cX8_about 168 = .ok (.ireturn, 1) := by decide +kernel
theorem dX8_about_169 : decode cX8_about 169 = .ok (.aload_n 0, 1) := by decide +kernel
theorem dX8_about_170 : decode cX8_about 170 = .ok (.getfield 19, 3) := by decide +kernel
theorem dX8_about_173 : decode cX8_about 173 = .ok (.getfield 175, 3) := by decide +kernel
theorem dX8_about_176 : decode cX8_about 176 = .ok (.getfield 179, 3) := by decide +kernel
theorem dX8_about_179 : decode cX8_about 179 = .ok (.ireturn, 1) := by decide +kernel
theorem dX8_about_180 : decode cX8_about 180 = .ok (.aload_n 0, 1) := by decide +kernel
theorem dX8_about_181 : decode cX8_about 181 = .ok (.getfield 19, 3) := by decide +kernel
theorem dX8_about_184 : decode cX8_about 184 = .ok (.getfield 184, 3) := by decide +kernel
theorem dX8_about_187 : decode cX8_about 187 = .ok (.ireturn, 1) := by decide +kernel
theorem dX8_about_188 : decode cX8_about 188 = .ok (.aload_n 0, 1) := by decide +kernel
theorem dX8_about_189 : decode cX8_about 189 = .ok (.getfield 102, 3) := by decide +kernel
theorem dX8_about_192 : decode cX8_about 192 = .ok (.ireturn, 1) := by decide +kernel
theorem dX8_about_193 : decode cX8_about 193 = .ok (.iconst (-1), 1) := by decide +kernel
theorem dX8_about_194 : decode cX8_about 194 = .ok (.ireturn, 1) := by decide +kernel
set_option maxRecDepth 20000 in
theorem ggX8_now_X0_state : GoodIn wsX8_now wsX0_state := goodIn_r _ [6, 7, 8, 22, 23, 24, 25] (by decide +kernel) (by decide +kernel)
set_option maxRecDepth 20000 in
theorem gX8_now_X0_state : GoodIn wsX8_now (wsV RX8 187 RX0 yX0_state wsX0_state) := goodIn_app (goodIn_of _ (by decide +kernel)) ggX8_now_X0_state
theorem dX8_now_0 : decode cX8_now 0 = .ok (.aload_n 0, 1) := by decide +kernel
theorem dX8_now_1 : decode cX8_now 1 = .ok (.getfield 26, 3) := by decide +kernel
theorem dX8_now_4 : decode cX8_now 4 = .ok (.invokevirtual 187, 3) := by decide +kernel
theorem dX8_now_7 : decode cX8_now 7 = .ok (.areturn, 1) := by decide +kernel
set_option maxRecDepth 20000 in
theorem ggX8_cut_X8_isTied : GoodIn wsX8_cut wsX8_isTied := goodIn_r _ [7, 8, 2, 9, 10, 11, 12, 13, 14, 15, 16, 17, 6, 18, 1, 19, 20, 21, 22, 23, 24, 25, 26, 27, 28, 166, 167, 168, 169, 170, 171, 172, 173, 174, 175, 176, 177, 178, 179, 180, 181, 182, 183, 184, 185, 186, 187, 188, 189, 190, 191, 192, 193, 194, 195, 196, 197, 198, 199] (by decide +kernel) (by decide +kernel)
set_option maxRecDepth 20000 in
theorem gX8_cut_X8_isTied : GoodIn wsX8_cut (wsV RX8 190 RX8 yX8_isTied wsX8_isTied) := goodIn_app (goodIn_of _ (by decide +kernel)) ggX8_cut_X8_isTied
theorem dX8_cut_0 : decode cX8_cut 0 = .ok (.aload_n 0, 1) := by decide +kernel
theorem dX8_cut_1 : decode cX8_cut 1 = .ok (.iload_n 1, 1) := by decide +kernel
theorem dX8_cut_2 : decode cX8_cut 2 = .ok (.invokevirtual 190, 3) := by decide +kernel
theorem dX8_cut_5 : decode cX8_cut 5 = .ok (.ifCond .ne 5, 3) := by decide +kernel
theorem dX8_cut_8 : decode cX8_cut 8 = .ok (.iconst (-1), 1) := by decide +kernel
theorem dX8_cut_9 : decode cX8_cut 9 = .ok (.ireturn, 1) := by decide +kernel
set_option maxRecDepth 20000 in
theorem ggX8_tie_X5_isStrand : GoodIn wsX8_tie wsX5_isStrand := goodIn_r _ [8, 9, 184, 185, 186, 187, 188, 189, 190, 191, 192, 193, 194, 195] (by decide +kernel) (by decide +kernel)
set_option maxRecDepth 20000 in
theorem gX8_tie_X5_isStrand : GoodIn wsX8_tie (wsV RX8 133 RX5 yX5_isStrand wsX5_isStrand) := goodIn_app (goodIn_of _ (by decide +kernel)) ggX8_tie_X5_isStrand
theorem dX8_tie_0 : decode cX8_tie 0 = .ok (.aload_n 0, 1) := by decide +kernel
theorem dX8_tie_1 : decode cX8_tie 1 = .ok (.getfield 19, 3) := by decide +kernel
theorem dX8_tie_4 : decode cX8_tie 4 = .ok (.iload_n 1, 1) := by decide +kernel
theorem dX8_tie_5 : decode cX8_tie 5 = .ok (.invokevirtual 133, 3) := by decide +kernel
theorem dX8_tie_8 : decode cX8_tie 8 = .ok (.ifCond .eq 11, 3) := by decide +kernel
theorem dX8_tie_19 : decode cX8_tie 19 = .ok (.iconst (-1), 1) := by decide +kernel
theorem dX8_tie_20 : decode cX8_tie 20 = .ok (.ireturn, 1) := by decide +kernel
set_option maxRecDepth 20000 in
theorem ggX8_tighten_X5_isStrand : GoodIn wsX8_tighten wsX5_isStrand := goodIn_r _ [8, 9, 64, 65, 66, 67, 68, 69, 70, 71, 72, 73, 74, 75] (by decide +kernel) (by decide +kernel)
set_option maxRecDepth 20000 in
theorem gX8_tighten_X5_isStrand : GoodIn wsX8_tighten (wsV RX8 133 RX5 yX5_isStrand wsX5_isStrand) := goodIn_app (goodIn_of _ (by decide +kernel)) ggX8_tighten_X5_isStrand
theorem dX8_tighten_0 : decode cX8_tighten 0 = .ok (.aload_n 0, 1) := by decide +kernel
theorem dX8_tighten_1 : decode cX8_tighten 1 = .ok (.getfield 19, 3) := by decide +kernel
theorem dX8_tighten_4 : decode cX8_tighten 4 = .ok (.iload_n 1, 1) := by decide +kernel
theorem dX8_tighten_5 : decode cX8_tighten 5 = .ok (.invokevirtual 133, 3) := by decide +kernel
theorem dX8_tighten_8 : decode cX8_tighten 8 = .ok (.ifCond .eq 13, 3) := by decide +kernel
theorem dX8_tighten_21 : decode cX8_tighten 21 = .ok (.iconst (-1), 1) := by decide +kernel
theorem dX8_tighten_22 : decode cX8_tighten 22 = .ok (.ireturn, 1) := by decide +kernel
set_option maxRecDepth 20000 in
theorem ggX8_strike_X8_isProved : GoodIn wsX8_strike wsX8_isProved := goodIn_r _ [7, 8, 2, 9, 10, 11, 12, 13, 14, 15, 16, 17, 18, 19, 20, 6, 21, 22, 23, 24, 25, 1, 26, 27, 28, 29, 30, 31, 32, 33, 170, 171, 172, 173, 174, 175, 176, 177, 178, 179, 180, 181, 182, 183, 184, 185, 186, 187, 188, 189, 190, 191, 192, 193, 194, 195, 196, 197, 198, 199, 200, 201, 202, 203] (by decide +kernel) (by decide +kernel)
set_option maxRecDepth 20000 in
theorem gX8_strike_X8_isProved : GoodIn wsX8_strike (wsV RX8 200 RX8 yX8_isProved wsX8_isProved) := goodIn_app (goodIn_of _ (by decide +kernel)) ggX8_strike_X8_isProved
theorem dX8_strike_0 : decode cX8_strike 0 = .ok (.aload_n 0, 1) := by decide +kernel
theorem dX8_strike_1 : decode cX8_strike 1 = .ok (.iload_n 1, 1) := by decide +kernel
theorem dX8_strike_2 : decode cX8_strike 2 = .ok (.invokevirtual 200, 3) := by decide +kernel
theorem dX8_strike_5 : decode cX8_strike 5 = .ok (.ifCond .ne 5, 3) := by decide +kernel
theorem dX8_strike_8 : decode cX8_strike 8 = .ok (.iconst (-1), 1) := by decide +kernel
theorem dX8_strike_9 : decode cX8_strike 9 = .ok (.ireturn, 1) := by decide +kernel
set_option maxRecDepth 20000 in
theorem ggX8_prove_X5_isFact : GoodIn wsX8_prove wsX5_isFact := goodIn_r _ [8, 9, 10, 11, 12, 7, 13, 14, 15, 16, 17, 188, 189, 190, 191, 192, 193, 194, 195, 196, 197, 198, 199] (by decide +kernel) (by decide +kernel)
set_option maxRecDepth 20000 in
theorem gX8_prove_X5_isFact : GoodIn wsX8_prove (wsV RX8 203 RX5 yX5_isFact wsX5_isFact) := goodIn_app (goodIn_of _ (by decide +kernel)) ggX8_prove_X5_isFact
theorem dX8_prove_0 : decode cX8_prove 0 = .ok (.aload_n 0, 1) := by decide +kernel
theorem dX8_prove_1 : decode cX8_prove 1 = .ok (.getfield 19, 3) := by decide +kernel
theorem dX8_prove_4 : decode cX8_prove 4 = .ok (.iload_n 1, 1) := by decide +kernel
theorem dX8_prove_5 : decode cX8_prove 5 = .ok (.invokevirtual 203, 3) := by decide +kernel
theorem dX8_prove_8 : decode cX8_prove 8 = .ok (.ifCond .eq 11, 3) := by decide +kernel
theorem dX8_prove_19 : decode cX8_prove 19 = .ok (.iconst (-1), 1) := by decide +kernel
theorem dX8_prove_20 : decode cX8_prove 20 = .ok (.ireturn, 1) := by decide +kernel
set_option maxRecDepth 20000 in
theorem ggX8_day_X8_now : GoodIn wsX8_day wsX8_now := goodIn_r _ [8, 2, 9, 10, 11, 12, 13, 14, 15, 53, 54, 55, 56, 57, 58, 59, 60, 61, 62, 63, 64, 65, 66, 67, 68, 69] (by decide +kernel) (by decide +kernel)
set_option maxRecDepth 20000 in
theorem gX8_day_X8_now : GoodIn wsX8_day (wsV RX8 88 RX8 yX8_now wsX8_now) := goodIn_app (goodIn_of _ (by decide +kernel)) ggX8_day_X8_now
set_option maxRecDepth 20000 in
theorem ggX8_day_X0_nextState : GoodIn wsX8_day wsX0_nextState := goodIn_r _ [19, 14, 15, 20, 21, 22, 23, 24, 25, 26, 27, 28, 29, 30, 31, 32, 33, 34, 35, 36, 37, 38, 39, 66, 67, 68, 69, 48, 49, 50, 51, 52] (by decide +kernel) (by decide +kernel)
set_option maxRecDepth 20000 in
theorem gX8_day_X0_nextState : GoodIn wsX8_day (wsV RX8 193 RX0 yX0_nextState wsX0_nextState) := goodIn_app (goodIn_of _ (by decide +kernel)) ggX8_day_X0_nextState
set_option maxRecDepth 20000 in
theorem ggX8_day_X4_pass : GoodIn wsX8_day wsX4_pass := goodIn_r _ [43, 38, 44, 36, 31, 39, 45, 46, 7, 47, 48, 49, 50, 51, 52, 70, 71, 72, 73, 74, 75, 76, 77, 78, 79, 80, 81] (by decide +kernel) (by decide +kernel)
set_option maxRecDepth 20000 in
theorem gX8_day_X4_pass : GoodIn wsX8_day (wsV RX8 206 RX4 yX4_pass wsX4_pass) := goodIn_app (goodIn_of _ (by decide +kernel)) ggX8_day_X4_pass
theorem dX8_day_0 : decode cX8_day 0 = .ok (.aload_n 0, 1) := by decide +kernel
theorem dX8_day_1 : decode cX8_day 1 = .ok (.invokevirtual 88, 3) := by decide +kernel
theorem dX8_day_4 : decode cX8_day 4 = .ok (.getfield 160, 3) := by decide +kernel
theorem dX8_day_7 : decode cX8_day 7 = .ok (.sipush 999, 3) := by decide +kernel
theorem dX8_day_10 : decode cX8_day 10 = .ok (.if_icmp .lt 5, 3) := by decide +kernel
theorem dX8_day_15 : decode cX8_day 15 = .ok (.aload_n 0, 1) := by decide +kernel
theorem dX8_day_16 : decode cX8_day 16 = .ok (.getfield 26, 3) := by decide +kernel
theorem dX8_day_19 : decode cX8_day 19 = .ok (.invokevirtual 193, 3) := by decide +kernel
theorem dX8_day_22 : decode cX8_day 22 = .ok (.aload_n 0, 1) := by decide +kernel
theorem dX8_day_23 : decode cX8_day 23 = .ok (.getfield 19, 3) := by decide +kernel
theorem dX8_day_26 : decode cX8_day 26 = .ok (.invokevirtual 206, 3) := by decide +kernel
theorem dX8_day_29 : decode cX8_day 29 = .ok (.ireturn, 1) := by decide +kernel
set_option maxRecDepth 20000 in
theorem ggX8_undo_X0_goBack : GoodIn wsX8_undo wsX0_goBack := goodIn_r _ [6, 7, 8, 9, 23, 24, 25, 26] (by decide +kernel) (by decide +kernel)
set_option maxRecDepth 20000 in
theorem gX8_undo_X0_goBack : GoodIn wsX8_undo (wsV RX8 210 RX0 yX0_goBack wsX0_goBack) := goodIn_app (goodIn_of _ (by decide +kernel)) ggX8_undo_X0_goBack
theorem dX8_undo_0 : decode cX8_undo 0 = .ok (.aload_n 0, 1) := by decide +kernel
theorem dX8_undo_1 : decode cX8_undo 1 = .ok (.getfield 26, 3) := by decide +kernel
theorem dX8_undo_4 : decode cX8_undo 4 = .ok (.invokevirtual 210, 3) := by decide +kernel
theorem dX8_undo_7 : decode cX8_undo 7 = .ok (.ireturn, 1) := by decide +kernel
set_option maxRecDepth 20000 in
theorem ggX8_redo_X0_goOn : GoodIn wsX8_redo wsX0_goOn := goodIn_r _ [6, 7, 8, 9, 23, 24, 25, 26] (by decide +kernel) (by decide +kernel)
set_option maxRecDepth 20000 in
theorem gX8_redo_X0_goOn : GoodIn wsX8_redo (wsV RX8 213 RX0 yX0_goOn wsX0_goOn) := goodIn_app (goodIn_of _ (by decide +kernel)) ggX8_redo_X0_goOn
theorem dX8_redo_0 : decode cX8_redo 0 = .ok (.aload_n 0, 1) := by decide +kernel
theorem dX8_redo_1 : decode cX8_redo 1 = .ok (.getfield 26, 3) := by decide +kernel
theorem dX8_redo_4 : decode cX8_redo 4 = .ok (.invokevirtual 213, 3) := by decide +kernel
theorem dX8_redo_7 : decode cX8_redo 7 = .ok (.ireturn, 1) := by decide +kernel
set_option maxRecDepth 20000 in
theorem ggX8_image_X8_now : GoodIn wsX8_image wsX8_now := goodIn_r _ [8, 9, 10, 11, 12, 13, 14, 15, 16, 31, 32, 33, 34, 35, 36, 37, 38, 39, 40, 41, 42, 43, 49, 50, 51, 52] (by decide +kernel) (by decide +kernel)
set_option maxRecDepth 20000 in
theorem gX8_image_X8_now : GoodIn wsX8_image (wsV RX8 88 RX8 yX8_now wsX8_now) := goodIn_app (goodIn_of _ (by decide +kernel)) ggX8_image_X8_now
set_option maxRecDepth 20000 in
theorem ggX8_image_X4_copy : GoodIn wsX8_image wsX4_copy := goodIn_r _ [21, 22, 23, 24, 25, 26, 27, 28, 29, 30, 44, 45, 46, 47, 48] (by decide +kernel) (by decide +kernel)
set_option maxRecDepth 20000 in
theorem gX8_image_X4_copy : GoodIn wsX8_image (wsV RX8 216 RX4 yX4_copy wsX4_copy) := goodIn_app (goodIn_of _ (by decide +kernel)) ggX8_image_X4_copy
theorem dX8_image_0 : decode cX8_image 0 = .ok (.iload_n 1, 1) := by decide +kernel
theorem dX8_image_1 : decode cX8_image 1 = .ok (.ifCond .lt 8, 3) := by decide +kernel
theorem dX8_image_4 : decode cX8_image 4 = .ok (.iload_n 1, 1) := by decide +kernel
theorem dX8_image_5 : decode cX8_image 5 = .ok (.iconst 3, 1) := by decide +kernel
theorem dX8_image_6 : decode cX8_image 6 = .ok (.if_icmp .lt 5, 3) := by decide +kernel
theorem dX8_image_9 : decode cX8_image 9 = .ok (.iconst (-1), 1) := by decide +kernel
theorem dX8_image_10 : decode cX8_image 10 = .ok (.ireturn, 1) := by decide +kernel
theorem dX8_image_11 : decode cX8_image 11 = .ok (.aload_n 0, 1) := by decide +kernel
theorem dX8_image_12 : decode cX8_image 12 = .ok (.getfield 37, 3) := by decide +kernel
theorem dX8_image_15 : decode cX8_image 15 = .ok (.iload_n 1, 1) := by decide +kernel
theorem dX8_image_16 : decode cX8_image 16 = .ok (.aaload, 1) := by decide +kernel
theorem dX8_image_17 : decode cX8_image 17 = .ok (.aload_n 0, 1) := by decide +kernel
theorem dX8_image_18 : decode cX8_image 18 = .ok (.invokevirtual 88, 3) := by decide +kernel
theorem dX8_image_21 : decode cX8_image 21 = .ok (.invokevirtual 216, 3) := by decide +kernel
theorem dX8_image_24 : decode cX8_image 24 = .ok (.aload_n 0, 1) := by decide +kernel
theorem dX8_image_25 : decode cX8_image 25 = .ok (.dup, 1) := by decide +kernel
theorem dX8_image_26 : decode cX8_image 26 = .ok (.getfield 96, 3) := by decide +kernel
theorem dX8_image_29 : decode cX8_image 29 = .ok (.iconst 1, 1) := by decide +kernel
theorem dX8_image_30 : decode cX8_image 30 = .ok (.iload_n 1, 1) := by decide +kernel
theorem dX8_image_31 : decode cX8_image 31 = .ok (.ishl, 1) := by decide +kernel
theorem dX8_image_32 : decode cX8_image 32 = .ok (.ior, 1) := by decide +kernel
theorem dX8_image_33 : decode cX8_image 33 = .ok (.putfield 96, 3) := by decide +kernel
theorem dX8_image_36 : decode cX8_image 36 = .ok (.aload_n 0, 1) := by decide +kernel
theorem dX8_image_37 : decode cX8_image 37 = .ok (.invokevirtual 88, 3) := by decide +kernel
theorem dX8_image_40 : decode cX8_image 40 = .ok (.getfield 160, 3) := by decide +kernel
theorem dX8_image_43 : decode cX8_image 43 = .ok (.ireturn, 1) := by decide +kernel
set_option maxRecDepth 20000 in
theorem ggX8_back_X8_has : GoodIn wsX8_back wsX8_has := goodIn_r _ [8] (by decide +kernel) (by decide +kernel)
set_option maxRecDepth 20000 in
theorem gX8_back_X8_has : GoodIn wsX8_back (va_wsS RX8 220 yX8_has wsX8_has) := goodIn_app (goodIn_of _ (by decide +kernel)) ggX8_back_X8_has
theorem dX8_back_0 : decode cX8_back 0 = .ok (.iload_n 1, 1) := by decide +kernel
theorem dX8_back_1 : decode cX8_back 1 = .ok (.ifCond .lt 19, 3) := by decide +kernel
theorem dX8_back_4 : decode cX8_back 4 = .ok (.iload_n 1, 1) := by decide +kernel
theorem dX8_back_5 : decode cX8_back 5 = .ok (.iconst 3, 1) := by decide +kernel
theorem dX8_back_6 : decode cX8_back 6 = .ok (.if_icmp .ge 14, 3) := by decide +kernel
theorem dX8_back_9 : decode cX8_back 9 = .ok (.aload_n 0, 1) := by decide +kernel
theorem dX8_back_10 : decode cX8_back 10 = .ok (.getfield 96, 3) := by decide +kernel
theorem dX8_back_13 : decode cX8_back 13 = .ok (.iload_n 1, 1) := by decide +kernel
theorem dX8_back_14 : decode cX8_back 14 = .ok (.invokestatic 220, 3) := by decide +kernel
theorem dX8_back_17 : decode cX8_back 17 = .ok (.ifCond .ne 5, 3) := by decide +kernel
theorem dX8_back_20 : decode cX8_back 20 = .ok (.iconst (-1), 1) := by decide +kernel
theorem dX8_back_21 : decode cX8_back 21 = .ok (.ireturn, 1) := by decide +kernel
set_option maxRecDepth 20000 in
theorem ggX8_stands_X8_standingNow : GoodIn wsX8_stands wsX8_standingNow := goodIn_r _ [5, 6, 7, 8, 9, 10, 4, 11, 12, 13, 14, 15, 16, 17, 18, 19, 20, 21, 22, 23, 24, 25, 26, 27, 28, 29, 30, 31, 32, 33, 34, 35, 36, 37, 38, 39, 40, 41, 42, 43, 44, 45, 46, 47, 48, 49, 50, 51, 52, 53, 54, 55, 56, 57, 58, 59, 60, 61, 62, 63, 64, 65, 66, 67, 68, 69, 70, 71, 72, 73, 74, 75, 76, 77, 78, 79, 80, 81, 82, 83, 84, 85, 86, 87, 88, 89, 90, 91, 92, 93, 94, 95, 96, 97, 98, 99, 100, 101, 102, 103, 104, 105, 106, 107, 108, 109, 110, 111, 112, 113, 114, 115, 116, 117, 118, 119, 120, 121, 122, 123, 124, 125, 126, 127, 128, 129, 130, 131, 132, 133, 134, 135, 136, 137, 138, 139, 140, 141, 142, 143, 144, 145, 146, 147, 148, 149, 150, 151, 152, 153, 154, 155, 156, 157, 158, 159, 160, 161, 162, 163, 164, 165, 166, 167, 168, 169, 170, 171, 172, 173, 174, 175, 176, 177, 178, 179, 180, 181] (by decide +kernel) (by decide +kernel)
set_option maxRecDepth 20000 in
theorem gX8_stands_X8_standingNow : GoodIn wsX8_stands (wsV RX8 224 RX8 yX8_standingNow wsX8_standingNow) := goodIn_app (goodIn_of _ (by decide +kernel)) ggX8_stands_X8_standingNow
theorem dX8_stands_0 : decode cX8_stands 0 = .ok (.aload_n 0, 1) := by decide +kernel
theorem dX8_stands_1 : decode cX8_stands 1 = .ok (.invokevirtual 224, 3) := by decide +kernel
theorem dX8_stands_4 : decode cX8_stands 4 = .ok (.ireturn, 1) := by decide +kernel
set_option maxRecDepth 20000 in
theorem ggX8_tight_X8_look : GoodIn wsX8_tight wsX8_look := goodIn_r _ [7, 1, 8, 9, 10, 11, 6, 12, 13, 14, 15, 16, 17, 18, 19, 20, 21, 22, 23, 24, 25, 26, 27, 28, 29, 30, 31, 32, 33, 34, 35, 36, 37, 38, 39, 40, 123, 124, 125, 126, 127, 128, 129, 130, 131, 132, 133, 134, 135, 141, 142, 143, 144, 145, 146, 147, 148, 149, 150, 151, 152, 153, 154, 155, 156, 157, 158, 159, 160, 161, 162, 163, 164, 165, 166, 136, 137, 138, 139, 140] (by decide +kernel) (by decide +kernel)
set_option maxRecDepth 20000 in
theorem gX8_tight_X8_look : GoodIn wsX8_tight (wsV RX8 148 RX8 yX8_look wsX8_look) := goodIn_app (goodIn_of _ (by decide +kernel)) ggX8_tight_X8_look
set_option maxRecDepth 20000 in
theorem ggX8_tight_X8_now : GoodIn wsX8_tight wsX8_now := goodIn_r _ [12, 13, 14, 15, 16, 17, 18, 19, 20, 123, 124, 125, 126, 127, 128, 129, 130, 131, 132, 133, 134, 135, 141, 142, 143, 144] (by decide +kernel) (by decide +kernel)
set_option maxRecDepth 20000 in
theorem gX8_tight_X8_now : GoodIn wsX8_tight (wsV RX8 88 RX8 yX8_now wsX8_now) := goodIn_app (goodIn_of _ (by decide +kernel)) ggX8_tight_X8_now
set_option maxRecDepth 20000 in
theorem ggX8_tight_X2_greatest : GoodIn wsX8_tight wsX2_greatest := goodIn_r _ [44, 26, 29, 45, 46, 47, 24, 48, 49, 33, 50, 51, 6, 52, 53, 54, 55, 56, 57, 58, 59, 60, 61, 62, 63, 40, 39, 31, 64, 65, 66, 67, 68, 69, 70, 71, 72, 73, 74, 75, 76, 77, 78, 79, 80, 81, 82, 83, 84, 85, 86, 87, 88, 89, 90, 91, 92, 93, 94, 95, 96, 97, 98, 99, 100, 101, 102, 103, 104, 105, 106, 107, 108, 109, 110, 111, 112, 113, 114, 115, 116, 117, 118, 119, 120, 121, 122, 145, 146, 147, 148, 149, 150, 151, 152, 153, 154, 155, 156, 157, 158, 159, 160, 161, 162, 163, 164, 165, 166, 167, 168, 169, 170, 171, 172] (by decide +kernel) (by decide +kernel)
set_option maxRecDepth 20000 in
theorem gX8_tight_X2_greatest : GoodIn wsX8_tight (wsV RX8 227 RX2 yX2_greatest wsX2_greatest) := goodIn_app (goodIn_of _ (by decide +kernel)) ggX8_tight_X2_greatest
theorem dX8_tight_0 : decode cX8_tight 0 = .ok (.aload_n 0, 1) := by decide +kernel
theorem dX8_tight_1 : decode cX8_tight 1 = .ok (.invokevirtual 148, 3) := by decide +kernel
theorem dX8_tight_4 : decode cX8_tight 4 = .ok (.aload_n 0, 1) := by decide +kernel
theorem dX8_tight_5 : decode cX8_tight 5 = .ok (.getfield 44, 3) := by decide +kernel
theorem dX8_tight_8 : decode cX8_tight 8 = .ok (.aload_n 0, 1) := by decide +kernel
theorem dX8_tight_9 : decode cX8_tight 9 = .ok (.invokevirtual 88, 3) := by decide +kernel
theorem dX8_tight_12 : decode cX8_tight 12 = .ok (.getfield 145, 3) := by decide +kernel
theorem dX8_tight_15 : decode cX8_tight 15 = .ok (.invokevirtual 227, 3) := by decide +kernel
theorem dX8_tight_18 : decode cX8_tight 18 = .ok (.ireturn, 1) := by decide +kernel
set_option maxRecDepth 20000 in
theorem ggX8_hollow_X8_look : GoodIn wsX8_hollow wsX8_look := goodIn_r _ [7, 1, 8, 9, 10, 11, 6, 12, 13, 14, 15, 16, 17, 18, 19, 20, 21, 22, 23, 24, 25, 26, 27, 28, 29, 30, 31, 32, 33, 34, 35, 36, 37, 38, 39, 40, 132, 133, 134, 135, 136, 137, 138, 139, 140, 141, 142, 143, 144, 150, 151, 152, 153, 154, 155, 156, 157, 158, 159, 160, 161, 162, 163, 164, 165, 166, 167, 168, 169, 170, 171, 172, 173, 174, 175, 145, 146, 147, 148, 149] (by decide +kernel) (by decide +kernel)
set_option maxRecDepth 20000 in
theorem gX8_hollow_X8_look : GoodIn wsX8_hollow (wsV RX8 148 RX8 yX8_look wsX8_look) := goodIn_app (goodIn_of _ (by decide +kernel)) ggX8_hollow_X8_look
set_option maxRecDepth 20000 in
theorem ggX8_hollow_X8_now : GoodIn wsX8_hollow wsX8_now := goodIn_r _ [12, 13, 14, 15, 16, 17, 18, 19, 20, 132, 133, 134, 135, 136, 137, 138, 139, 140, 141, 142, 143, 144, 150, 151, 152, 153] (by decide +kernel) (by decide +kernel)
set_option maxRecDepth 20000 in
theorem gX8_hollow_X8_now : GoodIn wsX8_hollow (wsV RX8 88 RX8 yX8_now wsX8_now) := goodIn_app (goodIn_of _ (by decide +kernel)) ggX8_hollow_X8_now
set_option maxRecDepth 20000 in
theorem ggX8_hollow_X2_greatest : GoodIn wsX8_hollow wsX2_greatest := goodIn_r _ [44, 26, 29, 45, 46, 47, 24, 48, 49, 33, 50, 51, 6, 52, 53, 54, 55, 56, 57, 58, 59, 60, 61, 62, 63, 40, 39, 31, 64, 65, 66, 67, 68, 69, 70, 71, 72, 73, 74, 75, 76, 77, 78, 79, 80, 81, 82, 83, 84, 85, 86, 87, 88, 89, 90, 91, 92, 93, 94, 95, 96, 97, 98, 99, 100, 101, 102, 103, 104, 105, 106, 107, 108, 109, 110, 111, 112, 113, 114, 115, 116, 117, 118, 119, 120, 121, 122, 154, 155, 156, 157, 158, 159, 160, 161, 162, 163, 164, 165, 166, 167, 168, 169, 170, 171, 172, 173, 174, 175, 176, 177, 178, 179, 180, 181] (by decide +kernel) (by decide +kernel)
set_option maxRecDepth 20000 in
theorem gX8_hollow_X2_greatest : GoodIn wsX8_hollow (wsV RX8 227 RX2 yX2_greatest wsX2_greatest) := goodIn_app (goodIn_of _ (by decide +kernel)) ggX8_hollow_X2_greatest
set_option maxRecDepth 20000 in
theorem ggX8_hollow_X2_standing : GoodIn wsX8_hollow wsX2_standing := goodIn_r _ [126, 29, 26, 45, 46, 47, 24, 48, 49, 33, 50, 51, 6, 52, 53, 54, 55, 56, 57, 58, 59, 60, 61, 62, 63, 40, 39, 31, 64, 65, 66, 67, 68, 69, 70, 71, 72, 73, 74, 75, 76, 77, 78, 79, 80, 81, 82, 83, 84, 85, 86, 87, 88, 89, 90, 91, 92, 93, 94, 95, 96, 97, 98, 99, 100, 101, 109, 110, 111, 112, 113, 127, 128, 129, 130, 122, 131, 114, 115, 116, 117, 102, 103, 104, 105, 106, 107, 108, 118, 119, 120, 121, 154, 155, 156, 157, 158, 159, 160, 161, 162, 163, 164, 165, 166, 167, 168, 169, 170, 171, 172, 173, 174, 175, 176, 177, 178, 179, 180, 181] (by decide +kernel) (by decide +kernel)
set_option maxRecDepth 20000 in
theorem gX8_hollow_X2_standing : GoodIn wsX8_hollow (wsV RX8 231 RX2 yX2_standing wsX2_standing) := goodIn_app (goodIn_of _ (by decide +kernel)) ggX8_hollow_X2_standing
theorem dX8_hollow_0 : decode cX8_hollow 0 = .ok (.aload_n 0, 1) := by decide +kernel
theorem dX8_hollow_1 : decode cX8_hollow 1 = .ok (.invokevirtual 148, 3) := by decide +kernel
theorem dX8_hollow_4 : decode cX8_hollow 4 = .ok (.aload_n 0, 1) := by decide +kernel
theorem dX8_hollow_5 : decode cX8_hollow 5 = .ok (.getfield 44, 3) := by decide +kernel
theorem dX8_hollow_8 : decode cX8_hollow 8 = .ok (.aload_n 0, 1) := by decide +kernel
theorem dX8_hollow_9 : decode cX8_hollow 9 = .ok (.invokevirtual 88, 3) := by decide +kernel
theorem dX8_hollow_12 : decode cX8_hollow 12 = .ok (.getfield 145, 3) := by decide +kernel
theorem dX8_hollow_15 : decode cX8_hollow 15 = .ok (.invokevirtual 227, 3) := by decide +kernel
theorem dX8_hollow_18 : decode cX8_hollow 18 = .ok (.aload_n 0, 1) := by decide +kernel
theorem dX8_hollow_19 : decode cX8_hollow 19 = .ok (.getfield 44, 3) := by decide +kernel
theorem dX8_hollow_22 : decode cX8_hollow 22 = .ok (.aload_n 0, 1) := by decide +kernel
theorem dX8_hollow_23 : decode cX8_hollow 23 = .ok (.invokevirtual 88, 3) := by decide +kernel
theorem dX8_hollow_26 : decode cX8_hollow 26 = .ok (.getfield 145, 3) := by decide +kernel
theorem dX8_hollow_29 : decode cX8_hollow 29 = .ok (.invokevirtual 231, 3) := by decide +kernel
theorem dX8_hollow_32 : decode cX8_hollow 32 = .ok (.iconst (-1), 1) := by decide +kernel
theorem dX8_hollow_33 : decode cX8_hollow 33 = .ok (.ixor, 1) := by decide +kernel
theorem dX8_hollow_34 : decode cX8_hollow 34 = .ok (.iand, 1) := by decide +kernel
theorem dX8_hollow_35 : decode cX8_hollow 35 = .ok (.ireturn, 1) := by decide +kernel
set_option maxRecDepth 20000 in
theorem ggX8_with_X5_allStrands : GoodIn wsX8_with wsX5_allStrands := goodIn_r _ [7, 8, 145, 146, 147, 148, 149, 150, 151, 152, 153, 154, 155, 156] (by decide +kernel) (by decide +kernel)
set_option maxRecDepth 20000 in
theorem gX8_with_X5_allStrands : GoodIn wsX8_with (wsV RX8 241 RX5 yX5_allStrands wsX5_allStrands) := goodIn_app (goodIn_of _ (by decide +kernel)) ggX8_with_X5_allStrands
set_option maxRecDepth 20000 in
theorem ggX8_with_X8_look : GoodIn wsX8_with wsX8_look := goodIn_r _ [13, 2, 1, 14, 15, 16, 12, 17, 18, 19, 20, 21, 22, 23, 24, 25, 26, 27, 28, 29, 30, 31, 32, 33, 34, 35, 36, 37, 38, 39, 40, 41, 42, 43, 44, 45, 132, 133, 134, 135, 136, 137, 138, 139, 140, 141, 142, 143, 144, 157, 158, 159, 160, 161, 162, 163, 164, 165, 166, 167, 168, 169, 170, 145, 146, 147, 148, 149, 150, 151, 152, 153, 154, 155, 156, 171, 172, 173, 174, 175] (by decide +kernel) (by decide +kernel)
set_option maxRecDepth 20000 in
theorem gX8_with_X8_look : GoodIn wsX8_with (wsV RX8 148 RX8 yX8_look wsX8_look) := goodIn_app (goodIn_of _ (by decide +kernel)) ggX8_with_X8_look
set_option maxRecDepth 20000 in
theorem ggX8_with_X2_standing : GoodIn wsX8_with wsX2_standing := goodIn_r _ [49, 34, 31, 50, 51, 52, 29, 53, 54, 38, 55, 56, 12, 57, 58, 59, 60, 61, 62, 63, 64, 65, 66, 67, 68, 45, 44, 36, 69, 70, 71, 72, 73, 74, 75, 76, 77, 78, 79, 80, 81, 82, 83, 84, 85, 86, 87, 88, 89, 90, 91, 92, 93, 94, 95, 96, 97, 98, 99, 100, 101, 102, 103, 104, 105, 106, 107, 108, 109, 110, 111, 112, 113, 114, 115, 116, 117, 118, 119, 120, 121, 122, 123, 124, 6, 125, 126, 127, 128, 129, 130, 131, 161, 162, 163, 164, 165, 166, 167, 168, 169, 170, 145, 146, 147, 148, 149, 150, 151, 152, 153, 154, 155, 156, 176, 177, 178, 179, 180, 181] (by decide +kernel) (by decide +kernel)
set_option maxRecDepth 20000 in
theorem gX8_with_X2_standing : GoodIn wsX8_with (wsV RX8 231 RX2 yX2_standing wsX2_standing) := goodIn_app (goodIn_of _ (by decide +kernel)) ggX8_with_X2_standing
theorem dX8_with_0 : decode cX8_with 0 = .ok (.iload_n 1, 1) := by decide +kernel
theorem dX8_with_1 : decode cX8_with 1 = .ok (.aload_n 0, 1) := by decide +kernel
theorem dX8_with_2 : decode cX8_with 2 = .ok (.getfield 19, 3) := by decide +kernel
theorem dX8_with_5 : decode cX8_with 5 = .ok (.invokevirtual 241, 3) := by decide +kernel
theorem dX8_with_8 : decode cX8_with 8 = .ok (.iconst (-1), 1) := by decide +kernel
theorem dX8_with_9 : decode cX8_with 9 = .ok (.ixor, 1) := by decide +kernel
theorem dX8_with_10 : decode cX8_with 10 = .ok (.iand, 1) := by decide +kernel
theorem dX8_with_11 : decode cX8_with 11 = .ok (.ifCond .eq 5, 3) := by decide +kernel
theorem dX8_with_14 : decode cX8_with 14 = .ok (.iconst (-1), 1) := by decide +kernel
theorem dX8_with_15 : decode cX8_with 15 = .ok (.ireturn, 1) := by decide +kernel
theorem dX8_with_16 : decode cX8_with 16 = .ok (.aload_n 0, 1) := by decide +kernel
theorem dX8_with_17 : decode cX8_with 17 = .ok (.invokevirtual 148, 3) := by decide +kernel
theorem dX8_with_20 : decode cX8_with 20 = .ok (.aload_n 0, 1) := by decide +kernel
theorem dX8_with_21 : decode cX8_with 21 = .ok (.getfield 44, 3) := by decide +kernel
theorem dX8_with_24 : decode cX8_with 24 = .ok (.iload_n 1, 1) := by decide +kernel
theorem dX8_with_25 : decode cX8_with 25 = .ok (.invokevirtual 231, 3) := by decide +kernel
theorem dX8_with_28 : decode cX8_with 28 = .ok (.ireturn, 1) := by decide +kernel
set_option maxRecDepth 20000 in
theorem ggX8_law_X8_look : GoodIn wsX8_law wsX8_look := goodIn_r _ [9, 3, 1, 10, 11, 12, 8, 13, 14, 15, 16, 17, 18, 19, 20, 21, 22, 23, 24, 25, 26, 27, 28, 29, 30, 31, 32, 33, 34, 35, 36, 37, 38, 39, 40, 41, 148, 149, 150, 151, 152, 153, 154, 155, 156, 157, 158, 159, 160, 178, 179, 180, 181, 182, 183, 184, 185, 186, 187, 188, 189, 190, 191, 161, 162, 163, 164, 165, 166, 167, 168, 169, 170, 171, 172, 173, 174, 175, 176, 177] (by decide +kernel) (by decide +kernel)
set_option maxRecDepth 20000 in
theorem gX8_law_X8_look : GoodIn wsX8_law (wsV RX8 148 RX8 yX8_look wsX8_look) := goodIn_app (goodIn_of _ (by decide +kernel)) ggX8_law_X8_look
set_option maxRecDepth 20000 in
theorem ggX8_law_X8_now : GoodIn wsX8_law wsX8_now := goodIn_r _ [13, 14, 15, 16, 17, 18, 19, 20, 21, 148, 149, 150, 151, 152, 153, 154, 155, 156, 157, 158, 159, 160, 178, 179, 180, 181] (by decide +kernel) (by decide +kernel)
set_option maxRecDepth 20000 in
theorem gX8_law_X8_now : GoodIn wsX8_law (wsV RX8 88 RX8 yX8_now wsX8_now) := goodIn_app (goodIn_of _ (by decide +kernel)) ggX8_law_X8_now
set_option maxRecDepth 20000 in
theorem ggX8_law_X8_claimsWith : GoodIn wsX8_law wsX8_claimsWith := goodIn_r _ [63, 3, 1, 64, 65, 66, 25, 67, 30, 27, 68, 69, 70, 71, 72, 34, 73, 53, 8, 54, 74, 75, 76, 77, 78, 79, 80, 81, 82, 83, 84, 41, 40, 32, 85, 86, 87, 88, 89, 90, 91, 92, 93, 94, 95, 96, 97, 98, 99, 100, 101, 102, 103, 104, 105, 106, 107, 108, 109, 110, 111, 112, 113, 114, 115, 116, 117, 118, 119, 120, 121, 122, 123, 124, 125, 126, 127, 128, 129, 130, 131, 132, 133, 134, 135, 136, 137, 138, 139, 140, 45, 141, 52, 47, 142, 143, 144, 145, 146, 147, 148, 149, 150, 151, 152, 153, 154, 155, 156, 157, 158, 159, 160, 182, 183, 184, 185, 186, 187, 188, 189, 190, 191, 161, 162, 163, 164, 165, 166, 167, 168, 169, 170, 171, 172, 192, 193, 194, 195, 196, 197] (by decide +kernel) (by decide +kernel)
set_option maxRecDepth 20000 in
theorem gX8_law_X8_claimsWith : GoodIn wsX8_law (wsV RX8 251 RX8 yX8_claimsWith wsX8_claimsWith) := goodIn_app (goodIn_of _ (by decide +kernel)) ggX8_law_X8_claimsWith
theorem dX8_law_0 : decode cX8_law 0 = .ok (.iload_n 1, 1) := by decide +kernel
theorem dX8_law_1 : decode cX8_law 1 = .ok (.ifCond .lt 9, 3) := by decide +kernel
theorem dX8_law_4 : decode cX8_law 4 = .ok (.iload_n 1, 1) := by decide +kernel
theorem dX8_law_5 : decode cX8_law 5 = .ok (.bipush 99, 2) := by decide +kernel
theorem dX8_law_7 : decode cX8_law 7 = .ok (.if_icmp .le 5, 3) := by decide +kernel
theorem dX8_law_10 : decode cX8_law 10 = .ok (.iconst (-1), 1) := by decide +kernel
theorem dX8_law_11 : decode cX8_law 11 = .ok (.ireturn, 1) := by decide +kernel
theorem dX8_law_12 : decode cX8_law 12 = .ok (.aload_n 0, 1) := by decide +kernel
theorem dX8_law_13 : decode cX8_law 13 = .ok (.invokevirtual 148, 3) := by decide +kernel
theorem dX8_law_16 : decode cX8_law 16 = .ok (.iconst 0, 1) := by decide +kernel
theorem dX8_law_17 : decode cX8_law 17 = .ok (.istore_n 2, 1) := by decide +kernel
theorem dX8_law_18 : decode cX8_law 18 = .ok (.iload_n 2, 1) := by decide +kernel
theorem dX8_law_19 : decode cX8_law 19 = .ok (.aload_n 0, 1) := by decide +kernel
theorem dX8_law_20 : decode cX8_law 20 = .ok (.getfield 19, 3) := by decide +kernel
theorem dX8_law_23 : decode cX8_law 23 = .ok (.getfield 105, 3) := by decide +kernel
theorem dX8_law_26 : decode cX8_law 26 = .ok (.if_icmp .ge 29, 3) := by decide +kernel
theorem dX8_law_55 : decode cX8_law 55 = .ok (.aload_n 0, 1) := by decide +kernel
theorem dX8_law_56 : decode cX8_law 56 = .ok (.aload_n 0, 1) := by decide +kernel
theorem dX8_law_57 : decode cX8_law 57 = .ok (.invokevirtual 88, 3) := by decide +kernel
theorem dX8_law_60 : decode cX8_law 60 = .ok (.getfield 145, 3) := by decide +kernel
theorem dX8_law_63 : decode cX8_law 63 = .ok (.invokevirtual 251, 3) := by decide +kernel
theorem dX8_law_66 : decode cX8_law 66 = .ok (.ireturn, 1) := by decide +kernel
set_option maxRecDepth 20000 in
theorem ggX8_shock_X8_look : GoodIn wsX8_shock wsX8_look := goodIn_r _ [7, 1, 8, 9, 10, 11, 6, 12, 13, 14, 15, 16, 17, 18, 19, 20, 21, 22, 23, 24, 25, 26, 27, 28, 29, 30, 31, 32, 33, 34, 35, 36, 37, 38, 39, 40, 138, 139, 140, 141, 142, 143, 144, 145, 146, 147, 148, 149, 150, 156, 157, 158, 159, 160, 161, 162, 163, 164, 165, 166, 167, 168, 169, 170, 171, 172, 173, 174, 175, 176, 177, 178, 179, 180, 181, 151, 152, 153, 154, 155] (by decide +kernel) (by decide +kernel)
set_option maxRecDepth 20000 in
theorem gX8_shock_X8_look : GoodIn wsX8_shock (wsV RX8 148 RX8 yX8_look wsX8_look) := goodIn_app (goodIn_of _ (by decide +kernel)) ggX8_shock_X8_look
set_option maxRecDepth 20000 in
theorem ggX8_shock_X2_weaken : GoodIn wsX8_shock wsX2_weaken := goodIn_r _ [44, 33, 45, 46, 47, 48, 40, 160, 161, 162, 163, 164, 165, 166, 167, 168, 169] (by decide +kernel) (by decide +kernel)
set_option maxRecDepth 20000 in
theorem gX8_shock_X2_weaken : GoodIn wsX8_shock (wsV RX8 254 RX2 yX2_weaken wsX2_weaken) := goodIn_app (goodIn_of _ (by decide +kernel)) ggX8_shock_X2_weaken
set_option maxRecDepth 20000 in
theorem ggX8_shock_X8_now : GoodIn wsX8_shock wsX8_now := goodIn_r _ [12, 13, 14, 15, 16, 17, 18, 19, 20, 138, 139, 140, 141, 142, 143, 144, 145, 146, 147, 148, 149, 150, 156, 157, 158, 159] (by decide +kernel) (by decide +kernel)
set_option maxRecDepth 20000 in
theorem gX8_shock_X8_now : GoodIn wsX8_shock (wsV RX8 88 RX8 yX8_now wsX8_now) := goodIn_app (goodIn_of _ (by decide +kernel)) ggX8_shock_X8_now
set_option maxRecDepth 20000 in
theorem ggX8_shock_X8_claimsWith : GoodIn wsX8_shock wsX8_claimsWith := goodIn_r _ [52, 1, 8, 53, 54, 55, 24, 56, 29, 26, 57, 58, 59, 60, 61, 33, 62, 63, 6, 64, 65, 66, 67, 68, 69, 70, 71, 72, 73, 74, 75, 40, 39, 31, 76, 77, 47, 78, 45, 46, 48, 79, 80, 81, 82, 83, 84, 85, 86, 87, 88, 89, 90, 91, 92, 93, 94, 95, 96, 97, 98, 99, 100, 101, 102, 103, 104, 105, 106, 107, 108, 109, 110, 111, 112, 113, 114, 115, 116, 117, 118, 119, 120, 121, 122, 123, 124, 125, 126, 127, 128, 129, 130, 131, 132, 133, 134, 135, 136, 137, 138, 139, 140, 141, 142, 143, 144, 145, 146, 147, 148, 149, 150, 160, 161, 162, 163, 164, 165, 166, 167, 168, 169, 170, 171, 172, 173, 174, 175, 176, 177, 178, 179, 180, 181, 182, 183, 184, 185, 186, 187] (by decide +kernel) (by decide +kernel)
set_option maxRecDepth 20000 in
theorem gX8_shock_X8_claimsWith : GoodIn wsX8_shock (wsV RX8 251 RX8 yX8_claimsWith wsX8_claimsWith) := goodIn_app (goodIn_of _ (by decide +kernel)) ggX8_shock_X8_claimsWith
theorem dX8_shock_0 : decode cX8_shock 0 = .ok (.iload_n 1, 1) := by decide +kernel
theorem dX8_shock_1 : decode cX8_shock 1 = .ok (.ifCond .lt 9, 3) := by decide +kernel
theorem dX8_shock_4 : decode cX8_shock 4 = .ok (.iload_n 1, 1) := by decide +kernel
theorem dX8_shock_5 : decode cX8_shock 5 = .ok (.bipush 20, 2) := by decide +kernel
theorem dX8_shock_7 : decode cX8_shock 7 = .ok (.if_icmp .le 5, 3) := by decide +kernel
theorem dX8_shock_10 : decode cX8_shock 10 = .ok (.iconst (-1), 1) := by decide +kernel
theorem dX8_shock_11 : decode cX8_shock 11 = .ok (.ireturn, 1) := by decide +kernel
theorem dX8_shock_12 : decode cX8_shock 12 = .ok (.aload_n 0, 1) := by decide +kernel
theorem dX8_shock_13 : decode cX8_shock 13 = .ok (.invokevirtual 148, 3) := by decide +kernel
theorem dX8_shock_16 : decode cX8_shock 16 = .ok (.aload_n 0, 1) := by decide +kernel
theorem dX8_shock_17 : decode cX8_shock 17 = .ok (.getfield 44, 3) := by decide +kernel
theorem dX8_shock_20 : decode cX8_shock 20 = .ok (.iload_n 1, 1) := by decide +kernel
theorem dX8_shock_21 : decode cX8_shock 21 = .ok (.invokevirtual 254, 3) := by decide +kernel
theorem dX8_shock_24 : decode cX8_shock 24 = .ok (.aload_n 0, 1) := by decide +kernel
theorem dX8_shock_25 : decode cX8_shock 25 = .ok (.aload_n 0, 1) := by decide +kernel
theorem dX8_shock_26 : decode cX8_shock 26 = .ok (.invokevirtual 88, 3) := by decide +kernel
theorem dX8_shock_29 : decode cX8_shock 29 = .ok (.getfield 145, 3) := by decide +kernel
theorem dX8_shock_32 : decode cX8_shock 32 = .ok (.invokevirtual 251, 3) := by decide +kernel
theorem dX8_shock_35 : decode cX8_shock 35 = .ok (.ireturn, 1) := by decide +kernel
set_option maxRecDepth 20000 in
theorem ggX8_fall_X5_isClaim : GoodIn wsX8_fall wsX5_isClaim := goodIn_r _ [9, 10, 11, 12, 13, 8, 14, 15, 16, 17, 18, 164, 165, 166, 167, 168, 169, 170, 171, 172, 173, 174, 175] (by decide +kernel) (by decide +kernel)
set_option maxRecDepth 20000 in
theorem gX8_fall_X5_isClaim : GoodIn wsX8_fall (wsV RX8 244 RX5 yX5_isClaim wsX5_isClaim) := goodIn_app (goodIn_of _ (by decide +kernel)) ggX8_fall_X5_isClaim
theorem dX8_fall_0 : decode cX8_fall 0 = .ok (.aload_n 0, 1) := by decide +kernel
theorem dX8_fall_1 : decode cX8_fall 1 = .ok (.getfield 19, 3) := by decide +kernel
theorem dX8_fall_4 : decode cX8_fall 4 = .ok (.iload_n 1, 1) := by decide +kernel
theorem dX8_fall_5 : decode cX8_fall 5 = .ok (.invokevirtual 244, 3) := by decide +kernel
theorem dX8_fall_8 : decode cX8_fall 8 = .ok (.ifCond .ne 5, 3) := by decide +kernel
theorem dX8_fall_11 : decode cX8_fall 11 = .ok (.iconst (-1), 1) := by decide +kernel
theorem dX8_fall_12 : decode cX8_fall 12 = .ok (.ireturn, 1) := by decide +kernel
set_option maxRecDepth 20000 in
theorem ggX8_worth_X5_isClaim : GoodIn wsX8_worth wsX5_isClaim := goodIn_r _ [8, 9, 10, 11, 12, 7, 13, 14, 15, 16, 17, 164, 165, 166, 167, 168, 169, 170, 171, 172, 173, 174, 175] (by decide +kernel) (by decide +kernel)
set_option maxRecDepth 20000 in
theorem gX8_worth_X5_isClaim : GoodIn wsX8_worth (wsV RX8 244 RX5 yX5_isClaim wsX5_isClaim) := goodIn_app (goodIn_of _ (by decide +kernel)) ggX8_worth_X5_isClaim
theorem dX8_worth_0 : decode cX8_worth 0 = .ok (.aload_n 0, 1) := by decide +kernel
theorem dX8_worth_1 : decode cX8_worth 1 = .ok (.getfield 19, 3) := by decide +kernel
theorem dX8_worth_4 : decode cX8_worth 4 = .ok (.iload_n 1, 1) := by decide +kernel
theorem dX8_worth_5 : decode cX8_worth 5 = .ok (.invokevirtual 244, 3) := by decide +kernel
theorem dX8_worth_8 : decode cX8_worth 8 = .ok (.ifCond .ne 5, 3) := by decide +kernel
theorem dX8_worth_11 : decode cX8_worth 11 = .ok (.iconst (-1), 1) := by decide +kernel
theorem dX8_worth_12 : decode cX8_worth 12 = .ok (.ireturn, 1) := by decide +kernel
set_option maxRecDepth 20000 in
theorem ggX8_topple_X5_isClaim : GoodIn wsX8_topple wsX5_isClaim := goodIn_r _ [7, 8, 9, 10, 11, 6, 12, 13, 14, 15, 16, 166, 167, 168, 169, 170, 171, 172, 173, 174, 175, 176, 177] (by decide +kernel) (by decide +kernel)
set_option maxRecDepth 20000 in
theorem gX8_topple_X5_isClaim : GoodIn wsX8_topple (wsV RX8 244 RX5 yX5_isClaim wsX5_isClaim) := goodIn_app (goodIn_of _ (by decide +kernel)) ggX8_topple_X5_isClaim
theorem dX8_topple_0 : decode cX8_topple 0 = .ok (.aload_n 0, 1) := by decide +kernel
theorem dX8_topple_1 : decode cX8_topple 1 = .ok (.getfield 19, 3) := by decide +kernel
theorem dX8_topple_4 : decode cX8_topple 4 = .ok (.iload_n 1, 1) := by decide +kernel
theorem dX8_topple_5 : decode cX8_topple 5 = .ok (.invokevirtual 244, 3) := by decide +kernel
theorem dX8_topple_8 : decode cX8_topple 8 = .ok (.ifCond .eq 10, 3) := by decide +kernel
theorem dX8_topple_18 : decode cX8_topple 18 = .ok (.iconst (-1), 1) := by decide +kernel
theorem dX8_topple_19 : decode cX8_topple 19 = .ok (.ireturn, 1) := by decide +kernel
set_option maxRecDepth 20000 in
theorem ggX8_prop_X8_isZeroOrOne : GoodIn wsX8_prop wsX8_isZeroOrOne := goodIn_r _ [4] (by decide +kernel) (by decide +kernel)
set_option maxRecDepth 20000 in
theorem gX8_prop_X8_isZeroOrOne : GoodIn wsX8_prop (va_wsS RX8 234 yX8_isZeroOrOne wsX8_isZeroOrOne) := goodIn_app (goodIn_of _ (by decide +kernel)) ggX8_prop_X8_isZeroOrOne
set_option maxRecDepth 20000 in
theorem ggX8_prop_X8_leastProp : GoodIn wsX8_prop wsX8_leastProp := goodIn_r _ [8, 9, 10, 11, 12, 13, 3, 14, 15, 16, 17, 18, 19, 20, 21, 22, 23, 24, 25, 26, 27, 28, 29, 30, 31, 32, 33, 34, 35, 36, 37, 38, 39, 40, 41, 42, 43, 44, 45, 46, 47, 48, 49, 50, 51, 52, 53, 54, 55, 56, 57, 58, 59, 60, 61, 62, 63, 64, 65, 66, 67, 68, 69, 70, 71, 72, 73, 74, 75, 76, 77, 78, 79, 80, 81, 82, 83, 84, 85, 86, 87, 88, 89, 90, 91, 92, 93, 94, 95, 96, 97, 98, 99, 100, 101, 102, 103, 104, 105, 106, 107, 108, 109, 110, 111, 112, 113, 114, 115, 116, 117, 118, 119, 120, 121, 122, 123, 124, 125, 126, 127, 128, 129, 130, 131, 132, 133, 134, 135, 136, 137, 138, 139, 140, 141, 142, 143, 144, 145, 146, 147, 148, 149, 150, 151, 152, 156, 157, 158, 159, 160, 161, 162, 163, 164, 165, 166, 167, 168, 169, 170, 171, 172, 173, 174, 175, 176, 177, 178, 179, 180, 181, 182, 183, 184, 185, 186, 187, 188, 189, 190, 191, 192, 193, 194, 195, 196, 197, 198, 199, 200, 201, 202, 203, 204, 205] (by decide +kernel) (by decide +kernel)
set_option maxRecDepth 20000 in
theorem gX8_prop_X8_leastProp : GoodIn wsX8_prop (wsV RX8 271 RX8 yX8_leastProp wsX8_leastProp) := goodIn_app (goodIn_of _ (by decide +kernel)) ggX8_prop_X8_leastProp
set_option maxRecDepth 20000 in
theorem ggX8_prop_X8_sizeOrSet : GoodIn wsX8_prop wsX8_sizeOrSet := goodIn_r _ [155, 152, 94, 95, 96, 97, 98, 99] (by decide +kernel) (by decide +kernel)
set_option maxRecDepth 20000 in
theorem gX8_prop_X8_sizeOrSet : GoodIn wsX8_prop (va_wsS RX8 267 yX8_sizeOrSet wsX8_sizeOrSet) := goodIn_app (goodIn_of _ (by decide +kernel)) ggX8_prop_X8_sizeOrSet
theorem dX8_prop_0 : decode cX8_prop 0 = .ok (.iload_n 2, 1) := by decide +kernel
theorem dX8_prop_1 : decode cX8_prop 1 = .ok (.invokestatic 234, 3) := by decide +kernel
theorem dX8_prop_4 : decode cX8_prop 4 = .ok (.ifCond .eq 15, 3) := by decide +kernel
theorem dX8_prop_7 : decode cX8_prop 7 = .ok (.aload_n 0, 1) := by decide +kernel
theorem dX8_prop_8 : decode cX8_prop 8 = .ok (.iload_n 1, 1) := by decide +kernel
theorem dX8_prop_9 : decode cX8_prop 9 = .ok (.invokevirtual 271, 3) := by decide +kernel
theorem dX8_prop_12 : decode cX8_prop 12 = .ok (.iload_n 2, 1) := by decide +kernel
theorem dX8_prop_13 : decode cX8_prop 13 = .ok (.invokestatic 267, 3) := by decide +kernel
theorem dX8_prop_16 : decode cX8_prop 16 = .ok (.goto 4, 3) := by decide +kernel
theorem dX8_prop_19 : decode cX8_prop 19 = .ok (.iconst (-1), 1) := by decide +kernel
theorem dX8_prop_20 : decode cX8_prop 20 = .ok (.ireturn, 1) := by decide +kernel
set_option maxRecDepth 20000 in
theorem ggX8_mend_X5_isClaim : GoodIn wsX8_mend wsX5_isClaim := goodIn_r _ [7, 8, 9, 10, 11, 6, 12, 13, 14, 15, 16, 171, 172, 173, 174, 175, 176, 177, 178, 179, 180, 181, 182] (by decide +kernel) (by decide +kernel)
set_option maxRecDepth 20000 in
theorem gX8_mend_X5_isClaim : GoodIn wsX8_mend (wsV RX8 244 RX5 yX5_isClaim wsX5_isClaim) := goodIn_app (goodIn_of _ (by decide +kernel)) ggX8_mend_X5_isClaim
theorem dX8_mend_0 : decode cX8_mend 0 = .ok (.aload_n 0, 1) := by decide +kernel
theorem dX8_mend_1 : decode cX8_mend 1 = .ok (.getfield 19, 3) := by decide +kernel
theorem dX8_mend_4 : decode cX8_mend 4 = .ok (.iload_n 1, 1) := by decide +kernel
theorem dX8_mend_5 : decode cX8_mend 5 = .ok (.invokevirtual 244, 3) := by decide +kernel
theorem dX8_mend_8 : decode cX8_mend 8 = .ok (.ifCond .eq 10, 3) := by decide +kernel
theorem dX8_mend_18 : decode cX8_mend 18 = .ok (.iconst (-1), 1) := by decide +kernel
theorem dX8_mend_19 : decode cX8_mend 19 = .ok (.ireturn, 1) := by decide +kernel
set_option maxRecDepth 20000 in
theorem ggX8_leastProp_X8_look : GoodIn wsX8_leastProp wsX8_look := goodIn_r _ [7, 8, 1, 9, 10, 11, 6, 12, 13, 14, 15, 16, 17, 18, 19, 20, 21, 22, 23, 24, 25, 26, 27, 28, 29, 30, 31, 32, 33, 34, 35, 36, 37, 38, 39, 40, 146, 147, 148, 149, 150, 151, 152, 153, 154, 155, 156, 157, 158, 164, 165, 166, 167, 168, 169, 170, 171, 172, 173, 174, 175, 176, 177, 178, 179, 180, 181, 182, 183, 184, 185, 186, 187, 188, 189, 159, 160, 161, 162, 163] (by decide +kernel) (by decide +kernel)
set_option maxRecDepth 20000 in
theorem gX8_leastProp_X8_look : GoodIn wsX8_leastProp (wsV RX8 148 RX8 yX8_look wsX8_look) := goodIn_app (goodIn_of _ (by decide +kernel)) ggX8_leastProp_X8_look
set_option maxRecDepth 20000 in
theorem ggX8_leastProp_X5_isClaim : GoodIn wsX8_leastProp wsX5_isClaim := goodIn_r _ [45, 46, 47, 48, 49, 44, 50, 51, 52, 6, 53, 178, 179, 180, 181, 182, 183, 184, 185, 186, 187, 188, 189] (by decide +kernel) (by decide +kernel)
set_option maxRecDepth 20000 in
theorem gX8_leastProp_X5_isClaim : GoodIn wsX8_leastProp (wsV RX8 244 RX5 yX5_isClaim wsX5_isClaim) := goodIn_app (goodIn_of _ (by decide +kernel)) ggX8_leastProp_X5_isClaim
theorem dX8_leastProp_0 : decode cX8_leastProp 0 = .ok (.aload_n 0, 1) := by decide +kernel
theorem dX8_leastProp_1 : decode cX8_leastProp 1 = .ok (.invokevirtual 148, 3) := by decide +kernel
theorem dX8_leastProp_4 : decode cX8_leastProp 4 = .ok (.aload_n 0, 1) := by decide +kernel
theorem dX8_leastProp_5 : decode cX8_leastProp 5 = .ok (.getfield 19, 3) := by decide +kernel
theorem dX8_leastProp_8 : decode cX8_leastProp 8 = .ok (.iload_n 1, 1) := by decide +kernel
theorem dX8_leastProp_9 : decode cX8_leastProp 9 = .ok (.invokevirtual 244, 3) := by decide +kernel
theorem dX8_leastProp_12 : decode cX8_leastProp 12 = .ok (.ifCond .eq 18, 3) := by decide +kernel
theorem dX8_leastProp_30 : decode cX8_leastProp 30 = .ok (.iconst (-1), 1) := by decide +kernel
theorem dX8_leastProp_31 : decode cX8_leastProp 31 = .ok (.ireturn, 1) := by decide +kernel
theorem dX8_sizeOrSet_0 : decode cX8_sizeOrSet 0 = .ok (.iload_n 1, 1) := by decide +kernel
theorem dX8_sizeOrSet_1 : decode cX8_sizeOrSet 1 = .ok (.ifCond .ne 15, 3) := by decide +kernel
theorem dX8_sizeOrSet_4 : decode cX8_sizeOrSet 4 = .ok (.iload_n 0, 1) := by decide +kernel
theorem dX8_sizeOrSet_5 : decode cX8_sizeOrSet 5 = .ok (.iconst (-1), 1) := by decide +kernel
theorem dX8_sizeOrSet_6 : decode cX8_sizeOrSet 6 = .ok (.if_icmp .eq 10, 3) := by decide +kernel
theorem dX8_sizeOrSet_16 : decode cX8_sizeOrSet 16 = .ok (.iload_n 0, 1) := by decide +kernel
theorem dX8_sizeOrSet_17 : decode cX8_sizeOrSet 17 = .ok (.ireturn, 1) := by decide +kernel
set_option maxRecDepth 20000 in
theorem ggX8_pivots_X5_isClaim : GoodIn wsX8_pivots wsX5_isClaim := goodIn_r _ [8, 9, 10, 11, 12, 7, 13, 14, 15, 16, 17, 160, 161, 162, 163, 164, 165, 166, 167, 168, 169, 170, 171] (by decide +kernel) (by decide +kernel)
set_option maxRecDepth 20000 in
theorem gX8_pivots_X5_isClaim : GoodIn wsX8_pivots (wsV RX8 244 RX5 yX5_isClaim wsX5_isClaim) := goodIn_app (goodIn_of _ (by decide +kernel)) ggX8_pivots_X5_isClaim
theorem dX8_pivots_0 : decode cX8_pivots 0 = .ok (.aload_n 0, 1) := by decide +kernel
theorem dX8_pivots_1 : decode cX8_pivots 1 = .ok (.getfield 19, 3) := by decide +kernel
theorem dX8_pivots_4 : decode cX8_pivots 4 = .ok (.iload_n 1, 1) := by decide +kernel
theorem dX8_pivots_5 : decode cX8_pivots 5 = .ok (.invokevirtual 244, 3) := by decide +kernel
theorem dX8_pivots_8 : decode cX8_pivots 8 = .ok (.ifCond .ne 5, 3) := by decide +kernel
theorem dX8_pivots_11 : decode cX8_pivots 11 = .ok (.iconst (-1), 1) := by decide +kernel
theorem dX8_pivots_12 : decode cX8_pivots 12 = .ok (.ireturn, 1) := by decide +kernel
set_option maxRecDepth 20000 in
theorem ggX8_perils_X8_look : GoodIn wsX8_perils wsX8_look := goodIn_r _ [7, 8, 2, 9, 10, 11, 6, 12, 13, 14, 15, 16, 17, 18, 19, 20, 21, 22, 23, 24, 25, 26, 27, 28, 29, 30, 31, 32, 33, 34, 35, 36, 37, 38, 39, 40, 150, 151, 152, 153, 154, 155, 156, 157, 158, 159, 160, 161, 162, 163, 164, 165, 166, 167, 168, 169, 170, 171, 172, 173, 174, 175, 176, 177, 178, 179, 180, 181, 182, 183, 184, 185, 186, 187, 188, 145, 146, 147, 148, 149] (by decide +kernel) (by decide +kernel)
set_option maxRecDepth 20000 in
theorem gX8_perils_X8_look : GoodIn wsX8_perils (wsV RX8 148 RX8 yX8_look wsX8_look) := goodIn_app (goodIn_of _ (by decide +kernel)) ggX8_perils_X8_look
set_option maxRecDepth 20000 in
theorem ggX8_perils_X8_now : GoodIn wsX8_perils wsX8_now := goodIn_r _ [12, 13, 14, 15, 16, 17, 18, 19, 20, 150, 151, 152, 153, 154, 155, 156, 157, 158, 159, 160, 161, 162, 163, 164, 165, 166] (by decide +kernel) (by decide +kernel)
set_option maxRecDepth 20000 in
theorem gX8_perils_X8_now : GoodIn wsX8_perils (wsV RX8 88 RX8 yX8_now wsX8_now) := goodIn_app (goodIn_of _ (by decide +kernel)) ggX8_perils_X8_now
set_option maxRecDepth 20000 in
theorem ggX8_perils_X8_isZeroOrOne : GoodIn wsX8_perils wsX8_isZeroOrOne := goodIn_r _ [43] (by decide +kernel) (by decide +kernel)
set_option maxRecDepth 20000 in
theorem gX8_perils_X8_isZeroOrOne : GoodIn wsX8_perils (va_wsS RX8 234 yX8_isZeroOrOne wsX8_isZeroOrOne) := goodIn_app (goodIn_of _ (by decide +kernel)) ggX8_perils_X8_isZeroOrOne
set_option maxRecDepth 20000 in
theorem ggX8_perils_X5_isClaim : GoodIn wsX8_perils wsX5_isClaim := goodIn_r _ [48, 49, 50, 51, 52, 47, 53, 54, 55, 6, 56, 177, 178, 179, 180, 181, 182, 183, 184, 185, 186, 187, 188] (by decide +kernel) (by decide +kernel)
set_option maxRecDepth 20000 in
theorem gX8_perils_X5_isClaim : GoodIn wsX8_perils (wsV RX8 244 RX5 yX5_isClaim wsX5_isClaim) := goodIn_app (goodIn_of _ (by decide +kernel)) ggX8_perils_X5_isClaim
theorem dX8_perils_0 : decode cX8_perils 0 = .ok (.aload_n 0, 1) := by decide +kernel
theorem dX8_perils_1 : decode cX8_perils 1 = .ok (.invokevirtual 148, 3) := by decide +kernel
theorem dX8_perils_4 : decode cX8_perils 4 = .ok (.aload_n 0, 1) := by decide +kernel
theorem dX8_perils_5 : decode cX8_perils 5 = .ok (.invokevirtual 88, 3) := by decide +kernel
theorem dX8_perils_8 : decode cX8_perils 8 = .ok (.getfield 145, 3) := by decide +kernel
theorem dX8_perils_11 : decode cX8_perils 11 = .ok (.istore_n 3, 1) := by decide +kernel
theorem dX8_perils_12 : decode cX8_perils 12 = .ok (.iload_n 2, 1) := by decide +kernel
theorem dX8_perils_13 : decode cX8_perils 13 = .ok (.invokestatic 234, 3) := by decide +kernel
theorem dX8_perils_16 : decode cX8_perils 16 = .ok (.ifCond .eq 23, 3) := by decide +kernel
theorem dX8_perils_19 : decode cX8_perils 19 = .ok (.aload_n 0, 1) := by decide +kernel
theorem dX8_perils_20 : decode cX8_perils 20 = .ok (.getfield 19, 3) := by decide +kernel
theorem dX8_perils_23 : decode cX8_perils 23 = .ok (.iload_n 1, 1) := by decide +kernel
theorem dX8_perils_24 : decode cX8_perils 24 = .ok (.invokevirtual 244, 3) := by decide +kernel
theorem dX8_perils_27 : decode cX8_perils 27 = .ok (.ifCond .eq 12, 3) := by decide +kernel
theorem dX8_perils_39 : decode cX8_perils 39 = .ok (.iconst (-1), 1) := by decide +kernel
theorem dX8_perils_40 : decode cX8_perils 40 = .ok (.ireturn, 1) := by decide +kernel
set_option maxRecDepth 20000 in
theorem ggX8_power_X5_isClaim : GoodIn wsX8_power wsX5_isClaim := goodIn_r _ [7, 8, 9, 10, 11, 6, 12, 13, 14, 15, 16, 168, 169, 170, 171, 172, 173, 174, 175, 176, 177, 178, 179] (by decide +kernel) (by decide +kernel)
set_option maxRecDepth 20000 in
theorem gX8_power_X5_isClaim : GoodIn wsX8_power (wsV RX8 244 RX5 yX5_isClaim wsX5_isClaim) := goodIn_app (goodIn_of _ (by decide +kernel)) ggX8_power_X5_isClaim
theorem dX8_power_0 : decode cX8_power 0 = .ok (.aload_n 0, 1) := by decide +kernel
theorem dX8_power_1 : decode cX8_power 1 = .ok (.getfield 19, 3) := by decide +kernel
theorem dX8_power_4 : decode cX8_power 4 = .ok (.iload_n 1, 1) := by decide +kernel
theorem dX8_power_5 : decode cX8_power 5 = .ok (.invokevirtual 244, 3) := by decide +kernel
theorem dX8_power_8 : decode cX8_power 8 = .ok (.ifCond .eq 11, 3) := by decide +kernel
theorem dX8_power_19 : decode cX8_power 19 = .ok (.iconst (-1), 1) := by decide +kernel
theorem dX8_power_20 : decode cX8_power 20 = .ok (.ireturn, 1) := by decide +kernel
set_option maxRecDepth 20000 in
theorem ggX8_spare_X8_standingNow : GoodIn wsX8_spare wsX8_standingNow := goodIn_r _ [9, 4, 1, 10, 11, 12, 8, 13, 2, 14, 15, 16, 17, 18, 19, 20, 21, 22, 23, 24, 25, 26, 27, 28, 29, 30, 31, 32, 33, 34, 35, 36, 37, 38, 39, 40, 41, 42, 43, 44, 45, 46, 47, 48, 49, 50, 51, 52, 53, 54, 55, 56, 57, 58, 59, 60, 61, 62, 63, 64, 65, 66, 67, 68, 69, 70, 71, 72, 73, 74, 75, 76, 77, 78, 79, 80, 81, 82, 83, 84, 85, 86, 87, 88, 89, 90, 91, 92, 93, 94, 95, 96, 97, 98, 99, 100, 101, 102, 103, 104, 105, 106, 107, 108, 109, 110, 111, 112, 113, 114, 115, 116, 117, 118, 119, 120, 121, 122, 123, 124, 125, 126, 127, 128, 129, 130, 131, 132, 139, 140, 141, 142, 143, 144, 145, 146, 147, 148, 149, 150, 151, 134, 135, 136, 137, 138, 164, 165, 166, 167, 168, 169, 170, 171, 172, 173, 174, 175, 176, 177, 152, 153, 154, 155, 156, 157, 158, 159, 160, 161, 162, 163, 178, 179, 180, 181, 182, 183] (by decide +kernel) (by decide +kernel)
set_option maxRecDepth 20000 in
theorem gX8_spare_X8_standingNow : GoodIn wsX8_spare (wsV RX8 224 RX8 yX8_standingNow wsX8_standingNow) := goodIn_app (goodIn_of _ (by decide +kernel)) ggX8_spare_X8_standingNow
set_option maxRecDepth 20000 in
theorem ggX8_spare_X8_now : GoodIn wsX8_spare wsX8_now := goodIn_r _ [17, 18, 19, 20, 21, 22, 23, 24, 25, 139, 140, 141, 142, 143, 144, 145, 146, 147, 148, 149, 150, 151, 164, 165, 166, 167] (by decide +kernel) (by decide +kernel)
set_option maxRecDepth 20000 in
theorem gX8_spare_X8_now : GoodIn wsX8_spare (wsV RX8 88 RX8 yX8_now wsX8_now) := goodIn_app (goodIn_of _ (by decide +kernel)) ggX8_spare_X8_now
theorem dX8_spare_0 : decode cX8_spare 0 = .ok (.aload_n 0, 1) := by decide +kernel
theorem dX8_spare_1 : decode cX8_spare 1 = .ok (.invokevirtual 224, 3) := by decide +kernel
theorem dX8_spare_4 : decode cX8_spare 4 = .ok (.istore_n 1, 1) := by decide +kernel
theorem dX8_spare_5 : decode cX8_spare 5 = .ok (.aload_n 0, 1) := by decide +kernel
theorem dX8_spare_6 : decode cX8_spare 6 = .ok (.invokevirtual 88, 3) := by decide +kernel
theorem dX8_spare_9 : decode cX8_spare 9 = .ok (.getfield 145, 3) := by decide +kernel
theorem dX8_spare_12 : decode cX8_spare 12 = .ok (.istore_n 2, 1) := by decide +kernel
theorem dX8_spare_13 : decode cX8_spare 13 = .ok (.iconst 0, 1) := by decide +kernel
theorem dX8_spare_14 : decode cX8_spare 14 = .ok (.istore_n 3, 1) := by decide +kernel
theorem dX8_spare_15 : decode cX8_spare 15 = .ok (.iconst 0, 1) := by decide +kernel
theorem dX8_spare_16 : decode cX8_spare 16 = .ok (.istore 4, 2) := by decide +kernel
theorem dX8_spare_18 : decode cX8_spare 18 = .ok (.iload 4, 2) := by decide +kernel
theorem dX8_spare_20 : decode cX8_spare 20 = .ok (.aload_n 0, 1) := by decide +kernel
theorem dX8_spare_21 : decode cX8_spare 21 = .ok (.getfield 19, 3) := by decide +kernel
theorem dX8_spare_24 : decode cX8_spare 24 = .ok (.getfield 157, 3) := by decide +kernel
theorem dX8_spare_27 : decode cX8_spare 27 = .ok (.if_icmp .ge 42, 3) := by decide +kernel
theorem dX8_spare_69 : decode cX8_spare 69 = .ok (.iload_n 3, 1) := by decide +kernel
theorem dX8_spare_70 : decode cX8_spare 70 = .ok (.ireturn, 1) := by decide +kernel
set_option maxRecDepth 20000 in
theorem ggX8_brings_X8_isTied : GoodIn wsX8_brings wsX8_isTied := goodIn_r _ [7, 8, 2, 9, 10, 11, 12, 13, 14, 15, 16, 17, 6, 18, 19, 20, 21, 22, 23, 24, 25, 26, 27, 28, 29, 142, 143, 144, 145, 146, 147, 148, 149, 150, 151, 152, 153, 154, 155, 156, 157, 158, 159, 160, 161, 162, 163, 164, 165, 166, 167, 168, 169, 170, 171, 172, 173, 174, 175] (by decide +kernel) (by decide +kernel)
set_option maxRecDepth 20000 in
theorem gX8_brings_X8_isTied : GoodIn wsX8_brings (wsV RX8 190 RX8 yX8_isTied wsX8_isTied) := goodIn_app (goodIn_of _ (by decide +kernel)) ggX8_brings_X8_isTied
theorem dX8_brings_0 : decode cX8_brings 0 = .ok (.aload_n 0, 1) := by decide +kernel
theorem dX8_brings_1 : decode cX8_brings 1 = .ok (.iload_n 1, 1) := by decide +kernel
theorem dX8_brings_2 : decode cX8_brings 2 = .ok (.invokevirtual 190, 3) := by decide +kernel
theorem dX8_brings_5 : decode cX8_brings 5 = .ok (.ifCond .ne 5, 3) := by decide +kernel
theorem dX8_brings_8 : decode cX8_brings 8 = .ok (.iconst (-1), 1) := by decide +kernel
theorem dX8_brings_9 : decode cX8_brings 9 = .ok (.ireturn, 1) := by decide +kernel
set_option maxRecDepth 20000 in
theorem ggX8_lack_X5_isClaim : GoodIn wsX8_lack wsX5_isClaim := goodIn_r _ [11, 12, 13, 14, 15, 10, 16, 17, 18, 19, 20, 159, 160, 161, 162, 163, 164, 165, 166, 167, 168, 169, 170] (by decide +kernel) (by decide +kernel)
set_option maxRecDepth 20000 in
theorem gX8_lack_X5_isClaim : GoodIn wsX8_lack (wsV RX8 244 RX5 yX5_isClaim wsX5_isClaim) := goodIn_app (goodIn_of _ (by decide +kernel)) ggX8_lack_X5_isClaim
theorem dX8_lack_0 : decode cX8_lack 0 = .ok (.aload_n 0, 1) := by decide +kernel
theorem dX8_lack_1 : decode cX8_lack 1 = .ok (.getfield 19, 3) := by decide +kernel
theorem dX8_lack_4 : decode cX8_lack 4 = .ok (.iload_n 1, 1) := by decide +kernel
theorem dX8_lack_5 : decode cX8_lack 5 = .ok (.invokevirtual 244, 3) := by decide +kernel
theorem dX8_lack_8 : decode cX8_lack 8 = .ok (.ifCond .ne 5, 3) := by decide +kernel
theorem dX8_lack_11 : decode cX8_lack 11 = .ok (.iconst (-1), 1) := by decide +kernel
theorem dX8_lack_12 : decode cX8_lack 12 = .ok (.ireturn, 1) := by decide +kernel
set_option maxRecDepth 20000 in
theorem ggX8_rank_X5_isPoint : GoodIn wsX8_rank wsX5_isPoint := goodIn_r _ [8, 9, 161, 162, 163, 164, 165, 166, 167, 168, 169, 170, 171, 172] (by decide +kernel) (by decide +kernel)
set_option maxRecDepth 20000 in
theorem gX8_rank_X5_isPoint : GoodIn wsX8_rank (wsV RX8 114 RX5 yX5_isPoint wsX5_isPoint) := goodIn_app (goodIn_of _ (by decide +kernel)) ggX8_rank_X5_isPoint
theorem dX8_rank_0 : decode cX8_rank 0 = .ok (.aload_n 0, 1) := by decide +kernel
theorem dX8_rank_1 : decode cX8_rank 1 = .ok (.getfield 19, 3) := by decide +kernel
theorem dX8_rank_4 : decode cX8_rank 4 = .ok (.iload_n 1, 1) := by decide +kernel
theorem dX8_rank_5 : decode cX8_rank 5 = .ok (.invokevirtual 114, 3) := by decide +kernel
theorem dX8_rank_8 : decode cX8_rank 8 = .ok (.ifCond .eq 26, 3) := by decide +kernel
theorem dX8_rank_34 : decode cX8_rank 34 = .ok (.iconst (-1), 1) := by decide +kernel
theorem dX8_rank_35 : decode cX8_rank 35 = .ok (.ireturn, 1) := by decide +kernel
set_option maxRecDepth 20000 in
theorem ggX8_depth_X8_standingNow : GoodIn wsX8_depth wsX8_standingNow := goodIn_r _ [13, 3, 14, 15, 16, 17, 12, 18, 1, 19, 20, 21, 22, 23, 24, 25, 26, 27, 28, 29, 30, 31, 32, 33, 34, 35, 36, 37, 38, 39, 40, 41, 42, 43, 44, 45, 46, 47, 48, 49, 50, 51, 52, 53, 54, 55, 56, 57, 58, 59, 60, 61, 62, 63, 64, 65, 66, 67, 68, 69, 70, 71, 72, 73, 74, 75, 7, 76, 77, 6, 8, 78, 79, 80, 81, 82, 83, 84, 85, 86, 87, 88, 89, 90, 91, 92, 93, 94, 95, 96, 97, 98, 99, 100, 101, 102, 103, 104, 105, 106, 107, 108, 109, 110, 111, 112, 113, 114, 115, 116, 117, 118, 119, 120, 121, 122, 123, 124, 125, 126, 127, 128, 129, 130, 131, 132, 133, 134, 136, 137, 138, 139, 140, 141, 142, 143, 144, 145, 146, 147, 148, 171, 172, 173, 174, 175, 176, 177, 178, 179, 161, 162, 163, 164, 165, 166, 167, 168, 169, 170, 149, 150, 151, 152, 153, 154, 155, 156, 157, 158, 159, 160, 180, 181, 182, 183, 184, 185] (by decide +kernel) (by decide +kernel)
set_option maxRecDepth 20000 in
theorem gX8_depth_X8_standingNow : GoodIn wsX8_depth (wsV RX8 224 RX8 yX8_standingNow wsX8_standingNow) := goodIn_app (goodIn_of _ (by decide +kernel)) ggX8_depth_X8_standingNow
theorem dX8_depth_0 : decode cX8_depth 0 = .ok (.aload_n 0, 1) := by decide +kernel
theorem dX8_depth_1 : decode cX8_depth 1 = .ok (.invokevirtual 224, 3) := by decide +kernel
theorem dX8_depth_4 : decode cX8_depth 4 = .ok (.istore_n 1, 1) := by decide +kernel
theorem dX8_depth_5 : decode cX8_depth 5 = .ok (.iconst (-1), 1) := by decide +kernel
theorem dX8_depth_6 : decode cX8_depth 6 = .ok (.istore_n 2, 1) := by decide +kernel
theorem dX8_depth_7 : decode cX8_depth 7 = .ok (.iconst 0, 1) := by decide +kernel
theorem dX8_depth_8 : decode cX8_depth 8 = .ok (.istore_n 3, 1) := by decide +kernel
theorem dX8_depth_9 : decode cX8_depth 9 = .ok (.iload_n 3, 1) := by decide +kernel
theorem dX8_depth_10 : decode cX8_depth 10 = .ok (.aload_n 0, 1) := by decide +kernel
theorem dX8_depth_11 : decode cX8_depth 11 = .ok (.getfield 19, 3) := by decide +kernel
theorem dX8_depth_14 : decode cX8_depth 14 = .ok (.getfield 105, 3) := by decide +kernel
theorem dX8_depth_17 : decode cX8_depth 17 = .ok (.if_icmp .ge 31, 3) := by decide +kernel
theorem dX8_depth_48 : decode cX8_depth 48 = .ok (.iload_n 2, 1) := by decide +kernel
theorem dX8_depth_49 : decode cX8_depth 49 = .ok (.ireturn, 1) := by decide +kernel
set_option maxRecDepth 20000 in
theorem ggX8_ring_X8_isZeroOrOne : GoodIn wsX8_ring wsX8_isZeroOrOne := goodIn_r _ [7] (by decide +kernel) (by decide +kernel)
set_option maxRecDepth 20000 in
theorem gX8_ring_X8_isZeroOrOne : GoodIn wsX8_ring (va_wsS RX8 234 yX8_isZeroOrOne wsX8_isZeroOrOne) := goodIn_app (goodIn_of _ (by decide +kernel)) ggX8_ring_X8_isZeroOrOne
set_option maxRecDepth 20000 in
theorem ggX8_ring_X8_look : GoodIn wsX8_ring wsX8_look := goodIn_r _ [11, 1, 3, 12, 13, 14, 6, 15, 16, 17, 18, 19, 20, 21, 22, 23, 24, 25, 26, 27, 28, 29, 30, 31, 32, 33, 34, 35, 36, 37, 38, 39, 40, 41, 42, 43, 130, 131, 132, 133, 134, 135, 136, 137, 138, 139, 140, 141, 142, 148, 149, 150, 151, 152, 153, 154, 155, 156, 157, 158, 159, 160, 161, 162, 163, 164, 165, 166, 167, 168, 169, 170, 171, 172, 173, 143, 144, 145, 146, 147] (by decide +kernel) (by decide +kernel)
set_option maxRecDepth 20000 in
theorem gX8_ring_X8_look : GoodIn wsX8_ring (wsV RX8 148 RX8 yX8_look wsX8_look) := goodIn_app (goodIn_of _ (by decide +kernel)) ggX8_ring_X8_look
set_option maxRecDepth 20000 in
theorem ggX8_ring_X8_now : GoodIn wsX8_ring wsX8_now := goodIn_r _ [15, 16, 17, 18, 19, 20, 21, 22, 23, 130, 131, 132, 133, 134, 135, 136, 137, 138, 139, 140, 141, 142, 148, 149, 150, 151] (by decide +kernel) (by decide +kernel)
set_option maxRecDepth 20000 in
theorem gX8_ring_X8_now : GoodIn wsX8_ring (wsV RX8 88 RX8 yX8_now wsX8_now) := goodIn_app (goodIn_of _ (by decide +kernel)) ggX8_ring_X8_now
set_option maxRecDepth 20000 in
theorem ggX8_ring_X2_weigh : GoodIn wsX8_ring wsX2_weigh := goodIn_r _ [47, 29, 48, 36, 49, 50, 6, 51, 52, 53, 54, 27, 55, 56, 57, 58, 59, 60, 61, 62, 43, 42, 34, 63, 64, 65, 66, 67, 68, 69, 70, 71, 72, 73, 74, 75, 76, 77, 78, 79, 80, 81, 82, 83, 84, 85, 86, 87, 88, 89, 90, 91, 92, 93, 94, 95, 96, 97, 98, 99, 100, 152, 153, 154, 155, 156, 157, 158, 159, 160, 161, 162, 163, 164, 165, 166, 167, 168, 169, 170, 171, 172, 173, 174, 175, 176, 177, 178, 179] (by decide +kernel) (by decide +kernel)
set_option maxRecDepth 20000 in
theorem gX8_ring_X2_weigh : GoodIn wsX8_ring (wsV RX8 151 RX2 yX2_weigh wsX2_weigh) := goodIn_app (goodIn_of _ (by decide +kernel)) ggX8_ring_X2_weigh
set_option maxRecDepth 20000 in
theorem ggX8_ring_X5_claims : GoodIn wsX8_ring wsX5_claims := goodIn_r _ [105, 106, 107, 162, 163, 164, 165, 166, 167, 168, 169, 170, 171, 172, 173] (by decide +kernel) (by decide +kernel)
set_option maxRecDepth 20000 in
theorem gX8_ring_X5_claims : GoodIn wsX8_ring (wsV RX8 290 RX5 yX5_claims wsX5_claims) := goodIn_app (goodIn_of _ (by decide +kernel)) ggX8_ring_X5_claims
set_option maxRecDepth 20000 in
theorem ggX8_ring_X8_sizeOrSet : GoodIn wsX8_ring wsX8_sizeOrSet := goodIn_r _ [129, 108, 71, 72, 73, 74, 75, 76] (by decide +kernel) (by decide +kernel)
set_option maxRecDepth 20000 in
theorem gX8_ring_X8_sizeOrSet : GoodIn wsX8_ring (va_wsS RX8 267 yX8_sizeOrSet wsX8_sizeOrSet) := goodIn_app (goodIn_of _ (by decide +kernel)) ggX8_ring_X8_sizeOrSet
theorem dX8_ring_0 : decode cX8_ring 0 = .ok (.iload_n 1, 1) := by decide +kernel
theorem dX8_ring_1 : decode cX8_ring 1 = .ok (.invokestatic 234, 3) := by decide +kernel
theorem dX8_ring_4 : decode cX8_ring 4 = .ok (.ifCond .ne 5, 3) := by decide +kernel
theorem dX8_ring_7 : decode cX8_ring 7 = .ok (.iconst (-1), 1) := by decide +kernel
theorem dX8_ring_8 : decode cX8_ring 8 = .ok (.ireturn, 1) := by decide +kernel
theorem dX8_ring_9 : decode cX8_ring 9 = .ok (.aload_n 0, 1) := by decide +kernel
theorem dX8_ring_10 : decode cX8_ring 10 = .ok (.invokevirtual 148, 3) := by decide +kernel
theorem dX8_ring_13 : decode cX8_ring 13 = .ok (.aload_n 0, 1) := by decide +kernel
theorem dX8_ring_14 : decode cX8_ring 14 = .ok (.getfield 44, 3) := by decide +kernel
theorem dX8_ring_17 : decode cX8_ring 17 = .ok (.aload_n 0, 1) := by decide +kernel
theorem dX8_ring_18 : decode cX8_ring 18 = .ok (.invokevirtual 88, 3) := by decide +kernel
theorem dX8_ring_21 : decode cX8_ring 21 = .ok (.getfield 145, 3) := by decide +kernel
theorem dX8_ring_24 : decode cX8_ring 24 = .ok (.invokevirtual 151, 3) := by decide +kernel
theorem dX8_ring_27 : decode cX8_ring 27 = .ok (.aload_n 0, 1) := by decide +kernel
theorem dX8_ring_28 : decode cX8_ring 28 = .ok (.getfield 19, 3) := by decide +kernel
theorem dX8_ring_31 : decode cX8_ring 31 = .ok (.invokevirtual 290, 3) := by decide +kernel
theorem dX8_ring_34 : decode cX8_ring 34 = .ok (.istore_n 2, 1) := by decide +kernel
theorem dX8_ring_35 : decode cX8_ring 35 = .ok (.iconst (-1), 1) := by decide +kernel
theorem dX8_ring_36 : decode cX8_ring 36 = .ok (.istore_n 3, 1) := by decide +kernel
theorem dX8_ring_37 : decode cX8_ring 37 = .ok (.bipush 11, 2) := by decide +kernel
theorem dX8_ring_39 : decode cX8_ring 39 = .ok (.istore 4, 2) := by decide +kernel
