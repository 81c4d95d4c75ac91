theorem dX0_goBack_0 : decode cX0_goBack 0 = .ok (.aload_n 0, 1) := by decide +kernel
theorem dX0_goBack_1 : decode cX0_goBack 1 = .ok (.getfield 26, 3) := by decide +kernel
theorem dX0_goBack_4 : decode cX0_goBack 4 = .ok (.ifCond .ne 5, 3) := by decide +kernel
theorem dX0_goBack_7 : decode cX0_goBack 7 = .ok (.iconst 0, 1) := by decide +kernel
theorem dX0_goBack_8 : decode cX0_goBack 8 = .ok (.ireturn, 1) := by decide +kernel
theorem dX0_goBack_9 : decode cX0_goBack 9 = .ok (.aload_n 0, 1) := by decide +kernel
theorem dX0_goBack_10 : decode cX0_goBack 10 = .ok (.aload_n 0, 1) := by decide +kernel
theorem dX0_goBack_11 : decode cX0_goBack 11 = .ok (.getfield 18, 3) := by decide +kernel
theorem dX0_goBack_14 : decode cX0_goBack 14 = .ok (.bipush 41, 2) := by decide +kernel
theorem dX0_goBack_16 : decode cX0_goBack 16 = .ok (.iadd, 1) := by decide +kernel
theorem dX0_goBack_17 : decode cX0_goBack 17 = .ok (.iconst 1, 1) := by decide +kernel
theorem dX0_goBack_18 : decode cX0_goBack 18 = .ok (.isub, 1) := by decide +kernel
theorem dX0_goBack_19 : decode cX0_goBack 19 = .ok (.bipush 41, 2) := by decide +kernel
theorem dX0_goBack_21 : decode cX0_goBack 21 = .ok (.irem, 1) := by decide +kernel
theorem dX0_goBack_22 : decode cX0_goBack 22 = .ok (.putfield 18, 3) := by decide +kernel
theorem dX0_goBack_25 : decode cX0_goBack 25 = .ok (.aload_n 0, 1) := by decide +kernel
theorem dX0_goBack_26 : decode cX0_goBack 26 = .ok (.dup, 1) := by decide +kernel
theorem dX0_goBack_27 : decode cX0_goBack 27 = .ok (.getfield 26, 3) := by decide +kernel
theorem dX0_goBack_30 : decode cX0_goBack 30 = .ok (.iconst 1, 1) := by decide +kernel
theorem dX0_goBack_31 : decode cX0_goBack 31 = .ok (.isub, 1) := by decide +kernel
theorem dX0_goBack_32 : decode cX0_goBack 32 = .ok (.putfield 26, 3) := by decide +kernel
theorem dX0_goBack_35 : decode cX0_goBack 35 = .ok (.aload_n 0, 1) := by decide +kernel
theorem dX0_goBack_36 : decode cX0_goBack 36 = .ok (.dup, 1) := by decide +kernel
theorem dX0_goBack_37 : decode cX0_goBack 37 = .ok (.getfield 35, 3) := by decide +kernel
theorem dX0_goBack_40 : decode cX0_goBack 40 = .ok (.iconst 1, 1) := by decide +kernel
theorem dX0_goBack_41 : decode cX0_goBack 41 = .ok (.iadd, 1) := by decide +kernel
theorem dX0_goBack_42 : decode cX0_goBack 42 = .ok (.putfield 35, 3) := by decide +kernel
theorem dX0_goBack_45 : decode cX0_goBack 45 = .ok (.iconst 1, 1) := by decide +kernel
theorem dX0_goBack_46 : decode cX0_goBack 46 = .ok (.ireturn, 1) := by decide +kernel
theorem dX0_goOn_0 : decode cX0_goOn 0 = .ok (.aload_n 0, 1) := by decide +kernel
theorem dX0_goOn_1 : decode cX0_goOn 1 = .ok (.getfield 35, 3) := by decide +kernel
theorem dX0_goOn_4 : decode cX0_goOn 4 = .ok (.ifCond .ne 5, 3) := by decide +kernel
theorem dX0_goOn_7 : decode cX0_goOn 7 = .ok (.iconst 0, 1) := by decide +kernel
theorem dX0_goOn_8 : decode cX0_goOn 8 = .ok (.ireturn, 1) := by decide +kernel
theorem dX0_goOn_9 : decode cX0_goOn 9 = .ok (.aload_n 0, 1) := by decide +kernel
theorem dX0_goOn_10 : decode cX0_goOn 10 = .ok (.aload_n 0, 1) := by decide +kernel
theorem dX0_goOn_11 : decode cX0_goOn 11 = .ok (.getfield 18, 3) := by decide +kernel
theorem dX0_goOn_14 : decode cX0_goOn 14 = .ok (.iconst 1, 1) := by decide +kernel
theorem dX0_goOn_15 : decode cX0_goOn 15 = .ok (.iadd, 1) := by decide +kernel
theorem dX0_goOn_16 : decode cX0_goOn 16 = .ok (.bipush 41, 2) := by decide +kernel
theorem dX0_goOn_18 : decode cX0_goOn 18 = .ok (.irem, 1) := by decide +kernel
theorem dX0_goOn_19 : decode cX0_goOn 19 = .ok (.putfield 18, 3) := by decide +kernel
theorem dX0_goOn_22 : decode cX0_goOn 22 = .ok (.aload_n 0, 1) := by decide +kernel
theorem dX0_goOn_23 : decode cX0_goOn 23 = .ok (.dup, 1) := by decide +kernel
theorem dX0_goOn_24 : decode cX0_goOn 24 = .ok (.getfield 26, 3) := by decide +kernel
theorem dX0_goOn_27 : decode cX0_goOn 27 = .ok (.iconst 1, 1) := by decide +kernel
theorem dX0_goOn_28 : decode cX0_goOn 28 = .ok (.iadd, 1) := by decide +kernel
theorem dX0_goOn_29 : decode cX0_goOn 29 = .ok (.putfield 26, 3) := by decide +kernel
theorem dX0_goOn_32 : decode cX0_goOn 32 = .ok (.aload_n 0, 1) := by decide +kernel
theorem dX0_goOn_33 : decode cX0_goOn 33 = .ok (.dup, 1) := by decide +kernel
theorem dX0_goOn_34 : decode cX0_goOn 34 = .ok (.getfield 35, 3) := by decide +kernel
theorem dX0_goOn_37 : decode cX0_goOn 37 = .ok (.iconst 1, 1) := by decide +kernel
theorem dX0_goOn_38 : decode cX0_goOn 38 = .ok (.isub, 1) := by decide +kernel
theorem dX0_goOn_39 : decode cX0_goOn 39 = .ok (.putfield 35, 3) := by decide +kernel
theorem dX0_goOn_42 : decode cX0_goOn 42 = .ok (.iconst 1, 1) := by decide +kernel
theorem dX0_goOn_43 : decode cX0_goOn 43 = .ok (.ireturn, 1) := by decide +kernel
set_option maxRecDepth 20000 in
theorem ggX2_standing_X2_weigh : GoodIn wsX2_standing wsX2_weigh := goodIn_r _ [7, 2, 8, 9, 10, 11, 12, 13, 14, 15, 16, 6, 17, 18, 19, 20, 21, 22, 23, 24, 25, 26, 27, 28, 29, 30, 31, 32, 33, 34, 35, 36, 37, 38, 39, 40, 41, 42, 43, 44, 45, 46, 47, 48, 49, 50, 51, 52, 53, 54, 55, 56, 57, 58, 59, 60, 61, 62, 63, 64, 65, 92, 93, 94, 95, 96, 97, 98, 99, 100, 101, 102, 103, 104, 105, 106, 107, 108, 109, 110, 111, 112, 113, 114, 115, 116, 117, 118, 119] rfl rfl
set_option maxRecDepth 20000 in
theorem gX2_standing_X2_weigh : GoodIn wsX2_standing (wsV RX2 118 RX2 yX2_weigh wsX2_weigh) := goodIn_app (goodIn_of _ (by decide +kernel)) ggX2_standing_X2_weigh
set_option maxRecDepth 20000 in
theorem ggX2_standing_X2_clearSums : GoodIn wsX2_standing wsX2_clearSums := goodIn_r _ [69, 70, 92, 93, 94, 95, 96, 97, 98, 99, 100, 101] rfl rfl
set_option maxRecDepth 20000 in
theorem gX2_standing_X2_clearSums : GoodIn wsX2_standing (wsV RX2 122 RX2 yX2_clearSums wsX2_clearSums) := goodIn_app (goodIn_of _ (by decide +kernel)) ggX2_standing_X2_clearSums
set_option maxRecDepth 20000 in
theorem ggX2_standing_X2_rankAs : GoodIn wsX2_standing wsX2_rankAs := goodIn_r _ [74, 2, 75, 76, 11, 12, 13, 92, 93, 94, 95, 96, 97, 98, 99, 100, 101, 102, 103, 104, 105, 106, 107, 108, 109, 110, 111, 112, 113] rfl rfl
set_option maxRecDepth 20000 in
theorem gX2_standing_X2_rankAs : GoodIn wsX2_standing (wsV RX2 125 RX2 yX2_rankAs wsX2_rankAs) := goodIn_app (goodIn_of _ (by decide +kernel)) ggX2_standing_X2_rankAs
set_option maxRecDepth 20000 in
theorem ggX2_standing_X2_addFrom : GoodIn wsX2_standing wsX2_addFrom := goodIn_r _ [80, 2, 8, 23, 70, 20, 10, 11, 12, 13, 92, 93, 94, 95, 96, 97, 98, 99, 100, 101, 102, 103, 104, 105, 106, 107, 108, 109, 110, 111, 112, 113] rfl rfl
set_option maxRecDepth 20000 in
theorem gX2_standing_X2_addFrom : GoodIn wsX2_standing (wsV RX2 129 RX2 yX2_addFrom wsX2_addFrom) := goodIn_app (goodIn_of _ (by decide +kernel)) ggX2_standing_X2_addFrom
set_option maxRecDepth 20000 in
theorem ggX2_standing_X5_claims : GoodIn wsX2_standing wsX5_claims := goodIn_r _ [85, 86, 87, 102, 103, 104, 105, 106, 107, 108, 109, 110, 111, 112, 113] rfl rfl
set_option maxRecDepth 20000 in
theorem gX2_standing_X5_claims : GoodIn wsX2_standing (wsV RX2 132 RX5 yX5_claims wsX5_claims) := goodIn_app (goodIn_of _ (by decide +kernel)) ggX2_standing_X5_claims
set_option maxRecDepth 20000 in
theorem ggX2_standing_X2_enough : GoodIn wsX2_standing wsX2_enough := goodIn_r _ [91, 2, 75, 70, 26, 11, 12, 13, 92, 93, 94, 95, 96, 97, 98, 99, 100, 101, 102, 103, 104, 105, 106, 107, 108, 109, 110, 111, 112, 113] rfl rfl
set_option maxRecDepth 20000 in
theorem gX2_standing_X2_enough : GoodIn wsX2_standing (wsV RX2 136 RX2 yX2_enough wsX2_enough) := goodIn_app (goodIn_of _ (by decide +kernel)) ggX2_standing_X2_enough
theorem dX2_standing_0 : decode cX2_standing 0 = .ok (.aload_n 0, 1) := by decide +kernel
theorem dX2_standing_1 : decode cX2_standing 1 = .ok (.iload_n 1, 1) := by decide +kernel
theorem dX2_standing_2 : decode cX2_standing 2 = .ok (.invokevirtual 118, 3) := by decide +kernel
theorem dX2_standing_5 : decode cX2_standing 5 = .ok (.aload_n 0, 1) := by decide +kernel
theorem dX2_standing_6 : decode cX2_standing 6 = .ok (.invokevirtual 122, 3) := by decide +kernel
theorem dX2_standing_9 : decode cX2_standing 9 = .ok (.aload_n 0, 1) := by decide +kernel
theorem dX2_standing_10 : decode cX2_standing 10 = .ok (.getfield 46, 3) := by decide +kernel
theorem dX2_standing_13 : decode cX2_standing 13 = .ok (.istore_n 2, 1) := by decide +kernel
theorem dX2_standing_14 : decode cX2_standing 14 = .ok (.aload_n 0, 1) := by decide +kernel
theorem dX2_standing_15 : decode cX2_standing 15 = .ok (.getfield 46, 3) := by decide +kernel
theorem dX2_standing_18 : decode cX2_standing 18 = .ok (.istore_n 3, 1) := by decide +kernel
theorem dX2_standing_19 : decode cX2_standing 19 = .ok (.aload_n 0, 1) := by decide +kernel
theorem dX2_standing_20 : decode cX2_standing 20 = .ok (.iconst 0, 1) := by decide +kernel
theorem dX2_standing_21 : decode cX2_standing 21 = .ok (.iload_n 3, 1) := by decide +kernel
theorem dX2_standing_22 : decode cX2_standing 22 = .ok (.invokevirtual 125, 3) := by decide +kernel
theorem dX2_standing_25 : decode cX2_standing 25 = .ok (.iconst 1, 1) := by decide +kernel
theorem dX2_standing_26 : decode cX2_standing 26 = .ok (.istore 4, 2) := by decide +kernel
theorem dX2_standing_28 : decode cX2_standing 28 = .ok (.iload 4, 2) := by decide +kernel
theorem dX2_standing_30 : decode cX2_standing 30 = .ok (.bipush 11, 2) := by decide +kernel
theorem dX2_standing_32 : decode cX2_standing 32 = .ok (.if_icmp .gt 48, 3) := by decide +kernel
theorem dX2_standing_35 : decode cX2_standing 35 = .ok (.aload_n 0, 1) := by decide +kernel
theorem dX2_standing_36 : decode cX2_standing 36 = .ok (.iload_n 3, 1) := by decide +kernel
theorem dX2_standing_37 : decode cX2_standing 37 = .ok (.invokevirtual 129, 3) := by decide +kernel
theorem dX2_standing_40 : decode cX2_standing 40 = .ok (.aload_n 0, 1) := by decide +kernel
theorem dX2_standing_41 : decode cX2_standing 41 = .ok (.aload_n 0, 1) := by decide +kernel
theorem dX2_standing_42 : decode cX2_standing 42 = .ok (.getfield 24, 3) := by decide +kernel
theorem dX2_standing_45 : decode cX2_standing 45 = .ok (.invokevirtual 132, 3) := by decide +kernel
theorem dX2_standing_48 : decode cX2_standing 48 = .ok (.iload_n 2, 1) := by decide +kernel
theorem dX2_standing_49 : decode cX2_standing 49 = .ok (.iconst (-1), 1) := by decide +kernel
theorem dX2_standing_50 : decode cX2_standing 50 = .ok (.ixor, 1) := by decide +kernel
theorem dX2_standing_51 : decode cX2_standing 51 = .ok (.iand, 1) := by decide +kernel
theorem dX2_standing_52 : decode cX2_standing 52 = .ok (.invokevirtual 136, 3) := by decide +kernel
theorem dX2_standing_55 : decode cX2_standing 55 = .ok (.istore_n 3, 1) := by decide +kernel
theorem dX2_standing_56 : decode cX2_standing 56 = .ok (.iload_n 3, 1) := by decide +kernel
theorem dX2_standing_57 : decode cX2_standing 57 = .ok (.ifCond .ne 6, 3) := by decide +kernel
theorem dX2_standing_60 : decode cX2_standing 60 = .ok (.goto 20, 3) := by decide +kernel
theorem dX2_standing_63 : decode cX2_standing 63 = .ok (.aload_n 0, 1) := by decide +kernel
theorem dX2_standing_64 : decode cX2_standing 64 = .ok (.iload 4, 2) := by decide +kernel
theorem dX2_standing_66 : decode cX2_standing 66 = .ok (.iload_n 3, 1) := by decide +kernel
theorem dX2_standing_67 : decode cX2_standing 67 = .ok (.invokevirtual 125, 3) := by decide +kernel
theorem dX2_standing_70 : decode cX2_standing 70 = .ok (.iload_n 2, 1) := by decide +kernel
theorem dX2_standing_71 : decode cX2_standing 71 = .ok (.iload_n 3, 1) := by decide +kernel
theorem dX2_standing_72 : decode cX2_standing 72 = .ok (.ior, 1) := by decide +kernel
theorem dX2_standing_73 : decode cX2_standing 73 = .ok (.istore_n 2, 1) := by decide +kernel
theorem dX2_standing_74 : decode cX2_standing 74 = .ok (.iinc 4 1, 3) := by decide +kernel
theorem dX2_standing_77 : decode cX2_standing 77 = .ok (.goto (-49), 3) := by decide +kernel
theorem dX2_standing_80 : decode cX2_standing 80 = .ok (.iload_n 2, 1) := by decide +kernel
theorem dX2_standing_81 : decode cX2_standing 81 = .ok (.ireturn, 1) := by decide +kernel
set_option maxRecDepth 20000 in
theorem ggX2_greatest_X2_weigh : GoodIn wsX2_greatest wsX2_weigh := goodIn_r _ [7, 1, 8, 9, 10, 11, 12, 13, 14, 15, 16, 6, 17, 18, 19, 20, 21, 22, 23, 24, 25, 26, 27, 28, 29, 30, 31, 32, 33, 34, 35, 36, 37, 38, 39, 40, 41, 42, 43, 44, 45, 46, 47, 48, 49, 50, 51, 52, 53, 54, 55, 56, 57, 58, 59, 60, 61, 62, 63, 64, 65, 87, 88, 89, 90, 91, 92, 93, 94, 95, 96, 97, 98, 99, 100, 101, 102, 103, 104, 105, 106, 107, 108, 109, 110, 111, 112, 113, 114] rfl rfl
set_option maxRecDepth 20000 in
theorem gX2_greatest_X2_weigh : GoodIn wsX2_greatest (wsV RX2 118 RX2 yX2_weigh wsX2_weigh) := goodIn_app (goodIn_of _ (by decide +kernel)) ggX2_greatest_X2_weigh
set_option maxRecDepth 20000 in
theorem ggX2_greatest_X5_claims : GoodIn wsX2_greatest wsX5_claims := goodIn_r _ [70, 71, 72, 97, 98, 99, 100, 101, 102, 103, 104, 105, 106, 107, 108] rfl rfl
set_option maxRecDepth 20000 in
theorem gX2_greatest_X5_claims : GoodIn wsX2_greatest (wsV RX2 132 RX5 yX5_claims wsX5_claims) := goodIn_app (goodIn_of _ (by decide +kernel)) ggX2_greatest_X5_claims
set_option maxRecDepth 20000 in
theorem ggX2_greatest_X2_clearSums : GoodIn wsX2_greatest wsX2_clearSums := goodIn_r _ [76, 77, 87, 88, 89, 90, 91, 92, 93, 94, 95, 96] rfl rfl
set_option maxRecDepth 20000 in
theorem gX2_greatest_X2_clearSums : GoodIn wsX2_greatest (wsV RX2 122 RX2 yX2_clearSums wsX2_clearSums) := goodIn_app (goodIn_of _ (by decide +kernel)) ggX2_greatest_X2_clearSums
set_option maxRecDepth 20000 in
theorem ggX2_greatest_X2_addFrom : GoodIn wsX2_greatest wsX2_addFrom := goodIn_r _ [81, 1, 8, 23, 77, 20, 10, 11, 12, 13, 87, 88, 89, 90, 91, 92, 93, 94, 95, 96, 97, 98, 99, 100, 101, 102, 103, 104, 105, 106, 107, 108] rfl rfl
set_option maxRecDepth 20000 in
theorem gX2_greatest_X2_addFrom : GoodIn wsX2_greatest (wsV RX2 129 RX2 yX2_addFrom wsX2_addFrom) := goodIn_app (goodIn_of _ (by decide +kernel)) ggX2_greatest_X2_addFrom
set_option maxRecDepth 20000 in
theorem ggX2_greatest_X2_enough : GoodIn wsX2_greatest wsX2_enough := goodIn_r _ [85, 1, 86, 77, 26, 11, 12, 13, 87, 88, 89, 90, 91, 92, 93, 94, 95, 96, 97, 98, 99, 100, 101, 102, 103, 104, 105, 106, 107, 108] rfl rfl
set_option maxRecDepth 20000 in
theorem gX2_greatest_X2_enough : GoodIn wsX2_greatest (wsV RX2 136 RX2 yX2_enough wsX2_enough) := goodIn_app (goodIn_of _ (by decide +kernel)) ggX2_greatest_X2_enough
theorem dX2_greatest_0 : decode cX2_greatest 0 = .ok (.aload_n 0, 1) := by decide +kernel
theorem dX2_greatest_1 : decode cX2_greatest 1 = .ok (.iload_n 1, 1) := by decide +kernel
theorem dX2_greatest_2 : decode cX2_greatest 2 = .ok (.invokevirtual 118, 3) := by decide +kernel
theorem dX2_greatest_5 : decode cX2_greatest 5 = .ok (.aload_n 0, 1) := by decide +kernel
theorem dX2_greatest_6 : decode cX2_greatest 6 = .ok (.getfield 24, 3) := by decide +kernel
theorem dX2_greatest_9 : decode cX2_greatest 9 = .ok (.invokevirtual 132, 3) := by decide +kernel
theorem dX2_greatest_12 : decode cX2_greatest 12 = .ok (.istore_n 2, 1) := by decide +kernel
theorem dX2_greatest_13 : decode cX2_greatest 13 = .ok (.iconst 0, 1) := by decide +kernel
theorem dX2_greatest_14 : decode cX2_greatest 14 = .ok (.istore_n 3, 1) := by decide +kernel
theorem dX2_greatest_15 : decode cX2_greatest 15 = .ok (.iload_n 3, 1) := by decide +kernel
theorem dX2_greatest_16 : decode cX2_greatest 16 = .ok (.bipush 10, 2) := by decide +kernel
theorem dX2_greatest_18 : decode cX2_greatest 18 = .ok (.if_icmp .gt 29, 3) := by decide +kernel
theorem dX2_greatest_21 : decode cX2_greatest 21 = .ok (.aload_n 0, 1) := by decide +kernel
theorem dX2_greatest_22 : decode cX2_greatest 22 = .ok (.invokevirtual 122, 3) := by decide +kernel
theorem dX2_greatest_25 : decode cX2_greatest 25 = .ok (.aload_n 0, 1) := by decide +kernel
theorem dX2_greatest_26 : decode cX2_greatest 26 = .ok (.aload_n 0, 1) := by decide +kernel
theorem dX2_greatest_27 : decode cX2_greatest 27 = .ok (.getfield 46, 3) := by decide +kernel
theorem dX2_greatest_30 : decode cX2_greatest 30 = .ok (.iload_n 2, 1) := by decide +kernel
theorem dX2_greatest_31 : decode cX2_greatest 31 = .ok (.ior, 1) := by decide +kernel
theorem dX2_greatest_32 : decode cX2_greatest 32 = .ok (.invokevirtual 129, 3) := by decide +kernel
theorem dX2_greatest_35 : decode cX2_greatest 35 = .ok (.aload_n 0, 1) := by decide +kernel
theorem dX2_greatest_36 : decode cX2_greatest 36 = .ok (.iload_n 2, 1) := by decide +kernel
theorem dX2_greatest_37 : decode cX2_greatest 37 = .ok (.invokevirtual 136, 3) := by decide +kernel
theorem dX2_greatest_40 : decode cX2_greatest 40 = .ok (.istore_n 2, 1) := by decide +kernel
theorem dX2_greatest_41 : decode cX2_greatest 41 = .ok (.iinc 3 1, 3) := by decide +kernel
theorem dX2_greatest_44 : decode cX2_greatest 44 = .ok (.goto (-29), 3) := by decide +kernel
theorem dX2_greatest_47 : decode cX2_greatest 47 = .ok (.aload_n 0, 1) := by decide +kernel
theorem dX2_greatest_48 : decode cX2_greatest 48 = .ok (.getfield 46, 3) := by decide +kernel
theorem dX2_greatest_51 : decode cX2_greatest 51 = .ok (.iload_n 2, 1) := by decide +kernel
theorem dX2_greatest_52 : decode cX2_greatest 52 = .ok (.ior, 1) := by decide +kernel
theorem dX2_greatest_53 : decode cX2_greatest 53 = .ok (.ireturn, 1) := by decide +kernel
theorem dX2_clearSums_0 : decode cX2_clearSums 0 = .ok (.iconst 0, 1) := by decide +kernel
theorem dX2_clearSums_1 : decode cX2_clearSums 1 = .ok (.istore_n 1, 1) := by decide +kernel
theorem dX2_clearSums_2 : decode cX2_clearSums 2 = .ok (.iload_n 1, 1) := by decide +kernel
theorem dX2_clearSums_3 : decode cX2_clearSums 3 = .ok (.bipush 10, 2) := by decide +kernel
theorem dX2_clearSums_5 : decode cX2_clearSums 5 = .ok (.if_icmp .ge 16, 3) := by decide +kernel
theorem dX2_clearSums_8 : decode cX2_clearSums 8 = .ok (.aload_n 0, 1) := by decide +kernel
theorem dX2_clearSums_9 : decode cX2_clearSums 9 = .ok (.getfield 15, 3) := by decide +kernel
theorem dX2_clearSums_12 : decode cX2_clearSums 12 = .ok (.iload_n 1, 1) := by decide +kernel
theorem dX2_clearSums_13 : decode cX2_clearSums 13 = .ok (.iconst 0, 1) := by decide +kernel
theorem dX2_clearSums_14 : decode cX2_clearSums 14 = .ok (.iastore, 1) := by decide +kernel
theorem dX2_clearSums_15 : decode cX2_clearSums 15 = .ok (.iinc 1 1, 3) := by decide +kernel
theorem dX2_clearSums_18 : decode cX2_clearSums 18 = .ok (.goto (-16), 3) := by decide +kernel
theorem dX2_clearSums_21 : decode cX2_clearSums 21 = .ok (.return_, 1) := by decide +kernel
set_option maxRecDepth 20000 in
theorem ggX2_addFrom_X8_has : GoodIn wsX2_addFrom wsX8_has := goodIn_r _ [9] rfl rfl
set_option maxRecDepth 20000 in
theorem gX2_addFrom_X8_has_n77 : GoodIn wsX2_addFrom (wsX8_has) := ggX2_addFrom_X8_has
theorem dX2_addFrom_0 : decode cX2_addFrom 0 = .ok (.iconst 0, 1) := by decide +kernel
theorem dX2_addFrom_1 : decode cX2_addFrom 1 = .ok (.istore_n 2, 1) := by decide +kernel
theorem dX2_addFrom_2 : decode cX2_addFrom 2 = .ok (.iload_n 2, 1) := by decide +kernel
theorem dX2_addFrom_3 : decode cX2_addFrom 3 = .ok (.aload_n 0, 1) := by decide +kernel
theorem dX2_addFrom_4 : decode cX2_addFrom 4 = .ok (.getfield 24, 3) := by decide +kernel
theorem dX2_addFrom_7 : decode cX2_addFrom 7 = .ok (.getfield 74, 3) := by decide +kernel
theorem dX2_addFrom_10 : decode cX2_addFrom 10 = .ok (.if_icmp .ge 48, 3) := by decide +kernel
theorem dX2_addFrom_13 : decode cX2_addFrom 13 = .ok (.iload_n 1, 1) := by decide +kernel
theorem dX2_addFrom_14 : decode cX2_addFrom 14 = .ok (.aload_n 0, 1) := by decide +kernel
theorem dX2_addFrom_15 : decode cX2_addFrom 15 = .ok (.getfield 24, 3) := by decide +kernel
theorem dX2_addFrom_18 : decode cX2_addFrom 18 = .ok (.getfield 108, 3) := by decide +kernel
theorem dX2_addFrom_21 : decode cX2_addFrom 21 = .ok (.iload_n 2, 1) := by decide +kernel
theorem dX2_addFrom_22 : decode cX2_addFrom 22 = .ok (.iaload, 1) := by decide +kernel
theorem dX2_addFrom_23 : decode cX2_addFrom 23 = .ok (.invokestatic 77, 3) := by decide +kernel
theorem dX2_addFrom_26 : decode cX2_addFrom 26 = .ok (.ifCond .eq 26, 3) := by decide +kernel
theorem dX2_addFrom_29 : decode cX2_addFrom 29 = .ok (.aload_n 0, 1) := by decide +kernel
theorem dX2_addFrom_30 : decode cX2_addFrom 30 = .ok (.getfield 15, 3) := by decide +kernel
theorem dX2_addFrom_33 : decode cX2_addFrom 33 = .ok (.aload_n 0, 1) := by decide +kernel
theorem dX2_addFrom_34 : decode cX2_addFrom 34 = .ok (.getfield 24, 3) := by decide +kernel
theorem dX2_addFrom_37 : decode cX2_addFrom 37 = .ok (.getfield 93, 3) := by decide +kernel
theorem dX2_addFrom_40 : decode cX2_addFrom 40 = .ok (.iload_n 2, 1) := by decide +kernel
theorem dX2_addFrom_41 : decode cX2_addFrom 41 = .ok (.iaload, 1) := by decide +kernel
theorem dX2_addFrom_42 : decode cX2_addFrom 42 = .ok (.dup2, 1) := by decide +kernel
theorem dX2_addFrom_43 : decode cX2_addFrom 43 = .ok (.iaload, 1) := by decide +kernel
theorem dX2_addFrom_44 : decode cX2_addFrom 44 = .ok (.aload_n 0, 1) := by decide +kernel
theorem dX2_addFrom_45 : decode cX2_addFrom 45 = .ok (.getfield 9, 3) := by decide +kernel
theorem dX2_addFrom_48 : decode cX2_addFrom 48 = .ok (.iload_n 2, 1) := by decide +kernel
theorem dX2_addFrom_49 : decode cX2_addFrom 49 = .ok (.iaload, 1) := by decide +kernel
theorem dX2_addFrom_50 : decode cX2_addFrom 50 = .ok (.iadd, 1) := by decide +kernel
theorem dX2_addFrom_51 : decode cX2_addFrom 51 = .ok (.iastore, 1) := by decide +kernel
theorem dX2_addFrom_52 : decode cX2_addFrom 52 = .ok (.iinc 2 1, 3) := by decide +kernel
theorem dX2_addFrom_55 : decode cX2_addFrom 55 = .ok (.goto (-53), 3) := by decide +kernel
theorem dX2_addFrom_58 : decode cX2_addFrom 58 = .ok (.return_, 1) := by decide +kernel
set_option maxRecDepth 20000 in
theorem ggX2_enough_X8_has : GoodIn wsX2_enough wsX8_has := goodIn_r _ [7] rfl rfl
set_option maxRecDepth 20000 in
theorem gX2_enough_X8_has_n77 : GoodIn wsX2_enough (wsX8_has) := ggX2_enough_X8_has
theorem dX2_enough_0 : decode cX2_enough 0 = .ok (.iconst 0, 1) := by decide +kernel
theorem dX2_enough_1 : decode cX2_enough 1 = .ok (.istore_n 2, 1) := by decide +kernel
theorem dX2_enough_2 : decode cX2_enough 2 = .ok (.iconst 0, 1) := by decide +kernel
theorem dX2_enough_3 : decode cX2_enough 3 = .ok (.istore_n 3, 1) := by decide +kernel
theorem dX2_enough_4 : decode cX2_enough 4 = .ok (.iload_n 3, 1) := by decide +kernel
theorem dX2_enough_5 : decode cX2_enough 5 = .ok (.aload_n 0, 1) := by decide +kernel
theorem dX2_enough_6 : decode cX2_enough 6 = .ok (.getfield 24, 3) := by decide +kernel
theorem dX2_enough_9 : decode cX2_enough 9 = .ok (.getfield 139, 3) := by decide +kernel
theorem dX2_enough_12 : decode cX2_enough 12 = .ok (.if_icmp .ge 38, 3) := by decide +kernel
theorem dX2_enough_15 : decode cX2_enough 15 = .ok (.iload_n 1, 1) := by decide +kernel
theorem dX2_enough_16 : decode cX2_enough 16 = .ok (.iload_n 3, 1) := by decide +kernel
theorem dX2_enough_17 : decode cX2_enough 17 = .ok (.invokestatic 77, 3) := by decide +kernel
theorem dX2_enough_20 : decode cX2_enough 20 = .ok (.ifCond .eq 24, 3) := by decide +kernel
theorem dX2_enough_23 : decode cX2_enough 23 = .ok (.aload_n 0, 1) := by decide +kernel
theorem dX2_enough_24 : decode cX2_enough 24 = .ok (.getfield 15, 3) := by decide +kernel
theorem dX2_enough_27 : decode cX2_enough 27 = .ok (.iload_n 3, 1) := by decide +kernel
theorem dX2_enough_28 : decode cX2_enough 28 = .ok (.iaload, 1) := by decide +kernel
theorem dX2_enough_29 : decode cX2_enough 29 = .ok (.aload_n 0, 1) := by decide +kernel
theorem dX2_enough_30 : decode cX2_enough 30 = .ok (.getfield 31, 3) := by decide +kernel
theorem dX2_enough_33 : decode cX2_enough 33 = .ok (.iload_n 3, 1) := by decide +kernel
theorem dX2_enough_34 : decode cX2_enough 34 = .ok (.iaload, 1) := by decide +kernel
theorem dX2_enough_35 : decode cX2_enough 35 = .ok (.if_icmp .lt 9, 3) := by decide +kernel
theorem dX2_enough_38 : decode cX2_enough 38 = .ok (.iload_n 2, 1) := by decide +kernel
theorem dX2_enough_39 : decode cX2_enough 39 = .ok (.iconst 1, 1) := by decide +kernel
theorem dX2_enough_40 : decode cX2_enough 40 = .ok (.iload_n 3, 1) := by decide +kernel
theorem dX2_enough_41 : decode cX2_enough 41 = .ok (.ishl, 1) := by decide +kernel
theorem dX2_enough_42 : decode cX2_enough 42 = .ok (.ior, 1) := by decide +kernel
theorem dX2_enough_43 : decode cX2_enough 43 = .ok (.istore_n 2, 1) := by decide +kernel
theorem dX2_enough_44 : decode cX2_enough 44 = .ok (.iinc 3 1, 3) := by decide +kernel
theorem dX2_enough_47 : decode cX2_enough 47 = .ok (.goto (-43), 3) := by decide +kernel
theorem dX2_enough_50 : decode cX2_enough 50 = .ok (.iload_n 2, 1) := by decide +kernel
theorem dX2_enough_51 : decode cX2_enough 51 = .ok (.ireturn, 1) := by decide +kernel
set_option maxRecDepth 20000 in
theorem ggX2_rankAs_X8_has : GoodIn wsX2_rankAs wsX8_has := goodIn_r _ [6] rfl rfl
set_option maxRecDepth 20000 in
theorem gX2_rankAs_X8_has_n77 : GoodIn wsX2_rankAs (wsX8_has) := ggX2_rankAs_X8_has
theorem dX2_rankAs_0 : decode cX2_rankAs 0 = .ok (.iconst 0, 1) := by decide +kernel
theorem dX2_rankAs_1 : decode cX2_rankAs 1 = .ok (.istore_n 3, 1) := by decide +kernel
theorem dX2_rankAs_2 : decode cX2_rankAs 2 = .ok (.iload_n 3, 1) := by decide +kernel
theorem dX2_rankAs_3 : decode cX2_rankAs 3 = .ok (.aload_n 0, 1) := by decide +kernel
theorem dX2_rankAs_4 : decode cX2_rankAs 4 = .ok (.getfield 24, 3) := by decide +kernel
theorem dX2_rankAs_7 : decode cX2_rankAs 7 = .ok (.getfield 139, 3) := by decide +kernel
theorem dX2_rankAs_10 : decode cX2_rankAs 10 = .ok (.if_icmp .ge 24, 3) := by decide +kernel
theorem dX2_rankAs_13 : decode cX2_rankAs 13 = .ok (.iload_n 2, 1) := by decide +kernel
theorem dX2_rankAs_14 : decode cX2_rankAs 14 = .ok (.iload_n 3, 1) := by decide +kernel
theorem dX2_rankAs_15 : decode cX2_rankAs 15 = .ok (.invokestatic 77, 3) := by decide +kernel
theorem dX2_rankAs_18 : decode cX2_rankAs 18 = .ok (.ifCond .eq 10, 3) := by decide +kernel
theorem dX2_rankAs_21 : decode cX2_rankAs 21 = .ok (.aload_n 0, 1) := by decide +kernel
theorem dX2_rankAs_22 : decode cX2_rankAs 22 = .ok (.getfield 18, 3) := by decide +kernel
theorem dX2_rankAs_25 : decode cX2_rankAs 25 = .ok (.iload_n 3, 1) := by decide +kernel
theorem dX2_rankAs_26 : decode cX2_rankAs 26 = .ok (.iload_n 1, 1) := by decide +kernel
theorem dX2_rankAs_27 : decode cX2_rankAs 27 = .ok (.iastore, 1) := by decide +kernel
theorem dX2_rankAs_28 : decode cX2_rankAs 28 = .ok (.iinc 3 1, 3) := by decide +kernel
theorem dX2_rankAs_31 : decode cX2_rankAs 31 = .ok (.goto (-29), 3) := by decide +kernel
theorem dX2_rankAs_34 : decode cX2_rankAs 34 = .ok (.return_, 1) := by decide +kernel
set_option maxRecDepth 20000 in
theorem ggX4_pass_X8_has : GoodIn wsX4_pass wsX8_has := goodIn_r _ [9] rfl rfl
set_option maxRecDepth 20000 in
theorem gX4_pass_X8_has_n47 : GoodIn wsX4_pass (wsX8_has) := ggX4_pass_X8_has
theorem dX4_pass_0 : decode cX4_pass 0 = .ok (.iconst 0, 1) := by decide +kernel
theorem dX4_pass_1 : decode cX4_pass 1 = .ok (.istore_n 2, 1) := by decide +kernel
theorem dX4_pass_2 : decode cX4_pass 2 = .ok (.aload_n 0, 1) := by decide +kernel
theorem dX4_pass_3 : decode cX4_pass 3 = .ok (.dup, 1) := by decide +kernel
theorem dX4_pass_4 : decode cX4_pass 4 = .ok (.getfield 35, 3) := by decide +kernel
theorem dX4_pass_7 : decode cX4_pass 7 = .ok (.iconst 1, 1) := by decide +kernel
theorem dX4_pass_8 : decode cX4_pass 8 = .ok (.iadd, 1) := by decide +kernel
theorem dX4_pass_9 : decode cX4_pass 9 = .ok (.putfield 35, 3) := by decide +kernel
theorem dX4_pass_12 : decode cX4_pass 12 = .ok (.iconst 0, 1) := by decide +kernel
theorem dX4_pass_13 : decode cX4_pass 13 = .ok (.istore_n 3, 1) := by decide +kernel
theorem dX4_pass_14 : decode cX4_pass 14 = .ok (.iload_n 3, 1) := by decide +kernel
theorem dX4_pass_15 : decode cX4_pass 15 = .ok (.aload_n 1, 1) := by decide +kernel
theorem dX4_pass_16 : decode cX4_pass 16 = .ok (.getfield 44, 3) := by decide +kernel
theorem dX4_pass_19 : decode cX4_pass 19 = .ok (.if_icmp .ge 78, 3) := by decide +kernel
theorem dX4_pass_22 : decode cX4_pass 22 = .ok (.aload_n 0, 1) := by decide +kernel
theorem dX4_pass_23 : decode cX4_pass 23 = .ok (.getfield 28, 3) := by decide +kernel
theorem dX4_pass_26 : decode cX4_pass 26 = .ok (.iload_n 3, 1) := by decide +kernel
theorem dX4_pass_27 : decode cX4_pass 27 = .ok (.invokestatic 47, 3) := by decide +kernel
theorem dX4_pass_30 : decode cX4_pass 30 = .ok (.ifCond .eq 61, 3) := by decide +kernel
theorem dX4_pass_33 : decode cX4_pass 33 = .ok (.aload_n 0, 1) := by decide +kernel
theorem dX4_pass_34 : decode cX4_pass 34 = .ok (.getfield 9, 3) := by decide +kernel
theorem dX4_pass_37 : decode cX4_pass 37 = .ok (.iload_n 3, 1) := by decide +kernel
theorem dX4_pass_38 : decode cX4_pass 38 = .ok (.iaload, 1) := by decide +kernel
theorem dX4_pass_39 : decode cX4_pass 39 = .ok (.ifCond .le 52, 3) := by decide +kernel
theorem dX4_pass_42 : decode cX4_pass 42 = .ok (.aload_n 0, 1) := by decide +kernel
theorem dX4_pass_43 : decode cX4_pass 43 = .ok (.aload_n 0, 1) := by decide +kernel
theorem dX4_pass_44 : decode cX4_pass 44 = .ok (.getfield 41, 3) := by decide +kernel
theorem dX4_pass_47 : decode cX4_pass 47 = .ok (.sipush 137, 3) := by decide +kernel
theorem dX4_pass_50 : decode cX4_pass 50 = .ok (.imul, 1) := by decide +kernel
theorem dX4_pass_51 : decode cX4_pass 51 = .ok (.bipush 71, 2) := by decide +kernel
theorem dX4_pass_53 : decode cX4_pass 53 = .ok (.iadd, 1) := by decide +kernel
theorem dX4_pass_54 : decode cX4_pass 54 = .ok (.sipush 1000, 3) := by decide +kernel
theorem dX4_pass_57 : decode cX4_pass 57 = .ok (.irem, 1) := by decide +kernel
theorem dX4_pass_58 : decode cX4_pass 58 = .ok (.putfield 41, 3) := by decide +kernel
theorem dX4_pass_61 : decode cX4_pass 61 = .ok (.aload_n 0, 1) := by decide +kernel
theorem dX4_pass_62 : decode cX4_pass 62 = .ok (.getfield 41, 3) := by decide +kernel
theorem dX4_pass_65 : decode cX4_pass 65 = .ok (.bipush 100, 2) := by decide +kernel
theorem dX4_pass_67 : decode cX4_pass 67 = .ok (.irem, 1) := by decide +kernel
theorem dX4_pass_68 : decode cX4_pass 68 = .ok (.aload_n 1, 1) := by decide +kernel
theorem dX4_pass_69 : decode cX4_pass 69 = .ok (.getfield 51, 3) := by decide +kernel
theorem dX4_pass_72 : decode cX4_pass 72 = .ok (.if_icmp .ge 19, 3) := by decide +kernel
theorem dX4_pass_75 : decode cX4_pass 75 = .ok (.aload_n 0, 1) := by decide +kernel
theorem dX4_pass_76 : decode cX4_pass 76 = .ok (.getfield 9, 3) := by decide +kernel
theorem dX4_pass_79 : decode cX4_pass 79 = .ok (.iload_n 3, 1) := by decide +kernel
theorem dX4_pass_80 : decode cX4_pass 80 = .ok (.dup2, 1) := by decide +kernel
theorem dX4_pass_81 : decode cX4_pass 81 = .ok (.iaload, 1) := by decide +kernel
theorem dX4_pass_82 : decode cX4_pass 82 = .ok (.iconst 1, 1) := by decide +kernel
theorem dX4_pass_83 : decode cX4_pass 83 = .ok (.isub, 1) := by decide +kernel
theorem dX4_pass_84 : decode cX4_pass 84 = .ok (.iastore, 1) := by decide +kernel
theorem dX4_pass_85 : decode cX4_pass 85 = .ok (.iload_n 2, 1) := by decide +kernel
theorem dX4_pass_86 : decode cX4_pass 86 = .ok (.iconst 1, 1) := by decide +kernel
theorem dX4_pass_87 : decode cX4_pass 87 = .ok (.iload_n 3, 1) := by decide +kernel
theorem dX4_pass_88 : decode cX4_pass 88 = .ok (.ishl, 1) := by decide +kernel
theorem dX4_pass_89 : decode cX4_pass 89 = .ok (.ior, 1) := by decide +kernel
theorem dX4_pass_90 : decode cX4_pass 90 = .ok (.istore_n 2, 1) := by decide +kernel
theorem dX4_pass_91 : decode cX4_pass 91 = .ok (.iinc 3 1, 3) := by decide +kernel
theorem dX4_pass_94 : decode cX4_pass 94 = .ok (.goto (-80), 3) := by decide +kernel
theorem dX4_pass_97 : decode cX4_pass 97 = .ok (.iload_n 2, 1) := by decide +kernel
theorem dX4_pass_98 : decode cX4_pass 98 = .ok (.ireturn, 1) := by decide +kernel
set_option maxRecDepth 20000 in
theorem ggX5_isFact_X5_isPoint : GoodIn wsX5_isFact wsX5_isPoint := goodIn_r _ [6, 7, 11, 12, 13, 14, 15, 16, 17, 18, 19, 20, 21, 22] rfl rfl
set_option maxRecDepth 20000 in
theorem gX5_isFact_X5_isPoint : GoodIn wsX5_isFact (wsV RX5 59 RX5 yX5_isPoint wsX5_isPoint) := goodIn_app (goodIn_of _ (by decide +kernel)) ggX5_isFact_X5_isPoint
set_option maxRecDepth 20000 in
theorem ggX5_isFact_X8_has : GoodIn wsX5_isFact wsX8_has := goodIn_r _ [10] rfl rfl
set_option maxRecDepth 20000 in
theorem gX5_isFact_X8_has_n63 : GoodIn wsX5_isFact (wsX8_has) := ggX5_isFact_X8_has
theorem dX5_isFact_0 : decode cX5_isFact 0 = .ok (.aload_n 0, 1) := by decide +kernel
theorem dX5_isFact_1 : decode cX5_isFact 1 = .ok (.iload_n 1, 1) := by decide +kernel
theorem dX5_isFact_2 : decode cX5_isFact 2 = .ok (.invokevirtual 59, 3) := by decide +kernel
theorem dX5_isFact_5 : decode cX5_isFact 5 = .ok (.ifCond .eq 18, 3) := by decide +kernel
theorem dX5_isFact_8 : decode cX5_isFact 8 = .ok (.aload_n 0, 1) := by decide +kernel
theorem dX5_isFact_9 : decode cX5_isFact 9 = .ok (.getfield 41, 3) := by decide +kernel
theorem dX5_isFact_12 : decode cX5_isFact 12 = .ok (.iload_n 1, 1) := by decide +kernel
theorem dX5_isFact_13 : decode cX5_isFact 13 = .ok (.invokestatic 63, 3) := by decide +kernel
theorem dX5_isFact_16 : decode cX5_isFact 16 = .ok (.ifCond .eq 7, 3) := by decide +kernel
theorem dX5_isFact_19 : decode cX5_isFact 19 = .ok (.iconst 1, 1) := by decide +kernel
theorem dX5_isFact_20 : decode cX5_isFact 20 = .ok (.goto 4, 3) := by decide +kernel
theorem dX5_isFact_23 : decode cX5_isFact 23 = .ok (.iconst 0, 1) := by decide +kernel
theorem dX5_isFact_24 : decode cX5_isFact 24 = .ok (.ireturn, 1) := by decide +kernel
theorem dX5_claims_0 : decode cX5_claims 0 = .ok (.iconst 1, 1) := by decide +kernel
theorem dX5_claims_1 : decode cX5_claims 1 = .ok (.aload_n 0, 1) := by decide +kernel
theorem dX5_claims_2 : decode cX5_claims 2 = .ok (.getfield 37, 3) := by decide +kernel
theorem dX5_claims_5 : decode cX5_claims 5 = .ok (.ishl, 1) := by decide +kernel
theorem dX5_claims_6 : decode cX5_claims 6 = .ok (.iconst 1, 1) := by decide +kernel
theorem dX5_claims_7 : decode cX5_claims 7 = .ok (.isub, 1) := by decide +kernel
theorem dX5_claims_8 : decode cX5_claims 8 = .ok (.aload_n 0, 1) := by decide +kernel
theorem dX5_claims_9 : decode cX5_claims 9 = .ok (.getfield 41, 3) := by decide +kernel
theorem dX5_claims_12 : decode cX5_claims 12 = .ok (.iconst (-1), 1) := by decide +kernel
theorem dX5_claims_13 : decode cX5_claims 13 = .ok (.ixor, 1) := by decide +kernel
theorem dX5_claims_14 : decode cX5_claims 14 = .ok (.iand, 1) := by decide +kernel
theorem dX5_claims_15 : decode cX5_claims 15 = .ok (.ireturn, 1) := by decide +kernel
set_option maxRecDepth 20000 in
theorem ggX8_cut_X8_isTied : GoodIn wsX8_cut wsX8_isTied := goodIn_r _ [7, 8, 2, 9, 10, 11, 12, 13, 14, 15, 16, 17, 6, 18, 1, 19, 20, 21, 22, 23, 24, 25, 26, 27, 28, 166, 167, 168, 169, 170, 171, 172, 173, 174, 175, 176, 177, 178, 179, 180, 181, 182, 183, 184, 185, 186, 187, 188, 189, 190, 191, 192, 193, 194, 195, 196, 197, 198, 199] rfl rfl
set_option maxRecDepth 20000 in
theorem gX8_cut_X8_isTied : GoodIn wsX8_cut (wsV RX8 190 RX8 yX8_isTied wsX8_isTied) := goodIn_app (goodIn_of _ (by decide +kernel)) ggX8_cut_X8_isTied
set_option maxRecDepth 20000 in
theorem ggX8_cut_X0_nextState : GoodIn wsX8_cut wsX0_nextState := goodIn_r _ [32, 24, 25, 33, 34, 35, 36, 37, 38, 39, 40, 41, 42, 43, 44, 45, 46, 47, 48, 49, 50, 51, 52, 196, 197, 198, 199, 179, 180, 181, 182, 183] rfl rfl
set_option maxRecDepth 20000 in
theorem gX8_cut_X0_nextState : GoodIn wsX8_cut (wsV RX8 193 RX0 yX0_nextState wsX0_nextState) := goodIn_app (goodIn_of _ (by decide +kernel)) ggX8_cut_X0_nextState
set_option maxRecDepth 20000 in
theorem ggX8_cut_X8_claimsNow : GoodIn wsX8_cut wsX8_claimsNow := goodIn_r _ [56, 2, 57, 58, 59, 6, 60, 61, 8, 15, 16, 17, 18, 1, 19, 20, 21, 22, 23, 24, 25, 62, 63, 64, 65, 66, 67, 68, 69, 70, 71, 72, 73, 74, 75, 46, 47, 48, 76, 77, 78, 79, 80, 81, 82, 83, 84, 85, 86, 87, 88, 89, 90, 91, 92, 27, 28, 93, 94, 95, 96, 97, 98, 99, 100, 101, 102, 103, 104, 35, 36, 37, 105, 106, 107, 108, 109, 110, 111, 112, 113, 114, 115, 116, 117, 118, 119, 120, 121, 122, 123, 124, 125, 126, 127, 128, 129, 130, 131, 132, 133, 134, 135, 136, 137, 138, 139, 140, 141, 142, 143, 144, 145, 146, 147, 148, 149, 150, 151, 152, 153, 154, 155, 156, 12, 157, 158, 159, 160, 161, 162, 163, 164, 165, 179, 180, 181, 182, 183, 166, 167, 168, 169, 170, 171, 172, 173, 174, 175, 176, 177, 178, 196, 197, 198, 199, 200, 201, 202, 203, 204, 205, 206, 207, 208, 209, 184, 185, 186, 187, 188, 189, 190, 191, 192, 193, 194, 195, 210, 211, 212, 213, 214, 215] rfl rfl
set_option maxRecDepth 20000 in
theorem gX8_cut_X8_claimsNow : GoodIn wsX8_cut (wsV RX8 196 RX8 yX8_claimsNow wsX8_claimsNow) := goodIn_app (goodIn_of _ (by decide +kernel)) ggX8_cut_X8_claimsNow
theorem dX8_cut_0 : decode cX8_cut 0 = .ok (.aload_n 0, 1) := by decide +kernel
theorem dX8_cut_1 : decode cX8_cut 1 = .ok (.iload_n 1, 1) := by decide +kernel
theorem dX8_cut_2 : decode cX8_cut 2 = .ok (.invokevirtual 190, 3) := by decide +kernel
theorem dX8_cut_5 : decode cX8_cut 5 = .ok (.ifCond .ne 5, 3) := by decide +kernel
theorem dX8_cut_8 : decode cX8_cut 8 = .ok (.iconst (-1), 1) := by decide +kernel
theorem dX8_cut_9 : decode cX8_cut 9 = .ok (.ireturn, 1) := by decide +kernel
theorem dX8_cut_10 : decode cX8_cut 10 = .ok (.aload_n 0, 1) := by decide +kernel
theorem dX8_cut_11 : decode cX8_cut 11 = .ok (.getfield 26, 3) := by decide +kernel
theorem dX8_cut_14 : decode cX8_cut 14 = .ok (.invokevirtual 193, 3) := by decide +kernel
theorem dX8_cut_17 : decode cX8_cut 17 = .ok (.dup, 1) := by decide +kernel
theorem dX8_cut_18 : decode cX8_cut 18 = .ok (.getfield 145, 3) := by decide +kernel
theorem dX8_cut_21 : decode cX8_cut 21 = .ok (.iconst 1, 1) := by decide +kernel
theorem dX8_cut_22 : decode cX8_cut 22 = .ok (.iload_n 1, 1) := by decide +kernel
theorem dX8_cut_23 : decode cX8_cut 23 = .ok (.ishl, 1) := by decide +kernel
theorem dX8_cut_24 : decode cX8_cut 24 = .ok (.ixor, 1) := by decide +kernel
theorem dX8_cut_25 : decode cX8_cut 25 = .ok (.putfield 145, 3) := by decide +kernel
theorem dX8_cut_28 : decode cX8_cut 28 = .ok (.aload_n 0, 1) := by decide +kernel
theorem dX8_cut_29 : decode cX8_cut 29 = .ok (.invokevirtual 196, 3) := by decide +kernel
theorem dX8_cut_32 : decode cX8_cut 32 = .ok (.ireturn, 1) := by decide +kernel
set_option maxRecDepth 20000 in
theorem ggX8_tie_X5_isStrand : GoodIn wsX8_tie wsX5_isStrand := goodIn_r _ [8, 9, 184, 185, 186, 187, 188, 189, 190, 191, 192, 193, 194, 195] rfl rfl
set_option maxRecDepth 20000 in
theorem gX8_tie_X5_isStrand : GoodIn wsX8_tie (wsV RX8 133 RX5 yX5_isStrand wsX5_isStrand) := goodIn_app (goodIn_of _ (by decide +kernel)) ggX8_tie_X5_isStrand
set_option maxRecDepth 20000 in
theorem ggX8_tie_X8_isTied : GoodIn wsX8_tie wsX8_isTied := goodIn_r _ [14, 1, 3, 4, 5, 6, 7, 8, 9, 15, 16, 17, 13, 18, 2, 19, 20, 21, 22, 23, 24, 25, 26, 27, 28, 166, 167, 168, 169, 170, 171, 172, 173, 174, 175, 176, 177, 178, 179, 180, 181, 182, 183, 184, 185, 186, 187, 188, 189, 190, 191, 192, 193, 194, 195, 196, 197, 198, 199] rfl rfl
set_option maxRecDepth 20000 in
theorem gX8_tie_X8_isTied : GoodIn wsX8_tie (wsV RX8 190 RX8 yX8_isTied wsX8_isTied) := goodIn_app (goodIn_of _ (by decide +kernel)) ggX8_tie_X8_isTied
set_option maxRecDepth 20000 in
theorem ggX8_tie_X0_nextState : GoodIn wsX8_tie wsX0_nextState := goodIn_r _ [32, 24, 25, 33, 34, 35, 36, 37, 38, 39, 40, 41, 42, 43, 44, 45, 46, 47, 48, 49, 50, 51, 52, 196, 197, 198, 199, 179, 180, 181, 182, 183] rfl rfl
set_option maxRecDepth 20000 in
theorem gX8_tie_X0_nextState : GoodIn wsX8_tie (wsV RX8 193 RX0 yX0_nextState wsX0_nextState) := goodIn_app (goodIn_of _ (by decide +kernel)) ggX8_tie_X0_nextState
set_option maxRecDepth 20000 in
theorem ggX8_tie_X8_claimsNow : GoodIn wsX8_tie wsX8_claimsNow := goodIn_r _ [56, 3, 57, 58, 59, 13, 60, 61, 1, 15, 16, 17, 18, 2, 19, 20, 21, 22, 23, 24, 25, 62, 63, 64, 65, 66, 67, 68, 69, 70, 71, 72, 73, 74, 75, 46, 47, 48, 76, 77, 78, 79, 80, 81, 82, 83, 84, 85, 86, 87, 88, 89, 90, 91, 92, 27, 28, 93, 94, 95, 96, 97, 98, 99, 100, 101, 102, 103, 104, 35, 36, 37, 105, 106, 107, 108, 109, 110, 111, 112, 113, 114, 115, 116, 117, 118, 119, 120, 121, 122, 123, 124, 125, 126, 127, 128, 129, 130, 131, 132, 133, 134, 135, 136, 137, 138, 139, 140, 141, 142, 143, 144, 145, 146, 147, 148, 149, 150, 151, 152, 153, 154, 155, 156, 7, 157, 158, 159, 160, 161, 162, 163, 164, 165, 179, 180, 181, 182, 183, 166, 167, 168, 169, 170, 171, 172, 173, 174, 175, 176, 177, 178, 196, 197, 198, 199, 200, 201, 202, 203, 204, 205, 206, 207, 208, 209, 184, 185, 186, 187, 188, 189, 190, 191, 192, 193, 194, 195, 210, 211, 212, 213, 214, 215] rfl rfl
set_option maxRecDepth 20000 in
theorem gX8_tie_X8_claimsNow : GoodIn wsX8_tie (wsV RX8 196 RX8 yX8_claimsNow wsX8_claimsNow) := goodIn_app (goodIn_of _ (by decide +kernel)) ggX8_tie_X8_claimsNow
theorem dX8_tie_0 : decode cX8_tie 0 = .ok (.aload_n 0, 1) := by decide +kernel
theorem dX8_tie_1 : decode cX8_tie 1 = .ok (.getfield 19, 3) := by decide +kernel
theorem dX8_tie_4 : decode cX8_tie 4 = .ok (.iload_n 1, 1) := by decide +kernel
theorem dX8_tie_5 : decode cX8_tie 5 = .ok (.invokevirtual 133, 3) := by decide +kernel
theorem dX8_tie_8 : decode cX8_tie 8 = .ok (.ifCond .eq 11, 3) := by decide +kernel
theorem dX8_tie_11 : decode cX8_tie 11 = .ok (.aload_n 0, 1) := by decide +kernel
theorem dX8_tie_12 : decode cX8_tie 12 = .ok (.iload_n 1, 1) := by decide +kernel
theorem dX8_tie_13 : decode cX8_tie 13 = .ok (.invokevirtual 190, 3) := by decide +kernel
theorem dX8_tie_16 : decode cX8_tie 16 = .ok (.ifCond .eq 5, 3) := by decide +kernel
theorem dX8_tie_19 : decode cX8_tie 19 = .ok (.iconst (-1), 1) := by decide +kernel
theorem dX8_tie_20 : decode cX8_tie 20 = .ok (.ireturn, 1) := by decide +kernel
theorem dX8_tie_21 : decode cX8_tie 21 = .ok (.aload_n 0, 1) := by decide +kernel
theorem dX8_tie_22 : decode cX8_tie 22 = .ok (.getfield 26, 3) := by decide +kernel
theorem dX8_tie_25 : decode cX8_tie 25 = .ok (.invokevirtual 193, 3) := by decide +kernel
theorem dX8_tie_28 : decode cX8_tie 28 = .ok (.dup, 1) := by decide +kernel
theorem dX8_tie_29 : decode cX8_tie 29 = .ok (.getfield 145, 3) := by decide +kernel
theorem dX8_tie_32 : decode cX8_tie 32 = .ok (.iconst 1, 1) := by decide +kernel
theorem dX8_tie_33 : decode cX8_tie 33 = .ok (.iload_n 1, 1) := by decide +kernel
theorem dX8_tie_34 : decode cX8_tie 34 = .ok (.ishl, 1) := by decide +kernel
theorem dX8_tie_35 : decode cX8_tie 35 = .ok (.ixor, 1) := by decide +kernel
theorem dX8_tie_36 : decode cX8_tie 36 = .ok (.putfield 145, 3) := by decide +kernel
theorem dX8_tie_39 : decode cX8_tie 39 = .ok (.aload_n 0, 1) := by decide +kernel
theorem dX8_tie_40 : decode cX8_tie 40 = .ok (.invokevirtual 196, 3) := by decide +kernel
theorem dX8_tie_43 : decode cX8_tie 43 = .ok (.ireturn, 1) := by decide +kernel
set_option maxRecDepth 20000 in
theorem ggX8_tighten_X5_isStrand : GoodIn wsX8_tighten wsX5_isStrand := goodIn_r _ [8, 9, 64, 65, 66, 67, 68, 69, 70, 71, 72, 73, 74, 75] rfl rfl
set_option maxRecDepth 20000 in
theorem gX8_tighten_X5_isStrand : GoodIn wsX8_tighten (wsV RX8 133 RX5 yX5_isStrand wsX5_isStrand) := goodIn_app (goodIn_of _ (by decide +kernel)) ggX8_tighten_X5_isStrand
set_option maxRecDepth 20000 in
theorem ggX8_tighten_X8_now : GoodIn wsX8_tighten wsX8_now := goodIn_r _ [14, 3, 15, 16, 17, 18, 19, 20, 21, 46, 47, 48, 49, 50, 51, 52, 53, 54, 55, 56, 57, 58, 76, 77, 78, 79] rfl rfl
set_option maxRecDepth 20000 in
theorem gX8_tighten_X8_now : GoodIn wsX8_tighten (wsV RX8 88 RX8 yX8_now wsX8_now) := goodIn_app (goodIn_of _ (by decide +kernel)) ggX8_tighten_X8_now
set_option maxRecDepth 20000 in
theorem ggX8_tighten_X0_nextState : GoodIn wsX8_tighten wsX0_nextState := goodIn_r _ [25, 20, 21, 26, 27, 28, 29, 30, 31, 32, 33, 34, 35, 36, 37, 38, 39, 40, 41, 42, 43, 44, 45, 76, 77, 78, 79, 59, 60, 61, 62, 63] rfl rfl
set_option maxRecDepth 20000 in
theorem gX8_tighten_X0_nextState : GoodIn wsX8_tighten (wsV RX8 193 RX0 yX0_nextState wsX0_nextState) := goodIn_app (goodIn_of _ (by decide +kernel)) ggX8_tighten_X0_nextState
theorem dX8_tighten_0 : decode cX8_tighten 0 = .ok (.aload_n 0, 1) := by decide +kernel
theorem dX8_tighten_1 : decode cX8_tighten 1 = .ok (.getfield 19, 3) := by decide +kernel
theorem dX8_tighten_4 : decode cX8_tighten 4 = .ok (.iload_n 1, 1) := by decide +kernel
theorem dX8_tighten_5 : decode cX8_tighten 5 = .ok (.invokevirtual 133, 3) := by decide +kernel
theorem dX8_tighten_8 : decode cX8_tighten 8 = .ok (.ifCond .eq 13, 3) := by decide +kernel
theorem dX8_tighten_11 : decode cX8_tighten 11 = .ok (.iload_n 2, 1) := by decide +kernel
theorem dX8_tighten_12 : decode cX8_tighten 12 = .ok (.ifCond .lt 9, 3) := by decide +kernel
theorem dX8_tighten_15 : decode cX8_tighten 15 = .ok (.iload_n 2, 1) := by decide +kernel
theorem dX8_tighten_16 : decode cX8_tighten 16 = .ok (.bipush 20, 2) := by decide +kernel
theorem dX8_tighten_18 : decode cX8_tighten 18 = .ok (.if_icmp .le 5, 3) := by decide +kernel
theorem dX8_tighten_21 : decode cX8_tighten 21 = .ok (.iconst (-1), 1) := by decide +kernel
theorem dX8_tighten_22 : decode cX8_tighten 22 = .ok (.ireturn, 1) := by decide +kernel
theorem dX8_tighten_23 : decode cX8_tighten 23 = .ok (.aload_n 0, 1) := by decide +kernel
theorem dX8_tighten_24 : decode cX8_tighten 24 = .ok (.invokevirtual 88, 3) := by decide +kernel
theorem dX8_tighten_27 : decode cX8_tighten 27 = .ok (.getfield 142, 3) := by decide +kernel
theorem dX8_tighten_30 : decode cX8_tighten 30 = .ok (.iload_n 1, 1) := by decide +kernel
theorem dX8_tighten_31 : decode cX8_tighten 31 = .ok (.iaload, 1) := by decide +kernel
theorem dX8_tighten_32 : decode cX8_tighten 32 = .ok (.istore_n 3, 1) := by decide +kernel
theorem dX8_tighten_33 : decode cX8_tighten 33 = .ok (.iload_n 3, 1) := by decide +kernel
theorem dX8_tighten_34 : decode cX8_tighten 34 = .ok (.iload_n 2, 1) := by decide +kernel
theorem dX8_tighten_35 : decode cX8_tighten 35 = .ok (.if_icmp .ne 5, 3) := by decide +kernel
theorem dX8_tighten_38 : decode cX8_tighten 38 = .ok (.iconst (-1), 1) := by decide +kernel
theorem dX8_tighten_39 : decode cX8_tighten 39 = .ok (.ireturn, 1) := by decide +kernel
theorem dX8_tighten_40 : decode cX8_tighten 40 = .ok (.aload_n 0, 1) := by decide +kernel
theorem dX8_tighten_41 : decode cX8_tighten 41 = .ok (.getfield 26, 3) := by decide +kernel
theorem dX8_tighten_44 : decode cX8_tighten 44 = .ok (.invokevirtual 193, 3) := by decide +kernel
theorem dX8_tighten_47 : decode cX8_tighten 47 = .ok (.getfield 142, 3) := by decide +kernel
theorem dX8_tighten_50 : decode cX8_tighten 50 = .ok (.iload_n 1, 1) := by decide +kernel
theorem dX8_tighten_51 : decode cX8_tighten 51 = .ok (.iload_n 2, 1) := by decide +kernel
theorem dX8_tighten_52 : decode cX8_tighten 52 = .ok (.iastore, 1) := by decide +kernel
theorem dX8_tighten_53 : decode cX8_tighten 53 = .ok (.iload_n 3, 1) := by decide +kernel
theorem dX8_tighten_54 : decode cX8_tighten 54 = .ok (.ireturn, 1) := by decide +kernel
set_option maxRecDepth 20000 in
theorem ggX8_strike_X8_isProved : GoodIn wsX8_strike wsX8_isProved := goodIn_r _ [7, 8, 2, 9, 10, 11, 12, 13, 14, 15, 16, 17, 18, 19, 20, 6, 21, 22, 23, 24, 25, 1, 26, 27, 28, 29, 30, 31, 32, 33, 170, 171, 172, 173, 174, 175, 176, 177, 178, 179, 180, 181, 182, 183, 184, 185, 186, 187, 188, 189, 190, 191, 192, 193, 194, 195, 196, 197, 198, 199, 200, 201, 202, 203] rfl rfl
set_option maxRecDepth 20000 in
theorem gX8_strike_X8_isProved : GoodIn wsX8_strike (wsV RX8 200 RX8 yX8_isProved wsX8_isProved) := goodIn_app (goodIn_of _ (by decide +kernel)) ggX8_strike_X8_isProved
set_option maxRecDepth 20000 in
theorem ggX8_strike_X0_nextState : GoodIn wsX8_strike wsX0_nextState := goodIn_r _ [37, 31, 32, 38, 39, 40, 41, 42, 43, 44, 45, 46, 47, 48, 49, 50, 51, 52, 53, 54, 55, 56, 57, 200, 201, 202, 203, 183, 184, 185, 186, 187] rfl rfl
set_option maxRecDepth 20000 in
theorem gX8_strike_X0_nextState : GoodIn wsX8_strike (wsV RX8 193 RX0 yX0_nextState wsX0_nextState) := goodIn_app (goodIn_of _ (by decide +kernel)) ggX8_strike_X0_nextState
set_option maxRecDepth 20000 in
theorem ggX8_strike_X8_claimsNow : GoodIn wsX8_strike wsX8_claimsNow := goodIn_r _ [61, 62, 63, 64, 65, 6, 66, 67, 8, 22, 23, 24, 25, 1, 26, 27, 28, 29, 30, 31, 32, 68, 69, 70, 71, 72, 73, 74, 75, 76, 77, 78, 79, 80, 81, 51, 52, 53, 82, 83, 84, 85, 86, 87, 88, 89, 90, 91, 92, 93, 94, 95, 96, 97, 98, 20, 21, 99, 100, 101, 102, 103, 104, 105, 106, 107, 108, 109, 110, 40, 41, 42, 111, 112, 113, 114, 115, 116, 117, 118, 119, 120, 121, 122, 123, 124, 125, 126, 127, 128, 129, 130, 131, 132, 133, 134, 135, 136, 137, 138, 139, 140, 141, 142, 143, 144, 145, 146, 147, 148, 149, 150, 151, 152, 153, 154, 155, 156, 157, 158, 159, 160, 161, 162, 12, 163, 19, 14, 164, 165, 166, 167, 168, 169, 183, 184, 185, 186, 187, 170, 171, 172, 173, 174, 175, 176, 177, 178, 179, 180, 181, 182, 200, 201, 202, 203, 204, 205, 206, 207, 208, 209, 210, 211, 212, 213, 188, 189, 190, 191, 192, 193, 194, 195, 196, 197, 198, 199, 214, 215, 216, 217, 218, 219] rfl rfl
set_option maxRecDepth 20000 in
theorem gX8_strike_X8_claimsNow : GoodIn wsX8_strike (wsV RX8 196 RX8 yX8_claimsNow wsX8_claimsNow) := goodIn_app (goodIn_of _ (by decide +kernel)) ggX8_strike_X8_claimsNow
theorem dX8_strike_0 : decode cX8_strike 0 = .ok (.aload_n 0, 1) := by decide +kernel
theorem dX8_strike_1 : decode cX8_strike 1 = .ok (.iload_n 1, 1) := by decide +kernel
theorem dX8_strike_2 : decode cX8_strike 2 = .ok (.invokevirtual 200, 3) := by decide +kernel
theorem dX8_strike_5 : decode cX8_strike 5 = .ok (.ifCond .ne 5, 3) := by decide +kernel
theorem dX8_strike_8 : decode cX8_strike 8 = .ok (.iconst (-1), 1) := by decide +kernel
theorem dX8_strike_9 : decode cX8_strike 9 = .ok (.ireturn, 1) := by decide +kernel
theorem dX8_strike_10 : decode cX8_strike 10 = .ok (.aload_n 0, 1) := by decide +kernel
theorem dX8_strike_11 : decode cX8_strike 11 = .ok (.getfield 26, 3) := by decide +kernel
theorem dX8_strike_14 : decode cX8_strike 14 = .ok (.invokevirtual 193, 3) := by decide +kernel
theorem dX8_strike_17 : decode cX8_strike 17 = .ok (.dup, 1) := by decide +kernel
theorem dX8_strike_18 : decode cX8_strike 18 = .ok (.getfield 124, 3) := by decide +kernel
theorem dX8_strike_21 : decode cX8_strike 21 = .ok (.iconst 1, 1) := by decide +kernel
theorem dX8_strike_22 : decode cX8_strike 22 = .ok (.iload_n 1, 1) := by decide +kernel
theorem dX8_strike_23 : decode cX8_strike 23 = .ok (.ishl, 1) := by decide +kernel
theorem dX8_strike_24 : decode cX8_strike 24 = .ok (.ixor, 1) := by decide +kernel
theorem dX8_strike_25 : decode cX8_strike 25 = .ok (.putfield 124, 3) := by decide +kernel
theorem dX8_strike_28 : decode cX8_strike 28 = .ok (.aload_n 0, 1) := by decide +kernel
theorem dX8_strike_29 : decode cX8_strike 29 = .ok (.invokevirtual 196, 3) := by decide +kernel
theorem dX8_strike_32 : decode cX8_strike 32 = .ok (.ireturn, 1) := by decide +kernel
set_option maxRecDepth 20000 in
theorem ggX8_prove_X5_isFact : GoodIn wsX8_prove wsX5_isFact := goodIn_r _ [8, 9, 10, 11, 12, 7, 13, 14, 15, 16, 17, 188, 189, 190, 191, 192, 193, 194, 195, 196, 197, 198, 199] rfl rfl
set_option maxRecDepth 20000 in
theorem gX8_prove_X5_isFact : GoodIn wsX8_prove (wsV RX8 203 RX5 yX5_isFact wsX5_isFact) := goodIn_app (goodIn_of _ (by decide +kernel)) ggX8_prove_X5_isFact
set_option maxRecDepth 20000 in
theorem ggX8_prove_X8_isProved : GoodIn wsX8_prove wsX8_isProved := goodIn_r _ [21, 1, 3, 4, 5, 6, 7, 8, 9, 10, 11, 12, 13, 14, 15, 16, 17, 22, 23, 24, 25, 2, 26, 27, 28, 29, 30, 31, 32, 33, 170, 171, 172, 173, 174, 175, 176, 177, 178, 179, 180, 181, 182, 183, 184, 185, 186, 187, 188, 189, 190, 191, 192, 193, 194, 195, 196, 197, 198, 199, 200, 201, 202, 203] rfl rfl
set_option maxRecDepth 20000 in
theorem gX8_prove_X8_isProved : GoodIn wsX8_prove (wsV RX8 200 RX8 yX8_isProved wsX8_isProved) := goodIn_app (goodIn_of _ (by decide +kernel)) ggX8_prove_X8_isProved
set_option maxRecDepth 20000 in
theorem ggX8_prove_X0_nextState : GoodIn wsX8_prove wsX0_nextState := goodIn_r _ [37, 31, 32, 38, 39, 40, 41, 42, 43, 44, 45, 46, 47, 48, 49, 50, 51, 52, 53, 54, 55, 56, 57, 200, 201, 202, 203, 183, 184, 185, 186, 187] rfl rfl
set_option maxRecDepth 20000 in
theorem gX8_prove_X0_nextState : GoodIn wsX8_prove (wsV RX8 193 RX0 yX0_nextState wsX0_nextState) := goodIn_app (goodIn_of _ (by decide +kernel)) ggX8_prove_X0_nextState
set_option maxRecDepth 20000 in
theorem ggX8_prove_X8_claimsNow : GoodIn wsX8_prove wsX8_claimsNow := goodIn_r _ [61, 62, 63, 64, 65, 16, 66, 67, 1, 22, 23, 24, 25, 2, 26, 27, 28, 29, 30, 31, 32, 68, 69, 70, 71, 72, 73, 74, 75, 76, 77, 78, 79, 80, 81, 51, 52, 53, 82, 83, 84, 85, 86, 87, 88, 89, 90, 91, 92, 93, 94, 95, 96, 97, 98, 15, 17, 99, 100, 101, 102, 103, 104, 105, 106, 107, 108, 109, 110, 40, 41, 42, 111, 112, 113, 114, 115, 116, 117, 118, 119, 120, 121, 122, 123, 124, 125, 126, 127, 128, 129, 130, 131, 132, 133, 134, 135, 136, 137, 138, 139, 140, 141, 142, 143, 144, 145, 146, 147, 148, 149, 150, 151, 152, 153, 154, 155, 156, 157, 158, 159, 160, 161, 162, 7, 163, 14, 9, 164, 165, 166, 167, 168, 169, 183, 184, 185, 186, 187, 170, 171, 172, 173, 174, 175, 176, 177, 178, 179, 180, 181, 182, 200, 201, 202, 203, 204, 205, 206, 207, 208, 209, 210, 211, 212, 213, 188, 189, 190, 191, 192, 193, 194, 195, 196, 197, 198, 199, 214, 215, 216, 217, 218, 219] rfl rfl
set_option maxRecDepth 20000 in
theorem gX8_prove_X8_claimsNow : GoodIn wsX8_prove (wsV RX8 196 RX8 yX8_claimsNow wsX8_claimsNow) := goodIn_app (goodIn_of _ (by decide +kernel)) ggX8_prove_X8_claimsNow
theorem dX8_prove_0 : decode cX8_prove 0 = .ok (.aload_n 0, 1) := by decide +kernel
theorem dX8_prove_1 : decode cX8_prove 1 = .ok (.getfield 19, 3) := by decide +kernel
theorem dX8_prove_4 : decode cX8_prove 4 = .ok (.iload_n 1, 1) := by decide +kernel
theorem dX8_prove_5 : decode cX8_prove 5 = .ok (.invokevirtual 203, 3) := by decide +kernel
theorem dX8_prove_8 : decode cX8_prove 8 = .ok (.ifCond .eq 11, 3) := by decide +kernel
theorem dX8_prove_11 : decode cX8_prove 11 = .ok (.aload_n 0, 1) := by decide +kernel
theorem dX8_prove_12 : decode cX8_prove 12 = .ok (.iload_n 1, 1) := by decide +kernel
theorem dX8_prove_13 : decode cX8_prove 13 = .ok (.invokevirtual 200, 3) := by decide +kernel
theorem dX8_prove_16 : decode cX8_prove 16 = .ok (.ifCond .eq 5, 3) := by decide +kernel
theorem dX8_prove_19 : decode cX8_prove 19 = .ok (.iconst (-1), 1) := by decide +kernel
theorem dX8_prove_20 : decode cX8_prove 20 = .ok (.ireturn, 1) := by decide +kernel
theorem dX8_prove_21 : decode cX8_prove 21 = .ok (.aload_n 0, 1) := by decide +kernel
theorem dX8_prove_22 : decode cX8_prove 22 = .ok (.getfield 26, 3) := by decide +kernel
theorem dX8_prove_25 : decode cX8_prove 25 = .ok (.invokevirtual 193, 3) := by decide +kernel
theorem dX8_prove_28 : decode cX8_prove 28 = .ok (.dup, 1) := by decide +kernel
theorem dX8_prove_29 : decode cX8_prove 29 = .ok (.getfield 124, 3) := by decide +kernel
theorem dX8_prove_32 : decode cX8_prove 32 = .ok (.iconst 1, 1) := by decide +kernel
theorem dX8_prove_33 : decode cX8_prove 33 = .ok (.iload_n 1, 1) := by decide +kernel
theorem dX8_prove_34 : decode cX8_prove 34 = .ok (.ishl, 1) := by decide +kernel
theorem dX8_prove_35 : decode cX8_prove 35 = .ok (.ixor, 1) := by decide +kernel
theorem dX8_prove_36 : decode cX8_prove 36 = .ok (.putfield 124, 3) := by decide +kernel
theorem dX8_prove_39 : decode cX8_prove 39 = .ok (.aload_n 0, 1) := by decide +kernel
theorem dX8_prove_40 : decode cX8_prove 40 = .ok (.invokevirtual 196, 3) := by decide +kernel
theorem dX8_prove_43 : decode cX8_prove 43 = .ok (.ireturn, 1) := by decide +kernel
set_option maxRecDepth 20000 in
theorem ggX8_day_X8_now : GoodIn wsX8_day wsX8_now := goodIn_r _ [8, 2, 9, 10, 11, 12, 13, 14, 15, 53, 54, 55, 56, 57, 58, 59, 60, 61, 62, 63, 64, 65, 66, 67, 68, 69] rfl rfl
set_option maxRecDepth 20000 in
theorem gX8_day_X8_now : GoodIn wsX8_day (wsV RX8 88 RX8 yX8_now wsX8_now) := goodIn_app (goodIn_of _ (by decide +kernel)) ggX8_day_X8_now
set_option maxRecDepth 20000 in
theorem ggX8_day_X0_nextState : GoodIn wsX8_day wsX0_nextState := goodIn_r _ [19, 14, 15, 20, 21, 22, 23, 24, 25, 26, 27, 28, 29, 30, 31, 32, 33, 34, 35, 36, 37, 38, 39, 66, 67, 68, 69, 48, 49, 50, 51, 52] rfl rfl
set_option maxRecDepth 20000 in
theorem gX8_day_X0_nextState : GoodIn wsX8_day (wsV RX8 193 RX0 yX0_nextState wsX0_nextState) := goodIn_app (goodIn_of _ (by decide +kernel)) ggX8_day_X0_nextState
set_option maxRecDepth 20000 in
theorem ggX8_day_X4_pass : GoodIn wsX8_day wsX4_pass := goodIn_r _ [43, 38, 44, 36, 31, 39, 45, 46, 7, 47, 48, 49, 50, 51, 52, 70, 71, 72, 73, 74, 75, 76, 77, 78, 79, 80, 81] rfl rfl
set_option maxRecDepth 20000 in
theorem gX8_day_X4_pass : GoodIn wsX8_day (wsV RX8 206 RX4 yX4_pass wsX4_pass) := goodIn_app (goodIn_of _ (by decide +kernel)) ggX8_day_X4_pass
theorem dX8_day_0 : decode cX8_day 0 = .ok (.aload_n 0, 1) := by decide +kernel
theorem dX8_day_1 : decode cX8_day 1 = .ok (.invokevirtual 88, 3) := by decide +kernel
theorem dX8_day_4 : decode cX8_day 4 = .ok (.getfield 160, 3) := by decide +kernel
theorem dX8_day_7 : decode cX8_day 7 = .ok (.sipush 999, 3) := by decide +kernel
theorem dX8_day_10 : decode cX8_day 10 = .ok (.if_icmp .lt 5, 3) := by decide +kernel
theorem dX8_day_13 : decode cX8_day 13 = .ok (.iconst (-1), 1) := by decide +kernel
theorem dX8_day_14 : decode cX8_day 14 = .ok (.ireturn, 1) := by decide +kernel
theorem dX8_day_15 : decode cX8_day 15 = .ok (.aload_n 0, 1) := by decide +kernel
theorem dX8_day_16 : decode cX8_day 16 = .ok (.getfield 26, 3) := by decide +kernel
theorem dX8_day_19 : decode cX8_day 19 = .ok (.invokevirtual 193, 3) := by decide +kernel
theorem dX8_day_22 : decode cX8_day 22 = .ok (.aload_n 0, 1) := by decide +kernel
theorem dX8_day_23 : decode cX8_day 23 = .ok (.getfield 19, 3) := by decide +kernel
theorem dX8_day_26 : decode cX8_day 26 = .ok (.invokevirtual 206, 3) := by decide +kernel
theorem dX8_day_29 : decode cX8_day 29 = .ok (.ireturn, 1) := by decide +kernel
set_option maxRecDepth 20000 in
theorem ggX8_undo_X0_goBack : GoodIn wsX8_undo wsX0_goBack := goodIn_r _ [6, 7, 8, 9, 23, 24, 25, 26] rfl rfl
set_option maxRecDepth 20000 in
theorem gX8_undo_X0_goBack : GoodIn wsX8_undo (wsV RX8 210 RX0 yX0_goBack wsX0_goBack) := goodIn_app (goodIn_of _ (by decide +kernel)) ggX8_undo_X0_goBack
theorem dX8_undo_0 : decode cX8_undo 0 = .ok (.aload_n 0, 1) := by decide +kernel
theorem dX8_undo_1 : decode cX8_undo 1 = .ok (.getfield 26, 3) := by decide +kernel
theorem dX8_undo_4 : decode cX8_undo 4 = .ok (.invokevirtual 210, 3) := by decide +kernel
theorem dX8_undo_7 : decode cX8_undo 7 = .ok (.ireturn, 1) := by decide +kernel
set_option maxRecDepth 20000 in
theorem ggX8_redo_X0_goOn : GoodIn wsX8_redo wsX0_goOn := goodIn_r _ [6, 7, 8, 9, 23, 24, 25, 26] rfl rfl
set_option maxRecDepth 20000 in
theorem gX8_redo_X0_goOn : GoodIn wsX8_redo (wsV RX8 213 RX0 yX0_goOn wsX0_goOn) := goodIn_app (goodIn_of _ (by decide +kernel)) ggX8_redo_X0_goOn
theorem dX8_redo_0 : decode cX8_redo 0 = .ok (.aload_n 0, 1) := by decide +kernel
theorem dX8_redo_1 : decode cX8_redo 1 = .ok (.getfield 26, 3) := by decide +kernel
theorem dX8_redo_4 : decode cX8_redo 4 = .ok (.invokevirtual 213, 3) := by decide +kernel
theorem dX8_redo_7 : decode cX8_redo 7 = .ok (.ireturn, 1) := by decide +kernel
set_option maxRecDepth 20000 in
theorem ggX8_stands_X8_standingNow : GoodIn wsX8_stands wsX8_standingNow := goodIn_r _ [5, 6, 7, 8, 9, 10, 4, 11, 12, 13, 14, 15, 16, 17, 18, 19, 20, 21, 22, 23, 24, 25, 26, 27, 28, 29, 30, 31, 32, 33, 34, 35, 36, 37, 38, 39, 40, 41, 42, 43, 44, 45, 46, 47, 48, 49, 50, 51, 52, 53, 54, 55, 56, 57, 58, 59, 60, 61, 62, 63, 64, 65, 66, 67, 68, 69, 70, 71, 72, 73, 74, 75, 76, 77, 78, 79, 80, 81, 82, 83, 84, 85, 86, 87, 88, 89, 90, 91, 92, 93, 94, 95, 96, 97, 98, 99, 100, 101, 102, 103, 104, 105, 106, 107, 108, 109, 110, 111, 112, 113, 114, 115, 116, 117, 118, 119, 120, 121, 122, 123, 124, 125, 126, 127, 128, 129, 130, 131, 132, 133, 134, 135, 136, 137, 138, 139, 140, 141, 142, 143, 144, 145, 146, 147, 148, 149, 150, 151, 152, 153, 154, 155, 156, 157, 158, 159, 160, 161, 162, 163, 164, 165, 166, 167, 168, 169, 170, 171, 172, 173, 174, 175, 176, 177, 178, 179, 180, 181] rfl rfl
set_option maxRecDepth 20000 in
theorem gX8_stands_X8_standingNow : GoodIn wsX8_stands (wsV RX8 224 RX8 yX8_standingNow wsX8_standingNow) := goodIn_app (goodIn_of _ (by decide +kernel)) ggX8_stands_X8_standingNow
theorem dX8_stands_0 : decode cX8_stands 0 = .ok (.aload_n 0, 1) := by decide +kernel
theorem dX8_stands_1 : decode cX8_stands 1 = .ok (.invokevirtual 224, 3) := by decide +kernel
theorem dX8_stands_4 : decode cX8_stands 4 = .ok (.ireturn, 1) := by decide +kernel
set_option maxRecDepth 20000 in
theorem ggX8_tight_X8_look : GoodIn wsX8_tight wsX8_look := goodIn_r _ [7, 1, 8, 9, 10, 11, 6, 12, 13, 14, 15, 16, 17, 18, 19, 20, 21, 22, 23, 24, 25, 26, 27, 28, 29, 30, 31, 32, 33, 34, 35, 36, 37, 38, 39, 40, 123, 124, 125, 126, 127, 128, 129, 130, 131, 132, 133, 134, 135, 141, 142, 143, 144, 145, 146, 147, 148, 149, 150, 151, 152, 153, 154, 155, 156, 157, 158, 159, 160, 161, 162, 163, 164, 165, 166, 136, 137, 138, 139, 140] rfl rfl
set_option maxRecDepth 20000 in
theorem gX8_tight_X8_look : GoodIn wsX8_tight (wsV RX8 148 RX8 yX8_look wsX8_look) := goodIn_app (goodIn_of _ (by decide +kernel)) ggX8_tight_X8_look
set_option maxRecDepth 20000 in
theorem ggX8_tight_X8_now : GoodIn wsX8_tight wsX8_now := goodIn_r _ [12, 13, 14, 15, 16, 17, 18, 19, 20, 123, 124, 125, 126, 127, 128, 129, 130, 131, 132, 133, 134, 135, 141, 142, 143, 144] rfl rfl
set_option maxRecDepth 20000 in
theorem gX8_tight_X8_now : GoodIn wsX8_tight (wsV RX8 88 RX8 yX8_now wsX8_now) := goodIn_app (goodIn_of _ (by decide +kernel)) ggX8_tight_X8_now
set_option maxRecDepth 20000 in
theorem ggX8_tight_X2_greatest : GoodIn wsX8_tight wsX2_greatest := goodIn_r _ [44, 26, 29, 45, 46, 47, 24, 48, 49, 33, 50, 51, 6, 52, 53, 54, 55, 56, 57, 58, 59, 60, 61, 62, 63, 40, 39, 31, 64, 65, 66, 67, 68, 69, 70, 71, 72, 73, 74, 75, 76, 77, 78, 79, 80, 81, 82, 83, 84, 85, 86, 87, 88, 89, 90, 91, 92, 93, 94, 95, 96, 97, 98, 99, 100, 101, 102, 103, 104, 105, 106, 107, 108, 109, 110, 111, 112, 113, 114, 115, 116, 117, 118, 119, 120, 121, 122, 145, 146, 147, 148, 149, 150, 151, 152, 153, 154, 155, 156, 157, 158, 159, 160, 161, 162, 163, 164, 165, 166, 167, 168, 169, 170, 171, 172] rfl rfl
set_option maxRecDepth 20000 in
theorem gX8_tight_X2_greatest : GoodIn wsX8_tight (wsV RX8 227 RX2 yX2_greatest wsX2_greatest) := goodIn_app (goodIn_of _ (by decide +kernel)) ggX8_tight_X2_greatest
theorem dX8_tight_0 : decode cX8_tight 0 = .ok (.aload_n 0, 1) := by decide +kernel
theorem dX8_tight_1 : decode cX8_tight 1 = .ok (.invokevirtual 148, 3) := by decide +kernel
theorem dX8_tight_4 : decode cX8_tight 4 = .ok (.aload_n 0, 1) := by decide +kernel
theorem dX8_tight_5 : decode cX8_tight 5 = .ok (.getfield 44, 3) := by decide +kernel
theorem dX8_tight_8 : decode cX8_tight 8 = .ok (.aload_n 0, 1) := by decide +kernel
theorem dX8_tight_9 : decode cX8_tight 9 = .ok (.invokevirtual 88, 3) := by decide +kernel
theorem dX8_tight_12 : decode cX8_tight 12 = .ok (.getfield 145, 3) := by decide +kernel
theorem dX8_tight_15 : decode cX8_tight 15 = .ok (.invokevirtual 227, 3) := by decide +kernel
theorem dX8_tight_18 : decode cX8_tight 18 = .ok (.ireturn, 1) := by decide +kernel
set_option maxRecDepth 20000 in
theorem ggX8_hollow_X8_look : GoodIn wsX8_hollow wsX8_look := goodIn_r _ [7, 1, 8, 9, 10, 11, 6, 12, 13, 14, 15, 16, 17, 18, 19, 20, 21, 22, 23, 24, 25, 26, 27, 28, 29, 30, 31, 32, 33, 34, 35, 36, 37, 38, 39, 40, 132, 133, 134, 135, 136, 137, 138, 139, 140, 141, 142, 143, 144, 150, 151, 152, 153, 154, 155, 156, 157, 158, 159, 160, 161, 162, 163, 164, 165, 166, 167, 168, 169, 170, 171, 172, 173, 174, 175, 145, 146, 147, 148, 149] rfl rfl
set_option maxRecDepth 20000 in
theorem gX8_hollow_X8_look : GoodIn wsX8_hollow (wsV RX8 148 RX8 yX8_look wsX8_look) := goodIn_app (goodIn_of _ (by decide +kernel)) ggX8_hollow_X8_look
set_option maxRecDepth 20000 in
theorem ggX8_hollow_X8_now : GoodIn wsX8_hollow wsX8_now := goodIn_r _ [12, 13, 14, 15, 16, 17, 18, 19, 20, 132, 133, 134, 135, 136, 137, 138, 139, 140, 141, 142, 143, 144, 150, 151, 152, 153] rfl rfl
set_option maxRecDepth 20000 in
theorem gX8_hollow_X8_now : GoodIn wsX8_hollow (wsV RX8 88 RX8 yX8_now wsX8_now) := goodIn_app (goodIn_of _ (by decide +kernel)) ggX8_hollow_X8_now
set_option maxRecDepth 20000 in
theorem ggX8_hollow_X2_greatest : GoodIn wsX8_hollow wsX2_greatest := goodIn_r _ [44, 26, 29, 45, 46, 47, 24, 48, 49, 33, 50, 51, 6, 52, 53, 54, 55, 56, 57, 58, 59, 60, 61, 62, 63, 40, 39, 31, 64, 65, 66, 67, 68, 69, 70, 71, 72, 73, 74, 75, 76, 77, 78, 79, 80, 81, 82, 83, 84, 85, 86, 87, 88, 89, 90, 91, 92, 93, 94, 95, 96, 97, 98, 99, 100, 101, 102, 103, 104, 105, 106, 107, 108, 109, 110, 111, 112, 113, 114, 115, 116, 117, 118, 119, 120, 121, 122, 154, 155, 156, 157, 158, 159, 160, 161, 162, 163, 164, 165, 166, 167, 168, 169, 170, 171, 172, 173, 174, 175, 176, 177, 178, 179, 180, 181] rfl rfl
set_option maxRecDepth 20000 in
theorem gX8_hollow_X2_greatest : GoodIn wsX8_hollow (wsV RX8 227 RX2 yX2_greatest wsX2_greatest) := goodIn_app (goodIn_of _ (by decide +kernel)) ggX8_hollow_X2_greatest
set_option maxRecDepth 20000 in
theorem ggX8_hollow_X2_standing : GoodIn wsX8_hollow wsX2_standing := goodIn_r _ [126, 29, 26, 45, 46, 47, 24, 48, 49, 33, 50, 51, 6, 52, 53, 54, 55, 56, 57, 58, 59, 60, 61, 62, 63, 40, 39, 31, 64, 65, 66, 67, 68, 69, 70, 71, 72, 73, 74, 75, 76, 77, 78, 79, 80, 81, 82, 83, 84, 85, 86, 87, 88, 89, 90, 91, 92, 93, 94, 95, 96, 97, 98, 99, 100, 101, 109, 110, 111, 112, 113, 127, 128, 129, 130, 122, 131, 114, 115, 116, 117, 102, 103, 104, 105, 106, 107, 108, 118, 119, 120, 121, 154, 155, 156, 157, 158, 159, 160, 161, 162, 163, 164, 165, 166, 167, 168, 169, 170, 171, 172, 173, 174, 175, 176, 177, 178, 179, 180, 181] rfl rfl
set_option maxRecDepth 20000 in
theorem gX8_hollow_X2_standing : GoodIn wsX8_hollow (wsV RX8 231 RX2 yX2_standing wsX2_standing) := goodIn_app (goodIn_of _ (by decide +kernel)) ggX8_hollow_X2_standing
theorem dX8_hollow_0 : decode cX8_hollow 0 = .ok (.aload_n 0, 1) := by decide +kernel
theorem dX8_hollow_1 : decode cX8_hollow 1 = .ok (.invokevirtual 148, 3) := by decide +kernel
theorem dX8_hollow_4 : decode cX8_hollow 4 = .ok (.aload_n 0, 1) := by decide +kernel
theorem dX8_hollow_5 : decode cX8_hollow 5 = .ok (.getfield 44, 3) := by decide +kernel
theorem dX8_hollow_8 : decode cX8_hollow 8 = .ok (.aload_n 0, 1) := by decide +kernel
theorem dX8_hollow_9 : decode cX8_hollow 9 = .ok (.invokevirtual 88, 3) := by decide +kernel
theorem dX8_hollow_12 : decode cX8_hollow 12 = .ok (.getfield 145, 3) := by decide +kernel
theorem dX8_hollow_15 : decode cX8_hollow 15 = .ok (.invokevirtual 227, 3) := by decide +kernel
theorem dX8_hollow_18 : decode cX8_hollow 18 = .ok (.aload_n 0, 1) := by decide +kernel
theorem dX8_hollow_19 : decode cX8_hollow 19 = .ok (.getfield 44, 3) := by decide +kernel
theorem dX8_hollow_22 : decode cX8_hollow 22 = .ok (.aload_n 0, 1) := by decide +kernel
theorem dX8_hollow_23 : decode cX8_hollow 23 = .ok (.invokevirtual 88, 3) := by decide +kernel
theorem dX8_hollow_26 : decode cX8_hollow 26 = .ok (.getfield 145, 3) := by decide +kernel
theorem dX8_hollow_29 : decode cX8_hollow 29 = .ok (.invokevirtual 231, 3) := by decide +kernel
theorem dX8_hollow_32 : decode cX8_hollow 32 = .ok (.iconst (-1), 1) := by decide +kernel
theorem dX8_hollow_33 : decode cX8_hollow 33 = .ok (.ixor, 1) := by decide +kernel
theorem dX8_hollow_34 : decode cX8_hollow 34 = .ok (.iand, 1) := by decide +kernel
theorem dX8_hollow_35 : decode cX8_hollow 35 = .ok (.ireturn, 1) := by decide +kernel
set_option maxRecDepth 20000 in
theorem ggX8_isTied_X5_isStrand : GoodIn wsX8_isTied wsX5_isStrand := goodIn_r _ [7, 8, 43, 44, 45, 46, 47, 48, 49, 50, 51, 52, 53, 54] rfl rfl
set_option maxRecDepth 20000 in
theorem gX8_isTied_X5_isStrand : GoodIn wsX8_isTied (wsV RX8 133 RX5 yX5_isStrand wsX5_isStrand) := goodIn_app (goodIn_of _ (by decide +kernel)) ggX8_isTied_X5_isStrand
set_option maxRecDepth 20000 in
theorem ggX8_isTied_X8_now : GoodIn wsX8_isTied wsX8_now := goodIn_r _ [13, 14, 15, 16, 17, 18, 19, 20, 21, 25, 26, 27, 28, 29, 30, 31, 32, 33, 34, 35, 36, 37, 55, 56, 57, 58] rfl rfl
set_option maxRecDepth 20000 in
theorem gX8_isTied_X8_now : GoodIn wsX8_isTied (wsV RX8 88 RX8 yX8_now wsX8_now) := goodIn_app (goodIn_of _ (by decide +kernel)) ggX8_isTied_X8_now
set_option maxRecDepth 20000 in
theorem ggX8_isTied_X8_has : GoodIn wsX8_isTied wsX8_has := goodIn_r _ [24] rfl rfl
set_option maxRecDepth 20000 in
theorem gX8_isTied_X8_has : GoodIn wsX8_isTied (va_wsS RX8 220 yX8_has wsX8_has) := goodIn_app (goodIn_of _ (by decide +kernel)) ggX8_isTied_X8_has
theorem dX8_isTied_0 : decode cX8_isTied 0 = .ok (.aload_n 0, 1) := by decide +kernel
theorem dX8_isTied_1 : decode cX8_isTied 1 = .ok (.getfield 19, 3) := by decide +kernel
theorem dX8_isTied_4 : decode cX8_isTied 4 = .ok (.iload_n 1, 1) := by decide +kernel
theorem dX8_isTied_5 : decode cX8_isTied 5 = .ok (.invokevirtual 133, 3) := by decide +kernel
theorem dX8_isTied_8 : decode cX8_isTied 8 = .ok (.ifCond .eq 21, 3) := by decide +kernel
theorem dX8_isTied_11 : decode cX8_isTied 11 = .ok (.aload_n 0, 1) := by decide +kernel
theorem dX8_isTied_12 : decode cX8_isTied 12 = .ok (.invokevirtual 88, 3) := by decide +kernel
theorem dX8_isTied_15 : decode cX8_isTied 15 = .ok (.getfield 145, 3) := by decide +kernel
theorem dX8_isTied_18 : decode cX8_isTied 18 = .ok (.iload_n 1, 1) := by decide +kernel
theorem dX8_isTied_19 : decode cX8_isTied 19 = .ok (.invokestatic 220, 3) := by decide +kernel
theorem dX8_isTied_22 : decode cX8_isTied 22 = .ok (.ifCond .eq 7, 3) := by decide +kernel
theorem dX8_isTied_25 : decode cX8_isTied 25 = .ok (.iconst 1, 1) := by decide +kernel
theorem dX8_isTied_26 : decode cX8_isTied 26 = .ok (.goto 4, 3) := by decide +kernel
theorem dX8_isTied_29 : decode cX8_isTied 29 = .ok (.iconst 0, 1) := by decide +kernel
theorem dX8_isTied_30 : decode cX8_isTied 30 = .ok (.ireturn, 1) := by decide +kernel
set_option maxRecDepth 20000 in
theorem ggX8_isProved_X5_isFact : GoodIn wsX8_isProved wsX5_isFact := goodIn_r _ [7, 8, 9, 10, 11, 6, 12, 13, 14, 15, 16, 48, 49, 50, 51, 52, 53, 54, 55, 56, 57, 58, 59] rfl rfl
set_option maxRecDepth 20000 in
theorem gX8_isProved_X5_isFact : GoodIn wsX8_isProved (wsV RX8 203 RX5 yX5_isFact wsX5_isFact) := goodIn_app (goodIn_of _ (by decide +kernel)) ggX8_isProved_X5_isFact
set_option maxRecDepth 20000 in
theorem ggX8_isProved_X8_now : GoodIn wsX8_isProved wsX8_now := goodIn_r _ [20, 21, 22, 23, 24, 25, 26, 27, 28, 30, 31, 32, 33, 34, 35, 36, 37, 38, 39, 40, 41, 42, 60, 61, 62, 63] rfl rfl
set_option maxRecDepth 20000 in
theorem gX8_isProved_X8_now : GoodIn wsX8_isProved (wsV RX8 88 RX8 yX8_now wsX8_now) := goodIn_app (goodIn_of _ (by decide +kernel)) ggX8_isProved_X8_now
set_option maxRecDepth 20000 in
theorem ggX8_isProved_X8_has : GoodIn wsX8_isProved wsX8_has := goodIn_r _ [16] rfl rfl
set_option maxRecDepth 20000 in
theorem gX8_isProved_X8_has : GoodIn wsX8_isProved (va_wsS RX8 220 yX8_has wsX8_has) := goodIn_app (goodIn_of _ (by decide +kernel)) ggX8_isProved_X8_has
theorem dX8_isProved_0 : decode cX8_isProved 0 = .ok (.aload_n 0, 1) := by decide +kernel
theorem dX8_isProved_1 : decode cX8_isProved 1 = .ok (.getfield 19, 3) := by decide +kernel
theorem dX8_isProved_4 : decode cX8_isProved 4 = .ok (.iload_n 1, 1) := by decide +kernel
theorem dX8_isProved_5 : decode cX8_isProved 5 = .ok (.invokevirtual 203, 3) := by decide +kernel
theorem dX8_isProved_8 : decode cX8_isProved 8 = .ok (.ifCond .eq 21, 3) := by decide +kernel
theorem dX8_isProved_11 : decode cX8_isProved 11 = .ok (.aload_n 0, 1) := by decide +kernel
theorem dX8_isProved_12 : decode cX8_isProved 12 = .ok (.invokevirtual 88, 3) := by decide +kernel
theorem dX8_isProved_15 : decode cX8_isProved 15 = .ok (.getfield 124, 3) := by decide +kernel
theorem dX8_isProved_18 : decode cX8_isProved 18 = .ok (.iload_n 1, 1) := by decide +kernel
theorem dX8_isProved_19 : decode cX8_isProved 19 = .ok (.invokestatic 220, 3) := by decide +kernel
theorem dX8_isProved_22 : decode cX8_isProved 22 = .ok (.ifCond .ne 7, 3) := by decide +kernel
theorem dX8_isProved_25 : decode cX8_isProved 25 = .ok (.iconst 1, 1) := by decide +kernel
theorem dX8_isProved_26 : decode cX8_isProved 26 = .ok (.goto 4, 3) := by decide +kernel
theorem dX8_isProved_29 : decode cX8_isProved 29 = .ok (.iconst 0, 1) := by decide +kernel
theorem dX8_isProved_30 : decode cX8_isProved 30 = .ok (.ireturn, 1) := by decide +kernel
set_option maxRecDepth 20000 in
theorem ggX8_standingNow_X8_look : GoodIn wsX8_standingNow wsX8_look := goodIn_r _ [7, 1, 8, 9, 10, 11, 6, 12, 13, 14, 15, 16, 17, 18, 19, 20, 21, 22, 23, 24, 25, 26, 27, 28, 29, 30, 31, 32, 33, 34, 35, 36, 37, 38, 39, 40, 128, 129, 130, 131, 132, 133, 134, 135, 136, 137, 138, 139, 140, 146, 147, 148, 149, 150, 151, 152, 153, 154, 155, 156, 157, 158, 159, 160, 161, 162, 163, 164, 165, 166, 167, 168, 169, 170, 171, 141, 142, 143, 144, 145] rfl rfl
set_option maxRecDepth 20000 in
theorem gX8_standingNow_X8_look : GoodIn wsX8_standingNow (wsV RX8 148 RX8 yX8_look wsX8_look) := goodIn_app (goodIn_of _ (by decide +kernel)) ggX8_standingNow_X8_look
set_option maxRecDepth 20000 in
theorem ggX8_standingNow_X8_now : GoodIn wsX8_standingNow wsX8_now := goodIn_r _ [12, 13, 14, 15, 16, 17, 18, 19, 20, 128, 129, 130, 131, 132, 133, 134, 135, 136, 137, 138, 139, 140, 146, 147, 148, 149] rfl rfl
set_option maxRecDepth 20000 in
theorem gX8_standingNow_X8_now : GoodIn wsX8_standingNow (wsV RX8 88 RX8 yX8_now wsX8_now) := goodIn_app (goodIn_of _ (by decide +kernel)) ggX8_standingNow_X8_now
set_option maxRecDepth 20000 in
theorem ggX8_standingNow_X2_standing : GoodIn wsX8_standingNow wsX2_standing := goodIn_r _ [44, 29, 26, 45, 46, 47, 24, 48, 49, 33, 50, 51, 6, 52, 53, 54, 55, 56, 57, 58, 59, 60, 61, 62, 63, 40, 39, 31, 64, 65, 66, 67, 68, 69, 70, 71, 72, 73, 74, 75, 76, 77, 78, 79, 80, 81, 82, 83, 84, 85, 86, 87, 88, 89, 90, 91, 92, 93, 94, 95, 96, 97, 98, 99, 100, 101, 102, 103, 104, 105, 106, 107, 108, 109, 110, 111, 112, 113, 114, 115, 116, 117, 118, 119, 120, 121, 122, 123, 124, 125, 126, 127, 150, 151, 152, 153, 154, 155, 156, 157, 158, 159, 160, 161, 162, 163, 164, 165, 166, 167, 168, 169, 170, 171, 172, 173, 174, 175, 176, 177] rfl rfl
set_option maxRecDepth 20000 in
theorem gX8_standingNow_X2_standing : GoodIn wsX8_standingNow (wsV RX8 231 RX2 yX2_standing wsX2_standing) := goodIn_app (goodIn_of _ (by decide +kernel)) ggX8_standingNow_X2_standing
theorem dX8_standingNow_0 : decode cX8_standingNow 0 = .ok (.aload_n 0, 1) := by decide +kernel
theorem dX8_standingNow_1 : decode cX8_standingNow 1 = .ok (.invokevirtual 148, 3) := by decide +kernel
theorem dX8_standingNow_4 : decode cX8_standingNow 4 = .ok (.aload_n 0, 1) := by decide +kernel
theorem dX8_standingNow_5 : decode cX8_standingNow 5 = .ok (.getfield 44, 3) := by decide +kernel
theorem dX8_standingNow_8 : decode cX8_standingNow 8 = .ok (.aload_n 0, 1) := by decide +kernel
theorem dX8_standingNow_9 : decode cX8_standingNow 9 = .ok (.invokevirtual 88, 3) := by decide +kernel
theorem dX8_standingNow_12 : decode cX8_standingNow 12 = .ok (.getfield 145, 3) := by decide +kernel
theorem dX8_standingNow_15 : decode cX8_standingNow 15 = .ok (.invokevirtual 231, 3) := by decide +kernel
theorem dX8_standingNow_18 : decode cX8_standingNow 18 = .ok (.ireturn, 1) := by decide +kernel
set_option maxRecDepth 20000 in
theorem ggX8_claimsNow_X8_look : GoodIn wsX8_claimsNow wsX8_look := goodIn_r _ [6, 7, 8, 9, 10, 11, 5, 12, 13, 14, 15, 16, 17, 18, 19, 20, 21, 22, 23, 24, 25, 26, 27, 28, 29, 30, 31, 32, 33, 34, 35, 36, 37, 38, 39, 40, 139, 140, 141, 142, 143, 144, 145, 146, 147, 148, 149, 150, 151, 152, 153, 154, 155, 156, 157, 158, 159, 160, 161, 162, 163, 164, 165, 166, 167, 168, 169, 170, 171, 172, 173, 174, 175, 176, 177, 134, 135, 136, 137, 138] rfl rfl
set_option maxRecDepth 20000 in
theorem gX8_claimsNow_X8_look : GoodIn wsX8_claimsNow (wsV RX8 148 RX8 yX8_look wsX8_look) := goodIn_app (goodIn_of _ (by decide +kernel)) ggX8_claimsNow_X8_look
set_option maxRecDepth 20000 in
theorem ggX8_claimsNow_X8_now : GoodIn wsX8_claimsNow wsX8_now := goodIn_r _ [12, 13, 14, 15, 16, 17, 18, 19, 20, 139, 140, 141, 142, 143, 144, 145, 146, 147, 148, 149, 150, 151, 152, 153, 154, 155] rfl rfl
set_option maxRecDepth 20000 in
theorem gX8_claimsNow_X8_now : GoodIn wsX8_claimsNow (wsV RX8 88 RX8 yX8_now wsX8_now) := goodIn_app (goodIn_of _ (by decide +kernel)) ggX8_claimsNow_X8_now
set_option maxRecDepth 20000 in
theorem ggX8_claimsNow_X8_claimsWith : GoodIn wsX8_claimsNow wsX8_claimsWith := goodIn_r _ [44, 7, 8, 45, 46, 47, 24, 48, 29, 26, 49, 50, 51, 52, 53, 33, 54, 55, 5, 56, 57, 58, 59, 60, 61, 62, 63, 64, 65, 66, 67, 40, 39, 31, 68, 69, 70, 71, 72, 73, 74, 75, 76, 77, 78, 79, 80, 81, 82, 83, 84, 85, 86, 87, 88, 89, 90, 91, 92, 93, 94, 95, 96, 97, 98, 99, 100, 101, 102, 103, 104, 105, 106, 107, 108, 109, 110, 111, 112, 113, 114, 115, 116, 117, 118, 119, 120, 121, 122, 123, 124, 125, 126, 127, 128, 129, 130, 131, 132, 133, 139, 140, 141, 142, 143, 144, 145, 146, 147, 148, 149, 150, 151, 156, 157, 158, 159, 160, 161, 162, 163, 164, 165, 166, 167, 168, 169, 170, 171, 172, 173, 174, 175, 176, 177, 178, 179, 180, 181, 182, 183] rfl rfl
set_option maxRecDepth 20000 in
theorem gX8_claimsNow_X8_claimsWith : GoodIn wsX8_claimsNow (wsV RX8 251 RX8 yX8_claimsWith wsX8_claimsWith) := goodIn_app (goodIn_of _ (by decide +kernel)) ggX8_claimsNow_X8_claimsWith
theorem dX8_claimsNow_0 : decode cX8_claimsNow 0 = .ok (.aload_n 0, 1) := by decide +kernel
theorem dX8_claimsNow_1 : decode cX8_claimsNow 1 = .ok (.invokevirtual 148, 3) := by decide +kernel
theorem dX8_claimsNow_4 : decode cX8_claimsNow 4 = .ok (.aload_n 0, 1) := by decide +kernel
theorem dX8_claimsNow_5 : decode cX8_claimsNow 5 = .ok (.aload_n 0, 1) := by decide +kernel
theorem dX8_claimsNow_6 : decode cX8_claimsNow 6 = .ok (.invokevirtual 88, 3) := by decide +kernel
theorem dX8_claimsNow_9 : decode cX8_claimsNow 9 = .ok (.getfield 145, 3) := by decide +kernel
theorem dX8_claimsNow_12 : decode cX8_claimsNow 12 = .ok (.invokevirtual 251, 3) := by decide +kernel
theorem dX8_claimsNow_15 : decode cX8_claimsNow 15 = .ok (.ireturn, 1) := by decide +kernel
set_option maxRecDepth 20000 in
theorem ggX8_claimsWith_X2_standing : GoodIn wsX8_claimsWith wsX2_standing := goodIn_r _ [7, 8, 9, 10, 11, 12, 6, 13, 14, 15, 16, 17, 18, 19, 20, 21, 22, 23, 24, 25, 26, 27, 28, 29, 30, 31, 32, 33, 34, 35, 36, 37, 38, 39, 40, 41, 42, 43, 44, 45, 46, 47, 48, 49, 50, 51, 52, 53, 54, 55, 56, 57, 58, 59, 60, 61, 62, 63, 64, 65, 66, 67, 68, 69, 70, 71, 72, 73, 74, 75, 76, 77, 78, 79, 80, 81, 82, 83, 84, 85, 86, 87, 88, 89, 90, 91, 92, 93, 94, 95, 96, 97, 113, 114, 115, 116, 117, 118, 119, 120, 121, 122, 123, 124, 125, 126, 127, 128, 129, 130, 131, 132, 133, 134, 135, 136, 137, 138, 139, 140] rfl rfl
set_option maxRecDepth 20000 in
theorem gX8_claimsWith_X2_standing : GoodIn wsX8_claimsWith (wsV RX8 231 RX2 yX2_standing wsX2_standing) := goodIn_app (goodIn_of _ (by decide +kernel)) ggX8_claimsWith_X2_standing
set_option maxRecDepth 20000 in
theorem ggX8_claimsWith_X5_claims : GoodIn wsX8_claimsWith wsX5_claims := goodIn_r _ [91, 92, 93, 123, 124, 125, 126, 127, 128, 129, 130, 131, 132, 133, 134] rfl rfl
set_option maxRecDepth 20000 in
theorem gX8_claimsWith_X5_claims : GoodIn wsX8_claimsWith (wsV RX8 290 RX5 yX5_claims wsX5_claims) := goodIn_app (goodIn_of _ (by decide +kernel)) ggX8_claimsWith_X5_claims
set_option maxRecDepth 20000 in
theorem ggX8_claimsWith_J6_bitCount_0f7a4 : GoodIn wsX8_claimsWith wsJ6_bitCount_0f7a4 := goodIn_r _ [44, 45, 46, 47] rfl rfl
set_option maxRecDepth 20000 in
theorem gX8_claimsWith_J6_bitCount_0f7a4 : GoodIn wsX8_claimsWith (va_wsS RX8 274 yJ6_bitCount_0f7a4 wsJ6_bitCount_0f7a4) := goodIn_app (goodIn_of _ (by decide +kernel)) ggX8_claimsWith_J6_bitCount_0f7a4
theorem dX8_claimsWith_0 : decode cX8_claimsWith 0 = .ok (.aload_n 0, 1) := by decide +kernel
theorem dX8_claimsWith_1 : decode cX8_claimsWith 1 = .ok (.getfield 44, 3) := by decide +kernel
theorem dX8_claimsWith_4 : decode cX8_claimsWith 4 = .ok (.iload_n 1, 1) := by decide +kernel
theorem dX8_claimsWith_5 : decode cX8_claimsWith 5 = .ok (.invokevirtual 231, 3) := by decide +kernel
theorem dX8_claimsWith_8 : decode cX8_claimsWith 8 = .ok (.aload_n 0, 1) := by decide +kernel
theorem dX8_claimsWith_9 : decode cX8_claimsWith 9 = .ok (.getfield 19, 3) := by decide +kernel
theorem dX8_claimsWith_12 : decode cX8_claimsWith 12 = .ok (.invokevirtual 290, 3) := by decide +kernel
theorem dX8_claimsWith_15 : decode cX8_claimsWith 15 = .ok (.iand, 1) := by decide +kernel
theorem dX8_claimsWith_16 : decode cX8_claimsWith 16 = .ok (.invokestatic 274, 3) := by decide +kernel
theorem dX8_claimsWith_19 : decode cX8_claimsWith 19 = .ok (.ireturn, 1) := by decide +kernel
theorem in_X2_addFrom_X2 : ∀ w ∈ wsX20, w ∈ wsX2_addFrom := fun _ h => List.mem_cons_of_mem _ (List.mem_append_left _ (List.mem_append_right _ h))
theorem in_X2_addFrom_X5 : ∀ w ∈ wsX50, w ∈ wsX2_addFrom := fun _ h => List.mem_cons_of_mem _ (List.mem_append_right _ h)
theorem in_X2_clearSums_X2 : ∀ w ∈ wsX20, w ∈ wsX2_clearSums := fun _ h => List.mem_cons_of_mem _ (List.mem_append_right _ h)
theorem in_X2_enough_X2 : ∀ w ∈ wsX20, w ∈ wsX2_enough := fun _ h => List.mem_cons_of_mem _ (List.mem_append_left _ (List.mem_append_right _ h))
theorem in_X2_enough_X5 : ∀ w ∈ wsX50, w ∈ wsX2_enough := fun _ h => List.mem_cons_of_mem _ (List.mem_append_right _ h)
theorem in_X2_rankAs_X2 : ∀ w ∈ wsX20, w ∈ wsX2_rankAs := fun _ h => List.mem_cons_of_mem _ (List.mem_append_left _ (List.mem_append_right _ h))
theorem in_X2_rankAs_X5 : ∀ w ∈ wsX50, w ∈ wsX2_rankAs := fun _ h => List.mem_cons_of_mem _ (List.mem_append_right _ h)
theorem in_X5_claims_X5 : ∀ w ∈ wsX50, w ∈ wsX5_claims := fun _ h => List.mem_cons_of_mem _ (List.mem_append_right _ h)
theorem in_X2_standing_X2 : ∀ w ∈ wsX20, w ∈ wsX2_standing := fun _ h => List.mem_cons_of_mem _ (List.mem_append_left _ (List.mem_append_left _ (List.mem_append_right _ h)))
theorem in_X8_claimsWith_X8 : ∀ w ∈ wsX80, w ∈ wsX8_claimsWith := fun _ h => List.mem_cons_of_mem _ (List.mem_append_left _ (List.mem_append_left _ (List.mem_append_left _ (List.mem_append_right _ h))))
theorem in_X8_claimsNow_X4 : ∀ w ∈ wsX40, w ∈ wsX8_claimsNow := fun _ h => List.mem_cons_of_mem _ (List.mem_append_left _ (List.mem_append_left _ (List.mem_append_left _ (List.mem_append_left _ (List.mem_append_left _ (List.mem_append_right _ h))))))
theorem in_X8_isTied_X8 : ∀ w ∈ wsX80, w ∈ wsX8_isTied := fun _ h => List.mem_cons_of_mem _ (List.mem_append_left _ (List.mem_append_left _ (List.mem_append_left _ (List.mem_append_right _ h))))
theorem in_X8_isTied_X4 : ∀ w ∈ wsX40, w ∈ wsX8_isTied := fun _ h => List.mem_cons_of_mem _ (List.mem_append_left _ (List.mem_append_left _ (List.mem_append_right _ h)))
theorem in_X8_cut_X8 : ∀ w ∈ wsX80, w ∈ wsX8_cut := fun _ h => List.mem_cons_of_mem _ (List.mem_append_left _ (List.mem_append_left _ (List.mem_append_left _ (List.mem_append_left _ (List.mem_append_left _ (List.mem_append_right _ h))))))
theorem in_X8_cut_X4 : ∀ w ∈ wsX40, w ∈ wsX8_cut := fun _ h => List.mem_cons_of_mem _ (List.mem_append_left _ (List.mem_append_left _ (List.mem_append_left _ (List.mem_append_left _ (List.mem_append_right _ h)))))
theorem in_X8_tie_X8 : ∀ w ∈ wsX80, w ∈ wsX8_tie := fun _ h => List.mem_cons_of_mem _ (List.mem_append_left _ (List.mem_append_left _ (List.mem_append_left _ (List.mem_append_left _ (List.mem_append_left _ (List.mem_append_right _ h))))))
theorem in_X8_tie_X4 : ∀ w ∈ wsX40, w ∈ wsX8_tie := fun _ h => List.mem_cons_of_mem _ (List.mem_append_left _ (List.mem_append_left _ (List.mem_append_left _ (List.mem_append_left _ (List.mem_append_right _ h)))))
theorem in_X8_tighten_X8 : ∀ w ∈ wsX80, w ∈ wsX8_tighten := fun _ h => List.mem_cons_of_mem _ (List.mem_append_left _ (List.mem_append_left _ (List.mem_append_left _ (List.mem_append_right _ h))))
theorem in_X8_tighten_X4 : ∀ w ∈ wsX40, w ∈ wsX8_tighten := fun _ h => List.mem_cons_of_mem _ (List.mem_append_left _ (List.mem_append_left _ (List.mem_append_right _ h)))
theorem in_X5_isFact_X5 : ∀ w ∈ wsX50, w ∈ wsX5_isFact := fun _ h => List.mem_cons_of_mem _ (List.mem_append_right _ h)
theorem in_X8_isProved_X8 : ∀ w ∈ wsX80, w ∈ wsX8_isProved := fun _ h => List.mem_cons_of_mem _ (List.mem_append_left _ (List.mem_append_left _ (List.mem_append_left _ (List.mem_append_right _ h))))
theorem in_X8_isProved_X4 : ∀ w ∈ wsX40, w ∈ wsX8_isProved := fun _ h => List.mem_cons_of_mem _ (List.mem_append_left _ (List.mem_append_left _ (List.mem_append_right _ h)))
theorem in_X8_strike_X8 : ∀ w ∈ wsX80, w ∈ wsX8_strike := fun _ h => List.mem_cons_of_mem _ (List.mem_append_left _ (List.mem_append_left _ (List.mem_append_left _ (List.mem_append_left _ (List.mem_append_left _ (List.mem_append_right _ h))))))
theorem in_X8_strike_X4 : ∀ w ∈ wsX40, w ∈ wsX8_strike := fun _ h => List.mem_cons_of_mem _ (List.mem_append_left _ (List.mem_append_left _ (List.mem_append_left _ (List.mem_append_left _ (List.mem_append_right _ h)))))
theorem in_X8_prove_X8 : ∀ w ∈ wsX80, w ∈ wsX8_prove := fun _ h => List.mem_cons_of_mem _ (List.mem_append_left _ (List.mem_append_left _ (List.mem_append_left _ (List.mem_append_left _ (List.mem_append_left _ (List.mem_append_right _ h))))))
theorem in_X8_prove_X4 : ∀ w ∈ wsX40, w ∈ wsX8_prove := fun _ h => List.mem_cons_of_mem _ (List.mem_append_left _ (List.mem_append_left _ (List.mem_append_left _ (List.mem_append_left _ (List.mem_append_right _ h)))))
theorem in_X4_pass_X5 : ∀ w ∈ wsX50, w ∈ wsX4_pass := fun _ h => List.mem_cons_of_mem _ (List.mem_append_right _ h)
theorem in_X4_pass_X4 : ∀ w ∈ wsX40, w ∈ wsX4_pass := fun _ h => List.mem_cons_of_mem _ (List.mem_append_left _ (List.mem_append_right _ h))
theorem in_X8_day_X4 : ∀ w ∈ wsX40, w ∈ wsX8_day := fun _ h => List.mem_cons_of_mem _ (List.mem_append_left _ (List.mem_append_left _ (List.mem_append_left _ (List.mem_append_right _ h))))
theorem in_X8_day_X8 : ∀ w ∈ wsX80, w ∈ wsX8_day := fun _ h => List.mem_cons_of_mem _ (List.mem_append_left _ (List.mem_append_left _ (List.mem_append_right _ h)))
theorem in_X0_goBack_X0 : ∀ w ∈ wsX00, w ∈ wsX0_goBack := fun _ h => List.mem_cons_of_mem _ (List.mem_append_right _ h)
theorem in_X8_undo_X8 : ∀ w ∈ wsX80, w ∈ wsX8_undo := fun _ h => List.mem_cons_of_mem _ (List.mem_append_left _ (List.mem_append_right _ h))
theorem in_X0_goOn_X0 : ∀ w ∈ wsX00, w ∈ wsX0_goOn := fun _ h => List.mem_cons_of_mem _ (List.mem_append_right _ h)
theorem in_X8_redo_X8 : ∀ w ∈ wsX80, w ∈ wsX8_redo := fun _ h => List.mem_cons_of_mem _ (List.mem_append_left _ (List.mem_append_right _ h))
theorem in_X8_standingNow_X8 : ∀ w ∈ wsX80, w ∈ wsX8_standingNow := fun _ h => List.mem_cons_of_mem _ (List.mem_append_left _ (List.mem_append_left _ (List.mem_append_left _ (List.mem_append_left _ (List.mem_append_left _ (List.mem_append_right _ h))))))
theorem in_X8_standingNow_X4 : ∀ w ∈ wsX40, w ∈ wsX8_standingNow := fun _ h => List.mem_cons_of_mem _ (List.mem_append_left _ (List.mem_append_left _ (List.mem_append_left _ (List.mem_append_left _ (List.mem_append_right _ h)))))
theorem in_X2_greatest_X2 : ∀ w ∈ wsX20, w ∈ wsX2_greatest := fun _ h => List.mem_cons_of_mem _ (List.mem_append_left _ (List.mem_append_left _ (List.mem_append_right _ h)))
theorem in_X8_tight_X8 : ∀ w ∈ wsX80, w ∈ wsX8_tight := fun _ h => List.mem_cons_of_mem _ (List.mem_append_left _ (List.mem_append_left _ (List.mem_append_left _ (List.mem_append_left _ (List.mem_append_left _ (List.mem_append_right _ h))))))
theorem in_X8_tight_X4 : ∀ w ∈ wsX40, w ∈ wsX8_tight := fun _ h => List.mem_cons_of_mem _ (List.mem_append_left _ (List.mem_append_left _ (List.mem_append_left _ (List.mem_append_left _ (List.mem_append_right _ h)))))
theorem in_X8_hollow_X8 : ∀ w ∈ wsX80, w ∈ wsX8_hollow := fun _ h => List.mem_cons_of_mem _ (List.mem_append_left _ (List.mem_append_left _ (List.mem_append_left _ (List.mem_append_left _ (List.mem_append_left _ (List.mem_append_right _ h))))))
theorem in_X8_hollow_X4 : ∀ w ∈ wsX40, w ∈ wsX8_hollow := fun _ h => List.mem_cons_of_mem _ (List.mem_append_left _ (List.mem_append_left _ (List.mem_append_left _ (List.mem_append_left _ (List.mem_append_right _ h)))))
set_option maxHeartbeats 4000000 in
set_option maxRecDepth 100000 in
theorem s_X2_addFrom_0 (l : Launch) (B0 : Nat) (adK adV : Nat → Nat) (D : va_G) (cy : Nat → ClassId) (ad : Nat → Nat) (fr0 : Nat → va_E) (tx : Int32) (rby : Int32) (rnx : Int32) (f : Nat → va_E) (hT : TYx ad cy fr0 tx rby rnx f) (p1 : Int32) (sz : Nat) : TtV l yX2_addFrom wsX2_addFrom 1 21 [.ref (ad 10), .int p1] B0 adK adV D cy ad f sz (fun (g : Nat → va_E) => True ∧ (TYx ad cy fr0 tx rby rnx g)) := by
  refine TtV.of (cc := cX2_addFrom) (maxL := 3) (own := RX2) (by decide) rfl (Nat.le_of_ble_eq_true rfl) rfl ?_
  intro p e s m below meth c A ls hx hb hr hml hts hown hlk hK hE hP hD hS hA hAB hl
  have hl : lv_has ls 3 [(0, .ref (ad 10)), (1, .int p1)] := hl
  refine st0 (fun H locs hP hS => ?_) hP hS
  have j2 : ∀ (N : Nat) (f : Nat → va_E) (H : Heap) (locs : List Loc) (ls : Array Slot) (v2_l2 : Int32), (13 - v2_l2.toInt ≤ (N : Int)) → (0 ≤ v2_l2.toInt ∧ v2_l2.toInt ≤ 12) → (TYx ad cy fr0 tx rby rnx f) → (va_P D vwCl (wl ad f) H) → (va_D A (wl ad f)) → (va_S A s.heap H locs) → (lv_has ls 3 [(2, .int v2_l2), (0, .ref (ad 10)), (1, .int p1)]) → W p l e (rmO 1 21 0 0) s m ([.ref (ad 10), .int p1] : List Value).toArray below meth c H locs 0 0 (MQ below (va_Qv (fun (g : Nat → va_E) => True ∧ (TYx ad cy fr0 tx rby rnx g)) (fun g t => PstT D ad g t) A) ([.ref (ad 10), .int p1] : List Value).toArray s 0 0 A) (F0 m 2 ls []) := by
    intro N
    induction N with
    | zero => intro f H locs ls v2_l2 hN hv2_l2 hT hP hD hS hl; exact absurd hN (by omega)
    | succ N ih2 =>
      intro f H locs ls v2_l2 hN hv2_l2 hT hP hD hS hl
      have j52 : ∀ (f : Nat → va_E) (H : Heap) (locs : List Loc) (ls : Array Slot), (0 ≤ v2_l2.toInt ∧ v2_l2.toInt ≤ 11) → (TYx ad cy fr0 tx rby rnx f) → (va_P D vwCl (wl ad f) H) → (va_D A (wl ad f)) → (va_S A s.heap H locs) → (lv_has ls 3 [(2, .int v2_l2), (0, .ref (ad 10)), (1, .int p1)]) → W p l e (rmO 1 21 0 0) s m ([.ref (ad 10), .int p1] : List Value).toArray below meth c H locs 0 0 (MQ below (va_Qv (fun (g : Nat → va_E) => True ∧ (TYx ad cy fr0 tx rby rnx g)) (fun g t => PstT D ad g t) A) ([.ref (ad 10), .int p1] : List Value).toArray s 0 0 A) (F0 m 52 ls []) := by
        intro f H locs ls hv52_l2 hT hP hD hS hl
        obtain ⟨x1, ex1⟩ : ∃ q : Int32, q = v2_l2 + Int32.ofInt (1) := ⟨_, rfl⟩
        refine lv_iinc (v := x1) (lv' := [(2, .int x1), (0, .ref (ad 10)), (1, .int p1)]) hx hb dX2_addFrom_52 hl (k := 0) rfl ex1.symm (by decide) rfl (fun ls hl => ?_)
        have hx1 := r_inc ex1 (by decide) (by omega) (by omega)
        refine lv_goto (tgt := 2) hx hb dX2_addFrom_55 (by decide) ?_
        exact ih2 f H locs ls x1 (by omega) (by omega) hT hP hD hS (lv_sub hl [0, 1, 2] rfl)
      refine lv_iload_n hx hb dX2_addFrom_2 rfl (lv_at hl 0 rfl) ?_
      refine lv_aload_n hx hb dX2_addFrom_3 rfl (lv_at hl 1 rfl) ?_
      obtain ⟨x2, t3, x5, x6, e7, h4⟩ := (show okX2 ad 10 (f 10) from hT.1 10 (by decide))
      refine va_get (D := D) (cl := vwCl) (ci := 2) (v := .ref (ad t3)) (C := RX2) (T := TX2) (N := 10) hx hb hts in_X2_addFrom_X2 hown hK hP 10 (wl_at (by decide) e7) rfl 4 (by decide) (hts (.fieldLink RX2 24 "EightReasons$Loom" "suit" "LEightReasons$Suit;") (List.mem_of_getElem? (i := 1) rfl)) (fun _ h9 => h9) rfl dX2_addFrom_4 ?_
      obtain ⟨x8, x10, x11, x13, x14, e15, h9, h12⟩ := (ty_suit hT h4)
      refine va_get (D := D) (cl := vwCl) (ci := 5) (v := .int x11) (C := RX5) (T := TX5) (N := 12) hx hb hts in_X2_addFrom_X5 hown hK hP t3 (wl_at (x_lt (x_suit0 h4)) e15) rfl 2 (by decide) (hts (.fieldLink RX2 74 "EightReasons$Suit" "strands" "I") (List.mem_of_getElem? (i := 2) rfl)) (fun _ h9 => h9) rfl dX2_addFrom_7 ?_
      refine lv_icmp_ge (tgt := 58) hx hb dX2_addFrom_10 (by decide) (fun c16 => ?_) (fun c16 => ?_)
      · have kc16 := c_le c16
        exact tV hx hb hr hlk hP hS ⟨trivial, hT⟩ dX2_addFrom_58
      · have kc16 := c_nle c16
        refine lv_iload_n hx hb dX2_addFrom_13 rfl (lv_at hl 2 rfl) ?_
        refine lv_aload_n hx hb dX2_addFrom_14 rfl (lv_at hl 1 rfl) ?_
        refine va_get (D := D) (cl := vwCl) (ci := 2) (v := .ref (ad t3)) (C := RX2) (T := TX2) (N := 10) hx hb hts in_X2_addFrom_X2 hown hK hP 10 (wl_at (by decide) e7) rfl 4 (by decide) (hts (.fieldLink RX2 24 "EightReasons$Loom" "suit" "LEightReasons$Suit;") (List.mem_of_getElem? (i := 1) rfl)) (fun _ h9 => h9) rfl dX2_addFrom_15 ?_
        refine va_get (D := D) (cl := vwCl) (ci := 5) (v := .ref (ad (t3 + 4))) (C := RX5) (T := TX5) (N := 12) hx hb hts in_X2_addFrom_X5 hown hK hP t3 (wl_at (x_lt (x_suit0 h4)) e15) rfl 8 (by decide) (hts (.fieldLink RX2 108 "EightReasons$Suit" "source" "[I") (List.mem_of_getElem? (i := 3) rfl)) (fun _ h9 => h9) rfl dX2_addFrom_18 ?_
        refine lv_iload_n hx hb dX2_addFrom_21 rfl (lv_at hl 0 rfl) ?_
        obtain ⟨g19, e17, h18⟩ := (ty_suit4 hT h4)
        refine va_iald hx hb hK hP (t3 + 4) 0 (wl_at (x_lt (x_suit h4 (by decide))) e17) rfl (vp_in_iff.mpr ⟨by omega, by omega⟩) dX2_addFrom_22 ?_
        refine lv_topi (fun x20 ex20 => ?_)
        have hx20 := r_el (h18 _ (Nat.mod_one _)) ex20
        refine tNI (As := [.int p1, .int x20]) (rest := []) (host := RX8) ⟨hx, hb, hml, hown, hts⟩ hK hE hP hD hS hA hAB (s_X8_has_0 l B0 adK adV D cy ad f p1 x20 _) ⟨va_cnB 2 hts gX2_addFrom_X8_has_n77 rfl rfl rfl (hE.2.1 _ (List.mem_of_getElem? (i := 7) rfl)) (hts (.initialized RX8) (List.mem_of_getElem? (i := 8) rfl)) (by decide +kernel) ⟨Nat.le_of_ble_eq_true rfl, Nat.le_of_ble_eq_true rfl⟩, (hts (.static yX8_has) (List.mem_of_getElem? (i := 7) rfl)), trivial⟩ rfl hl.1 rfl (Nat.le_of_ble_eq_true rfl) dX2_addFrom_23 ⟨Nat.le_of_ble_eq_true rfl, Nat.le_of_ble_eq_true rfl⟩ (fun r g H locs hw hP hD hS => ?_)
        obtain ⟨hrs, rfl⟩ := hw
        obtain ⟨x21, rfl⟩ : ∃ q, q = r := ⟨_, rfl⟩
        rcases hrs with rfl | rfl
        · refine lv_if_eq (tgt := 52) hx hb dX2_addFrom_26 (by decide) (fun c => absurd c (by decide)) (fun _ => ?_)
          refine lv_aload_n hx hb dX2_addFrom_29 rfl (lv_at hl 1 rfl) ?_
          refine va_get (D := D) (cl := vwCl) (ci := 2) (v := .ref (ad 12)) (C := RX2) (T := TX2) (N := 10) hx hb hts in_X2_addFrom_X2 hown hK hP 10 (wl_at (by decide) e7) rfl 2 (by decide) (hts (.fieldLink RX2 15 "EightReasons$Loom" "sum" "[I") (List.mem_of_getElem? (i := 4) rfl)) (fun _ h9 => h9) rfl dX2_addFrom_30 ?_
          refine lv_aload_n hx hb dX2_addFrom_33 rfl (lv_at hl 1 rfl) ?_
          refine va_get (D := D) (cl := vwCl) (ci := 2) (v := .ref (ad t3)) (C := RX2) (T := TX2) (N := 10) hx hb hts in_X2_addFrom_X2 hown hK hP 10 (wl_at (by decide) e7) rfl 4 (by decide) (hts (.fieldLink RX2 24 "EightReasons$Loom" "suit" "LEightReasons$Suit;") (List.mem_of_getElem? (i := 1) rfl)) (fun _ h9 => h9) rfl dX2_addFrom_34 ?_
          refine va_get (D := D) (cl := vwCl) (ci := 5) (v := .ref (ad (t3 + 5))) (C := RX5) (T := TX5) (N := 12) hx hb hts in_X2_addFrom_X5 hown hK hP t3 (wl_at (x_lt (x_suit0 h4)) e15) rfl 9 (by decide) (hts (.fieldLink RX2 93 "EightReasons$Suit" "target" "[I") (List.mem_of_getElem? (i := 5) rfl)) (fun _ h9 => h9) rfl dX2_addFrom_37 ?_
          refine lv_iload_n hx hb dX2_addFrom_40 rfl (lv_at hl 0 rfl) ?_
          obtain ⟨g24, e22, h23⟩ := (ty_suit5 hT h4)
          refine va_iald hx hb hK hP (t3 + 5) 0 (wl_at (x_lt (x_suit h4 (by decide))) e22) rfl (vp_in_iff.mpr ⟨by omega, by omega⟩) dX2_addFrom_41 ?_
          refine lv_topi (fun x25 ex25 => ?_)
          have hx25 := r_el (h23 _ (Nat.mod_one _)) ex25
          refine lv_dup2_11 hx hb dX2_addFrom_42 rfl rfl ?_
          obtain ⟨g27, e26⟩ := (show okI cy 10 (f 12) from hT.1 12 (by decide))
          refine va_iald hx hb hK hP 12 0 (wl_at (by decide) e26) rfl (vp_in_iff.mpr ⟨by omega, by omega⟩) dX2_addFrom_43 ?_
          refine lv_topi (fun x28 ex28 => ?_)
          refine lv_aload_n hx hb dX2_addFrom_44 rfl (lv_at hl 1 rfl) ?_
          refine va_get (D := D) (cl := vwCl) (ci := 2) (v := .ref (ad 11)) (C := RX2) (T := TX2) (N := 10) hx hb hts in_X2_addFrom_X2 hown hK hP 10 (wl_at (by decide) e7) rfl 1 (by decide) (hts (.fieldLink RX2 9 "EightReasons$Loom" "load" "[I") (List.mem_of_getElem? (i := 6) rfl)) (fun _ h9 => h9) rfl dX2_addFrom_45 ?_
          refine lv_iload_n hx hb dX2_addFrom_48 rfl (lv_at hl 0 rfl) ?_
          obtain ⟨g30, e29⟩ := (show okI cy 12 (f 11) from hT.1 11 (by decide))
          refine va_iald hx hb hK hP 11 0 (wl_at (by decide) e29) rfl (vp_in_iff.mpr ⟨by omega, by omega⟩) dX2_addFrom_49 ?_
          refine lv_topi (fun x31 ex31 => ?_)
          refine lv_iadd hx hb dX2_addFrom_50 ?_
          refine lv_topi (fun x32 ex32 => ?_)
          refine va_iast hx hb hK hP hD hS 12 0 (wl_at (by decide) e26) rfl (vp_in_iff.mpr ⟨by omega, by omega⟩) dX2_addFrom_51 (fun H locs hP hD hS => ?_)
          obtain ⟨f, hT, hP, hD, e33, hj34⟩ := stU (by decide) (TYx.up hT (by decide) (show OKx ad cy tx rby rnx 12 _ from (show okI cy 10 _ from ⟨_, rfl⟩))) hP hD
          have e35 := (hj34 10 (by decide)).trans e7
          have e36 := (hj34 11 (by decide)).trans e29
          exact j52 f H locs ls (by omega) hT hP hD hS (lv_sub hl [0, 1, 2] rfl)
        · refine lv_if_eq (tgt := 52) hx hb dX2_addFrom_26 (by decide) (fun _ => ?_) (fun c => absurd (by decide) c)
          exact j52 f H locs ls (by omega) hT hP hD hS (lv_sub hl [0, 1, 2] rfl)
  refine lv_iconst (v := 0) hx hb dX2_addFrom_0 (by decide) ?_
  refine lv_istore_n (lv' := [(2, .int 0), (0, .ref (ad 10)), (1, .int p1)]) hx hb dX2_addFrom_1 rfl hl (by decide) rfl (fun ls hl => ?_)
  have ttl_0 := tl_0
  exact j2 (Int.toNat (13 - (0 : Int32).toInt)) f H locs ls (0 : Int32) (by omega) (by omega) hT hP hD hS (lv_sub hl [0, 1, 2] rfl)
set_option maxHeartbeats 4000000 in
set_option maxRecDepth 100000 in
theorem s_X2_clearSums_0 (l : Launch) (B0 : Nat) (adK adV : Nat → Nat) (D : va_G) (cy : Nat → ClassId) (ad : Nat → Nat) (fr0 : Nat → va_E) (tx : Int32) (rby : Int32) (rnx : Int32) (f : Nat → va_E) (hT : TYx ad cy fr0 tx rby rnx f) (sz : Nat) : TtV l yX2_clearSums wsX2_clearSums 0 0 [.ref (ad 10)] B0 adK adV D cy ad f sz (fun (g : Nat → va_E) => True ∧ (TYx ad cy fr0 tx rby rnx g)) := by
  refine TtV.of (cc := cX2_clearSums) (maxL := 2) (own := RX2) (by decide) rfl (Nat.le_of_ble_eq_true rfl) rfl ?_
  intro p e s m below meth c A ls hx hb hr hml hts hown hlk hK hE hP hD hS hA hAB hl
  have hl : lv_has ls 2 [(0, .ref (ad 10))] := hl
  refine st0 (fun H locs hP hS => ?_) hP hS
  have j2 : ∀ (N : Nat) (f : Nat → va_E) (H : Heap) (locs : List Loc) (ls : Array Slot) (v2_l1 : Int32), (11 - v2_l1.toInt ≤ (N : Int)) → (0 ≤ v2_l1.toInt ∧ v2_l1.toInt ≤ 10) → (TYx ad cy fr0 tx rby rnx f) → (va_P D vwCl (wl ad f) H) → (va_D A (wl ad f)) → (va_S A s.heap H locs) → (lv_has ls 2 [(1, .int v2_l1), (0, .ref (ad 10))]) → W p l e (rmO 0 0 0 0) s m ([.ref (ad 10)] : List Value).toArray below meth c H locs 0 0 (MQ below (va_Qv (fun (g : Nat → va_E) => True ∧ (TYx ad cy fr0 tx rby rnx g)) (fun g t => PstT D ad g t) A) ([.ref (ad 10)] : List Value).toArray s 0 0 A) (F0 m 2 ls []) := by
    intro N
    induction N with
    | zero => intro f H locs ls v2_l1 hN hv2_l1 hT hP hD hS hl; exact absurd hN (by omega)
    | succ N ih2 =>
      intro f H locs ls v2_l1 hN hv2_l1 hT hP hD hS hl
      refine lv_iload_n hx hb dX2_clearSums_2 rfl (lv_at hl 0 rfl) ?_
      refine lv_bipush (v := 10) hx hb dX2_clearSums_3 (by decide) ?_
      have ttl_10 := tl_10
      refine lv_icmp_ge (tgt := 21) hx hb dX2_clearSums_5 (by decide) (fun c1 => ?_) (fun c1 => ?_)
      · have kc1 := c_le c1
        exact tV hx hb hr hlk hP hS ⟨trivial, hT⟩ dX2_clearSums_21
      · have kc1 := c_nle c1
        refine lv_aload_n hx hb dX2_clearSums_8 rfl (lv_at hl 1 rfl) ?_
        obtain ⟨x2, t3, x5, x6, e7, h4⟩ := (show okX2 ad 10 (f 10) from hT.1 10 (by decide))
        refine va_get (D := D) (cl := vwCl) (ci := 2) (v := .ref (ad 12)) (C := RX2) (T := TX2) (N := 10) hx hb hts in_X2_clearSums_X2 hown hK hP 10 (wl_at (by decide) e7) rfl 2 (by decide) (hts (.fieldLink RX2 15 "EightReasons$Loom" "sum" "[I") (List.mem_of_getElem? (i := 1) rfl)) (fun _ h9 => h9) rfl dX2_clearSums_9 ?_
        refine lv_iload_n hx hb dX2_clearSums_12 rfl (lv_at hl 0 rfl) ?_
        refine lv_iconst (v := 0) hx hb dX2_clearSums_13 (by decide) ?_
        obtain ⟨g9, e8⟩ := (show okI cy 10 (f 12) from hT.1 12 (by decide))
        have ttl_0 := tl_0
        refine va_iast hx hb hK hP hD hS 12 0 (wl_at (by decide) e8) rfl (vp_in_iff.mpr ⟨by omega, by omega⟩) dX2_clearSums_14 (fun H locs hP hD hS => ?_)
        obtain ⟨f, hT, hP, hD, e10, hj11⟩ := stU (by decide) (TYx.up hT (by decide) (show OKx ad cy tx rby rnx 12 _ from (show okI cy 10 _ from ⟨_, rfl⟩))) hP hD
        have e12 := (hj11 10 (by decide)).trans e7
        obtain ⟨x13, ex13⟩ : ∃ q : Int32, q = v2_l1 + Int32.ofInt (1) := ⟨_, rfl⟩
        refine lv_iinc (v := x13) (lv' := [(1, .int x13), (0, .ref (ad 10))]) hx hb dX2_clearSums_15 hl (k := 0) rfl ex13.symm (by decide) rfl (fun ls hl => ?_)
        have hx13 := r_inc ex13 (by decide) (by omega) (by omega)
        refine lv_goto (tgt := 2) hx hb dX2_clearSums_18 (by decide) ?_
        exact ih2 f H locs ls x13 (by omega) (by omega) hT hP hD hS (lv_sub hl [0, 1] rfl)
  refine lv_iconst (v := 0) hx hb dX2_clearSums_0 (by decide) ?_
  refine lv_istore_n (lv' := [(1, .int 0), (0, .ref (ad 10))]) hx hb dX2_clearSums_1 rfl hl (by decide) rfl (fun ls hl => ?_)
  have ttl_0 := tl_0
  exact j2 (Int.toNat (11 - (0 : Int32).toInt)) f H locs ls (0 : Int32) (by omega) (by omega) hT hP hD hS (lv_sub hl [0, 1] rfl)
set_option maxHeartbeats 4000000 in
set_option maxRecDepth 100000 in
theorem s_X2_enough_0 (l : Launch) (B0 : Nat) (adK adV : Nat → Nat) (D : va_G) (cy : Nat → ClassId) (ad : Nat → Nat) (fr0 : Nat → va_E) (tx : Int32) (rby : Int32) (rnx : Int32) (f : Nat → va_E) (hT : TYx ad cy fr0 tx rby rnx f) (p1 : Int32) (hp1 : 0 ≤ p1.toInt ∧ p1.toInt ≤ 4095) (sz : Nat) : TtI l yX2_enough wsX2_enough 1 21 [.ref (ad 10), .int p1] B0 adK adV D cy ad f sz (fun (r : Int32) (g : Nat → va_E) => (0 ≤ r.toInt ∧ r.toInt ≤ 4095) ∧ (f = g)) := by
  refine TtI.of (cc := cX2_enough) (maxL := 4) (ty := .int) (own := RX2) (by decide) rfl (Nat.le_of_ble_eq_true rfl) rfl ?_
  intro p e s m below meth c A ls hx hb hr hml hts hown hlk hK hE hP hD hS hA hAB hl
  have hl : lv_has ls 4 [(0, .ref (ad 10)), (1, .int p1)] := hl
  refine st0 (fun H locs hP hS => ?_) hP hS
  have j4 : ∀ (N : Nat) (H : Heap) (locs : List Loc) (ls : Array Slot) (v4_l3 : Int32) (v4_l2 : Int32), (11 - v4_l3.toInt ≤ (N : Int)) → (0 ≤ v4_l3.toInt ∧ v4_l3.toInt ≤ 10) → (0 ≤ v4_l2.toInt ∧ v4_l2.toInt ≤ 4095) → (0 ≤ p1.toInt ∧ p1.toInt ≤ 4095) → (va_P D vwCl (wl ad f) H) → (va_D A (wl ad f)) → (va_S A s.heap H locs) → (lv_has ls 4 [(3, .int v4_l3), (2, .int v4_l2), (0, .ref (ad 10)), (1, .int p1)]) → W p l e (rmO 1 21 0 0) s m ([.ref (ad 10), .int p1] : List Value).toArray below meth c H locs 0 0 (MQ below (va_Qi (fun (r : Int32) (g : Nat → va_E) => (0 ≤ r.toInt ∧ r.toInt ≤ 4095) ∧ (f = g)) (fun g t => PstT D ad g t) A) ([.ref (ad 10), .int p1] : List Value).toArray s 0 0 A) (F0 m 4 ls []) := by
    intro N
    induction N with
    | zero => intro H locs ls v4_l3 v4_l2 hN hv4_l3 hv4_l2 hv4_l1 hP hD hS hl; exact absurd hN (by omega)
    | succ N ih4 =>
      intro H locs ls v4_l3 v4_l2 hN hv4_l3 hv4_l2 hv4_l1 hP hD hS hl
      have j44 : ∀ (H : Heap) (locs : List Loc) (ls : Array Slot) (v44_l2 : Int32), (0 ≤ v4_l3.toInt ∧ v4_l3.toInt ≤ 9) → (0 ≤ v44_l2.toInt ∧ v44_l2.toInt ≤ 4095) → (0 ≤ p1.toInt ∧ p1.toInt ≤ 4095) → (va_P D vwCl (wl ad f) H) → (va_D A (wl ad f)) → (va_S A s.heap H locs) → (lv_has ls 4 [(3, .int v4_l3), (2, .int v44_l2), (0, .ref (ad 10)), (1, .int p1)]) → W p l e (rmO 1 21 0 0) s m ([.ref (ad 10), .int p1] : List Value).toArray below meth c H locs 0 0 (MQ below (va_Qi (fun (r : Int32) (g : Nat → va_E) => (0 ≤ r.toInt ∧ r.toInt ≤ 4095) ∧ (f = g)) (fun g t => PstT D ad g t) A) ([.ref (ad 10), .int p1] : List Value).toArray s 0 0 A) (F0 m 44 ls []) := by
        intro H locs ls v44_l2 hv44_l3 hv44_l2 hv44_l1 hP hD hS hl
        obtain ⟨x1, ex1⟩ : ∃ q : Int32, q = v4_l3 + Int32.ofInt (1) := ⟨_, rfl⟩
        refine lv_iinc (v := x1) (lv' := [(3, .int x1), (2, .int v44_l2), (0, .ref (ad 10)), (1, .int p1)]) hx hb dX2_enough_44 hl (k := 0) rfl ex1.symm (by decide) rfl (fun ls hl => ?_)
        have hx1 := r_inc ex1 (by decide) (by omega) (by omega)
        refine lv_goto (tgt := 4) hx hb dX2_enough_47 (by decide) ?_
        exact ih4 H locs ls x1 v44_l2 (by omega) (by omega) (by omega) (by omega) hP hD hS (lv_sub hl [0, 1, 2, 3] rfl)
      refine lv_iload_n hx hb dX2_enough_4 rfl (lv_at hl 0 rfl) ?_
      refine lv_aload_n hx hb dX2_enough_5 rfl (lv_at hl 2 rfl) ?_
      obtain ⟨x2, t3, x5, x6, e7, h4⟩ := (show okX2 ad 10 (f 10) from hT.1 10 (by decide))
      refine va_get (D := D) (cl := vwCl) (ci := 2) (v := .ref (ad t3)) (C := RX2) (T := TX2) (N := 10) hx hb hts in_X2_enough_X2 hown hK hP 10 (wl_at (by decide) e7) rfl 4 (by decide) (hts (.fieldLink RX2 24 "EightReasons$Loom" "suit" "LEightReasons$Suit;") (List.mem_of_getElem? (i := 1) rfl)) (fun _ h9 => h9) rfl dX2_enough_6 ?_
      obtain ⟨x8, x10, x11, x13, x14, e15, h9, h12⟩ := (ty_suit hT h4)
      refine va_get (D := D) (cl := vwCl) (ci := 5) (v := .int x8) (C := RX5) (T := TX5) (N := 12) hx hb hts in_X2_enough_X5 hown hK hP t3 (wl_at (x_lt (x_suit0 h4)) e15) rfl 0 (by decide) (hts (.fieldLink RX2 139 "EightReasons$Suit" "points" "I") (List.mem_of_getElem? (i := 2) rfl)) (fun _ h9 => h9) rfl dX2_enough_9 ?_
      refine lv_icmp_ge (tgt := 50) hx hb dX2_enough_12 (by decide) (fun c16 => ?_) (fun c16 => ?_)
      · have kc16 := c_le c16
        refine lv_iload_n hx hb dX2_enough_50 rfl (lv_at hl 1 rfl) ?_
        exact tI hx hb hr hlk rfl hP hS ⟨(by omega), rfl⟩ dX2_enough_51
      · have kc16 := c_nle c16
        refine lv_iload_n hx hb dX2_enough_15 rfl (lv_at hl 3 rfl) ?_
        refine lv_iload_n hx hb dX2_enough_16 rfl (lv_at hl 0 rfl) ?_
        refine tNI (As := [.int p1, .int v4_l3]) (rest := []) (host := RX8) ⟨hx, hb, hml, hown, hts⟩ hK hE hP hD hS hA hAB (s_X8_has_0 l B0 adK adV D cy ad f p1 v4_l3 _) ⟨va_cnB 2 hts gX2_enough_X8_has_n77 rfl rfl rfl (hE.2.1 _ (List.mem_of_getElem? (i := 7) rfl)) (hts (.initialized RX8) (List.mem_of_getElem? (i := 6) rfl)) (by decide +kernel) ⟨Nat.le_of_ble_eq_true rfl, Nat.le_of_ble_eq_true rfl⟩, (hts (.static yX8_has) (List.mem_of_getElem? (i := 5) rfl)), trivial⟩ rfl hl.1 rfl (Nat.le_of_ble_eq_true rfl) dX2_enough_17 ⟨Nat.le_of_ble_eq_true rfl, Nat.le_of_ble_eq_true rfl⟩ (fun r g H locs hw hP hD hS => ?_)
        obtain ⟨hrs, rfl⟩ := hw
        obtain ⟨x17, rfl⟩ : ∃ q, q = r := ⟨_, rfl⟩
        rcases hrs with rfl | rfl
        · refine lv_if_eq (tgt := 44) hx hb dX2_enough_20 (by decide) (fun c => absurd c (by decide)) (fun _ => ?_)
          refine lv_aload_n hx hb dX2_enough_23 rfl (lv_at hl 2 rfl) ?_
          refine va_get (D := D) (cl := vwCl) (ci := 2) (v := .ref (ad 12)) (C := RX2) (T := TX2) (N := 10) hx hb hts in_X2_enough_X2 hown hK hP 10 (wl_at (by decide) e7) rfl 2 (by decide) (hts (.fieldLink RX2 15 "EightReasons$Loom" "sum" "[I") (List.mem_of_getElem? (i := 3) rfl)) (fun _ h9 => h9) rfl dX2_enough_24 ?_
          refine lv_iload_n hx hb dX2_enough_27 rfl (lv_at hl 0 rfl) ?_
          obtain ⟨g19, e18⟩ := (show okI cy 10 (f 12) from hT.1 12 (by decide))
          refine va_iald hx hb hK hP 12 0 (wl_at (by decide) e18) rfl (vp_in_iff.mpr ⟨by omega, by omega⟩) dX2_enough_28 ?_
          refine lv_topi (fun x20 ex20 => ?_)
          refine lv_aload_n hx hb dX2_enough_29 rfl (lv_at hl 2 rfl) ?_
          refine va_get (D := D) (cl := vwCl) (ci := 2) (v := .ref (ad 15)) (C := RX2) (T := TX2) (N := 10) hx hb hts in_X2_enough_X2 hown hK hP 10 (wl_at (by decide) e7) rfl 7 (by decide) (hts (.fieldLink RX2 31 "EightReasons$Loom" "needs" "[I") (List.mem_of_getElem? (i := 4) rfl)) (fun _ h9 => h9) rfl dX2_enough_30 ?_
          refine lv_iload_n hx hb dX2_enough_33 rfl (lv_at hl 0 rfl) ?_
          obtain ⟨g22, e21⟩ := (show okI cy 10 (f 15) from hT.1 15 (by decide))
          refine va_iald hx hb hK hP 15 0 (wl_at (by decide) e21) rfl (vp_in_iff.mpr ⟨by omega, by omega⟩) dX2_enough_34 ?_
          refine lv_topi (fun x23 ex23 => ?_)
          refine lv_icmp_lt (tgt := 44) hx hb dX2_enough_35 (by decide) (fun c24 => ?_) (fun c24 => ?_)
          · have kc24 := c_lt c24
            exact j44 H locs ls v4_l2 (by omega) (by omega) (by omega) hP hD hS (lv_sub hl [0, 1, 2, 3] rfl)
          · have kc24 := c_nlt c24
            refine lv_iload_n hx hb dX2_enough_38 rfl (lv_at hl 1 rfl) ?_
            refine lv_iconst (v := 1) hx hb dX2_enough_39 (by decide) ?_
            refine lv_iload_n hx hb dX2_enough_40 rfl (lv_at hl 0 rfl) ?_
            refine lv_ishl hx hb dX2_enough_41 ?_
            refine lv_topi (fun x25 ex25 => ?_)
            have hx25 := r_shl (K := 9) (M := 512) ex25 (by decide) (by decide) (by omega) (by omega)
            refine lv_ior hx hb dX2_enough_42 ?_
            refine lv_topi (fun x26 ex26 => ?_)
            have hx26 := r_or (k := 12) (K := 4096) ex26 (by decide) (by decide) (by omega) (by omega) (by omega) (by omega)
            refine lv_istore_n (lv' := [(2, .int x26), (3, .int v4_l3), (0, .ref (ad 10)), (1, .int p1)]) hx hb dX2_enough_43 rfl hl (by decide) rfl (fun ls hl => ?_)
            exact j44 H locs ls x26 (by omega) (by omega) (by omega) hP hD hS (lv_sub hl [1, 0, 2, 3] rfl)
        · refine lv_if_eq (tgt := 44) hx hb dX2_enough_20 (by decide) (fun _ => ?_) (fun c => absurd (by decide) c)
          exact j44 H locs ls v4_l2 (by omega) (by omega) (by omega) hP hD hS (lv_sub hl [0, 1, 2, 3] rfl)
  refine lv_iconst (v := 0) hx hb dX2_enough_0 (by decide) ?_
  refine lv_istore_n (lv' := [(2, .int 0), (0, .ref (ad 10)), (1, .int p1)]) hx hb dX2_enough_1 rfl hl (by decide) rfl (fun ls hl => ?_)
  refine lv_iconst (v := 0) hx hb dX2_enough_2 (by decide) ?_
  refine lv_istore_n (lv' := [(3, .int 0), (2, .int 0), (0, .ref (ad 10)), (1, .int p1)]) hx hb dX2_enough_3 rfl hl (by decide) rfl (fun ls hl => ?_)
  have ttl_0 := tl_0
  exact j4 (Int.toNat (11 - (0 : Int32).toInt)) H locs ls (0 : Int32) (0 : Int32) (by omega) (by omega) (by omega) (by omega) hP hD hS (lv_sub hl [0, 1, 2, 3] rfl)
set_option maxHeartbeats 4000000 in
set_option maxRecDepth 100000 in
theorem s_X2_rankAs_0 (l : Launch) (B0 : Nat) (adK adV : Nat → Nat) (D : va_G) (cy : Nat → ClassId) (ad : Nat → Nat) (fr0 : Nat → va_E) (tx : Int32) (rby : Int32) (rnx : Int32) (f : Nat → va_E) (hT : TYx ad cy fr0 tx rby rnx f) (p1 : Int32) (hp1 : 0 ≤ p1.toInt ∧ p1.toInt ≤ 11) (p2 : Int32) (sz : Nat) : TtV l yX2_rankAs wsX2_rankAs 1 21 [.ref (ad 10), .int p1, .int p2] B0 adK adV D cy ad f sz (fun (g : Nat → va_E) => True ∧ (TYx ad cy fr0 tx rby rnx g)) := by
  refine TtV.of (cc := cX2_rankAs) (maxL := 4) (own := RX2) (by decide) rfl (Nat.le_of_ble_eq_true rfl) rfl ?_
  intro p e s m below meth c A ls hx hb hr hml hts hown hlk hK hE hP hD hS hA hAB hl
  have hl : lv_has ls 4 [(0, .ref (ad 10)), (1, .int p1), (2, .int p2)] := hl
  refine st0 (fun H locs hP hS => ?_) hP hS
  have j2 : ∀ (N : Nat) (f : Nat → va_E) (H : Heap) (locs : List Loc) (ls : Array Slot) (v2_l3 : Int32), (11 - v2_l3.toInt ≤ (N : Int)) → (0 ≤ v2_l3.toInt ∧ v2_l3.toInt ≤ 10) → (0 ≤ p1.toInt ∧ p1.toInt ≤ 11) → (TYx ad cy fr0 tx rby rnx f) → (va_P D vwCl (wl ad f) H) → (va_D A (wl ad f)) → (va_S A s.heap H locs) → (lv_has ls 4 [(3, .int v2_l3), (0, .ref (ad 10)), (1, .int p1), (2, .int p2)]) → W p l e (rmO 1 21 0 0) s m ([.ref (ad 10), .int p1, .int p2] : List Value).toArray below meth c H locs 0 0 (MQ below (va_Qv (fun (g : Nat → va_E) => True ∧ (TYx ad cy fr0 tx rby rnx g)) (fun g t => PstT D ad g t) A) ([.ref (ad 10), .int p1, .int p2] : List Value).toArray s 0 0 A) (F0 m 2 ls []) := by
    intro N
    induction N with
    | zero => intro f H locs ls v2_l3 hN hv2_l3 hv2_l1 hT hP hD hS hl; exact absurd hN (by omega)
    | succ N ih2 =>
      intro f H locs ls v2_l3 hN hv2_l3 hv2_l1 hT hP hD hS hl
      have j28 : ∀ (f : Nat → va_E) (H : Heap) (locs : List Loc) (ls : Array Slot), (0 ≤ v2_l3.toInt ∧ v2_l3.toInt ≤ 9) → (0 ≤ p1.toInt ∧ p1.toInt ≤ 11) → (TYx ad cy fr0 tx rby rnx f) → (va_P D vwCl (wl ad f) H) → (va_D A (wl ad f)) → (va_S A s.heap H locs) → (lv_has ls 4 [(3, .int v2_l3), (0, .ref (ad 10)), (1, .int p1), (2, .int p2)]) → W p l e (rmO 1 21 0 0) s m ([.ref (ad 10), .int p1, .int p2] : List Value).toArray below meth c H locs 0 0 (MQ below (va_Qv (fun (g : Nat → va_E) => True ∧ (TYx ad cy fr0 tx rby rnx g)) (fun g t => PstT D ad g t) A) ([.ref (ad 10), .int p1, .int p2] : List Value).toArray s 0 0 A) (F0 m 28 ls []) := by
        intro f H locs ls hv28_l3 hv28_l1 hT hP hD hS hl
        obtain ⟨x1, ex1⟩ : ∃ q : Int32, q = v2_l3 + Int32.ofInt (1) := ⟨_, rfl⟩
        refine lv_iinc (v := x1) (lv' := [(3, .int x1), (0, .ref (ad 10)), (1, .int p1), (2, .int p2)]) hx hb dX2_rankAs_28 hl (k := 0) rfl ex1.symm (by decide) rfl (fun ls hl => ?_)
        have hx1 := r_inc ex1 (by decide) (by omega) (by omega)
        refine lv_goto (tgt := 2) hx hb dX2_rankAs_31 (by decide) ?_
        exact ih2 f H locs ls x1 (by omega) (by omega) (by omega) hT hP hD hS (lv_sub hl [0, 1, 2, 3] rfl)
      refine lv_iload_n hx hb dX2_rankAs_2 rfl (lv_at hl 0 rfl) ?_
      refine lv_aload_n hx hb dX2_rankAs_3 rfl (lv_at hl 1 rfl) ?_
      obtain ⟨x2, t3, x5, x6, e7, h4⟩ := (show okX2 ad 10 (f 10) from hT.1 10 (by decide))
      refine va_get (D := D) (cl := vwCl) (ci := 2) (v := .ref (ad t3)) (C := RX2) (T := TX2) (N := 10) hx hb hts in_X2_rankAs_X2 hown hK hP 10 (wl_at (by decide) e7) rfl 4 (by decide) (hts (.fieldLink RX2 24 "EightReasons$Loom" "suit" "LEightReasons$Suit;") (List.mem_of_getElem? (i := 1) rfl)) (fun _ h9 => h9) rfl dX2_rankAs_4 ?_
      obtain ⟨x8, x10, x11, x13, x14, e15, h9, h12⟩ := (ty_suit hT h4)
      refine va_get (D := D) (cl := vwCl) (ci := 5) (v := .int x8) (C := RX5) (T := TX5) (N := 12) hx hb hts in_X2_rankAs_X5 hown hK hP t3 (wl_at (x_lt (x_suit0 h4)) e15) rfl 0 (by decide) (hts (.fieldLink RX2 139 "EightReasons$Suit" "points" "I") (List.mem_of_getElem? (i := 2) rfl)) (fun _ h9 => h9) rfl dX2_rankAs_7 ?_
      refine lv_icmp_ge (tgt := 34) hx hb dX2_rankAs_10 (by decide) (fun c16 => ?_) (fun c16 => ?_)
      · have kc16 := c_le c16
        exact tV hx hb hr hlk hP hS ⟨trivial, hT⟩ dX2_rankAs_34
      · have kc16 := c_nle c16
        refine lv_iload_n hx hb dX2_rankAs_13 rfl (lv_at hl 3 rfl) ?_
        refine lv_iload_n hx hb dX2_rankAs_14 rfl (lv_at hl 0 rfl) ?_
        refine tNI (As := [.int p2, .int v2_l3]) (rest := []) (host := RX8) ⟨hx, hb, hml, hown, hts⟩ hK hE hP hD hS hA hAB (s_X8_has_0 l B0 adK adV D cy ad f p2 v2_l3 _) ⟨va_cnB 2 hts gX2_rankAs_X8_has_n77 rfl rfl rfl (hE.2.1 _ (List.mem_of_getElem? (i := 7) rfl)) (hts (.initialized RX8) (List.mem_of_getElem? (i := 5) rfl)) (by decide +kernel) ⟨Nat.le_of_ble_eq_true rfl, Nat.le_of_ble_eq_true rfl⟩, (hts (.static yX8_has) (List.mem_of_getElem? (i := 4) rfl)), trivial⟩ rfl hl.1 rfl (Nat.le_of_ble_eq_true rfl) dX2_rankAs_15 ⟨Nat.le_of_ble_eq_true rfl, Nat.le_of_ble_eq_true rfl⟩ (fun r g H locs hw hP hD hS => ?_)
        obtain ⟨hrs, rfl⟩ := hw
        obtain ⟨x17, rfl⟩ : ∃ q, q = r := ⟨_, rfl⟩
        rcases hrs with rfl | rfl
        · refine lv_if_eq (tgt := 28) hx hb dX2_rankAs_18 (by decide) (fun c => absurd c (by decide)) (fun _ => ?_)
          refine lv_aload_n hx hb dX2_rankAs_21 rfl (lv_at hl 1 rfl) ?_
          refine va_get (D := D) (cl := vwCl) (ci := 2) (v := .ref (ad 13)) (C := RX2) (T := TX2) (N := 10) hx hb hts in_X2_rankAs_X2 hown hK hP 10 (wl_at (by decide) e7) rfl 3 (by decide) (hts (.fieldLink RX2 18 "EightReasons$Loom" "round" "[I") (List.mem_of_getElem? (i := 3) rfl)) (fun _ h9 => h9) rfl dX2_rankAs_22 ?_
          refine lv_iload_n hx hb dX2_rankAs_25 rfl (lv_at hl 0 rfl) ?_
          refine lv_iload_n hx hb dX2_rankAs_26 rfl (lv_at hl 2 rfl) ?_
          obtain ⟨g19, e18⟩ := (show okI cy 10 (f 13) from hT.1 13 (by decide))
          refine va_iast hx hb hK hP hD hS 13 0 (wl_at (by decide) e18) rfl (vp_in_iff.mpr ⟨by omega, by omega⟩) dX2_rankAs_27 (fun H locs hP hD hS => ?_)
          obtain ⟨f, hT, hP, hD, e20, hj21⟩ := stU (by decide) (TYx.up hT (by decide) (show OKx ad cy tx rby rnx 13 _ from (show okI cy 10 _ from ⟨_, rfl⟩))) hP hD
          have e22 := (hj21 10 (by decide)).trans e7
          exact j28 f H locs ls (by omega) (by omega) hT hP hD hS (lv_sub hl [0, 1, 2, 3] rfl)
        · refine lv_if_eq (tgt := 28) hx hb dX2_rankAs_18 (by decide) (fun _ => ?_) (fun c => absurd (by decide) c)
          exact j28 f H locs ls (by omega) (by omega) hT hP hD hS (lv_sub hl [0, 1, 2, 3] rfl)
  refine lv_iconst (v := 0) hx hb dX2_rankAs_0 (by decide) ?_
  refine lv_istore_n (lv' := [(3, .int 0), (0, .ref (ad 10)), (1, .int p1), (2, .int p2)]) hx hb dX2_rankAs_1 rfl hl (by decide) rfl (fun ls hl => ?_)
  have ttl_0 := tl_0
  exact j2 (Int.toNat (11 - (0 : Int32).toInt)) f H locs ls (0 : Int32) (by omega) (by omega) (by omega) hT hP hD hS (lv_sub hl [0, 1, 2, 3] rfl)
set_option maxHeartbeats 4000000 in
set_option maxRecDepth 100000 in
theorem s_X5_claims_0 (l : Launch) (B0 : Nat) (adK adV : Nat → Nat) (D : va_G) (cy : Nat → ClassId) (ad : Nat → Nat) (fr0 : Nat → va_E) (tx : Int32) (rby : Int32) (rnx : Int32) (f : Nat → va_E) (hT : TYx ad cy fr0 tx rby rnx f) (q0 : Nat) (hq0 : isSuit q0) (sz : Nat) : TtI l yX5_claims wsX5_claims 0 0 [.ref (ad q0)] B0 adK adV D cy ad f sz (fun (r : Int32) (g : Nat → va_E) => (0 ≤ r.toInt ∧ r.toInt ≤ 1023) ∧ (f = g)) := by
  refine TtI.of (cc := cX5_claims) (maxL := 1) (ty := .int) (own := RX5) (by decide) rfl (Nat.le_of_ble_eq_true rfl) rfl ?_
  intro p e s m below meth c A ls hx hb hr hml hts hown hlk hK hE hP hD hS hA hAB hl
  have hl : lv_has ls 1 [(0, .ref (ad q0))] := hl
  refine st0 (fun H locs hP hS => ?_) hP hS
  refine lv_iconst (v := 1) hx hb dX5_claims_0 (by decide) ?_
  refine lv_aload_n hx hb dX5_claims_1 rfl (lv_at hl 0 rfl) ?_
  obtain ⟨x1, x3, x4, x6, x7, e8, h2, h5⟩ := (ty_suit hT hq0)
  refine va_get (D := D) (cl := vwCl) (ci := 5) (v := .int x1) (C := RX5) (T := TX5) (N := 12) hx hb hts in_X5_claims_X5 hown hK hP q0 (wl_at (x_lt (x_suit0 hq0)) e8) rfl 0 (by decide) (hts (.fieldLink RX5 37 "EightReasons$Suit" "points" "I") (List.mem_of_getElem? (i := 1) rfl)) (fun _ h9 => h9) rfl dX5_claims_2 ?_
  refine lv_ishl hx hb dX5_claims_5 ?_
  refine lv_topi (fun x9 ex9 => ?_)
  have hx9 := r_shl (K := 10) (M := 1024) ex9 (by decide) (by decide) (by omega) (by omega)
  refine lv_iconst (v := 1) hx hb dX5_claims_6 (by decide) ?_
  have ttl_1 := tl_1
  refine lv_isub hx hb dX5_claims_7 ?_
  refine lv_topi (fun x10 ex10 => ?_)
  have hx10 := r_sub ex10 (by omega) (by omega)
  refine lv_aload_n hx hb dX5_claims_8 rfl (lv_at hl 0 rfl) ?_
  refine va_get (D := D) (cl := vwCl) (ci := 5) (v := .int x3) (C := RX5) (T := TX5) (N := 12) hx hb hts in_X5_claims_X5 hown hK hP q0 (wl_at (x_lt (x_suit0 hq0)) e8) rfl 1 (by decide) (hts (.fieldLink RX5 41 "EightReasons$Suit" "facts" "I") (List.mem_of_getElem? (i := 2) rfl)) (fun _ h9 => h9) rfl dX5_claims_9 ?_
  refine lv_iconst (v := (-1)) hx hb dX5_claims_12 (by decide) ?_
  refine lv_ixor hx hb dX5_claims_13 ?_
  refine lv_topi (fun x11 ex11 => ?_)
  refine lv_iand hx hb dX5_claims_14 ?_
  refine lv_topi (fun x12 ex12 => ?_)
  have hx12 := r_andl ex12 (by omega)
  exact tI hx hb hr hlk rfl hP hS ⟨(by omega), rfl⟩ dX5_claims_15
set_option maxHeartbeats 4000000 in
set_option maxRecDepth 100000 in
theorem s_X2_standing_0 (l : Launch) (B0 : Nat) (adK adV : Nat → Nat) (D : va_G) (cy : Nat → ClassId) (ad : Nat → Nat) (fr0 : Nat → va_E) (tx : Int32) (rby : Int32) (rnx : Int32) (f : Nat → va_E) (hT : TYx ad cy fr0 tx rby rnx f) (p1 : Int32) (sz : Nat) : TtI l yX2_standing wsX2_standing 4 100 [.ref (ad 10), .int p1] B0 adK adV D cy ad f sz (fun (r : Int32) (g : Nat → va_E) => True ∧ (TYx ad cy fr0 tx rby rnx g)) := by
  refine TtI.of (cc := cX2_standing) (maxL := 5) (ty := .int) (own := RX2) (by decide) rfl (Nat.le_of_ble_eq_true rfl) rfl ?_
  intro p e s m below meth c A ls hx hb hr hml hts hown hlk hK hE hP hD hS hA hAB hl
  have hl : lv_has ls 5 [(0, .ref (ad 10)), (1, .int p1)] := hl
  refine st0 (fun H locs hP hS => ?_) hP hS
  have j28 : ∀ (N : Nat) (f : Nat → va_E) (H : Heap) (locs : List Loc) (ls : Array Slot) (v28_l4 : Int32) (v28_l3 : Int32) (v28_l2 : Int32), (13 - v28_l4.toInt ≤ (N : Int)) → (1 ≤ v28_l4.toInt ∧ v28_l4.toInt ≤ 12) → (TYx ad cy fr0 tx rby rnx f) → (va_P D vwCl (wl ad f) H) → (va_D A (wl ad f)) → (va_S A s.heap H locs) → (lv_has ls 5 [(4, .int v28_l4), (3, .int v28_l3), (2, .int v28_l2), (0, .ref (ad 10)), (1, .int p1)]) → W p l e (rmO 4 100 0 0) s m ([.ref (ad 10), .int p1] : List Value).toArray below meth c H locs 0 0 (MQ below (va_Qi (fun (r : Int32) (g : Nat → va_E) => True ∧ (TYx ad cy fr0 tx rby rnx g)) (fun g t => PstT D ad g t) A) ([.ref (ad 10), .int p1] : List Value).toArray s 0 0 A) (F0 m 28 ls []) := by
    intro N
    induction N with
    | zero => intro f H locs ls v28_l4 v28_l3 v28_l2 hN hv28_l4 hT hP hD hS hl; exact absurd hN (by omega)
    | succ N ih28 =>
      intro f H locs ls v28_l4 v28_l3 v28_l2 hN hv28_l4 hT hP hD hS hl
      refine lv_iload hx hb dX2_standing_28 (lv_at hl 0 rfl) ?_
      refine lv_bipush (v := 11) hx hb dX2_standing_30 (by decide) ?_
      have ttl_11 := tl_11
      refine lv_icmp_gt (tgt := 80) hx hb dX2_standing_32 (by decide) (fun c1 => ?_) (fun c1 => ?_)
      · have kc1 := c_lt c1
        refine lv_iload_n hx hb dX2_standing_80 rfl (lv_at hl 2 rfl) ?_
        exact tI hx hb hr hlk rfl hP hS ⟨trivial, hT⟩ dX2_standing_81
      · have kc1 := c_nlt c1
        refine lv_aload_n hx hb dX2_standing_35 rfl (lv_at hl 3 rfl) ?_
        refine lv_iload_n hx hb dX2_standing_36 rfl (lv_at hl 1 rfl) ?_
        obtain ⟨x2, t3, x5, x6, e7, h4⟩ := (show okX2 ad 10 (f 10) from hT.1 10 (by decide))
        refine tVV (As := [.int v28_l3]) (rest := []) (i := 10) ⟨hx, hb, hml, hown, hts⟩ hK hE hP hD hS hA hAB (s_X2_addFrom_0 l B0 adK adV D cy ad fr0 tx rby rnx f hT v28_l3 _) (cwV 1 hts gX2_standing_X2_addFrom rfl rfl rfl (by decide +kernel) ⟨Nat.le_of_ble_eq_true rfl, Nat.le_of_ble_eq_true rfl⟩) (by decide) 2 e7 rfl rfl hl.1 rfl (Nat.le_of_ble_eq_true rfl) dX2_standing_37 ⟨Nat.le_of_ble_eq_true rfl, Nat.le_of_ble_eq_true rfl⟩ (fun f H locs hw hP hD hS => ?_)
        obtain ⟨hrs, hT⟩ := hw
        refine lv_aload_n hx hb dX2_standing_40 rfl (lv_at hl 3 rfl) ?_
        refine lv_aload_n hx hb dX2_standing_41 rfl (lv_at hl 3 rfl) ?_
        obtain ⟨x8, t9, x11, x12, e13, h10⟩ := (show okX2 ad 10 (f 10) from hT.1 10 (by decide))
        refine va_get (D := D) (cl := vwCl) (ci := 2) (v := .ref (ad t9)) (C := RX2) (T := TX2) (N := 10) hx hb hts in_X2_standing_X2 hown hK hP 10 (wl_at (by decide) e13) rfl 4 (by decide) (hts (.fieldLink RX2 24 "EightReasons$Loom" "suit" "LEightReasons$Suit;") (List.mem_of_getElem? (i := 2) rfl)) (fun _ h9 => h9) rfl dX2_standing_42 ?_
        obtain ⟨x14, x16, x17, x19, x20, e21, h15, h18⟩ := (ty_suit hT h10)
        refine tVI (As := []) (rest := [.ref (ad 10)]) (i := t9) ⟨hx, hb, hml, hown, hts⟩ hK hE hP hD hS hA hAB (s_X5_claims_0 l B0 adK adV D cy ad fr0 tx rby rnx f hT t9 h10 _) (cwV 0 hts gX2_standing_X5_claims rfl rfl rfl (by decide +kernel) ⟨Nat.le_of_ble_eq_true rfl, Nat.le_of_ble_eq_true rfl⟩) (x_lt (x_suit0 h10)) 5 e21 rfl rfl hl.1 rfl (Nat.le_of_ble_eq_true rfl) dX2_standing_45 ⟨Nat.le_of_ble_eq_true rfl, Nat.le_of_ble_eq_true rfl⟩ (fun r g H locs hw hP hD hS => ?_)
        obtain ⟨hrs, rfl⟩ := hw
        obtain ⟨x22, rfl⟩ : ∃ q, q = r := ⟨_, rfl⟩
        have h23 := hrs
        refine lv_iload_n hx hb dX2_standing_48 rfl (lv_at hl 2 rfl) ?_
        refine lv_iconst (v := (-1)) hx hb dX2_standing_49 (by decide) ?_
        refine lv_ixor hx hb dX2_standing_50 ?_
        refine lv_topi (fun x24 ex24 => ?_)
        refine lv_iand hx hb dX2_standing_51 ?_
        refine lv_topi (fun x25 ex25 => ?_)
        have hx25 := r_andl ex25 (by omega)
        refine tVI (As := [.int x25]) (rest := []) (i := 10) ⟨hx, hb, hml, hown, hts⟩ hK hE hP hD hS hA hAB (s_X2_enough_0 l B0 adK adV D cy ad fr0 tx rby rnx f hT x25 (by omega) _) (cwV 1 hts gX2_standing_X2_enough rfl rfl rfl (by decide +kernel) ⟨Nat.le_of_ble_eq_true rfl, Nat.le_of_ble_eq_true rfl⟩) (by decide) 2 e13 rfl rfl hl.1 rfl (Nat.le_of_ble_eq_true rfl) dX2_standing_52 ⟨Nat.le_of_ble_eq_true rfl, Nat.le_of_ble_eq_true rfl⟩ (fun r g H locs hw hP hD hS => ?_)
        obtain ⟨hrs, rfl⟩ := hw
        obtain ⟨x26, rfl⟩ : ∃ q, q = r := ⟨_, rfl⟩
        have h27 := hrs
        refine lv_istore_n (lv' := [(3, .int x26), (4, .int v28_l4), (2, .int v28_l2), (0, .ref (ad 10)), (1, .int p1)]) hx hb dX2_standing_55 rfl hl (by decide) rfl (fun ls hl => ?_)
        refine lv_iload_n hx hb dX2_standing_56 rfl (lv_at hl 0 rfl) ?_
        have ttl_0 := tl_0
        refine lv_if_ne (tgt := 63) hx hb dX2_standing_57 (by decide) (fun c28 => ?_) (fun c28 => ?_)
        · have kc28 := c_ne c28
          refine lv_aload_n hx hb dX2_standing_63 rfl (lv_at hl 3 rfl) ?_
          refine lv_iload hx hb dX2_standing_64 (lv_at hl 1 rfl) ?_
          refine lv_iload_n hx hb dX2_standing_66 rfl (lv_at hl 0 rfl) ?_
          refine tVV (As := [.int v28_l4, .int x26]) (rest := []) (i := 10) ⟨hx, hb, hml, hown, hts⟩ hK hE hP hD hS hA hAB (s_X2_rankAs_0 l B0 adK adV D cy ad fr0 tx rby rnx f hT v28_l4 (by omega) x26 _) (cwV 2 hts gX2_standing_X2_rankAs rfl rfl rfl (by decide +kernel) ⟨Nat.le_of_ble_eq_true rfl, Nat.le_of_ble_eq_true rfl⟩) (by decide) 2 e13 rfl rfl hl.1 rfl (Nat.le_of_ble_eq_true rfl) dX2_standing_67 ⟨Nat.le_of_ble_eq_true rfl, Nat.le_of_ble_eq_true rfl⟩ (fun f H locs hw hP hD hS => ?_)
          obtain ⟨hrs, hT⟩ := hw
          refine lv_iload_n hx hb dX2_standing_70 rfl (lv_at hl 2 rfl) ?_
          refine lv_iload_n hx hb dX2_standing_71 rfl (lv_at hl 0 rfl) ?_
          refine lv_ior hx hb dX2_standing_72 ?_
          refine lv_topi (fun x29 ex29 => ?_)
          refine lv_istore_n (lv' := [(2, .int x29), (3, .int x26), (4, .int v28_l4), (0, .ref (ad 10)), (1, .int p1)]) hx hb dX2_standing_73 rfl hl (by decide) rfl (fun ls hl => ?_)
          obtain ⟨x30, ex30⟩ : ∃ q : Int32, q = v28_l4 + Int32.ofInt (1) := ⟨_, rfl⟩
          refine lv_iinc (v := x30) (lv' := [(4, .int x30), (2, .int x29), (3, .int x26), (0, .ref (ad 10)), (1, .int p1)]) hx hb dX2_standing_74 hl (k := 2) rfl ex30.symm (by decide) rfl (fun ls hl => ?_)
          have hx30 := r_inc ex30 (by decide) (by omega) (by omega)
          refine lv_goto (tgt := 28) hx hb dX2_standing_77 (by decide) ?_
          exact ih28 f H locs ls x30 x26 x29 (by omega) (by omega) hT hP hD hS (lv_sub hl [0, 2, 1, 3, 4] rfl)
        · have kc28 := c_eq c28
          refine lv_goto (tgt := 80) hx hb dX2_standing_60 (by decide) ?_
          refine lv_iload_n hx hb dX2_standing_80 rfl (lv_at hl 2 rfl) ?_
          exact tI hx hb hr hlk rfl hP hS ⟨trivial, hT⟩ dX2_standing_81
  refine lv_aload_n hx hb dX2_standing_0 rfl (lv_at hl 0 rfl) ?_
  refine lv_iload_n hx hb dX2_standing_1 rfl (lv_at hl 1 rfl) ?_
  obtain ⟨x31, t32, x34, x35, e36, h33⟩ := (show okX2 ad 10 (f 10) from hT.1 10 (by decide))
  refine tVV (As := [.int p1]) (rest := []) (i := 10) ⟨hx, hb, hml, hown, hts⟩ hK hE hP hD hS hA hAB (s_X2_weigh_0 l B0 adK adV D cy ad fr0 tx rby rnx f hT p1 _) (cwV 1 hts gX2_standing_X2_weigh rfl rfl rfl (by decide +kernel) ⟨Nat.le_of_ble_eq_true rfl, Nat.le_of_ble_eq_true rfl⟩) (by decide) 2 e36 rfl rfl hl.1 rfl (Nat.le_of_ble_eq_true rfl) dX2_standing_2 ⟨Nat.le_of_ble_eq_true rfl, Nat.le_of_ble_eq_true rfl⟩ (fun f H locs hw hP hD hS => ?_)
  obtain ⟨hrs, hT⟩ := hw
  refine lv_aload_n hx hb dX2_standing_5 rfl (lv_at hl 0 rfl) ?_
  obtain ⟨x37, t38, x40, x41, e42, h39⟩ := (show okX2 ad 10 (f 10) from hT.1 10 (by decide))
  refine tVV (As := []) (rest := []) (i := 10) ⟨hx, hb, hml, hown, hts⟩ hK hE hP hD hS hA hAB (s_X2_clearSums_0 l B0 adK adV D cy ad fr0 tx rby rnx f hT _) (cwV 0 hts gX2_standing_X2_clearSums rfl rfl rfl (by decide +kernel) ⟨Nat.le_of_ble_eq_true rfl, Nat.le_of_ble_eq_true rfl⟩) (by decide) 2 e42 rfl rfl hl.1 rfl (Nat.le_of_ble_eq_true rfl) dX2_standing_6 ⟨Nat.le_of_ble_eq_true rfl, Nat.le_of_ble_eq_true rfl⟩ (fun f H locs hw hP hD hS => ?_)
  obtain ⟨hrs, hT⟩ := hw
  refine lv_aload_n hx hb dX2_standing_9 rfl (lv_at hl 0 rfl) ?_
  obtain ⟨x43, t44, x46, x47, e48, h45⟩ := (show okX2 ad 10 (f 10) from hT.1 10 (by decide))
  refine va_get (D := D) (cl := vwCl) (ci := 2) (v := .int x43) (C := RX2) (T := TX2) (N := 10) hx hb hts in_X2_standing_X2 hown hK hP 10 (wl_at (by decide) e48) rfl 0 (by decide) (hts (.fieldLink RX2 46 "EightReasons$Loom" "proved" "I") (List.mem_of_getElem? (i := 1) rfl)) (fun _ h9 => h9) rfl dX2_standing_10 ?_
  refine lv_istore_n (lv' := [(2, .int x43), (0, .ref (ad 10)), (1, .int p1)]) hx hb dX2_standing_13 rfl hl (by decide) rfl (fun ls hl => ?_)
  refine lv_aload_n hx hb dX2_standing_14 rfl (lv_at hl 1 rfl) ?_
  refine va_get (D := D) (cl := vwCl) (ci := 2) (v := .int x43) (C := RX2) (T := TX2) (N := 10) hx hb hts in_X2_standing_X2 hown hK hP 10 (wl_at (by decide) e48) rfl 0 (by decide) (hts (.fieldLink RX2 46 "EightReasons$Loom" "proved" "I") (List.mem_of_getElem? (i := 1) rfl)) (fun _ h9 => h9) rfl dX2_standing_15 ?_
  refine lv_istore_n (lv' := [(3, .int x43), (2, .int x43), (0, .ref (ad 10)), (1, .int p1)]) hx hb dX2_standing_18 rfl hl (by decide) rfl (fun ls hl => ?_)
  refine lv_aload_n hx hb dX2_standing_19 rfl (lv_at hl 2 rfl) ?_
  refine lv_iconst (v := 0) hx hb dX2_standing_20 (by decide) ?_
  refine lv_iload_n hx hb dX2_standing_21 rfl (lv_at hl 0 rfl) ?_
  have ttl_0 := tl_0
  refine tVV (As := [.int 0, .int x43]) (rest := []) (i := 10) ⟨hx, hb, hml, hown, hts⟩ hK hE hP hD hS hA hAB (s_X2_rankAs_0 l B0 adK adV D cy ad fr0 tx rby rnx f hT (0 : Int32) (by omega) x43 _) (cwV 2 hts gX2_standing_X2_rankAs rfl rfl rfl (by decide +kernel) ⟨Nat.le_of_ble_eq_true rfl, Nat.le_of_ble_eq_true rfl⟩) (by decide) 2 e48 rfl rfl hl.1 rfl (Nat.le_of_ble_eq_true rfl) dX2_standing_22 ⟨Nat.le_of_ble_eq_true rfl, Nat.le_of_ble_eq_true rfl⟩ (fun f H locs hw hP hD hS => ?_)
  obtain ⟨hrs, hT⟩ := hw
  refine lv_iconst (v := 1) hx hb dX2_standing_25 (by decide) ?_
  refine lv_istore (lv' := [(4, .int 1), (3, .int x43), (2, .int x43), (0, .ref (ad 10)), (1, .int p1)]) hx hb dX2_standing_26 hl (by decide) rfl (fun ls hl => ?_)
  have ttl_1 := tl_1
  exact j28 (Int.toNat (13 - (1 : Int32).toInt)) f H locs ls (1 : Int32) x43 x43 (by omega) (by omega) hT hP hD hS (lv_sub hl [0, 1, 2, 3, 4] rfl)
set_option maxHeartbeats 4000000 in
set_option maxRecDepth 100000 in
theorem s_X8_claimsWith_0 (l : Launch) (B0 : Nat) (adK adV : Nat → Nat) (D : va_G) (cy : Nat → ClassId) (ad : Nat → Nat) (fr0 : Nat → va_E) (tx : Int32) (rby : Int32) (rnx : Int32) (f : Nat → va_E) (hT : TYx ad cy fr0 tx rby rnx f) (p1 : Int32) (hp1 : 0 ≤ p1.toInt ∧ p1.toInt ≤ 4095) (sz : Nat) : TtI l yX8_claimsWith wsX8_claimsWith 5 124 [.ref (ad 0), .int p1] B0 adK adV D cy ad f sz (fun (r : Int32) (g : Nat → va_E) => (0 ≤ r.toInt ∧ r.toInt ≤ 63) ∧ (TYx ad cy fr0 tx rby rnx g)) := by
  refine TtI.of (cc := cX8_claimsWith) (maxL := 2) (ty := .int) (own := RX8) (by decide) rfl (Nat.le_of_ble_eq_true rfl) rfl ?_
  intro p e s m below meth c A ls hx hb hr hml hts hown hlk hK hE hP hD hS hA hAB hl
  have hl : lv_has ls 2 [(0, .ref (ad 0)), (1, .int p1)] := hl
  refine st0 (fun H locs hP hS => ?_) hP hS
  refine lv_aload_n hx hb dX8_claimsWith_0 rfl (lv_at hl 0 rfl) ?_
  obtain ⟨t1, x3, x4, e6, h2, h5⟩ := (show okX8 ad tx 0 (f 0) from hT.1 0 (by decide))
  refine va_get (D := D) (cl := vwCl) (ci := 8) (v := .ref (ad 10)) (C := RX8) (T := TX8) (N := 13) hx hb hts in_X8_claimsWith_X8 hown hK hP 0 (wl_at (by decide) e6) rfl 6 (by decide) (hts (.fieldLink RX8 44 "EightReasons" "loom" "LEightReasons$Loom;") (List.mem_of_getElem? (i := 1) rfl)) (fun _ h9 => h9) rfl dX8_claimsWith_1 ?_
  refine lv_iload_n hx hb dX8_claimsWith_4 rfl (lv_at hl 1 rfl) ?_
  obtain ⟨x7, t8, x10, x11, e12, h9⟩ := (show okX2 ad 10 (f 10) from hT.1 10 (by decide))
  refine tVI (As := [.int p1]) (rest := []) (i := 10) ⟨hx, hb, hml, hown, hts⟩ hK hE hP hD hS hA hAB (s_X2_standing_0 l B0 adK adV D cy ad fr0 tx rby rnx f hT p1 _) (cwV 1 hts gX8_claimsWith_X2_standing rfl rfl rfl (by decide +kernel) ⟨Nat.le_of_ble_eq_true rfl, Nat.le_of_ble_eq_true rfl⟩) (by decide) 2 e12 rfl rfl hl.1 rfl (Nat.le_of_ble_eq_true rfl) dX8_claimsWith_5 ⟨Nat.le_of_ble_eq_true rfl, Nat.le_of_ble_eq_true rfl⟩ (fun r f H locs hw hP hD hS => ?_)
  obtain ⟨hrs, hT⟩ := hw
  obtain ⟨x13, rfl⟩ : ∃ q, q = r := ⟨_, rfl⟩
  have h14 := hrs
  refine lv_aload_n hx hb dX8_claimsWith_8 rfl (lv_at hl 0 rfl) ?_
  obtain ⟨t15, x17, x18, e20, h16, h19⟩ := (show okX8 ad tx 0 (f 0) from hT.1 0 (by decide))
  refine va_get (D := D) (cl := vwCl) (ci := 8) (v := .ref (ad t15)) (C := RX8) (T := TX8) (N := 13) hx hb hts in_X8_claimsWith_X8 hown hK hP 0 (wl_at (by decide) e20) rfl 1 (by decide) (hts (.fieldLink RX8 19 "EightReasons" "told" "LEightReasons$Suit;") (List.mem_of_getElem? (i := 2) rfl)) (fun _ h9 => h9) rfl dX8_claimsWith_9 ?_
  obtain ⟨x21, x23, x24, x26, x27, e28, h22, h25⟩ := (ty_suit hT h16)
  refine tVI (As := []) (rest := [.int x13]) (i := t15) ⟨hx, hb, hml, hown, hts⟩ hK hE hP hD hS hA hAB (s_X5_claims_0 l B0 adK adV D cy ad fr0 tx rby rnx f hT t15 h16 _) (cwV 0 hts gX8_claimsWith_X5_claims rfl rfl rfl (by decide +kernel) ⟨Nat.le_of_ble_eq_true rfl, Nat.le_of_ble_eq_true rfl⟩) (x_lt (x_suit0 h16)) 5 e28 rfl rfl hl.1 rfl (Nat.le_of_ble_eq_true rfl) dX8_claimsWith_12 ⟨Nat.le_of_ble_eq_true rfl, Nat.le_of_ble_eq_true rfl⟩ (fun r g H locs hw hP hD hS => ?_)
  obtain ⟨hrs, rfl⟩ := hw
  obtain ⟨x29, rfl⟩ : ∃ q, q = r := ⟨_, rfl⟩
  have h30 := hrs
  refine lv_iand hx hb dX8_claimsWith_15 ?_
  refine lv_topi (fun x31 ex31 => ?_)
  have hx31 := r_andr ex31 (by omega)
  refine tSI (As := [.int x31]) (rest := []) ⟨hx, hb, hml, hown, hts⟩ hK hE hP hD hS hA hAB (s_J6_bitCount_0f7a4_0 l B0 adK adV D cy ad f x31 _) (va_cwS 1 hts gX8_claimsWith_J6_bitCount_0f7a4 rfl rfl rfl (by decide +kernel) ⟨Nat.le_of_ble_eq_true rfl, Nat.le_of_ble_eq_true rfl⟩) rfl hl.1 rfl (Nat.le_of_ble_eq_true rfl) dX8_claimsWith_16 ⟨Nat.le_of_ble_eq_true rfl, Nat.le_of_ble_eq_true rfl⟩ (fun r g H locs hw hP hD hS => ?_)
  obtain ⟨hrs, rfl⟩ := hw
  obtain ⟨x32, rfl⟩ : ∃ q, q = r := ⟨_, rfl⟩
  have h33 := hrs
  exact tI hx hb hr hlk rfl hP hS ⟨(by omega), hT⟩ dX8_claimsWith_19
set_option maxHeartbeats 4000000 in
set_option maxRecDepth 100000 in
theorem s_X8_claimsNow_0 (l : Launch) (B0 : Nat) (adK adV : Nat → Nat) (D : va_G) (cy : Nat → ClassId) (ad : Nat → Nat) (fr0 : Nat → va_E) (tx : Int32) (rby : Int32) (rnx : Int32) (f : Nat → va_E) (hT : TYx ad cy fr0 tx rby rnx f) (sz : Nat) : TtI l yX8_claimsNow wsX8_claimsNow 6 145 [.ref (ad 0)] B0 adK adV D cy ad f sz (fun (r : Int32) (g : Nat → va_E) => (0 ≤ r.toInt ∧ r.toInt ≤ 63) ∧ (TYx ad cy fr0 tx rby rnx g)) := by
  refine TtI.of (cc := cX8_claimsNow) (maxL := 1) (ty := .int) (own := RX8) (by decide) rfl (Nat.le_of_ble_eq_true rfl) rfl ?_
  intro p e s m below meth c A ls hx hb hr hml hts hown hlk hK hE hP hD hS hA hAB hl
  have hl : lv_has ls 1 [(0, .ref (ad 0))] := hl
  refine st0 (fun H locs hP hS => ?_) hP hS
  refine lv_aload_n hx hb dX8_claimsNow_0 rfl (lv_at hl 0 rfl) ?_
  obtain ⟨t1, x3, x4, e6, h2, h5⟩ := (show okX8 ad tx 0 (f 0) from hT.1 0 (by decide))
  refine tVV (As := []) (rest := []) (i := 0) ⟨hx, hb, hml, hown, hts⟩ hK hE hP hD hS hA hAB (s_X8_look_0 l B0 adK adV D cy ad fr0 tx rby rnx f hT _) (cwV 0 hts gX8_claimsNow_X8_look rfl rfl rfl (by decide +kernel) ⟨Nat.le_of_ble_eq_true rfl, Nat.le_of_ble_eq_true rfl⟩) (by decide) 8 e6 rfl rfl hl.1 rfl (Nat.le_of_ble_eq_true rfl) dX8_claimsNow_1 ⟨Nat.le_of_ble_eq_true rfl, Nat.le_of_ble_eq_true rfl⟩ (fun f H locs hw hP hD hS => ?_)
  obtain ⟨hrs, hT⟩ := hw
  refine lv_aload_n hx hb dX8_claimsNow_4 rfl (lv_at hl 0 rfl) ?_
  refine lv_aload_n hx hb dX8_claimsNow_5 rfl (lv_at hl 0 rfl) ?_
  obtain ⟨t7, x9, x10, e12, h8, h11⟩ := (show okX8 ad tx 0 (f 0) from hT.1 0 (by decide))
  refine tVR (As := []) (rest := [.ref (ad 0)]) (i := 0) ⟨hx, hb, hml, hown, hts⟩ hK hE hP hD hS hA hAB (s_X8_now_0 l B0 adK adV D cy ad fr0 tx rby rnx f hT _) (cwV 0 hts gX8_claimsNow_X8_now rfl rfl rfl (by decide +kernel) ⟨Nat.le_of_ble_eq_true rfl, Nat.le_of_ble_eq_true rfl⟩) (by decide) 8 e12 rfl rfl hl.1 rfl (Nat.le_of_ble_eq_true rfl) dX8_claimsNow_6 ⟨Nat.le_of_ble_eq_true rfl, Nat.le_of_ble_eq_true rfl⟩ (fun ra g H locs hw hra hP hD hS => ?_)
  obtain ⟨hrs, rfl⟩ := hw
  obtain ⟨t13, h14, rfl⟩ := hra
  obtain ⟨x15, x17, x18, x19, e20, h16⟩ := (ty_state hT h14)
  refine va_get (D := D) (cl := vwCl) (ci := 4) (v := .int x15) (C := RX4) (T := TX4) (N := 5) hx hb hts in_X8_claimsNow_X4 hown hK hP t13 (wl_at (x_lt (x_state0 h14)) e20) rfl 1 (by decide) (hts (.fieldLink RX8 145 "EightReasons$State" "tied" "I") (List.mem_of_getElem? (i := 1) rfl)) (fun _ h9 => h9) rfl dX8_claimsNow_9 ?_
  refine tVI (As := [.int x15]) (rest := []) (i := 0) ⟨hx, hb, hml, hown, hts⟩ hK hE hP hD hS hA hAB (s_X8_claimsWith_0 l B0 adK adV D cy ad fr0 tx rby rnx f hT x15 (by omega) _) (cwV 1 hts gX8_claimsNow_X8_claimsWith rfl rfl rfl (by decide +kernel) ⟨Nat.le_of_ble_eq_true rfl, Nat.le_of_ble_eq_true rfl⟩) (by decide) 8 e12 rfl rfl hl.1 rfl (Nat.le_of_ble_eq_true rfl) dX8_claimsNow_12 ⟨Nat.le_of_ble_eq_true rfl, Nat.le_of_ble_eq_true rfl⟩ (fun r f H locs hw hP hD hS => ?_)
  obtain ⟨hrs, hT⟩ := hw
  obtain ⟨x21, rfl⟩ : ∃ q, q = r := ⟨_, rfl⟩
  have h22 := hrs
  exact tI hx hb hr hlk rfl hP hS ⟨(by omega), hT⟩ dX8_claimsNow_15
set_option maxHeartbeats 4000000 in
set_option maxRecDepth 100000 in
theorem s_X8_isTied_0 (l : Launch) (B0 : Nat) (adK adV : Nat → Nat) (D : va_G) (cy : Nat → ClassId) (ad : Nat → Nat) (fr0 : Nat → va_E) (tx : Int32) (rby : Int32) (rnx : Int32) (f : Nat → va_E) (hT : TYx ad cy fr0 tx rby rnx f) (p1 : Int32) (sz : Nat) : TtI l yX8_isTied wsX8_isTied 2 40 [.ref (ad 0), .int p1] B0 adK adV D cy ad f sz (fun (r : Int32) (g : Nat → va_E) => ((r = 1 ∧ 0 ≤ p1.toInt ∧ p1.toInt ≤ 11) ∨ (r = 0)) ∧ (f = g)) := by
  refine TtI.of (cc := cX8_isTied) (maxL := 2) (ty := .boolean) (own := RX8) (by decide) rfl (Nat.le_of_ble_eq_true rfl) rfl ?_
  intro p e s m below meth c A ls hx hb hr hml hts hown hlk hK hE hP hD hS hA hAB hl
  have hl : lv_has ls 2 [(0, .ref (ad 0)), (1, .int p1)] := hl
  refine st0 (fun H locs hP hS => ?_) hP hS
  refine lv_aload_n hx hb dX8_isTied_0 rfl (lv_at hl 0 rfl) ?_
  obtain ⟨t1, x3, x4, e6, h2, h5⟩ := (show okX8 ad tx 0 (f 0) from hT.1 0 (by decide))
  refine va_get (D := D) (cl := vwCl) (ci := 8) (v := .ref (ad t1)) (C := RX8) (T := TX8) (N := 13) hx hb hts in_X8_isTied_X8 hown hK hP 0 (wl_at (by decide) e6) rfl 1 (by decide) (hts (.fieldLink RX8 19 "EightReasons" "told" "LEightReasons$Suit;") (List.mem_of_getElem? (i := 1) rfl)) (fun _ h9 => h9) rfl dX8_isTied_1 ?_
  refine lv_iload_n hx hb dX8_isTied_4 rfl (lv_at hl 1 rfl) ?_
  obtain ⟨x7, x9, x10, x12, x13, e14, h8, h11⟩ := (ty_suit hT h2)
  refine tVI (As := [.int p1]) (rest := []) (i := t1) ⟨hx, hb, hml, hown, hts⟩ hK hE hP hD hS hA hAB (s_X5_isStrand_0 l B0 adK adV D cy ad fr0 tx rby rnx f hT t1 h2 p1 _) (cwV 1 hts gX8_isTied_X5_isStrand rfl rfl rfl (by decide +kernel) ⟨Nat.le_of_ble_eq_true rfl, Nat.le_of_ble_eq_true rfl⟩) (x_lt (x_suit0 h2)) 5 e14 rfl rfl hl.1 rfl (Nat.le_of_ble_eq_true rfl) dX8_isTied_5 ⟨Nat.le_of_ble_eq_true rfl, Nat.le_of_ble_eq_true rfl⟩ (fun r g H locs hw hP hD hS => ?_)
  obtain ⟨hrs, rfl⟩ := hw
  obtain ⟨x15, rfl⟩ : ∃ q, q = r := ⟨_, rfl⟩
  rcases hrs with ⟨rfl, h16, h17⟩ | rfl
  · refine lv_if_eq (tgt := 29) hx hb dX8_isTied_8 (by decide) (fun c => absurd c (by decide)) (fun _ => ?_)
    refine lv_aload_n hx hb dX8_isTied_11 rfl (lv_at hl 0 rfl) ?_
    refine tVR (As := []) (rest := []) (i := 0) ⟨hx, hb, hml, hown, hts⟩ hK hE hP hD hS hA hAB (s_X8_now_0 l B0 adK adV D cy ad fr0 tx rby rnx f hT _) (cwV 0 hts gX8_isTied_X8_now rfl rfl rfl (by decide +kernel) ⟨Nat.le_of_ble_eq_true rfl, Nat.le_of_ble_eq_true rfl⟩) (by decide) 8 e6 rfl rfl hl.1 rfl (Nat.le_of_ble_eq_true rfl) dX8_isTied_12 ⟨Nat.le_of_ble_eq_true rfl, Nat.le_of_ble_eq_true rfl⟩ (fun ra g H locs hw hra hP hD hS => ?_)
    obtain ⟨hrs, rfl⟩ := hw
    obtain ⟨t18, h19, rfl⟩ := hra
    obtain ⟨x20, x22, x23, x24, e25, h21⟩ := (ty_state hT h19)
    refine va_get (D := D) (cl := vwCl) (ci := 4) (v := .int x20) (C := RX4) (T := TX4) (N := 5) hx hb hts in_X8_isTied_X4 hown hK hP t18 (wl_at (x_lt (x_state0 h19)) e25) rfl 1 (by decide) (hts (.fieldLink RX8 145 "EightReasons$State" "tied" "I") (List.mem_of_getElem? (i := 2) rfl)) (fun _ h9 => h9) rfl dX8_isTied_15 ?_
    refine lv_iload_n hx hb dX8_isTied_18 rfl (lv_at hl 1 rfl) ?_
    refine tSI (As := [.int x20, .int p1]) (rest := []) ⟨hx, hb, hml, hown, hts⟩ hK hE hP hD hS hA hAB (s_X8_has_0 l B0 adK adV D cy ad f x20 p1 _) (va_cwS 2 hts gX8_isTied_X8_has rfl rfl rfl (by decide +kernel) ⟨Nat.le_of_ble_eq_true rfl, Nat.le_of_ble_eq_true rfl⟩) rfl hl.1 rfl (Nat.le_of_ble_eq_true rfl) dX8_isTied_19 ⟨Nat.le_of_ble_eq_true rfl, Nat.le_of_ble_eq_true rfl⟩ (fun r g H locs hw hP hD hS => ?_)
    obtain ⟨hrs, rfl⟩ := hw
    obtain ⟨x26, rfl⟩ : ∃ q, q = r := ⟨_, rfl⟩
    rcases hrs with rfl | rfl
    · refine lv_if_eq (tgt := 29) hx hb dX8_isTied_22 (by decide) (fun c => absurd c (by decide)) (fun _ => ?_)
      refine lv_iconst (v := 1) hx hb dX8_isTied_25 (by decide) ?_
      refine lv_goto (tgt := 30) hx hb dX8_isTied_26 (by decide) ?_
      have ttl_1 := tl_1
      exact tI hx hb hr hlk rfl hP hS ⟨(Or.inl ⟨rfl, by omega, by omega⟩), rfl⟩ dX8_isTied_30
    · refine lv_if_eq (tgt := 29) hx hb dX8_isTied_22 (by decide) (fun _ => ?_) (fun c => absurd (by decide) c)
      refine lv_iconst (v := 0) hx hb dX8_isTied_29 (by decide) ?_
      have ttl_0 := tl_0
      exact tI hx hb hr hlk rfl hP hS ⟨(Or.inr rfl), rfl⟩ dX8_isTied_30
  · refine lv_if_eq (tgt := 29) hx hb dX8_isTied_8 (by decide) (fun _ => ?_) (fun c => absurd (by decide) c)
    refine lv_iconst (v := 0) hx hb dX8_isTied_29 (by decide) ?_
    have ttl_0 := tl_0
    exact tI hx hb hr hlk rfl hP hS ⟨(Or.inr rfl), rfl⟩ dX8_isTied_30
set_option maxHeartbeats 4000000 in
set_option maxRecDepth 100000 in
theorem s_X8_cut_0 (l : Launch) (B0 : Nat) (adK adV : Nat → Nat) (D : va_G) (cy : Nat → ClassId) (ad : Nat → Nat) (fr0 : Nat → va_E) (tx : Int32) (rby : Int32) (rnx : Int32) (f : Nat → va_E) (hT : TYx ad cy fr0 tx rby rnx f) (p1 : Int32) (sz : Nat) : TtI l yX8_cut wsX8_cut 7 165 [.ref (ad 0), .int p1] B0 adK adV D cy ad f sz (fun (r : Int32) (g : Nat → va_E) => (-1 ≤ r.toInt ∧ r.toInt ≤ 63) ∧ (TYx ad cy fr0 tx rby rnx g)) := by
  refine TtI.of (cc := cX8_cut) (maxL := 2) (ty := .int) (own := RX8) (by decide) rfl (Nat.le_of_ble_eq_true rfl) rfl ?_
  intro p e s m below meth c A ls hx hb hr hml hts hown hlk hK hE hP hD hS hA hAB hl
  have hl : lv_has ls 2 [(0, .ref (ad 0)), (1, .int p1)] := hl
  refine st0 (fun H locs hP hS => ?_) hP hS
  refine lv_aload_n hx hb dX8_cut_0 rfl (lv_at hl 0 rfl) ?_
  refine lv_iload_n hx hb dX8_cut_1 rfl (lv_at hl 1 rfl) ?_
  obtain ⟨t1, x3, x4, e6, h2, h5⟩ := (show okX8 ad tx 0 (f 0) from hT.1 0 (by decide))
  refine tVI (As := [.int p1]) (rest := []) (i := 0) ⟨hx, hb, hml, hown, hts⟩ hK hE hP hD hS hA hAB (s_X8_isTied_0 l B0 adK adV D cy ad fr0 tx rby rnx f hT p1 _) (cwV 1 hts gX8_cut_X8_isTied rfl rfl rfl (by decide +kernel) ⟨Nat.le_of_ble_eq_true rfl, Nat.le_of_ble_eq_true rfl⟩) (by decide) 8 e6 rfl rfl hl.1 rfl (Nat.le_of_ble_eq_true rfl) dX8_cut_2 ⟨Nat.le_of_ble_eq_true rfl, Nat.le_of_ble_eq_true rfl⟩ (fun r g H locs hw hP hD hS => ?_)
  obtain ⟨hrs, rfl⟩ := hw
  obtain ⟨x7, rfl⟩ : ∃ q, q = r := ⟨_, rfl⟩
  rcases hrs with ⟨rfl, h8, h9⟩ | rfl
  · refine lv_if_ne (tgt := 10) hx hb dX8_cut_5 (by decide) (fun _ => ?_) (fun c => absurd c (by decide))
    refine lv_aload_n hx hb dX8_cut_10 rfl (lv_at hl 0 rfl) ?_
    refine va_get (D := D) (cl := vwCl) (ci := 8) (v := .ref (ad 5)) (C := RX8) (T := TX8) (N := 13) hx hb hts in_X8_cut_X8 hown hK hP 0 (wl_at (by decide) e6) rfl 2 (by decide) (hts (.fieldLink RX8 26 "EightReasons" "acts" "LEightReasons$Acts;") (List.mem_of_getElem? (i := 1) rfl)) (fun _ h9 => h9) rfl dX8_cut_11 ?_
    obtain ⟨x10, x12, x13, e14, h11⟩ := (show okX0 ad 5 (f 5) from hT.1 5 (by decide))
    refine tVR (As := []) (rest := []) (i := 5) ⟨hx, hb, hml, hown, hts⟩ hK hE hP hD hS hA hAB (s_X0_nextState_0 l B0 adK adV D cy ad fr0 tx rby rnx f hT _) (cwV 0 hts gX8_cut_X0_nextState rfl rfl rfl (by decide +kernel) ⟨Nat.le_of_ble_eq_true rfl, Nat.le_of_ble_eq_true rfl⟩) (by decide) 0 e14 rfl rfl hl.1 rfl (Nat.le_of_ble_eq_true rfl) dX8_cut_14 ⟨Nat.le_of_ble_eq_true rfl, Nat.le_of_ble_eq_true rfl⟩ (fun ra f H locs hw hra hP hD hS => ?_)
    obtain ⟨hrs, hT⟩ := hw
    obtain ⟨t15, h16, rfl⟩ := hra
    refine lv_dup hx hb dX8_cut_17 rfl ?_
    obtain ⟨x17, x19, x20, x21, e22, h18⟩ := (ty_state hT h16)
    refine va_get (D := D) (cl := vwCl) (ci := 4) (v := .int x17) (C := RX4) (T := TX4) (N := 5) hx hb hts in_X8_cut_X4 hown hK hP t15 (wl_at (x_lt (x_state0 h16)) e22) rfl 1 (by decide) (hts (.fieldLink RX8 145 "EightReasons$State" "tied" "I") (List.mem_of_getElem? (i := 2) rfl)) (fun _ h9 => h9) rfl dX8_cut_18 ?_
    refine lv_iconst (v := 1) hx hb dX8_cut_21 (by decide) ?_
    refine lv_iload_n hx hb dX8_cut_22 rfl (lv_at hl 1 rfl) ?_
    refine lv_ishl hx hb dX8_cut_23 ?_
    refine lv_topi (fun x23 ex23 => ?_)
    have hx23 := r_shl (K := 11) (M := 2048) ex23 (by decide) (by decide) (by omega) (by omega)
    refine lv_ixor hx hb dX8_cut_24 ?_
    refine lv_topi (fun x24 ex24 => ?_)
    have hx24 := r_xor (k := 12) (K := 4096) ex24 (by decide) (by decide) (by omega) (by omega) (by omega) (by omega)
    refine va_put (D := D) (cl := vwCl) (ci := 4) (v := .int x24) (ty := tyX4 1) (C := RX4) (T := TX4) (N := 5) hx hb hts in_X8_cut_X4 tyX4 tyX4_ok nmX4 hown hK hP hD hS t15 (wl_at (x_lt (x_state0 h16)) e22) rfl 1 (by decide) (hts (.fieldLink RX8 145 "EightReasons$State" "tied" "I") (List.mem_of_getElem? (i := 2) rfl)) (fun _ h9 => h9) rfl (tyX4_ok 1 (by decide)) rfl rfl (Nat.le_of_ble_eq_true rfl) dX8_cut_25 (fun H locs hP hD hS => ?_)
    obtain ⟨f, hT, hP, hD, e25, hj26⟩ := stU (x_lt (x_state0 h16)) (TYx.up hT (x_state0 h16) (ok_state h16 ⟨x24, x19, x20, x21, rfl, by omega⟩)) hP hD
    refine lv_aload_n hx hb dX8_cut_28 rfl (lv_at hl 0 rfl) ?_
    obtain ⟨t27, x29, x30, e32, h28, h31⟩ := (show okX8 ad tx 0 (f 0) from hT.1 0 (by decide))
    refine tVI (As := []) (rest := []) (i := 0) ⟨hx, hb, hml, hown, hts⟩ hK hE hP hD hS hA hAB (s_X8_claimsNow_0 l B0 adK adV D cy ad fr0 tx rby rnx f hT _) (cwV 0 hts gX8_cut_X8_claimsNow rfl rfl rfl (by decide +kernel) ⟨Nat.le_of_ble_eq_true rfl, Nat.le_of_ble_eq_true rfl⟩) (by decide) 8 e32 rfl rfl hl.1 rfl (Nat.le_of_ble_eq_true rfl) dX8_cut_29 ⟨Nat.le_of_ble_eq_true rfl, Nat.le_of_ble_eq_true rfl⟩ (fun r f H locs hw hP hD hS => ?_)
    obtain ⟨hrs, hT⟩ := hw
    obtain ⟨x33, rfl⟩ : ∃ q, q = r := ⟨_, rfl⟩
    have h34 := hrs
    exact tI hx hb hr hlk rfl hP hS ⟨(by omega), hT⟩ dX8_cut_32
  · refine lv_if_ne (tgt := 10) hx hb dX8_cut_5 (by decide) (fun c => absurd (by decide) c) (fun _ => ?_)
    refine lv_iconst (v := (-1)) hx hb dX8_cut_8 (by decide) ?_
    have ttl_m1 := tl_m1
    exact tI hx hb hr hlk rfl hP hS ⟨(by omega), hT⟩ dX8_cut_9
set_option maxHeartbeats 4000000 in
set_option maxRecDepth 100000 in
theorem s_X8_tie_0 (l : Launch) (B0 : Nat) (adK adV : Nat → Nat) (D : va_G) (cy : Nat → ClassId) (ad : Nat → Nat) (fr0 : Nat → va_E) (tx : Int32) (rby : Int32) (rnx : Int32) (f : Nat → va_E) (hT : TYx ad cy fr0 tx rby rnx f) (p1 : Int32) (sz : Nat) : TtI l yX8_tie wsX8_tie 7 165 [.ref (ad 0), .int p1] B0 adK adV D cy ad f sz (fun (r : Int32) (g : Nat → va_E) => (-1 ≤ r.toInt ∧ r.toInt ≤ 63) ∧ (TYx ad cy fr0 tx rby rnx g)) := by
  refine TtI.of (cc := cX8_tie) (maxL := 2) (ty := .int) (own := RX8) (by decide) rfl (Nat.le_of_ble_eq_true rfl) rfl ?_
  intro p e s m below meth c A ls hx hb hr hml hts hown hlk hK hE hP hD hS hA hAB hl
  have hl : lv_has ls 2 [(0, .ref (ad 0)), (1, .int p1)] := hl
  refine st0 (fun H locs hP hS => ?_) hP hS
  refine lv_aload_n hx hb dX8_tie_0 rfl (lv_at hl 0 rfl) ?_
  obtain ⟨t1, x3, x4, e6, h2, h5⟩ := (show okX8 ad tx 0 (f 0) from hT.1 0 (by decide))
  refine va_get (D := D) (cl := vwCl) (ci := 8) (v := .ref (ad t1)) (C := RX8) (T := TX8) (N := 13) hx hb hts in_X8_tie_X8 hown hK hP 0 (wl_at (by decide) e6) rfl 1 (by decide) (hts (.fieldLink RX8 19 "EightReasons" "told" "LEightReasons$Suit;") (List.mem_of_getElem? (i := 1) rfl)) (fun _ h9 => h9) rfl dX8_tie_1 ?_
  refine lv_iload_n hx hb dX8_tie_4 rfl (lv_at hl 1 rfl) ?_
  obtain ⟨x7, x9, x10, x12, x13, e14, h8, h11⟩ := (ty_suit hT h2)
  refine tVI (As := [.int p1]) (rest := []) (i := t1) ⟨hx, hb, hml, hown, hts⟩ hK hE hP hD hS hA hAB (s_X5_isStrand_0 l B0 adK adV D cy ad fr0 tx rby rnx f hT t1 h2 p1 _) (cwV 1 hts gX8_tie_X5_isStrand rfl rfl rfl (by decide +kernel) ⟨Nat.le_of_ble_eq_true rfl, Nat.le_of_ble_eq_true rfl⟩) (x_lt (x_suit0 h2)) 5 e14 rfl rfl hl.1 rfl (Nat.le_of_ble_eq_true rfl) dX8_tie_5 ⟨Nat.le_of_ble_eq_true rfl, Nat.le_of_ble_eq_true rfl⟩ (fun r g H locs hw hP hD hS => ?_)
  obtain ⟨hrs, rfl⟩ := hw
  obtain ⟨x15, rfl⟩ : ∃ q, q = r := ⟨_, rfl⟩
  rcases hrs with ⟨rfl, h16, h17⟩ | rfl
  · refine lv_if_eq (tgt := 19) hx hb dX8_tie_8 (by decide) (fun c => absurd c (by decide)) (fun _ => ?_)
    refine lv_aload_n hx hb dX8_tie_11 rfl (lv_at hl 0 rfl) ?_
    refine lv_iload_n hx hb dX8_tie_12 rfl (lv_at hl 1 rfl) ?_
    refine tVI (As := [.int p1]) (rest := []) (i := 0) ⟨hx, hb, hml, hown, hts⟩ hK hE hP hD hS hA hAB (s_X8_isTied_0 l B0 adK adV D cy ad fr0 tx rby rnx f hT p1 _) (cwV 1 hts gX8_tie_X8_isTied rfl rfl rfl (by decide +kernel) ⟨Nat.le_of_ble_eq_true rfl, Nat.le_of_ble_eq_true rfl⟩) (by decide) 8 e6 rfl rfl hl.1 rfl (Nat.le_of_ble_eq_true rfl) dX8_tie_13 ⟨Nat.le_of_ble_eq_true rfl, Nat.le_of_ble_eq_true rfl⟩ (fun r g H locs hw hP hD hS => ?_)
    obtain ⟨hrs, rfl⟩ := hw
    obtain ⟨x18, rfl⟩ : ∃ q, q = r := ⟨_, rfl⟩
    rcases hrs with ⟨rfl, h19, h20⟩ | rfl
    · refine lv_if_eq (tgt := 21) hx hb dX8_tie_16 (by decide) (fun c => absurd c (by decide)) (fun _ => ?_)
      refine lv_iconst (v := (-1)) hx hb dX8_tie_19 (by decide) ?_
      have ttl_m1 := tl_m1
      exact tI hx hb hr hlk rfl hP hS ⟨(by omega), hT⟩ dX8_tie_20
    · refine lv_if_eq (tgt := 21) hx hb dX8_tie_16 (by decide) (fun _ => ?_) (fun c => absurd (by decide) c)
      refine lv_aload_n hx hb dX8_tie_21 rfl (lv_at hl 0 rfl) ?_
      refine va_get (D := D) (cl := vwCl) (ci := 8) (v := .ref (ad 5)) (C := RX8) (T := TX8) (N := 13) hx hb hts in_X8_tie_X8 hown hK hP 0 (wl_at (by decide) e6) rfl 2 (by decide) (hts (.fieldLink RX8 26 "EightReasons" "acts" "LEightReasons$Acts;") (List.mem_of_getElem? (i := 2) rfl)) (fun _ h9 => h9) rfl dX8_tie_22 ?_
      obtain ⟨x21, x23, x24, e25, h22⟩ := (show okX0 ad 5 (f 5) from hT.1 5 (by decide))
      refine tVR (As := []) (rest := []) (i := 5) ⟨hx, hb, hml, hown, hts⟩ hK hE hP hD hS hA hAB (s_X0_nextState_0 l B0 adK adV D cy ad fr0 tx rby rnx f hT _) (cwV 0 hts gX8_tie_X0_nextState rfl rfl rfl (by decide +kernel) ⟨Nat.le_of_ble_eq_true rfl, Nat.le_of_ble_eq_true rfl⟩) (by decide) 0 e25 rfl rfl hl.1 rfl (Nat.le_of_ble_eq_true rfl) dX8_tie_25 ⟨Nat.le_of_ble_eq_true rfl, Nat.le_of_ble_eq_true rfl⟩ (fun ra f H locs hw hra hP hD hS => ?_)
      obtain ⟨hrs, hT⟩ := hw
      obtain ⟨t26, h27, rfl⟩ := hra
      refine lv_dup hx hb dX8_tie_28 rfl ?_
      obtain ⟨x28, x30, x31, x32, e33, h29⟩ := (ty_state hT h27)
      refine va_get (D := D) (cl := vwCl) (ci := 4) (v := .int x28) (C := RX4) (T := TX4) (N := 5) hx hb hts in_X8_tie_X4 hown hK hP t26 (wl_at (x_lt (x_state0 h27)) e33) rfl 1 (by decide) (hts (.fieldLink RX8 145 "EightReasons$State" "tied" "I") (List.mem_of_getElem? (i := 3) rfl)) (fun _ h9 => h9) rfl dX8_tie_29 ?_
      refine lv_iconst (v := 1) hx hb dX8_tie_32 (by decide) ?_
      refine lv_iload_n hx hb dX8_tie_33 rfl (lv_at hl 1 rfl) ?_
      refine lv_ishl hx hb dX8_tie_34 ?_
      refine lv_topi (fun x34 ex34 => ?_)
      have hx34 := r_shl (K := 11) (M := 2048) ex34 (by decide) (by decide) (by omega) (by omega)
      refine lv_ixor hx hb dX8_tie_35 ?_
      refine lv_topi (fun x35 ex35 => ?_)
      have hx35 := r_xor (k := 12) (K := 4096) ex35 (by decide) (by decide) (by omega) (by omega) (by omega) (by omega)
      refine va_put (D := D) (cl := vwCl) (ci := 4) (v := .int x35) (ty := tyX4 1) (C := RX4) (T := TX4) (N := 5) hx hb hts in_X8_tie_X4 tyX4 tyX4_ok nmX4 hown hK hP hD hS t26 (wl_at (x_lt (x_state0 h27)) e33) rfl 1 (by decide) (hts (.fieldLink RX8 145 "EightReasons$State" "tied" "I") (List.mem_of_getElem? (i := 3) rfl)) (fun _ h9 => h9) rfl (tyX4_ok 1 (by decide)) rfl rfl (Nat.le_of_ble_eq_true rfl) dX8_tie_36 (fun H locs hP hD hS => ?_)
      obtain ⟨f, hT, hP, hD, e36, hj37⟩ := stU (x_lt (x_state0 h27)) (TYx.up hT (x_state0 h27) (ok_state h27 ⟨x35, x30, x31, x32, rfl, by omega⟩)) hP hD
      refine lv_aload_n hx hb dX8_tie_39 rfl (lv_at hl 0 rfl) ?_
      obtain ⟨t38, x40, x41, e43, h39, h42⟩ := (show okX8 ad tx 0 (f 0) from hT.1 0 (by decide))
      refine tVI (As := []) (rest := []) (i := 0) ⟨hx, hb, hml, hown, hts⟩ hK hE hP hD hS hA hAB (s_X8_claimsNow_0 l B0 adK adV D cy ad fr0 tx rby rnx f hT _) (cwV 0 hts gX8_tie_X8_claimsNow rfl rfl rfl (by decide +kernel) ⟨Nat.le_of_ble_eq_true rfl, Nat.le_of_ble_eq_true rfl⟩) (by decide) 8 e43 rfl rfl hl.1 rfl (Nat.le_of_ble_eq_true rfl) dX8_tie_40 ⟨Nat.le_of_ble_eq_true rfl, Nat.le_of_ble_eq_true rfl⟩ (fun r f H locs hw hP hD hS => ?_)
      obtain ⟨hrs, hT⟩ := hw
      obtain ⟨x44, rfl⟩ : ∃ q, q = r := ⟨_, rfl⟩
      have h45 := hrs
      exact tI hx hb hr hlk rfl hP hS ⟨(by omega), hT⟩ dX8_tie_43
  · refine lv_if_eq (tgt := 19) hx hb dX8_tie_8 (by decide) (fun _ => ?_) (fun c => absurd (by decide) c)
    refine lv_iconst (v := (-1)) hx hb dX8_tie_19 (by decide) ?_
    have ttl_m1 := tl_m1
    exact tI hx hb hr hlk rfl hP hS ⟨(by omega), hT⟩ dX8_tie_20
set_option maxHeartbeats 4000000 in
set_option maxRecDepth 100000 in
theorem s_X8_tighten_0 (l : Launch) (B0 : Nat) (adK adV : Nat → Nat) (D : va_G) (cy : Nat → ClassId) (ad : Nat → Nat) (fr0 : Nat → va_E) (tx : Int32) (rby : Int32) (rnx : Int32) (f : Nat → va_E) (hT : TYx ad cy fr0 tx rby rnx f) (p1 : Int32) (p2 : Int32) (sz : Nat) : TtI l yX8_tighten wsX8_tighten 3 102 [.ref (ad 0), .int p1, .int p2] B0 adK adV D cy ad f sz (fun (r : Int32) (g : Nat → va_E) => True ∧ (TYx ad cy fr0 tx rby rnx g)) := by
  refine TtI.of (cc := cX8_tighten) (maxL := 4) (ty := .int) (own := RX8) (by decide) rfl (Nat.le_of_ble_eq_true rfl) rfl ?_
  intro p e s m below meth c A ls hx hb hr hml hts hown hlk hK hE hP hD hS hA hAB hl
  have hl : lv_has ls 4 [(0, .ref (ad 0)), (1, .int p1), (2, .int p2)] := hl
  refine st0 (fun H locs hP hS => ?_) hP hS
  refine lv_aload_n hx hb dX8_tighten_0 rfl (lv_at hl 0 rfl) ?_
  obtain ⟨t1, x3, x4, e6, h2, h5⟩ := (show okX8 ad tx 0 (f 0) from hT.1 0 (by decide))
  refine va_get (D := D) (cl := vwCl) (ci := 8) (v := .ref (ad t1)) (C := RX8) (T := TX8) (N := 13) hx hb hts in_X8_tighten_X8 hown hK hP 0 (wl_at (by decide) e6) rfl 1 (by decide) (hts (.fieldLink RX8 19 "EightReasons" "told" "LEightReasons$Suit;") (List.mem_of_getElem? (i := 1) rfl)) (fun _ h9 => h9) rfl dX8_tighten_1 ?_
  refine lv_iload_n hx hb dX8_tighten_4 rfl (lv_at hl 1 rfl) ?_
  obtain ⟨x7, x9, x10, x12, x13, e14, h8, h11⟩ := (ty_suit hT h2)
  refine tVI (As := [.int p1]) (rest := []) (i := t1) ⟨hx, hb, hml, hown, hts⟩ hK hE hP hD hS hA hAB (s_X5_isStrand_0 l B0 adK adV D cy ad fr0 tx rby rnx f hT t1 h2 p1 _) (cwV 1 hts gX8_tighten_X5_isStrand rfl rfl rfl (by decide +kernel) ⟨Nat.le_of_ble_eq_true rfl, Nat.le_of_ble_eq_true rfl⟩) (x_lt (x_suit0 h2)) 5 e14 rfl rfl hl.1 rfl (Nat.le_of_ble_eq_true rfl) dX8_tighten_5 ⟨Nat.le_of_ble_eq_true rfl, Nat.le_of_ble_eq_true rfl⟩ (fun r g H locs hw hP hD hS => ?_)
  obtain ⟨hrs, rfl⟩ := hw
  obtain ⟨x15, rfl⟩ : ∃ q, q = r := ⟨_, rfl⟩
  rcases hrs with ⟨rfl, h16, h17⟩ | rfl
  · refine lv_if_eq (tgt := 21) hx hb dX8_tighten_8 (by decide) (fun c => absurd c (by decide)) (fun _ => ?_)
    refine lv_iload_n hx hb dX8_tighten_11 rfl (lv_at hl 2 rfl) ?_
    have ttl_0 := tl_0
    refine lv_if_lt (tgt := 21) hx hb dX8_tighten_12 (by decide) (fun c18 => ?_) (fun c18 => ?_)
    · have kc18 := c_lt c18
      refine lv_iconst (v := (-1)) hx hb dX8_tighten_21 (by decide) ?_
      have ttl_m1 := tl_m1
      exact tI hx hb hr hlk rfl hP hS ⟨trivial, hT⟩ dX8_tighten_22
    · have kc18 := c_nlt c18
      refine lv_iload_n hx hb dX8_tighten_15 rfl (lv_at hl 2 rfl) ?_
      refine lv_bipush (v := 20) hx hb dX8_tighten_16 (by decide) ?_
      have ttl_20 := tl_20
      refine lv_icmp_le (tgt := 23) hx hb dX8_tighten_18 (by decide) (fun c19 => ?_) (fun c19 => ?_)
      · have kc19 := c_le c19
        refine lv_aload_n hx hb dX8_tighten_23 rfl (lv_at hl 0 rfl) ?_
        refine tVR (As := []) (rest := []) (i := 0) ⟨hx, hb, hml, hown, hts⟩ hK hE hP hD hS hA hAB (s_X8_now_0 l B0 adK adV D cy ad fr0 tx rby rnx f hT _) (cwV 0 hts gX8_tighten_X8_now rfl rfl rfl (by decide +kernel) ⟨Nat.le_of_ble_eq_true rfl, Nat.le_of_ble_eq_true rfl⟩) (by decide) 8 e6 rfl rfl hl.1 rfl (Nat.le_of_ble_eq_true rfl) dX8_tighten_24 ⟨Nat.le_of_ble_eq_true rfl, Nat.le_of_ble_eq_true rfl⟩ (fun ra g H locs hw hra hP hD hS => ?_)
        obtain ⟨hrs, rfl⟩ := hw
        obtain ⟨t20, h21, rfl⟩ := hra
        obtain ⟨x22, x24, x25, x26, e27, h23⟩ := (ty_state hT h21)
        refine va_get (D := D) (cl := vwCl) (ci := 4) (v := .ref (ad (t20 + 1))) (C := RX4) (T := TX4) (N := 5) hx hb hts in_X8_tighten_X4 hown hK hP t20 (wl_at (x_lt (x_state0 h21)) e27) rfl 0 (by decide) (hts (.fieldLink RX8 142 "EightReasons$State" "strong" "[I") (List.mem_of_getElem? (i := 2) rfl)) (fun _ h9 => h9) rfl dX8_tighten_27 ?_
        refine lv_iload_n hx hb dX8_tighten_30 rfl (lv_at hl 1 rfl) ?_
        obtain ⟨g29, e28⟩ := (ty_strow hT h21)
        refine va_iald hx hb hK hP (t20 + 1) 0 (wl_at (x_lt (x_state h21 (by decide))) e28) rfl (vp_in_iff.mpr ⟨by omega, by omega⟩) dX8_tighten_31 ?_
        refine lv_topi (fun x30 ex30 => ?_)
        refine lv_istore_n (lv' := [(3, .int x30), (0, .ref (ad 0)), (1, .int p1), (2, .int p2)]) hx hb dX8_tighten_32 rfl hl (by decide) rfl (fun ls hl => ?_)
        refine lv_iload_n hx hb dX8_tighten_33 rfl (lv_at hl 0 rfl) ?_
        refine lv_iload_n hx hb dX8_tighten_34 rfl (lv_at hl 3 rfl) ?_
        refine lv_icmp_ne (tgt := 40) hx hb dX8_tighten_35 (by decide) (fun c31 => ?_) (fun c31 => ?_)
        · have kc31 := c_ne c31
          refine lv_aload_n hx hb dX8_tighten_40 rfl (lv_at hl 1 rfl) ?_
          refine va_get (D := D) (cl := vwCl) (ci := 8) (v := .ref (ad 5)) (C := RX8) (T := TX8) (N := 13) hx hb hts in_X8_tighten_X8 hown hK hP 0 (wl_at (by decide) e6) rfl 2 (by decide) (hts (.fieldLink RX8 26 "EightReasons" "acts" "LEightReasons$Acts;") (List.mem_of_getElem? (i := 3) rfl)) (fun _ h9 => h9) rfl dX8_tighten_41 ?_
          obtain ⟨x32, x34, x35, e36, h33⟩ := (show okX0 ad 5 (f 5) from hT.1 5 (by decide))
          refine tVR (As := []) (rest := []) (i := 5) ⟨hx, hb, hml, hown, hts⟩ hK hE hP hD hS hA hAB (s_X0_nextState_0 l B0 adK adV D cy ad fr0 tx rby rnx f hT _) (cwV 0 hts gX8_tighten_X0_nextState rfl rfl rfl (by decide +kernel) ⟨Nat.le_of_ble_eq_true rfl, Nat.le_of_ble_eq_true rfl⟩) (by decide) 0 e36 rfl rfl hl.1 rfl (Nat.le_of_ble_eq_true rfl) dX8_tighten_44 ⟨Nat.le_of_ble_eq_true rfl, Nat.le_of_ble_eq_true rfl⟩ (fun ra f H locs hw hra hP hD hS => ?_)
          obtain ⟨hrs, hT⟩ := hw
          obtain ⟨t37, h38, rfl⟩ := hra
          obtain ⟨x39, x41, x42, x43, e44, h40⟩ := (ty_state hT h38)
          refine va_get (D := D) (cl := vwCl) (ci := 4) (v := .ref (ad (t37 + 1))) (C := RX4) (T := TX4) (N := 5) hx hb hts in_X8_tighten_X4 hown hK hP t37 (wl_at (x_lt (x_state0 h38)) e44) rfl 0 (by decide) (hts (.fieldLink RX8 142 "EightReasons$State" "strong" "[I") (List.mem_of_getElem? (i := 2) rfl)) (fun _ h9 => h9) rfl dX8_tighten_47 ?_
          refine lv_iload_n hx hb dX8_tighten_50 rfl (lv_at hl 2 rfl) ?_
          refine lv_iload_n hx hb dX8_tighten_51 rfl (lv_at hl 3 rfl) ?_
          obtain ⟨g46, e45⟩ := (ty_strow hT h38)
          refine va_iast hx hb hK hP hD hS (t37 + 1) 0 (wl_at (x_lt (x_state h38 (by decide))) e45) rfl (vp_in_iff.mpr ⟨by omega, by omega⟩) dX8_tighten_52 (fun H locs hP hD hS => ?_)
          obtain ⟨f, hT, hP, hD, e47, hj48⟩ := stU (x_lt (x_state h38 (by decide))) (TYx.up hT (x_state h38 (by decide)) (ok_strow h38 ⟨_, rfl⟩)) hP hD
          have e49 := (hj48 t37 (by omega)).trans e44
          refine lv_iload_n hx hb dX8_tighten_53 rfl (lv_at hl 0 rfl) ?_
          exact tI hx hb hr hlk rfl hP hS ⟨trivial, hT⟩ dX8_tighten_54
        · have kc31 := c_eq c31
          refine lv_iconst (v := (-1)) hx hb dX8_tighten_38 (by decide) ?_
          have ttl_m1 := tl_m1
          exact tI hx hb hr hlk rfl hP hS ⟨trivial, hT⟩ dX8_tighten_39
      · have kc19 := c_nle c19
        refine lv_iconst (v := (-1)) hx hb dX8_tighten_21 (by decide) ?_
        have ttl_m1 := tl_m1
        exact tI hx hb hr hlk rfl hP hS ⟨trivial, hT⟩ dX8_tighten_22
  · refine lv_if_eq (tgt := 21) hx hb dX8_tighten_8 (by decide) (fun _ => ?_) (fun c => absurd (by decide) c)
    refine lv_iconst (v := (-1)) hx hb dX8_tighten_21 (by decide) ?_
    have ttl_m1 := tl_m1
    exact tI hx hb hr hlk rfl hP hS ⟨trivial, hT⟩ dX8_tighten_22
set_option maxHeartbeats 4000000 in
set_option maxRecDepth 100000 in
theorem s_X5_isFact_0 (l : Launch) (B0 : Nat) (adK adV : Nat → Nat) (D : va_G) (cy : Nat → ClassId) (ad : Nat → Nat) (fr0 : Nat → va_E) (tx : Int32) (rby : Int32) (rnx : Int32) (f : Nat → va_E) (hT : TYx ad cy fr0 tx rby rnx f) (q0 : Nat) (hq0 : isSuit q0) (p1 : Int32) (sz : Nat) : TtI l yX5_isFact wsX5_isFact 1 21 [.ref (ad q0), .int p1] B0 adK adV D cy ad f sz (fun (r : Int32) (g : Nat → va_E) => ((r = 1 ∧ 0 ≤ p1.toInt ∧ p1.toInt ≤ 9) ∨ (r = 0)) ∧ (f = g)) := by
  refine TtI.of (cc := cX5_isFact) (maxL := 2) (ty := .boolean) (own := RX5) (by decide) rfl (Nat.le_of_ble_eq_true rfl) rfl ?_
  intro p e s m below meth c A ls hx hb hr hml hts hown hlk hK hE hP hD hS hA hAB hl
  have hl : lv_has ls 2 [(0, .ref (ad q0)), (1, .int p1)] := hl
  refine st0 (fun H locs hP hS => ?_) hP hS
  refine lv_aload_n hx hb dX5_isFact_0 rfl (lv_at hl 0 rfl) ?_
  refine lv_iload_n hx hb dX5_isFact_1 rfl (lv_at hl 1 rfl) ?_
  obtain ⟨x1, x3, x4, x6, x7, e8, h2, h5⟩ := (ty_suit hT hq0)
  refine tVI (As := [.int p1]) (rest := []) (i := q0) ⟨hx, hb, hml, hown, hts⟩ hK hE hP hD hS hA hAB (s_X5_isPoint_0 l B0 adK adV D cy ad fr0 tx rby rnx f hT q0 hq0 p1 _) (cwV 1 hts gX5_isFact_X5_isPoint rfl rfl rfl (by decide +kernel) ⟨Nat.le_of_ble_eq_true rfl, Nat.le_of_ble_eq_true rfl⟩) (x_lt (x_suit0 hq0)) 5 e8 rfl rfl hl.1 rfl (Nat.le_of_ble_eq_true rfl) dX5_isFact_2 ⟨Nat.le_of_ble_eq_true rfl, Nat.le_of_ble_eq_true rfl⟩ (fun r g H locs hw hP hD hS => ?_)
  obtain ⟨hrs, rfl⟩ := hw
  obtain ⟨x9, rfl⟩ : ∃ q, q = r := ⟨_, rfl⟩
  rcases hrs with ⟨rfl, h10, h11⟩ | rfl
  · refine lv_if_eq (tgt := 23) hx hb dX5_isFact_5 (by decide) (fun c => absurd c (by decide)) (fun _ => ?_)
    refine lv_aload_n hx hb dX5_isFact_8 rfl (lv_at hl 0 rfl) ?_
    refine va_get (D := D) (cl := vwCl) (ci := 5) (v := .int x3) (C := RX5) (T := TX5) (N := 12) hx hb hts in_X5_isFact_X5 hown hK hP q0 (wl_at (x_lt (x_suit0 hq0)) e8) rfl 1 (by decide) (hts (.fieldLink RX5 41 "EightReasons$Suit" "facts" "I") (List.mem_of_getElem? (i := 1) rfl)) (fun _ h9 => h9) rfl dX5_isFact_9 ?_
    refine lv_iload_n hx hb dX5_isFact_12 rfl (lv_at hl 1 rfl) ?_
    refine tNI (As := [.int x3, .int p1]) (rest := []) (host := RX8) ⟨hx, hb, hml, hown, hts⟩ hK hE hP hD hS hA hAB (s_X8_has_0 l B0 adK adV D cy ad f x3 p1 _) ⟨va_cnB 2 hts gX5_isFact_X8_has_n63 rfl rfl rfl (hE.2.1 _ (List.mem_of_getElem? (i := 12) rfl)) (hts (.initialized RX8) (List.mem_of_getElem? (i := 9) rfl)) (by decide +kernel) ⟨Nat.le_of_ble_eq_true rfl, Nat.le_of_ble_eq_true rfl⟩, (hts (.static yX8_has) (List.mem_of_getElem? (i := 8) rfl)), trivial⟩ rfl hl.1 rfl (Nat.le_of_ble_eq_true rfl) dX5_isFact_13 ⟨Nat.le_of_ble_eq_true rfl, Nat.le_of_ble_eq_true rfl⟩ (fun r g H locs hw hP hD hS => ?_)
    obtain ⟨hrs, rfl⟩ := hw
    obtain ⟨x12, rfl⟩ : ∃ q, q = r := ⟨_, rfl⟩
    rcases hrs with rfl | rfl
    · refine lv_if_eq (tgt := 23) hx hb dX5_isFact_16 (by decide) (fun c => absurd c (by decide)) (fun _ => ?_)
      refine lv_iconst (v := 1) hx hb dX5_isFact_19 (by decide) ?_
      refine lv_goto (tgt := 24) hx hb dX5_isFact_20 (by decide) ?_
      have ttl_1 := tl_1
      exact tI hx hb hr hlk rfl hP hS ⟨(Or.inl ⟨rfl, by omega, by omega⟩), rfl⟩ dX5_isFact_24
    · refine lv_if_eq (tgt := 23) hx hb dX5_isFact_16 (by decide) (fun _ => ?_) (fun c => absurd (by decide) c)
      refine lv_iconst (v := 0) hx hb dX5_isFact_23 (by decide) ?_
      have ttl_0 := tl_0
      exact tI hx hb hr hlk rfl hP hS ⟨(Or.inr rfl), rfl⟩ dX5_isFact_24
  · refine lv_if_eq (tgt := 23) hx hb dX5_isFact_5 (by decide) (fun _ => ?_) (fun c => absurd (by decide) c)
    refine lv_iconst (v := 0) hx hb dX5_isFact_23 (by decide) ?_
    have ttl_0 := tl_0
    exact tI hx hb hr hlk rfl hP hS ⟨(Or.inr rfl), rfl⟩ dX5_isFact_24
set_option maxHeartbeats 4000000 in
set_option maxRecDepth 100000 in
theorem s_X8_isProved_0 (l : Launch) (B0 : Nat) (adK adV : Nat → Nat) (D : va_G) (cy : Nat → ClassId) (ad : Nat → Nat) (fr0 : Nat → va_E) (tx : Int32) (rby : Int32) (rnx : Int32) (f : Nat → va_E) (hT : TYx ad cy fr0 tx rby rnx f) (p1 : Int32) (sz : Nat) : TtI l yX8_isProved wsX8_isProved 2 42 [.ref (ad 0), .int p1] B0 adK adV D cy ad f sz (fun (r : Int32) (g : Nat → va_E) => ((r = 1 ∧ 0 ≤ p1.toInt ∧ p1.toInt ≤ 9) ∨ (r = 0)) ∧ (f = g)) := by
  refine TtI.of (cc := cX8_isProved) (maxL := 2) (ty := .boolean) (own := RX8) (by decide) rfl (Nat.le_of_ble_eq_true rfl) rfl ?_
  intro p e s m below meth c A ls hx hb hr hml hts hown hlk hK hE hP hD hS hA hAB hl
  have hl : lv_has ls 2 [(0, .ref (ad 0)), (1, .int p1)] := hl
  refine st0 (fun H locs hP hS => ?_) hP hS
  refine lv_aload_n hx hb dX8_isProved_0 rfl (lv_at hl 0 rfl) ?_
  obtain ⟨t1, x3, x4, e6, h2, h5⟩ := (show okX8 ad tx 0 (f 0) from hT.1 0 (by decide))
  refine va_get (D := D) (cl := vwCl) (ci := 8) (v := .ref (ad t1)) (C := RX8) (T := TX8) (N := 13) hx hb hts in_X8_isProved_X8 hown hK hP 0 (wl_at (by decide) e6) rfl 1 (by decide) (hts (.fieldLink RX8 19 "EightReasons" "told" "LEightReasons$Suit;") (List.mem_of_getElem? (i := 1) rfl)) (fun _ h9 => h9) rfl dX8_isProved_1 ?_
  refine lv_iload_n hx hb dX8_isProved_4 rfl (lv_at hl 1 rfl) ?_
  obtain ⟨x7, x9, x10, x12, x13, e14, h8, h11⟩ := (ty_suit hT h2)
  refine tVI (As := [.int p1]) (rest := []) (i := t1) ⟨hx, hb, hml, hown, hts⟩ hK hE hP hD hS hA hAB (s_X5_isFact_0 l B0 adK adV D cy ad fr0 tx rby rnx f hT t1 h2 p1 _) (cwV 1 hts gX8_isProved_X5_isFact rfl rfl rfl (by decide +kernel) ⟨Nat.le_of_ble_eq_true rfl, Nat.le_of_ble_eq_true rfl⟩) (x_lt (x_suit0 h2)) 5 e14 rfl rfl hl.1 rfl (Nat.le_of_ble_eq_true rfl) dX8_isProved_5 ⟨Nat.le_of_ble_eq_true rfl, Nat.le_of_ble_eq_true rfl⟩ (fun r g H locs hw hP hD hS => ?_)
  obtain ⟨hrs, rfl⟩ := hw
  obtain ⟨x15, rfl⟩ : ∃ q, q = r := ⟨_, rfl⟩
  rcases hrs with ⟨rfl, h16, h17⟩ | rfl
  · refine lv_if_eq (tgt := 29) hx hb dX8_isProved_8 (by decide) (fun c => absurd c (by decide)) (fun _ => ?_)
    refine lv_aload_n hx hb dX8_isProved_11 rfl (lv_at hl 0 rfl) ?_
    refine tVR (As := []) (rest := []) (i := 0) ⟨hx, hb, hml, hown, hts⟩ hK hE hP hD hS hA hAB (s_X8_now_0 l B0 adK adV D cy ad fr0 tx rby rnx f hT _) (cwV 0 hts gX8_isProved_X8_now rfl rfl rfl (by decide +kernel) ⟨Nat.le_of_ble_eq_true rfl, Nat.le_of_ble_eq_true rfl⟩) (by decide) 8 e6 rfl rfl hl.1 rfl (Nat.le_of_ble_eq_true rfl) dX8_isProved_12 ⟨Nat.le_of_ble_eq_true rfl, Nat.le_of_ble_eq_true rfl⟩ (fun ra g H locs hw hra hP hD hS => ?_)
    obtain ⟨hrs, rfl⟩ := hw
    obtain ⟨t18, h19, rfl⟩ := hra
    obtain ⟨x20, x22, x23, x24, e25, h21⟩ := (ty_state hT h19)
    refine va_get (D := D) (cl := vwCl) (ci := 4) (v := .int x22) (C := RX4) (T := TX4) (N := 5) hx hb hts in_X8_isProved_X4 hown hK hP t18 (wl_at (x_lt (x_state0 h19)) e25) rfl 2 (by decide) (hts (.fieldLink RX8 124 "EightReasons$State" "struck" "I") (List.mem_of_getElem? (i := 2) rfl)) (fun _ h9 => h9) rfl dX8_isProved_15 ?_
    refine lv_iload_n hx hb dX8_isProved_18 rfl (lv_at hl 1 rfl) ?_
    refine tSI (As := [.int x22, .int p1]) (rest := []) ⟨hx, hb, hml, hown, hts⟩ hK hE hP hD hS hA hAB (s_X8_has_0 l B0 adK adV D cy ad f x22 p1 _) (va_cwS 2 hts gX8_isProved_X8_has rfl rfl rfl (by decide +kernel) ⟨Nat.le_of_ble_eq_true rfl, Nat.le_of_ble_eq_true rfl⟩) rfl hl.1 rfl (Nat.le_of_ble_eq_true rfl) dX8_isProved_19 ⟨Nat.le_of_ble_eq_true rfl, Nat.le_of_ble_eq_true rfl⟩ (fun r g H locs hw hP hD hS => ?_)
    obtain ⟨hrs, rfl⟩ := hw
    obtain ⟨x26, rfl⟩ : ∃ q, q = r := ⟨_, rfl⟩
    rcases hrs with rfl | rfl
    · refine lv_if_ne (tgt := 29) hx hb dX8_isProved_22 (by decide) (fun _ => ?_) (fun c => absurd c (by decide))
      refine lv_iconst (v := 0) hx hb dX8_isProved_29 (by decide) ?_
      have ttl_0 := tl_0
      exact tI hx hb hr hlk rfl hP hS ⟨(Or.inr rfl), rfl⟩ dX8_isProved_30
    · refine lv_if_ne (tgt := 29) hx hb dX8_isProved_22 (by decide) (fun c => absurd (by decide) c) (fun _ => ?_)
      refine lv_iconst (v := 1) hx hb dX8_isProved_25 (by decide) ?_
      refine lv_goto (tgt := 30) hx hb dX8_isProved_26 (by decide) ?_
      have ttl_1 := tl_1
      exact tI hx hb hr hlk rfl hP hS ⟨(Or.inl ⟨rfl, by omega, by omega⟩), rfl⟩ dX8_isProved_30
  · refine lv_if_eq (tgt := 29) hx hb dX8_isProved_8 (by decide) (fun _ => ?_) (fun c => absurd (by decide) c)
    refine lv_iconst (v := 0) hx hb dX8_isProved_29 (by decide) ?_
    have ttl_0 := tl_0
    exact tI hx hb hr hlk rfl hP hS ⟨(Or.inr rfl), rfl⟩ dX8_isProved_30
set_option maxHeartbeats 4000000 in
set_option maxRecDepth 100000 in
theorem s_X8_strike_0 (l : Launch) (B0 : Nat) (adK adV : Nat → Nat) (D : va_G) (cy : Nat → ClassId) (ad : Nat → Nat) (fr0 : Nat → va_E) (tx : Int32) (rby : Int32) (rnx : Int32) (f : Nat → va_E) (hT : TYx ad cy fr0 tx rby rnx f) (p1 : Int32) (sz : Nat) : TtI l yX8_strike wsX8_strike 7 165 [.ref (ad 0), .int p1] B0 adK adV D cy ad f sz (fun (r : Int32) (g : Nat → va_E) => (-1 ≤ r.toInt ∧ r.toInt ≤ 63) ∧ (TYx ad cy fr0 tx rby rnx g)) := by
  refine TtI.of (cc := cX8_strike) (maxL := 2) (ty := .int) (own := RX8) (by decide) rfl (Nat.le_of_ble_eq_true rfl) rfl ?_
  intro p e s m below meth c A ls hx hb hr hml hts hown hlk hK hE hP hD hS hA hAB hl
  have hl : lv_has ls 2 [(0, .ref (ad 0)), (1, .int p1)] := hl
  refine st0 (fun H locs hP hS => ?_) hP hS
  refine lv_aload_n hx hb dX8_strike_0 rfl (lv_at hl 0 rfl) ?_
  refine lv_iload_n hx hb dX8_strike_1 rfl (lv_at hl 1 rfl) ?_
  obtain ⟨t1, x3, x4, e6, h2, h5⟩ := (show okX8 ad tx 0 (f 0) from hT.1 0 (by decide))
  refine tVI (As := [.int p1]) (rest := []) (i := 0) ⟨hx, hb, hml, hown, hts⟩ hK hE hP hD hS hA hAB (s_X8_isProved_0 l B0 adK adV D cy ad fr0 tx rby rnx f hT p1 _) (cwV 1 hts gX8_strike_X8_isProved rfl rfl rfl (by decide +kernel) ⟨Nat.le_of_ble_eq_true rfl, Nat.le_of_ble_eq_true rfl⟩) (by decide) 8 e6 rfl rfl hl.1 rfl (Nat.le_of_ble_eq_true rfl) dX8_strike_2 ⟨Nat.le_of_ble_eq_true rfl, Nat.le_of_ble_eq_true rfl⟩ (fun r g H locs hw hP hD hS => ?_)
  obtain ⟨hrs, rfl⟩ := hw
  obtain ⟨x7, rfl⟩ : ∃ q, q = r := ⟨_, rfl⟩
  rcases hrs with ⟨rfl, h8, h9⟩ | rfl
  · refine lv_if_ne (tgt := 10) hx hb dX8_strike_5 (by decide) (fun _ => ?_) (fun c => absurd c (by decide))
    refine lv_aload_n hx hb dX8_strike_10 rfl (lv_at hl 0 rfl) ?_
    refine va_get (D := D) (cl := vwCl) (ci := 8) (v := .ref (ad 5)) (C := RX8) (T := TX8) (N := 13) hx hb hts in_X8_strike_X8 hown hK hP 0 (wl_at (by decide) e6) rfl 2 (by decide) (hts (.fieldLink RX8 26 "EightReasons" "acts" "LEightReasons$Acts;") (List.mem_of_getElem? (i := 1) rfl)) (fun _ h9 => h9) rfl dX8_strike_11 ?_
    obtain ⟨x10, x12, x13, e14, h11⟩ := (show okX0 ad 5 (f 5) from hT.1 5 (by decide))
    refine tVR (As := []) (rest := []) (i := 5) ⟨hx, hb, hml, hown, hts⟩ hK hE hP hD hS hA hAB (s_X0_nextState_0 l B0 adK adV D cy ad fr0 tx rby rnx f hT _) (cwV 0 hts gX8_strike_X0_nextState rfl rfl rfl (by decide +kernel) ⟨Nat.le_of_ble_eq_true rfl, Nat.le_of_ble_eq_true rfl⟩) (by decide) 0 e14 rfl rfl hl.1 rfl (Nat.le_of_ble_eq_true rfl) dX8_strike_14 ⟨Nat.le_of_ble_eq_true rfl, Nat.le_of_ble_eq_true rfl⟩ (fun ra f H locs hw hra hP hD hS => ?_)
    obtain ⟨hrs, hT⟩ := hw
    obtain ⟨t15, h16, rfl⟩ := hra
    refine lv_dup hx hb dX8_strike_17 rfl ?_
    obtain ⟨x17, x19, x20, x21, e22, h18⟩ := (ty_state hT h16)
    refine va_get (D := D) (cl := vwCl) (ci := 4) (v := .int x19) (C := RX4) (T := TX4) (N := 5) hx hb hts in_X8_strike_X4 hown hK hP t15 (wl_at (x_lt (x_state0 h16)) e22) rfl 2 (by decide) (hts (.fieldLink RX8 124 "EightReasons$State" "struck" "I") (List.mem_of_getElem? (i := 2) rfl)) (fun _ h9 => h9) rfl dX8_strike_18 ?_
    refine lv_iconst (v := 1) hx hb dX8_strike_21 (by decide) ?_
    refine lv_iload_n hx hb dX8_strike_22 rfl (lv_at hl 1 rfl) ?_
    refine lv_ishl hx hb dX8_strike_23 ?_
    refine lv_topi (fun x23 ex23 => ?_)
    have hx23 := r_shl (K := 9) (M := 512) ex23 (by decide) (by decide) (by omega) (by omega)
    refine lv_ixor hx hb dX8_strike_24 ?_
    refine lv_topi (fun x24 ex24 => ?_)
    refine va_put (D := D) (cl := vwCl) (ci := 4) (v := .int x24) (ty := tyX4 2) (C := RX4) (T := TX4) (N := 5) hx hb hts in_X8_strike_X4 tyX4 tyX4_ok nmX4 hown hK hP hD hS t15 (wl_at (x_lt (x_state0 h16)) e22) rfl 2 (by decide) (hts (.fieldLink RX8 124 "EightReasons$State" "struck" "I") (List.mem_of_getElem? (i := 2) rfl)) (fun _ h9 => h9) rfl (tyX4_ok 2 (by decide)) rfl rfl (Nat.le_of_ble_eq_true rfl) dX8_strike_25 (fun H locs hP hD hS => ?_)
    obtain ⟨f, hT, hP, hD, e25, hj26⟩ := stU (x_lt (x_state0 h16)) (TYx.up hT (x_state0 h16) (ok_state h16 ⟨x17, x24, x20, x21, rfl, by omega⟩)) hP hD
    refine lv_aload_n hx hb dX8_strike_28 rfl (lv_at hl 0 rfl) ?_
    obtain ⟨t27, x29, x30, e32, h28, h31⟩ := (show okX8 ad tx 0 (f 0) from hT.1 0 (by decide))
    refine tVI (As := []) (rest := []) (i := 0) ⟨hx, hb, hml, hown, hts⟩ hK hE hP hD hS hA hAB (s_X8_claimsNow_0 l B0 adK adV D cy ad fr0 tx rby rnx f hT _) (cwV 0 hts gX8_strike_X8_claimsNow rfl rfl rfl (by decide +kernel) ⟨Nat.le_of_ble_eq_true rfl, Nat.le_of_ble_eq_true rfl⟩) (by decide) 8 e32 rfl rfl hl.1 rfl (Nat.le_of_ble_eq_true rfl) dX8_strike_29 ⟨Nat.le_of_ble_eq_true rfl, Nat.le_of_ble_eq_true rfl⟩ (fun r f H locs hw hP hD hS => ?_)
    obtain ⟨hrs, hT⟩ := hw
    obtain ⟨x33, rfl⟩ : ∃ q, q = r := ⟨_, rfl⟩
    have h34 := hrs
    exact tI hx hb hr hlk rfl hP hS ⟨(by omega), hT⟩ dX8_strike_32
  · refine lv_if_ne (tgt := 10) hx hb dX8_strike_5 (by decide) (fun c => absurd (by decide) c) (fun _ => ?_)
    refine lv_iconst (v := (-1)) hx hb dX8_strike_8 (by decide) ?_
    have ttl_m1 := tl_m1
    exact tI hx hb hr hlk rfl hP hS ⟨(by omega), hT⟩ dX8_strike_9
set_option maxHeartbeats 4000000 in
set_option maxRecDepth 100000 in
theorem s_X8_prove_0 (l : Launch) (B0 : Nat) (adK adV : Nat → Nat) (D : va_G) (cy : Nat → ClassId) (ad : Nat → Nat) (fr0 : Nat → va_E) (tx : Int32) (rby : Int32) (rnx : Int32) (f : Nat → va_E) (hT : TYx ad cy fr0 tx rby rnx f) (p1 : Int32) (sz : Nat) : TtI l yX8_prove wsX8_prove 7 165 [.ref (ad 0), .int p1] B0 adK adV D cy ad f sz (fun (r : Int32) (g : Nat → va_E) => (-1 ≤ r.toInt ∧ r.toInt ≤ 63) ∧ (TYx ad cy fr0 tx rby rnx g)) := by
  refine TtI.of (cc := cX8_prove) (maxL := 2) (ty := .int) (own := RX8) (by decide) rfl (Nat.le_of_ble_eq_true rfl) rfl ?_
  intro p e s m below meth c A ls hx hb hr hml hts hown hlk hK hE hP hD hS hA hAB hl
  have hl : lv_has ls 2 [(0, .ref (ad 0)), (1, .int p1)] := hl
  refine st0 (fun H locs hP hS => ?_) hP hS
  refine lv_aload_n hx hb dX8_prove_0 rfl (lv_at hl 0 rfl) ?_
  obtain ⟨t1, x3, x4, e6, h2, h5⟩ := (show okX8 ad tx 0 (f 0) from hT.1 0 (by decide))
  refine va_get (D := D) (cl := vwCl) (ci := 8) (v := .ref (ad t1)) (C := RX8) (T := TX8) (N := 13) hx hb hts in_X8_prove_X8 hown hK hP 0 (wl_at (by decide) e6) rfl 1 (by decide) (hts (.fieldLink RX8 19 "EightReasons" "told" "LEightReasons$Suit;") (List.mem_of_getElem? (i := 1) rfl)) (fun _ h9 => h9) rfl dX8_prove_1 ?_
  refine lv_iload_n hx hb dX8_prove_4 rfl (lv_at hl 1 rfl) ?_
  obtain ⟨x7, x9, x10, x12, x13, e14, h8, h11⟩ := (ty_suit hT h2)
  refine tVI (As := [.int p1]) (rest := []) (i := t1) ⟨hx, hb, hml, hown, hts⟩ hK hE hP hD hS hA hAB (s_X5_isFact_0 l B0 adK adV D cy ad fr0 tx rby rnx f hT t1 h2 p1 _) (cwV 1 hts gX8_prove_X5_isFact rfl rfl rfl (by decide +kernel) ⟨Nat.le_of_ble_eq_true rfl, Nat.le_of_ble_eq_true rfl⟩) (x_lt (x_suit0 h2)) 5 e14 rfl rfl hl.1 rfl (Nat.le_of_ble_eq_true rfl) dX8_prove_5 ⟨Nat.le_of_ble_eq_true rfl, Nat.le_of_ble_eq_true rfl⟩ (fun r g H locs hw hP hD hS => ?_)
  obtain ⟨hrs, rfl⟩ := hw
  obtain ⟨x15, rfl⟩ : ∃ q, q = r := ⟨_, rfl⟩
  rcases hrs with ⟨rfl, h16, h17⟩ | rfl
  · refine lv_if_eq (tgt := 19) hx hb dX8_prove_8 (by decide) (fun c => absurd c (by decide)) (fun _ => ?_)
    refine lv_aload_n hx hb dX8_prove_11 rfl (lv_at hl 0 rfl) ?_
    refine lv_iload_n hx hb dX8_prove_12 rfl (lv_at hl 1 rfl) ?_
    refine tVI (As := [.int p1]) (rest := []) (i := 0) ⟨hx, hb, hml, hown, hts⟩ hK hE hP hD hS hA hAB (s_X8_isProved_0 l B0 adK adV D cy ad fr0 tx rby rnx f hT p1 _) (cwV 1 hts gX8_prove_X8_isProved rfl rfl rfl (by decide +kernel) ⟨Nat.le_of_ble_eq_true rfl, Nat.le_of_ble_eq_true rfl⟩) (by decide) 8 e6 rfl rfl hl.1 rfl (Nat.le_of_ble_eq_true rfl) dX8_prove_13 ⟨Nat.le_of_ble_eq_true rfl, Nat.le_of_ble_eq_true rfl⟩ (fun r g H locs hw hP hD hS => ?_)
    obtain ⟨hrs, rfl⟩ := hw
    obtain ⟨x18, rfl⟩ : ∃ q, q = r := ⟨_, rfl⟩
    rcases hrs with ⟨rfl, h19, h20⟩ | rfl
    · refine lv_if_eq (tgt := 21) hx hb dX8_prove_16 (by decide) (fun c => absurd c (by decide)) (fun _ => ?_)
      refine lv_iconst (v := (-1)) hx hb dX8_prove_19 (by decide) ?_
      have ttl_m1 := tl_m1
      exact tI hx hb hr hlk rfl hP hS ⟨(by omega), hT⟩ dX8_prove_20
    · refine lv_if_eq (tgt := 21) hx hb dX8_prove_16 (by decide) (fun _ => ?_) (fun c => absurd (by decide) c)
      refine lv_aload_n hx hb dX8_prove_21 rfl (lv_at hl 0 rfl) ?_
      refine va_get (D := D) (cl := vwCl) (ci := 8) (v := .ref (ad 5)) (C := RX8) (T := TX8) (N := 13) hx hb hts in_X8_prove_X8 hown hK hP 0 (wl_at (by decide) e6) rfl 2 (by decide) (hts (.fieldLink RX8 26 "EightReasons" "acts" "LEightReasons$Acts;") (List.mem_of_getElem? (i := 2) rfl)) (fun _ h9 => h9) rfl dX8_prove_22 ?_
      obtain ⟨x21, x23, x24, e25, h22⟩ := (show okX0 ad 5 (f 5) from hT.1 5 (by decide))
      refine tVR (As := []) (rest := []) (i := 5) ⟨hx, hb, hml, hown, hts⟩ hK hE hP hD hS hA hAB (s_X0_nextState_0 l B0 adK adV D cy ad fr0 tx rby rnx f hT _) (cwV 0 hts gX8_prove_X0_nextState rfl rfl rfl (by decide +kernel) ⟨Nat.le_of_ble_eq_true rfl, Nat.le_of_ble_eq_true rfl⟩) (by decide) 0 e25 rfl rfl hl.1 rfl (Nat.le_of_ble_eq_true rfl) dX8_prove_25 ⟨Nat.le_of_ble_eq_true rfl, Nat.le_of_ble_eq_true rfl⟩ (fun ra f H locs hw hra hP hD hS => ?_)
      obtain ⟨hrs, hT⟩ := hw
      obtain ⟨t26, h27, rfl⟩ := hra
      refine lv_dup hx hb dX8_prove_28 rfl ?_
      obtain ⟨x28, x30, x31, x32, e33, h29⟩ := (ty_state hT h27)
      refine va_get (D := D) (cl := vwCl) (ci := 4) (v := .int x30) (C := RX4) (T := TX4) (N := 5) hx hb hts in_X8_prove_X4 hown hK hP t26 (wl_at (x_lt (x_state0 h27)) e33) rfl 2 (by decide) (hts (.fieldLink RX8 124 "EightReasons$State" "struck" "I") (List.mem_of_getElem? (i := 3) rfl)) (fun _ h9 => h9) rfl dX8_prove_29 ?_
      refine lv_iconst (v := 1) hx hb dX8_prove_32 (by decide) ?_
      refine lv_iload_n hx hb dX8_prove_33 rfl (lv_at hl 1 rfl) ?_
      refine lv_ishl hx hb dX8_prove_34 ?_
      refine lv_topi (fun x34 ex34 => ?_)
      have hx34 := r_shl (K := 9) (M := 512) ex34 (by decide) (by decide) (by omega) (by omega)
      refine lv_ixor hx hb dX8_prove_35 ?_
      refine lv_topi (fun x35 ex35 => ?_)
      refine va_put (D := D) (cl := vwCl) (ci := 4) (v := .int x35) (ty := tyX4 2) (C := RX4) (T := TX4) (N := 5) hx hb hts in_X8_prove_X4 tyX4 tyX4_ok nmX4 hown hK hP hD hS t26 (wl_at (x_lt (x_state0 h27)) e33) rfl 2 (by decide) (hts (.fieldLink RX8 124 "EightReasons$State" "struck" "I") (List.mem_of_getElem? (i := 3) rfl)) (fun _ h9 => h9) rfl (tyX4_ok 2 (by decide)) rfl rfl (Nat.le_of_ble_eq_true rfl) dX8_prove_36 (fun H locs hP hD hS => ?_)
      obtain ⟨f, hT, hP, hD, e36, hj37⟩ := stU (x_lt (x_state0 h27)) (TYx.up hT (x_state0 h27) (ok_state h27 ⟨x28, x35, x31, x32, rfl, by omega⟩)) hP hD
      refine lv_aload_n hx hb dX8_prove_39 rfl (lv_at hl 0 rfl) ?_
      obtain ⟨t38, x40, x41, e43, h39, h42⟩ := (show okX8 ad tx 0 (f 0) from hT.1 0 (by decide))
      refine tVI (As := []) (rest := []) (i := 0) ⟨hx, hb, hml, hown, hts⟩ hK hE hP hD hS hA hAB (s_X8_claimsNow_0 l B0 adK adV D cy ad fr0 tx rby rnx f hT _) (cwV 0 hts gX8_prove_X8_claimsNow rfl rfl rfl (by decide +kernel) ⟨Nat.le_of_ble_eq_true rfl, Nat.le_of_ble_eq_true rfl⟩) (by decide) 8 e43 rfl rfl hl.1 rfl (Nat.le_of_ble_eq_true rfl) dX8_prove_40 ⟨Nat.le_of_ble_eq_true rfl, Nat.le_of_ble_eq_true rfl⟩ (fun r f H locs hw hP hD hS => ?_)
      obtain ⟨hrs, hT⟩ := hw
      obtain ⟨x44, rfl⟩ : ∃ q, q = r := ⟨_, rfl⟩
      have h45 := hrs
      exact tI hx hb hr hlk rfl hP hS ⟨(by omega), hT⟩ dX8_prove_43
  · refine lv_if_eq (tgt := 19) hx hb dX8_prove_8 (by decide) (fun _ => ?_) (fun c => absurd (by decide) c)
    refine lv_iconst (v := (-1)) hx hb dX8_prove_19 (by decide) ?_
    have ttl_m1 := tl_m1
    exact tI hx hb hr hlk rfl hP hS ⟨(by omega), hT⟩ dX8_prove_20
set_option maxHeartbeats 4000000 in
set_option maxRecDepth 100000 in
theorem s_X4_pass_0 (l : Launch) (B0 : Nat) (adK adV : Nat → Nat) (D : va_G) (cy : Nat → ClassId) (ad : Nat → Nat) (fr0 : Nat → va_E) (tx : Int32) (rby : Int32) (rnx : Int32) (f : Nat → va_E) (hT : TYx ad cy fr0 tx rby rnx f) (q0 : Nat) (hq0 : isState q0) (q1 : Nat) (hq1 : isSuit q1) (sz : Nat) : TtI l yX4_pass wsX4_pass 1 21 [.ref (ad q0), .ref (ad q1)] B0 adK adV D cy ad f sz (fun (r : Int32) (g : Nat → va_E) => (0 ≤ r.toInt ∧ r.toInt ≤ 4095) ∧ (TYx ad cy fr0 tx rby rnx g)) := by
  refine TtI.of (cc := cX4_pass) (maxL := 4) (ty := .int) (own := RX4) (by decide) rfl (Nat.le_of_ble_eq_true rfl) rfl ?_
  intro p e s m below meth c A ls hx hb hr hml hts hown hlk hK hE hP hD hS hA hAB hl
  have hl : lv_has ls 4 [(0, .ref (ad q0)), (1, .ref (ad q1))] := hl
  refine st0 (fun H locs hP hS => ?_) hP hS
  have j14 : ∀ (N : Nat) (f : Nat → va_E) (H : Heap) (locs : List Loc) (ls : Array Slot) (v14_l3 : Int32) (v14_l2 : Int32), (13 - v14_l3.toInt ≤ (N : Int)) → (0 ≤ v14_l3.toInt ∧ v14_l3.toInt ≤ 12) → (0 ≤ v14_l2.toInt ∧ v14_l2.toInt ≤ 4095) → (TYx ad cy fr0 tx rby rnx f) → (va_P D vwCl (wl ad f) H) → (va_D A (wl ad f)) → (va_S A s.heap H locs) → (lv_has ls 4 [(3, .int v14_l3), (2, .int v14_l2), (0, .ref (ad q0)), (1, .ref (ad q1))]) → W p l e (rmO 1 21 0 0) s m ([.ref (ad q0), .ref (ad q1)] : List Value).toArray below meth c H locs 0 0 (MQ below (va_Qi (fun (r : Int32) (g : Nat → va_E) => (0 ≤ r.toInt ∧ r.toInt ≤ 4095) ∧ (TYx ad cy fr0 tx rby rnx g)) (fun g t => PstT D ad g t) A) ([.ref (ad q0), .ref (ad q1)] : List Value).toArray s 0 0 A) (F0 m 14 ls []) := by
    intro N
    induction N with
    | zero => intro f H locs ls v14_l3 v14_l2 hN hv14_l3 hv14_l2 hT hP hD hS hl; exact absurd hN (by omega)
    | succ N ih14 =>
      intro f H locs ls v14_l3 v14_l2 hN hv14_l3 hv14_l2 hT hP hD hS hl
      have j91 : ∀ (f : Nat → va_E) (H : Heap) (locs : List Loc) (ls : Array Slot) (v91_l2 : Int32), (0 ≤ v14_l3.toInt ∧ v14_l3.toInt ≤ 11) → (0 ≤ v91_l2.toInt ∧ v91_l2.toInt ≤ 4095) → (TYx ad cy fr0 tx rby rnx f) → (va_P D vwCl (wl ad f) H) → (va_D A (wl ad f)) → (va_S A s.heap H locs) → (lv_has ls 4 [(3, .int v14_l3), (2, .int v91_l2), (0, .ref (ad q0)), (1, .ref (ad q1))]) → W p l e (rmO 1 21 0 0) s m ([.ref (ad q0), .ref (ad q1)] : List Value).toArray below meth c H locs 0 0 (MQ below (va_Qi (fun (r : Int32) (g : Nat → va_E) => (0 ≤ r.toInt ∧ r.toInt ≤ 4095) ∧ (TYx ad cy fr0 tx rby rnx g)) (fun g t => PstT D ad g t) A) ([.ref (ad q0), .ref (ad q1)] : List Value).toArray s 0 0 A) (F0 m 91 ls []) := by
        intro f H locs ls v91_l2 hv91_l3 hv91_l2 hT hP hD hS hl
        obtain ⟨x1, ex1⟩ : ∃ q : Int32, q = v14_l3 + Int32.ofInt (1) := ⟨_, rfl⟩
        refine lv_iinc (v := x1) (lv' := [(3, .int x1), (2, .int v91_l2), (0, .ref (ad q0)), (1, .ref (ad q1))]) hx hb dX4_pass_91 hl (k := 0) rfl ex1.symm (by decide) rfl (fun ls hl => ?_)
        have hx1 := r_inc ex1 (by decide) (by omega) (by omega)
        refine lv_goto (tgt := 14) hx hb dX4_pass_94 (by decide) ?_
        exact ih14 f H locs ls x1 v91_l2 (by omega) (by omega) (by omega) hT hP hD hS (lv_sub hl [0, 1, 2, 3] rfl)
      refine lv_iload_n hx hb dX4_pass_14 rfl (lv_at hl 0 rfl) ?_
      refine lv_aload_n hx hb dX4_pass_15 rfl (lv_at hl 3 rfl) ?_
      obtain ⟨x2, x4, x5, x7, x8, e9, h3, h6⟩ := (ty_suit hT hq1)
      refine va_get (D := D) (cl := vwCl) (ci := 5) (v := .int x5) (C := RX5) (T := TX5) (N := 12) hx hb hts in_X4_pass_X5 hown hK hP q1 (wl_at (x_lt (x_suit0 hq1)) e9) rfl 2 (by decide) (hts (.fieldLink RX4 44 "EightReasons$Suit" "strands" "I") (List.mem_of_getElem? (i := 2) rfl)) (fun _ h9 => h9) rfl dX4_pass_16 ?_
      refine lv_icmp_ge (tgt := 97) hx hb dX4_pass_19 (by decide) (fun c10 => ?_) (fun c10 => ?_)
      · have kc10 := c_le c10
        refine lv_iload_n hx hb dX4_pass_97 rfl (lv_at hl 1 rfl) ?_
        exact tI hx hb hr hlk rfl hP hS ⟨(by omega), hT⟩ dX4_pass_98
      · have kc10 := c_nle c10
        refine lv_aload_n hx hb dX4_pass_22 rfl (lv_at hl 2 rfl) ?_
        obtain ⟨x11, x13, x14, x15, e16, h12⟩ := (ty_state hT hq0)
        refine va_get (D := D) (cl := vwCl) (ci := 4) (v := .int x11) (C := RX4) (T := TX4) (N := 5) hx hb hts in_X4_pass_X4 hown hK hP q0 (wl_at (x_lt (x_state0 hq0)) e16) rfl 1 (by decide) (hts (.fieldLink RX4 28 "EightReasons$State" "tied" "I") (List.mem_of_getElem? (i := 3) rfl)) (fun _ h9 => h9) rfl dX4_pass_23 ?_
        refine lv_iload_n hx hb dX4_pass_26 rfl (lv_at hl 0 rfl) ?_
        refine tNI (As := [.int x11, .int v14_l3]) (rest := []) (host := RX8) ⟨hx, hb, hml, hown, hts⟩ hK hE hP hD hS hA hAB (s_X8_has_0 l B0 adK adV D cy ad f x11 v14_l3 _) ⟨va_cnB 2 hts gX4_pass_X8_has_n47 rfl rfl rfl (hE.2.1 _ (List.mem_of_getElem? (i := 10) rfl)) (hts (.initialized RX8) (List.mem_of_getElem? (i := 8) rfl)) (by decide +kernel) ⟨Nat.le_of_ble_eq_true rfl, Nat.le_of_ble_eq_true rfl⟩, (hts (.static yX8_has) (List.mem_of_getElem? (i := 7) rfl)), trivial⟩ rfl hl.1 rfl (Nat.le_of_ble_eq_true rfl) dX4_pass_27 ⟨Nat.le_of_ble_eq_true rfl, Nat.le_of_ble_eq_true rfl⟩ (fun r g H locs hw hP hD hS => ?_)
        obtain ⟨hrs, rfl⟩ := hw
        obtain ⟨x17, rfl⟩ : ∃ q, q = r := ⟨_, rfl⟩
        rcases hrs with rfl | rfl
        · refine lv_if_eq (tgt := 91) hx hb dX4_pass_30 (by decide) (fun c => absurd c (by decide)) (fun _ => ?_)
          refine lv_aload_n hx hb dX4_pass_33 rfl (lv_at hl 2 rfl) ?_
          refine va_get (D := D) (cl := vwCl) (ci := 4) (v := .ref (ad (q0 + 1))) (C := RX4) (T := TX4) (N := 5) hx hb hts in_X4_pass_X4 hown hK hP q0 (wl_at (x_lt (x_state0 hq0)) e16) rfl 0 (by decide) (hts (.fieldLink RX4 9 "EightReasons$State" "strong" "[I") (List.mem_of_getElem? (i := 4) rfl)) (fun _ h9 => h9) rfl dX4_pass_34 ?_
          refine lv_iload_n hx hb dX4_pass_37 rfl (lv_at hl 0 rfl) ?_
          obtain ⟨g19, e18⟩ := (ty_strow hT hq0)
          refine va_iald hx hb hK hP (q0 + 1) 0 (wl_at (x_lt (x_state hq0 (by decide))) e18) rfl (vp_in_iff.mpr ⟨by omega, by omega⟩) dX4_pass_38 ?_
          refine lv_topi (fun x20 ex20 => ?_)
          have ttl_0 := tl_0
          refine lv_if_le (tgt := 91) hx hb dX4_pass_39 (by decide) (fun c21 => ?_) (fun c21 => ?_)
          · have kc21 := c_le c21
            exact j91 f H locs ls v14_l2 (by omega) (by omega) hT hP hD hS (lv_sub hl [0, 1, 2, 3] rfl)
          · have kc21 := c_nle c21
            refine lv_aload_n hx hb dX4_pass_42 rfl (lv_at hl 2 rfl) ?_
            refine lv_aload_n hx hb dX4_pass_43 rfl (lv_at hl 2 rfl) ?_
            refine va_get (D := D) (cl := vwCl) (ci := 4) (v := .int x15) (C := RX4) (T := TX4) (N := 5) hx hb hts in_X4_pass_X4 hown hK hP q0 (wl_at (x_lt (x_state0 hq0)) e16) rfl 4 (by decide) (hts (.fieldLink RX4 41 "EightReasons$State" "seed" "I") (List.mem_of_getElem? (i := 5) rfl)) (fun _ h9 => h9) rfl dX4_pass_44 ?_
            refine lv_sipush (v := 137) hx hb dX4_pass_47 (by decide) ?_
            refine lv_imul hx hb dX4_pass_50 ?_
            refine lv_topi (fun x22 ex22 => ?_)
            refine lv_bipush (v := 71) hx hb dX4_pass_51 (by decide) ?_
            refine lv_iadd hx hb dX4_pass_53 ?_
            refine lv_topi (fun x23 ex23 => ?_)
            refine lv_sipush (v := 1000) hx hb dX4_pass_54 (by decide) ?_
            refine lv_irem hx hb dX4_pass_57 (by decide) ?_
            refine lv_topi (fun x24 ex24 => ?_)
            have hx24 := r_rem2 ex24 tl_1000 (by decide)
            refine va_put (D := D) (cl := vwCl) (ci := 4) (v := .int x24) (ty := tyX4 4) (C := RX4) (T := TX4) (N := 5) hx hb hts in_X4_pass_X4 tyX4 tyX4_ok nmX4 hown hK hP hD hS q0 (wl_at (x_lt (x_state0 hq0)) e16) rfl 4 (by decide) (hts (.fieldLink RX4 41 "EightReasons$State" "seed" "I") (List.mem_of_getElem? (i := 5) rfl)) (fun _ h9 => h9) rfl (tyX4_ok 4 (by decide)) rfl rfl (Nat.le_of_ble_eq_true rfl) dX4_pass_58 (fun H locs hP hD hS => ?_)
            obtain ⟨f, hT, hP, hD, e25, hj26⟩ := stU (x_lt (x_state0 hq0)) (TYx.up hT (x_state0 hq0) (ok_state hq0 ⟨x11, x13, x14, x24, rfl, by omega⟩)) hP hD
            have e27 := (hj26 (q0 + 1) (by omega)).trans e18
            refine lv_aload_n hx hb dX4_pass_61 rfl (lv_at hl 2 rfl) ?_
            refine va_get (D := D) (cl := vwCl) (ci := 4) (v := .int x24) (C := RX4) (T := TX4) (N := 5) hx hb hts in_X4_pass_X4 hown hK hP q0 (wl_at (x_lt (x_state0 hq0)) e25) rfl 4 (by decide) (hts (.fieldLink RX4 41 "EightReasons$State" "seed" "I") (List.mem_of_getElem? (i := 5) rfl)) (fun _ h9 => h9) rfl dX4_pass_62 ?_
            refine lv_bipush (v := 100) hx hb dX4_pass_65 (by decide) ?_
            refine lv_irem hx hb dX4_pass_67 (by decide) ?_
            refine lv_topi (fun x28 ex28 => ?_)
            have hx28 := r_rem2 ex28 tl_100 (by decide)
            refine lv_aload_n hx hb dX4_pass_68 rfl (lv_at hl 3 rfl) ?_
            obtain ⟨x29, x31, x32, x34, x35, e36, h30, h33⟩ := (ty_suit hT hq1)
            refine va_get (D := D) (cl := vwCl) (ci := 5) (v := .int x34) (C := RX5) (T := TX5) (N := 12) hx hb hts in_X4_pass_X5 hown hK hP q1 (wl_at (x_lt (x_suit0 hq1)) e36) rfl 3 (by decide) (hts (.fieldLink RX4 51 "EightReasons$Suit" "fray" "I") (List.mem_of_getElem? (i := 6) rfl)) (fun _ h9 => h9) rfl dX4_pass_69 ?_
            refine lv_icmp_ge (tgt := 91) hx hb dX4_pass_72 (by decide) (fun c37 => ?_) (fun c37 => ?_)
            · have kc37 := c_le c37
              exact j91 f H locs ls v14_l2 (by omega) (by omega) hT hP hD hS (lv_sub hl [0, 1, 2, 3] rfl)
            · have kc37 := c_nle c37
              refine lv_aload_n hx hb dX4_pass_75 rfl (lv_at hl 2 rfl) ?_
              refine va_get (D := D) (cl := vwCl) (ci := 4) (v := .ref (ad (q0 + 1))) (C := RX4) (T := TX4) (N := 5) hx hb hts in_X4_pass_X4 hown hK hP q0 (wl_at (x_lt (x_state0 hq0)) e25) rfl 0 (by decide) (hts (.fieldLink RX4 9 "EightReasons$State" "strong" "[I") (List.mem_of_getElem? (i := 4) rfl)) (fun _ h9 => h9) rfl dX4_pass_76 ?_
              refine lv_iload_n hx hb dX4_pass_79 rfl (lv_at hl 0 rfl) ?_
              refine lv_dup2_11 hx hb dX4_pass_80 rfl rfl ?_
              refine va_iald hx hb hK hP (q0 + 1) 0 (wl_at (x_lt (x_state hq0 (by decide))) e27) rfl (vp_in_iff.mpr ⟨by omega, by omega⟩) dX4_pass_81 ?_
              refine lv_topi (fun x38 ex38 => ?_)
              refine lv_iconst (v := 1) hx hb dX4_pass_82 (by decide) ?_
              refine lv_isub hx hb dX4_pass_83 ?_
              refine lv_topi (fun x39 ex39 => ?_)
              refine va_iast hx hb hK hP hD hS (q0 + 1) 0 (wl_at (x_lt (x_state hq0 (by decide))) e27) rfl (vp_in_iff.mpr ⟨by omega, by omega⟩) dX4_pass_84 (fun H locs hP hD hS => ?_)
              obtain ⟨f, hT, hP, hD, e40, hj41⟩ := stU (x_lt (x_state hq0 (by decide))) (TYx.up hT (x_state hq0 (by decide)) (ok_strow hq0 ⟨_, rfl⟩)) hP hD
              have e42 := (hj41 q0 (by omega)).trans e25
              refine lv_iload_n hx hb dX4_pass_85 rfl (lv_at hl 1 rfl) ?_
              refine lv_iconst (v := 1) hx hb dX4_pass_86 (by decide) ?_
              refine lv_iload_n hx hb dX4_pass_87 rfl (lv_at hl 0 rfl) ?_
              refine lv_ishl hx hb dX4_pass_88 ?_
              refine lv_topi (fun x43 ex43 => ?_)
              have hx43 := r_shl (K := 11) (M := 2048) ex43 (by decide) (by decide) (by omega) (by omega)
              refine lv_ior hx hb dX4_pass_89 ?_
              refine lv_topi (fun x44 ex44 => ?_)
              have hx44 := r_or (k := 12) (K := 4096) ex44 (by decide) (by decide) (by omega) (by omega) (by omega) (by omega)
              refine lv_istore_n (lv' := [(2, .int x44), (3, .int v14_l3), (0, .ref (ad q0)), (1, .ref (ad q1))]) hx hb dX4_pass_90 rfl hl (by decide) rfl (fun ls hl => ?_)
              exact j91 f H locs ls x44 (by omega) (by omega) hT hP hD hS (lv_sub hl [1, 0, 2, 3] rfl)
        · refine lv_if_eq (tgt := 91) hx hb dX4_pass_30 (by decide) (fun _ => ?_) (fun c => absurd (by decide) c)
          exact j91 f H locs ls v14_l2 (by omega) (by omega) hT hP hD hS (lv_sub hl [0, 1, 2, 3] rfl)
  refine lv_iconst (v := 0) hx hb dX4_pass_0 (by decide) ?_
  refine lv_istore_n (lv' := [(2, .int 0), (0, .ref (ad q0)), (1, .ref (ad q1))]) hx hb dX4_pass_1 rfl hl (by decide) rfl (fun ls hl => ?_)
  refine lv_aload_n hx hb dX4_pass_2 rfl (lv_at hl 1 rfl) ?_
  refine lv_dup hx hb dX4_pass_3 rfl ?_
  obtain ⟨x45, x47, x48, x49, e50, h46⟩ := (ty_state hT hq0)
  refine va_get (D := D) (cl := vwCl) (ci := 4) (v := .int x48) (C := RX4) (T := TX4) (N := 5) hx hb hts in_X4_pass_X4 hown hK hP q0 (wl_at (x_lt (x_state0 hq0)) e50) rfl 3 (by decide) (hts (.fieldLink RX4 35 "EightReasons$State" "day" "I") (List.mem_of_getElem? (i := 1) rfl)) (fun _ h9 => h9) rfl dX4_pass_4 ?_
  refine lv_iconst (v := 1) hx hb dX4_pass_7 (by decide) ?_
  refine lv_iadd hx hb dX4_pass_8 ?_
  refine lv_topi (fun x51 ex51 => ?_)
  refine va_put (D := D) (cl := vwCl) (ci := 4) (v := .int x51) (ty := tyX4 3) (C := RX4) (T := TX4) (N := 5) hx hb hts in_X4_pass_X4 tyX4 tyX4_ok nmX4 hown hK hP hD hS q0 (wl_at (x_lt (x_state0 hq0)) e50) rfl 3 (by decide) (hts (.fieldLink RX4 35 "EightReasons$State" "day" "I") (List.mem_of_getElem? (i := 1) rfl)) (fun _ h9 => h9) rfl (tyX4_ok 3 (by decide)) rfl rfl (Nat.le_of_ble_eq_true rfl) dX4_pass_9 (fun H locs hP hD hS => ?_)
  obtain ⟨f, hT, hP, hD, e52, hj53⟩ := stU (x_lt (x_state0 hq0)) (TYx.up hT (x_state0 hq0) (ok_state hq0 ⟨x45, x47, x51, x49, rfl, by omega⟩)) hP hD
  refine lv_iconst (v := 0) hx hb dX4_pass_12 (by decide) ?_
  refine lv_istore_n (lv' := [(3, .int 0), (2, .int 0), (0, .ref (ad q0)), (1, .ref (ad q1))]) hx hb dX4_pass_13 rfl hl (by decide) rfl (fun ls hl => ?_)
  have ttl_0 := tl_0
  exact j14 (Int.toNat (13 - (0 : Int32).toInt)) f H locs ls (0 : Int32) (0 : Int32) (by omega) (by omega) (by omega) hT hP hD hS (lv_sub hl [0, 1, 2, 3] rfl)
set_option maxHeartbeats 4000000 in
set_option maxRecDepth 100000 in
theorem s_X8_day_0 (l : Launch) (B0 : Nat) (adK adV : Nat → Nat) (D : va_G) (cy : Nat → ClassId) (ad : Nat → Nat) (fr0 : Nat → va_E) (tx : Int32) (rby : Int32) (rnx : Int32) (f : Nat → va_E) (hT : TYx ad cy fr0 tx rby rnx f) (sz : Nat) : TtI l yX8_day wsX8_day 3 102 [.ref (ad 0)] B0 adK adV D cy ad f sz (fun (r : Int32) (g : Nat → va_E) => (-1 ≤ r.toInt ∧ r.toInt ≤ 4095) ∧ (TYx ad cy fr0 tx rby rnx g)) := by
  refine TtI.of (cc := cX8_day) (maxL := 1) (ty := .int) (own := RX8) (by decide) rfl (Nat.le_of_ble_eq_true rfl) rfl ?_
  intro p e s m below meth c A ls hx hb hr hml hts hown hlk hK hE hP hD hS hA hAB hl
  have hl : lv_has ls 1 [(0, .ref (ad 0))] := hl
  refine st0 (fun H locs hP hS => ?_) hP hS
  refine lv_aload_n hx hb dX8_day_0 rfl (lv_at hl 0 rfl) ?_
  obtain ⟨t1, x3, x4, e6, h2, h5⟩ := (show okX8 ad tx 0 (f 0) from hT.1 0 (by decide))
  refine tVR (As := []) (rest := []) (i := 0) ⟨hx, hb, hml, hown, hts⟩ hK hE hP hD hS hA hAB (s_X8_now_0 l B0 adK adV D cy ad fr0 tx rby rnx f hT _) (cwV 0 hts gX8_day_X8_now rfl rfl rfl (by decide +kernel) ⟨Nat.le_of_ble_eq_true rfl, Nat.le_of_ble_eq_true rfl⟩) (by decide) 8 e6 rfl rfl hl.1 rfl (Nat.le_of_ble_eq_true rfl) dX8_day_1 ⟨Nat.le_of_ble_eq_true rfl, Nat.le_of_ble_eq_true rfl⟩ (fun ra g H locs hw hra hP hD hS => ?_)
  obtain ⟨hrs, rfl⟩ := hw
  obtain ⟨t7, h8, rfl⟩ := hra
  obtain ⟨x9, x11, x12, x13, e14, h10⟩ := (ty_state hT h8)
  refine va_get (D := D) (cl := vwCl) (ci := 4) (v := .int x12) (C := RX4) (T := TX4) (N := 5) hx hb hts in_X8_day_X4 hown hK hP t7 (wl_at (x_lt (x_state0 h8)) e14) rfl 3 (by decide) (hts (.fieldLink RX8 160 "EightReasons$State" "day" "I") (List.mem_of_getElem? (i := 1) rfl)) (fun _ h9 => h9) rfl dX8_day_4 ?_
  refine lv_sipush (v := 999) hx hb dX8_day_7 (by decide) ?_
  have ttl_999 := tl_999
  refine lv_icmp_lt (tgt := 15) hx hb dX8_day_10 (by decide) (fun c15 => ?_) (fun c15 => ?_)
  · have kc15 := c_lt c15
    refine lv_aload_n hx hb dX8_day_15 rfl (lv_at hl 0 rfl) ?_
    refine va_get (D := D) (cl := vwCl) (ci := 8) (v := .ref (ad 5)) (C := RX8) (T := TX8) (N := 13) hx hb hts in_X8_day_X8 hown hK hP 0 (wl_at (by decide) e6) rfl 2 (by decide) (hts (.fieldLink RX8 26 "EightReasons" "acts" "LEightReasons$Acts;") (List.mem_of_getElem? (i := 2) rfl)) (fun _ h9 => h9) rfl dX8_day_16 ?_
    obtain ⟨x16, x18, x19, e20, h17⟩ := (show okX0 ad 5 (f 5) from hT.1 5 (by decide))
    refine tVR (As := []) (rest := []) (i := 5) ⟨hx, hb, hml, hown, hts⟩ hK hE hP hD hS hA hAB (s_X0_nextState_0 l B0 adK adV D cy ad fr0 tx rby rnx f hT _) (cwV 0 hts gX8_day_X0_nextState rfl rfl rfl (by decide +kernel) ⟨Nat.le_of_ble_eq_true rfl, Nat.le_of_ble_eq_true rfl⟩) (by decide) 0 e20 rfl rfl hl.1 rfl (Nat.le_of_ble_eq_true rfl) dX8_day_19 ⟨Nat.le_of_ble_eq_true rfl, Nat.le_of_ble_eq_true rfl⟩ (fun ra f H locs hw hra hP hD hS => ?_)
    obtain ⟨hrs, hT⟩ := hw
    obtain ⟨t21, h22, rfl⟩ := hra
    refine lv_aload_n hx hb dX8_day_22 rfl (lv_at hl 0 rfl) ?_
    obtain ⟨t23, x25, x26, e28, h24, h27⟩ := (show okX8 ad tx 0 (f 0) from hT.1 0 (by decide))
    refine va_get (D := D) (cl := vwCl) (ci := 8) (v := .ref (ad t23)) (C := RX8) (T := TX8) (N := 13) hx hb hts in_X8_day_X8 hown hK hP 0 (wl_at (by decide) e28) rfl 1 (by decide) (hts (.fieldLink RX8 19 "EightReasons" "told" "LEightReasons$Suit;") (List.mem_of_getElem? (i := 3) rfl)) (fun _ h9 => h9) rfl dX8_day_23 ?_
    obtain ⟨x29, x31, x32, x33, e34, h30⟩ := (ty_state hT h22)
    refine tVI (As := [.ref (ad t23)]) (rest := []) (i := t21) ⟨hx, hb, hml, hown, hts⟩ hK hE hP hD hS hA hAB (s_X4_pass_0 l B0 adK adV D cy ad fr0 tx rby rnx f hT t21 h22 t23 h24 _) (cwV 1 hts gX8_day_X4_pass rfl rfl rfl (by decide +kernel) ⟨Nat.le_of_ble_eq_true rfl, Nat.le_of_ble_eq_true rfl⟩) (x_lt (x_state0 h22)) 4 e34 rfl rfl hl.1 rfl (Nat.le_of_ble_eq_true rfl) dX8_day_26 ⟨Nat.le_of_ble_eq_true rfl, Nat.le_of_ble_eq_true rfl⟩ (fun r f H locs hw hP hD hS => ?_)
    obtain ⟨hrs, hT⟩ := hw
    obtain ⟨x35, rfl⟩ : ∃ q, q = r := ⟨_, rfl⟩
    have h36 := hrs
    exact tI hx hb hr hlk rfl hP hS ⟨(by omega), hT⟩ dX8_day_29
  · have kc15 := c_nlt c15
    refine lv_iconst (v := (-1)) hx hb dX8_day_13 (by decide) ?_
    have ttl_m1 := tl_m1
    exact tI hx hb hr hlk rfl hP hS ⟨(by omega), hT⟩ dX8_day_14
set_option maxHeartbeats 4000000 in
set_option maxRecDepth 100000 in
theorem s_X0_goBack_0 (l : Launch) (B0 : Nat) (adK adV : Nat → Nat) (D : va_G) (cy : Nat → ClassId) (ad : Nat → Nat) (fr0 : Nat → va_E) (tx : Int32) (rby : Int32) (rnx : Int32) (f : Nat → va_E) (hT : TYx ad cy fr0 tx rby rnx f) (sz : Nat) : TtI l yX0_goBack wsX0_goBack 0 0 [.ref (ad 5)] B0 adK adV D cy ad f sz (fun (r : Int32) (g : Nat → va_E) => ((r = 1) ∨ (r = 0)) ∧ (TYx ad cy fr0 tx rby rnx g)) := by
  refine TtI.of (cc := cX0_goBack) (maxL := 1) (ty := .boolean) (own := RX0) (by decide) rfl (Nat.le_of_ble_eq_true rfl) rfl ?_
  intro p e s m below meth c A ls hx hb hr hml hts hown hlk hK hE hP hD hS hA hAB hl
  have hl : lv_has ls 1 [(0, .ref (ad 5))] := hl
  refine st0 (fun H locs hP hS => ?_) hP hS
  refine lv_aload_n hx hb dX0_goBack_0 rfl (lv_at hl 0 rfl) ?_
  obtain ⟨x1, x3, x4, e5, h2⟩ := (show okX0 ad 5 (f 5) from hT.1 5 (by decide))
  refine va_get (D := D) (cl := vwCl) (ci := 0) (v := .int x3) (C := RX0) (T := TX0) (N := 4) hx hb hts in_X0_goBack_X0 hown hK hP 5 (wl_at (by decide) e5) rfl 2 (by decide) (hts (.fieldLink RX0 26 "EightReasons$Acts" "undoable" "I") (List.mem_of_getElem? (i := 1) rfl)) (fun _ h9 => h9) rfl dX0_goBack_1 ?_
  have ttl_0 := tl_0
  refine lv_if_ne (tgt := 9) hx hb dX0_goBack_4 (by decide) (fun c6 => ?_) (fun c6 => ?_)
  · have kc6 := c_ne c6
    refine lv_aload_n hx hb dX0_goBack_9 rfl (lv_at hl 0 rfl) ?_
    refine lv_aload_n hx hb dX0_goBack_10 rfl (lv_at hl 0 rfl) ?_
    refine va_get (D := D) (cl := vwCl) (ci := 0) (v := .int x1) (C := RX0) (T := TX0) (N := 4) hx hb hts in_X0_goBack_X0 hown hK hP 5 (wl_at (by decide) e5) rfl 1 (by decide) (hts (.fieldLink RX0 18 "EightReasons$Acts" "at" "I") (List.mem_of_getElem? (i := 2) rfl)) (fun _ h9 => h9) rfl dX0_goBack_11 ?_
    refine lv_bipush (v := 41) hx hb dX0_goBack_14 (by decide) ?_
    have ttl_41 := tl_41
    refine lv_iadd hx hb dX0_goBack_16 ?_
    refine lv_topi (fun x7 ex7 => ?_)
    have hx7 := r_add ex7 (by omega) (by omega)
    refine lv_iconst (v := 1) hx hb dX0_goBack_17 (by decide) ?_
    have ttl_1 := tl_1
    refine lv_isub hx hb dX0_goBack_18 ?_
    refine lv_topi (fun x8 ex8 => ?_)
    have hx8 := r_sub ex8 (by omega) (by omega)
    refine lv_bipush (v := 41) hx hb dX0_goBack_19 (by decide) ?_
    refine lv_irem hx hb dX0_goBack_21 (by decide) ?_
    refine lv_topi (fun x9 ex9 => ?_)
    have hx9 := r_rem ex9 tl_41 (by omega) (by decide)
    refine va_put (D := D) (cl := vwCl) (ci := 0) (v := .int x9) (ty := tyX0 1) (C := RX0) (T := TX0) (N := 4) hx hb hts in_X0_goBack_X0 tyX0 tyX0_ok nmX0 hown hK hP hD hS 5 (wl_at (by decide) e5) rfl 1 (by decide) (hts (.fieldLink RX0 18 "EightReasons$Acts" "at" "I") (List.mem_of_getElem? (i := 2) rfl)) (fun _ h9 => h9) rfl (tyX0_ok 1 (by decide)) rfl rfl (Nat.le_of_ble_eq_true rfl) dX0_goBack_22 (fun H locs hP hD hS => ?_)
    obtain ⟨f, hT, hP, hD, e10, hj11⟩ := stU (by decide) (TYx.up hT (by decide) (show OKx ad cy tx rby rnx 5 _ from (show okX0 ad 5 _ from ⟨x9, x3, x4, rfl, by omega⟩))) hP hD
    refine lv_aload_n hx hb dX0_goBack_25 rfl (lv_at hl 0 rfl) ?_
    refine lv_dup hx hb dX0_goBack_26 rfl ?_
    refine va_get (D := D) (cl := vwCl) (ci := 0) (v := .int x3) (C := RX0) (T := TX0) (N := 4) hx hb hts in_X0_goBack_X0 hown hK hP 5 (wl_at (by decide) e10) rfl 2 (by decide) (hts (.fieldLink RX0 26 "EightReasons$Acts" "undoable" "I") (List.mem_of_getElem? (i := 1) rfl)) (fun _ h9 => h9) rfl dX0_goBack_27 ?_
    refine lv_iconst (v := 1) hx hb dX0_goBack_30 (by decide) ?_
    refine lv_isub hx hb dX0_goBack_31 ?_
    refine lv_topi (fun x12 ex12 => ?_)
    refine va_put (D := D) (cl := vwCl) (ci := 0) (v := .int x12) (ty := tyX0 2) (C := RX0) (T := TX0) (N := 4) hx hb hts in_X0_goBack_X0 tyX0 tyX0_ok nmX0 hown hK hP hD hS 5 (wl_at (by decide) e10) rfl 2 (by decide) (hts (.fieldLink RX0 26 "EightReasons$Acts" "undoable" "I") (List.mem_of_getElem? (i := 1) rfl)) (fun _ h9 => h9) rfl (tyX0_ok 2 (by decide)) rfl rfl (Nat.le_of_ble_eq_true rfl) dX0_goBack_32 (fun H locs hP hD hS => ?_)
    obtain ⟨f, hT, hP, hD, e13, hj14⟩ := stU (by decide) (TYx.up hT (by decide) (show OKx ad cy tx rby rnx 5 _ from (show okX0 ad 5 _ from ⟨x9, x12, x4, rfl, by omega⟩))) hP hD
    refine lv_aload_n hx hb dX0_goBack_35 rfl (lv_at hl 0 rfl) ?_
    refine lv_dup hx hb dX0_goBack_36 rfl ?_
    refine va_get (D := D) (cl := vwCl) (ci := 0) (v := .int x4) (C := RX0) (T := TX0) (N := 4) hx hb hts in_X0_goBack_X0 hown hK hP 5 (wl_at (by decide) e13) rfl 3 (by decide) (hts (.fieldLink RX0 35 "EightReasons$Acts" "redoable" "I") (List.mem_of_getElem? (i := 3) rfl)) (fun _ h9 => h9) rfl dX0_goBack_37 ?_
    refine lv_iconst (v := 1) hx hb dX0_goBack_40 (by decide) ?_
    refine lv_iadd hx hb dX0_goBack_41 ?_
    refine lv_topi (fun x15 ex15 => ?_)
    refine va_put (D := D) (cl := vwCl) (ci := 0) (v := .int x15) (ty := tyX0 3) (C := RX0) (T := TX0) (N := 4) hx hb hts in_X0_goBack_X0 tyX0 tyX0_ok nmX0 hown hK hP hD hS 5 (wl_at (by decide) e13) rfl 3 (by decide) (hts (.fieldLink RX0 35 "EightReasons$Acts" "redoable" "I") (List.mem_of_getElem? (i := 3) rfl)) (fun _ h9 => h9) rfl (tyX0_ok 3 (by decide)) rfl rfl (Nat.le_of_ble_eq_true rfl) dX0_goBack_42 (fun H locs hP hD hS => ?_)
    obtain ⟨f, hT, hP, hD, e16, hj17⟩ := stU (by decide) (TYx.up hT (by decide) (show OKx ad cy tx rby rnx 5 _ from (show okX0 ad 5 _ from ⟨x9, x12, x15, rfl, by omega⟩))) hP hD
    refine lv_iconst (v := 1) hx hb dX0_goBack_45 (by decide) ?_
    exact tI hx hb hr hlk rfl hP hS ⟨(Or.inl rfl), hT⟩ dX0_goBack_46
  · have kc6 := c_eq c6
    refine lv_iconst (v := 0) hx hb dX0_goBack_7 (by decide) ?_
    exact tI hx hb hr hlk rfl hP hS ⟨(Or.inr rfl), hT⟩ dX0_goBack_8
set_option maxHeartbeats 4000000 in
set_option maxRecDepth 100000 in
theorem s_X8_undo_0 (l : Launch) (B0 : Nat) (adK adV : Nat → Nat) (D : va_G) (cy : Nat → ClassId) (ad : Nat → Nat) (fr0 : Nat → va_E) (tx : Int32) (rby : Int32) (rnx : Int32) (f : Nat → va_E) (hT : TYx ad cy fr0 tx rby rnx f) (sz : Nat) : TtI l yX8_undo wsX8_undo 1 20 [.ref (ad 0)] B0 adK adV D cy ad f sz (fun (r : Int32) (g : Nat → va_E) => ((r = 1) ∨ (r = 0)) ∧ (TYx ad cy fr0 tx rby rnx g)) := by
  refine TtI.of (cc := cX8_undo) (maxL := 1) (ty := .boolean) (own := RX8) (by decide) rfl (Nat.le_of_ble_eq_true rfl) rfl ?_
  intro p e s m below meth c A ls hx hb hr hml hts hown hlk hK hE hP hD hS hA hAB hl
  have hl : lv_has ls 1 [(0, .ref (ad 0))] := hl
  refine st0 (fun H locs hP hS => ?_) hP hS
  refine lv_aload_n hx hb dX8_undo_0 rfl (lv_at hl 0 rfl) ?_
  obtain ⟨t1, x3, x4, e6, h2, h5⟩ := (show okX8 ad tx 0 (f 0) from hT.1 0 (by decide))
  refine va_get (D := D) (cl := vwCl) (ci := 8) (v := .ref (ad 5)) (C := RX8) (T := TX8) (N := 13) hx hb hts in_X8_undo_X8 hown hK hP 0 (wl_at (by decide) e6) rfl 2 (by decide) (hts (.fieldLink RX8 26 "EightReasons" "acts" "LEightReasons$Acts;") (List.mem_of_getElem? (i := 1) rfl)) (fun _ h9 => h9) rfl dX8_undo_1 ?_
  obtain ⟨x7, x9, x10, e11, h8⟩ := (show okX0 ad 5 (f 5) from hT.1 5 (by decide))
  refine tVI (As := []) (rest := []) (i := 5) ⟨hx, hb, hml, hown, hts⟩ hK hE hP hD hS hA hAB (s_X0_goBack_0 l B0 adK adV D cy ad fr0 tx rby rnx f hT _) (cwV 0 hts gX8_undo_X0_goBack rfl rfl rfl (by decide +kernel) ⟨Nat.le_of_ble_eq_true rfl, Nat.le_of_ble_eq_true rfl⟩) (by decide) 0 e11 rfl rfl hl.1 rfl (Nat.le_of_ble_eq_true rfl) dX8_undo_4 ⟨Nat.le_of_ble_eq_true rfl, Nat.le_of_ble_eq_true rfl⟩ (fun r f H locs hw hP hD hS => ?_)
  obtain ⟨hrs, hT⟩ := hw
  obtain ⟨x12, rfl⟩ : ∃ q, q = r := ⟨_, rfl⟩
  rcases hrs with rfl | rfl
  · have ttl_1 := tl_1
    exact tI hx hb hr hlk rfl hP hS ⟨(Or.inl rfl), hT⟩ dX8_undo_7
  · have ttl_0 := tl_0
    exact tI hx hb hr hlk rfl hP hS ⟨(Or.inr rfl), hT⟩ dX8_undo_7
set_option maxHeartbeats 4000000 in
set_option maxRecDepth 100000 in
theorem s_X0_goOn_0 (l : Launch) (B0 : Nat) (adK adV : Nat → Nat) (D : va_G) (cy : Nat → ClassId) (ad : Nat → Nat) (fr0 : Nat → va_E) (tx : Int32) (rby : Int32) (rnx : Int32) (f : Nat → va_E) (hT : TYx ad cy fr0 tx rby rnx f) (sz : Nat) : TtI l yX0_goOn wsX0_goOn 0 0 [.ref (ad 5)] B0 adK adV D cy ad f sz (fun (r : Int32) (g : Nat → va_E) => ((r = 1) ∨ (r = 0)) ∧ (TYx ad cy fr0 tx rby rnx g)) := by
  refine TtI.of (cc := cX0_goOn) (maxL := 1) (ty := .boolean) (own := RX0) (by decide) rfl (Nat.le_of_ble_eq_true rfl) rfl ?_
  intro p e s m below meth c A ls hx hb hr hml hts hown hlk hK hE hP hD hS hA hAB hl
  have hl : lv_has ls 1 [(0, .ref (ad 5))] := hl
  refine st0 (fun H locs hP hS => ?_) hP hS
  refine lv_aload_n hx hb dX0_goOn_0 rfl (lv_at hl 0 rfl) ?_
  obtain ⟨x1, x3, x4, e5, h2⟩ := (show okX0 ad 5 (f 5) from hT.1 5 (by decide))
  refine va_get (D := D) (cl := vwCl) (ci := 0) (v := .int x4) (C := RX0) (T := TX0) (N := 4) hx hb hts in_X0_goOn_X0 hown hK hP 5 (wl_at (by decide) e5) rfl 3 (by decide) (hts (.fieldLink RX0 35 "EightReasons$Acts" "redoable" "I") (List.mem_of_getElem? (i := 1) rfl)) (fun _ h9 => h9) rfl dX0_goOn_1 ?_
  have ttl_0 := tl_0
  refine lv_if_ne (tgt := 9) hx hb dX0_goOn_4 (by decide) (fun c6 => ?_) (fun c6 => ?_)
  · have kc6 := c_ne c6
    refine lv_aload_n hx hb dX0_goOn_9 rfl (lv_at hl 0 rfl) ?_
    refine lv_aload_n hx hb dX0_goOn_10 rfl (lv_at hl 0 rfl) ?_
    refine va_get (D := D) (cl := vwCl) (ci := 0) (v := .int x1) (C := RX0) (T := TX0) (N := 4) hx hb hts in_X0_goOn_X0 hown hK hP 5 (wl_at (by decide) e5) rfl 1 (by decide) (hts (.fieldLink RX0 18 "EightReasons$Acts" "at" "I") (List.mem_of_getElem? (i := 2) rfl)) (fun _ h9 => h9) rfl dX0_goOn_11 ?_
    refine lv_iconst (v := 1) hx hb dX0_goOn_14 (by decide) ?_
    have ttl_1 := tl_1
    refine lv_iadd hx hb dX0_goOn_15 ?_
    refine lv_topi (fun x7 ex7 => ?_)
    have hx7 := r_add ex7 (by omega) (by omega)
    refine lv_bipush (v := 41) hx hb dX0_goOn_16 (by decide) ?_
    refine lv_irem hx hb dX0_goOn_18 (by decide) ?_
    refine lv_topi (fun x8 ex8 => ?_)
    have hx8 := r_rem ex8 tl_41 (by omega) (by decide)
    refine va_put (D := D) (cl := vwCl) (ci := 0) (v := .int x8) (ty := tyX0 1) (C := RX0) (T := TX0) (N := 4) hx hb hts in_X0_goOn_X0 tyX0 tyX0_ok nmX0 hown hK hP hD hS 5 (wl_at (by decide) e5) rfl 1 (by decide) (hts (.fieldLink RX0 18 "EightReasons$Acts" "at" "I") (List.mem_of_getElem? (i := 2) rfl)) (fun _ h9 => h9) rfl (tyX0_ok 1 (by decide)) rfl rfl (Nat.le_of_ble_eq_true rfl) dX0_goOn_19 (fun H locs hP hD hS => ?_)
    obtain ⟨f, hT, hP, hD, e9, hj10⟩ := stU (by decide) (TYx.up hT (by decide) (show OKx ad cy tx rby rnx 5 _ from (show okX0 ad 5 _ from ⟨x8, x3, x4, rfl, by omega⟩))) hP hD
    refine lv_aload_n hx hb dX0_goOn_22 rfl (lv_at hl 0 rfl) ?_
    refine lv_dup hx hb dX0_goOn_23 rfl ?_
    refine va_get (D := D) (cl := vwCl) (ci := 0) (v := .int x3) (C := RX0) (T := TX0) (N := 4) hx hb hts in_X0_goOn_X0 hown hK hP 5 (wl_at (by decide) e9) rfl 2 (by decide) (hts (.fieldLink RX0 26 "EightReasons$Acts" "undoable" "I") (List.mem_of_getElem? (i := 3) rfl)) (fun _ h9 => h9) rfl dX0_goOn_24 ?_
    refine lv_iconst (v := 1) hx hb dX0_goOn_27 (by decide) ?_
    refine lv_iadd hx hb dX0_goOn_28 ?_
    refine lv_topi (fun x11 ex11 => ?_)
    refine va_put (D := D) (cl := vwCl) (ci := 0) (v := .int x11) (ty := tyX0 2) (C := RX0) (T := TX0) (N := 4) hx hb hts in_X0_goOn_X0 tyX0 tyX0_ok nmX0 hown hK hP hD hS 5 (wl_at (by decide) e9) rfl 2 (by decide) (hts (.fieldLink RX0 26 "EightReasons$Acts" "undoable" "I") (List.mem_of_getElem? (i := 3) rfl)) (fun _ h9 => h9) rfl (tyX0_ok 2 (by decide)) rfl rfl (Nat.le_of_ble_eq_true rfl) dX0_goOn_29 (fun H locs hP hD hS => ?_)
    obtain ⟨f, hT, hP, hD, e12, hj13⟩ := stU (by decide) (TYx.up hT (by decide) (show OKx ad cy tx rby rnx 5 _ from (show okX0 ad 5 _ from ⟨x8, x11, x4, rfl, by omega⟩))) hP hD
    refine lv_aload_n hx hb dX0_goOn_32 rfl (lv_at hl 0 rfl) ?_
    refine lv_dup hx hb dX0_goOn_33 rfl ?_
    refine va_get (D := D) (cl := vwCl) (ci := 0) (v := .int x4) (C := RX0) (T := TX0) (N := 4) hx hb hts in_X0_goOn_X0 hown hK hP 5 (wl_at (by decide) e12) rfl 3 (by decide) (hts (.fieldLink RX0 35 "EightReasons$Acts" "redoable" "I") (List.mem_of_getElem? (i := 1) rfl)) (fun _ h9 => h9) rfl dX0_goOn_34 ?_
    refine lv_iconst (v := 1) hx hb dX0_goOn_37 (by decide) ?_
    refine lv_isub hx hb dX0_goOn_38 ?_
    refine lv_topi (fun x14 ex14 => ?_)
    refine va_put (D := D) (cl := vwCl) (ci := 0) (v := .int x14) (ty := tyX0 3) (C := RX0) (T := TX0) (N := 4) hx hb hts in_X0_goOn_X0 tyX0 tyX0_ok nmX0 hown hK hP hD hS 5 (wl_at (by decide) e12) rfl 3 (by decide) (hts (.fieldLink RX0 35 "EightReasons$Acts" "redoable" "I") (List.mem_of_getElem? (i := 1) rfl)) (fun _ h9 => h9) rfl (tyX0_ok 3 (by decide)) rfl rfl (Nat.le_of_ble_eq_true rfl) dX0_goOn_39 (fun H locs hP hD hS => ?_)
    obtain ⟨f, hT, hP, hD, e15, hj16⟩ := stU (by decide) (TYx.up hT (by decide) (show OKx ad cy tx rby rnx 5 _ from (show okX0 ad 5 _ from ⟨x8, x11, x14, rfl, by omega⟩))) hP hD
    refine lv_iconst (v := 1) hx hb dX0_goOn_42 (by decide) ?_
    exact tI hx hb hr hlk rfl hP hS ⟨(Or.inl rfl), hT⟩ dX0_goOn_43
  · have kc6 := c_eq c6
    refine lv_iconst (v := 0) hx hb dX0_goOn_7 (by decide) ?_
    exact tI hx hb hr hlk rfl hP hS ⟨(Or.inr rfl), hT⟩ dX0_goOn_8
set_option maxHeartbeats 4000000 in
set_option maxRecDepth 100000 in
theorem s_X8_redo_0 (l : Launch) (B0 : Nat) (adK adV : Nat → Nat) (D : va_G) (cy : Nat → ClassId) (ad : Nat → Nat) (fr0 : Nat → va_E) (tx : Int32) (rby : Int32) (rnx : Int32) (f : Nat → va_E) (hT : TYx ad cy fr0 tx rby rnx f) (sz : Nat) : TtI l yX8_redo wsX8_redo 1 20 [.ref (ad 0)] B0 adK adV D cy ad f sz (fun (r : Int32) (g : Nat → va_E) => ((r = 1) ∨ (r = 0)) ∧ (TYx ad cy fr0 tx rby rnx g)) := by
  refine TtI.of (cc := cX8_redo) (maxL := 1) (ty := .boolean) (own := RX8) (by decide) rfl (Nat.le_of_ble_eq_true rfl) rfl ?_
  intro p e s m below meth c A ls hx hb hr hml hts hown hlk hK hE hP hD hS hA hAB hl
  have hl : lv_has ls 1 [(0, .ref (ad 0))] := hl
  refine st0 (fun H locs hP hS => ?_) hP hS
  refine lv_aload_n hx hb dX8_redo_0 rfl (lv_at hl 0 rfl) ?_
  obtain ⟨t1, x3, x4, e6, h2, h5⟩ := (show okX8 ad tx 0 (f 0) from hT.1 0 (by decide))
  refine va_get (D := D) (cl := vwCl) (ci := 8) (v := .ref (ad 5)) (C := RX8) (T := TX8) (N := 13) hx hb hts in_X8_redo_X8 hown hK hP 0 (wl_at (by decide) e6) rfl 2 (by decide) (hts (.fieldLink RX8 26 "EightReasons" "acts" "LEightReasons$Acts;") (List.mem_of_getElem? (i := 1) rfl)) (fun _ h9 => h9) rfl dX8_redo_1 ?_
  obtain ⟨x7, x9, x10, e11, h8⟩ := (show okX0 ad 5 (f 5) from hT.1 5 (by decide))
  refine tVI (As := []) (rest := []) (i := 5) ⟨hx, hb, hml, hown, hts⟩ hK hE hP hD hS hA hAB (s_X0_goOn_0 l B0 adK adV D cy ad fr0 tx rby rnx f hT _) (cwV 0 hts gX8_redo_X0_goOn rfl rfl rfl (by decide +kernel) ⟨Nat.le_of_ble_eq_true rfl, Nat.le_of_ble_eq_true rfl⟩) (by decide) 0 e11 rfl rfl hl.1 rfl (Nat.le_of_ble_eq_true rfl) dX8_redo_4 ⟨Nat.le_of_ble_eq_true rfl, Nat.le_of_ble_eq_true rfl⟩ (fun r f H locs hw hP hD hS => ?_)
  obtain ⟨hrs, hT⟩ := hw
  obtain ⟨x12, rfl⟩ : ∃ q, q = r := ⟨_, rfl⟩
  rcases hrs with rfl | rfl
  · have ttl_1 := tl_1
    exact tI hx hb hr hlk rfl hP hS ⟨(Or.inl rfl), hT⟩ dX8_redo_7
  · have ttl_0 := tl_0
    exact tI hx hb hr hlk rfl hP hS ⟨(Or.inr rfl), hT⟩ dX8_redo_7
set_option maxHeartbeats 4000000 in
set_option maxRecDepth 100000 in
theorem s_X8_standingNow_0 (l : Launch) (B0 : Nat) (adK adV : Nat → Nat) (D : va_G) (cy : Nat → ClassId) (ad : Nat → Nat) (fr0 : Nat → va_E) (tx : Int32) (rby : Int32) (rnx : Int32) (f : Nat → va_E) (hT : TYx ad cy fr0 tx rby rnx f) (sz : Nat) : TtI l yX8_standingNow wsX8_standingNow 5 124 [.ref (ad 0)] B0 adK adV D cy ad f sz (fun (r : Int32) (g : Nat → va_E) => True ∧ (TYx ad cy fr0 tx rby rnx g)) := by
  refine TtI.of (cc := cX8_standingNow) (maxL := 1) (ty := .int) (own := RX8) (by decide) rfl (Nat.le_of_ble_eq_true rfl) rfl ?_
  intro p e s m below meth c A ls hx hb hr hml hts hown hlk hK hE hP hD hS hA hAB hl
  have hl : lv_has ls 1 [(0, .ref (ad 0))] := hl
  refine st0 (fun H locs hP hS => ?_) hP hS
  refine lv_aload_n hx hb dX8_standingNow_0 rfl (lv_at hl 0 rfl) ?_
  obtain ⟨t1, x3, x4, e6, h2, h5⟩ := (show okX8 ad tx 0 (f 0) from hT.1 0 (by decide))
  refine tVV (As := []) (rest := []) (i := 0) ⟨hx, hb, hml, hown, hts⟩ hK hE hP hD hS hA hAB (s_X8_look_0 l B0 adK adV D cy ad fr0 tx rby rnx f hT _) (cwV 0 hts gX8_standingNow_X8_look rfl rfl rfl (by decide +kernel) ⟨Nat.le_of_ble_eq_true rfl, Nat.le_of_ble_eq_true rfl⟩) (by decide) 8 e6 rfl rfl hl.1 rfl (Nat.le_of_ble_eq_true rfl) dX8_standingNow_1 ⟨Nat.le_of_ble_eq_true rfl, Nat.le_of_ble_eq_true rfl⟩ (fun f H locs hw hP hD hS => ?_)
  obtain ⟨hrs, hT⟩ := hw
  refine lv_aload_n hx hb dX8_standingNow_4 rfl (lv_at hl 0 rfl) ?_
  obtain ⟨t7, x9, x10, e12, h8, h11⟩ := (show okX8 ad tx 0 (f 0) from hT.1 0 (by decide))
  refine va_get (D := D) (cl := vwCl) (ci := 8) (v := .ref (ad 10)) (C := RX8) (T := TX8) (N := 13) hx hb hts in_X8_standingNow_X8 hown hK hP 0 (wl_at (by decide) e12) rfl 6 (by decide) (hts (.fieldLink RX8 44 "EightReasons" "loom" "LEightReasons$Loom;") (List.mem_of_getElem? (i := 1) rfl)) (fun _ h9 => h9) rfl dX8_standingNow_5 ?_
  refine lv_aload_n hx hb dX8_standingNow_8 rfl (lv_at hl 0 rfl) ?_
  refine tVR (As := []) (rest := [.ref (ad 10)]) (i := 0) ⟨hx, hb, hml, hown, hts⟩ hK hE hP hD hS hA hAB (s_X8_now_0 l B0 adK adV D cy ad fr0 tx rby rnx f hT _) (cwV 0 hts gX8_standingNow_X8_now rfl rfl rfl (by decide +kernel) ⟨Nat.le_of_ble_eq_true rfl, Nat.le_of_ble_eq_true rfl⟩) (by decide) 8 e12 rfl rfl hl.1 rfl (Nat.le_of_ble_eq_true rfl) dX8_standingNow_9 ⟨Nat.le_of_ble_eq_true rfl, Nat.le_of_ble_eq_true rfl⟩ (fun ra g H locs hw hra hP hD hS => ?_)
  obtain ⟨hrs, rfl⟩ := hw
  obtain ⟨t13, h14, rfl⟩ := hra
  obtain ⟨x15, x17, x18, x19, e20, h16⟩ := (ty_state hT h14)
  refine va_get (D := D) (cl := vwCl) (ci := 4) (v := .int x15) (C := RX4) (T := TX4) (N := 5) hx hb hts in_X8_standingNow_X4 hown hK hP t13 (wl_at (x_lt (x_state0 h14)) e20) rfl 1 (by decide) (hts (.fieldLink RX8 145 "EightReasons$State" "tied" "I") (List.mem_of_getElem? (i := 2) rfl)) (fun _ h9 => h9) rfl dX8_standingNow_12 ?_
  obtain ⟨x21, t22, x24, x25, e26, h23⟩ := (show okX2 ad 10 (f 10) from hT.1 10 (by decide))
  refine tVI (As := [.int x15]) (rest := []) (i := 10) ⟨hx, hb, hml, hown, hts⟩ hK hE hP hD hS hA hAB (s_X2_standing_0 l B0 adK adV D cy ad fr0 tx rby rnx f hT x15 _) (cwV 1 hts gX8_standingNow_X2_standing rfl rfl rfl (by decide +kernel) ⟨Nat.le_of_ble_eq_true rfl, Nat.le_of_ble_eq_true rfl⟩) (by decide) 2 e26 rfl rfl hl.1 rfl (Nat.le_of_ble_eq_true rfl) dX8_standingNow_15 ⟨Nat.le_of_ble_eq_true rfl, Nat.le_of_ble_eq_true rfl⟩ (fun r f H locs hw hP hD hS => ?_)
  obtain ⟨hrs, hT⟩ := hw
  obtain ⟨x27, rfl⟩ : ∃ q, q = r := ⟨_, rfl⟩
  have h28 := hrs
  exact tI hx hb hr hlk rfl hP hS ⟨trivial, hT⟩ dX8_standingNow_18
set_option maxHeartbeats 4000000 in
set_option maxRecDepth 100000 in
theorem s_X8_stands_0 (l : Launch) (B0 : Nat) (adK adV : Nat → Nat) (D : va_G) (cy : Nat → ClassId) (ad : Nat → Nat) (fr0 : Nat → va_E) (tx : Int32) (rby : Int32) (rnx : Int32) (f : Nat → va_E) (hT : TYx ad cy fr0 tx rby rnx f) (sz : Nat) : TtI l yX8_stands wsX8_stands 6 144 [.ref (ad 0)] B0 adK adV D cy ad f sz (fun (r : Int32) (g : Nat → va_E) => True ∧ (TYx ad cy fr0 tx rby rnx g)) := by
  refine TtI.of (cc := cX8_stands) (maxL := 1) (ty := .int) (own := RX8) (by decide) rfl (Nat.le_of_ble_eq_true rfl) rfl ?_
  intro p e s m below meth c A ls hx hb hr hml hts hown hlk hK hE hP hD hS hA hAB hl
  have hl : lv_has ls 1 [(0, .ref (ad 0))] := hl
  refine st0 (fun H locs hP hS => ?_) hP hS
  refine lv_aload_n hx hb dX8_stands_0 rfl (lv_at hl 0 rfl) ?_
  obtain ⟨t1, x3, x4, e6, h2, h5⟩ := (show okX8 ad tx 0 (f 0) from hT.1 0 (by decide))
  refine tVI (As := []) (rest := []) (i := 0) ⟨hx, hb, hml, hown, hts⟩ hK hE hP hD hS hA hAB (s_X8_standingNow_0 l B0 adK adV D cy ad fr0 tx rby rnx f hT _) (cwV 0 hts gX8_stands_X8_standingNow rfl rfl rfl (by decide +kernel) ⟨Nat.le_of_ble_eq_true rfl, Nat.le_of_ble_eq_true rfl⟩) (by decide) 8 e6 rfl rfl hl.1 rfl (Nat.le_of_ble_eq_true rfl) dX8_stands_1 ⟨Nat.le_of_ble_eq_true rfl, Nat.le_of_ble_eq_true rfl⟩ (fun r f H locs hw hP hD hS => ?_)
  obtain ⟨hrs, hT⟩ := hw
  obtain ⟨x7, rfl⟩ : ∃ q, q = r := ⟨_, rfl⟩
  have h8 := hrs
  exact tI hx hb hr hlk rfl hP hS ⟨trivial, hT⟩ dX8_stands_4
set_option maxHeartbeats 4000000 in
set_option maxRecDepth 100000 in
theorem s_X2_greatest_0 (l : Launch) (B0 : Nat) (adK adV : Nat → Nat) (D : va_G) (cy : Nat → ClassId) (ad : Nat → Nat) (fr0 : Nat → va_E) (tx : Int32) (rby : Int32) (rnx : Int32) (f : Nat → va_E) (hT : TYx ad cy fr0 tx rby rnx f) (p1 : Int32) (hp1 : 0 ≤ p1.toInt ∧ p1.toInt ≤ 4095) (sz : Nat) : TtI l yX2_greatest wsX2_greatest 4 100 [.ref (ad 10), .int p1] B0 adK adV D cy ad f sz (fun (r : Int32) (g : Nat → va_E) => True ∧ (TYx ad cy fr0 tx rby rnx g)) := by
  refine TtI.of (cc := cX2_greatest) (maxL := 4) (ty := .int) (own := RX2) (by decide) rfl (Nat.le_of_ble_eq_true rfl) rfl ?_
  intro p e s m below meth c A ls hx hb hr hml hts hown hlk hK hE hP hD hS hA hAB hl
  have hl : lv_has ls 4 [(0, .ref (ad 10)), (1, .int p1)] := hl
  refine st0 (fun H locs hP hS => ?_) hP hS
  have j15 : ∀ (N : Nat) (f : Nat → va_E) (H : Heap) (locs : List Loc) (ls : Array Slot) (v15_l3 : Int32) (v15_l2 : Int32), (12 - v15_l3.toInt ≤ (N : Int)) → (0 ≤ v15_l3.toInt ∧ v15_l3.toInt ≤ 11) → (0 ≤ v15_l2.toInt ∧ v15_l2.toInt ≤ 4095) → (0 ≤ p1.toInt ∧ p1.toInt ≤ 4095) → (TYx ad cy fr0 tx rby rnx f) → (va_P D vwCl (wl ad f) H) → (va_D A (wl ad f)) → (va_S A s.heap H locs) → (lv_has ls 4 [(3, .int v15_l3), (2, .int v15_l2), (0, .ref (ad 10)), (1, .int p1)]) → W p l e (rmO 4 100 0 0) s m ([.ref (ad 10), .int p1] : List Value).toArray below meth c H locs 0 0 (MQ below (va_Qi (fun (r : Int32) (g : Nat → va_E) => True ∧ (TYx ad cy fr0 tx rby rnx g)) (fun g t => PstT D ad g t) A) ([.ref (ad 10), .int p1] : List Value).toArray s 0 0 A) (F0 m 15 ls []) := by
    intro N
    induction N with
    | zero => intro f H locs ls v15_l3 v15_l2 hN hv15_l3 hv15_l2 hv15_l1 hT hP hD hS hl; exact absurd hN (by omega)
    | succ N ih15 =>
      intro f H locs ls v15_l3 v15_l2 hN hv15_l3 hv15_l2 hv15_l1 hT hP hD hS hl
      refine lv_iload_n hx hb dX2_greatest_15 rfl (lv_at hl 0 rfl) ?_
      refine lv_bipush (v := 10) hx hb dX2_greatest_16 (by decide) ?_
      have ttl_10 := tl_10
      refine lv_icmp_gt (tgt := 47) hx hb dX2_greatest_18 (by decide) (fun c1 => ?_) (fun c1 => ?_)
      · have kc1 := c_lt c1
        refine lv_aload_n hx hb dX2_greatest_47 rfl (lv_at hl 2 rfl) ?_
        obtain ⟨x2, t3, x5, x6, e7, h4⟩ := (show okX2 ad 10 (f 10) from hT.1 10 (by decide))
        refine va_get (D := D) (cl := vwCl) (ci := 2) (v := .int x2) (C := RX2) (T := TX2) (N := 10) hx hb hts in_X2_greatest_X2 hown hK hP 10 (wl_at (by decide) e7) rfl 0 (by decide) (hts (.fieldLink RX2 46 "EightReasons$Loom" "proved" "I") (List.mem_of_getElem? (i := 2) rfl)) (fun _ h9 => h9) rfl dX2_greatest_48 ?_
        refine lv_iload_n hx hb dX2_greatest_51 rfl (lv_at hl 1 rfl) ?_
        refine lv_ior hx hb dX2_greatest_52 ?_
        refine lv_topi (fun x8 ex8 => ?_)
        exact tI hx hb hr hlk rfl hP hS ⟨trivial, hT⟩ dX2_greatest_53
      · have kc1 := c_nlt c1
        refine lv_aload_n hx hb dX2_greatest_21 rfl (lv_at hl 2 rfl) ?_
        obtain ⟨x9, t10, x12, x13, e14, h11⟩ := (show okX2 ad 10 (f 10) from hT.1 10 (by decide))
        refine tVV (As := []) (rest := []) (i := 10) ⟨hx, hb, hml, hown, hts⟩ hK hE hP hD hS hA hAB (s_X2_clearSums_0 l B0 adK adV D cy ad fr0 tx rby rnx f hT _) (cwV 0 hts gX2_greatest_X2_clearSums rfl rfl rfl (by decide +kernel) ⟨Nat.le_of_ble_eq_true rfl, Nat.le_of_ble_eq_true rfl⟩) (by decide) 2 e14 rfl rfl hl.1 rfl (Nat.le_of_ble_eq_true rfl) dX2_greatest_22 ⟨Nat.le_of_ble_eq_true rfl, Nat.le_of_ble_eq_true rfl⟩ (fun f H locs hw hP hD hS => ?_)
        obtain ⟨hrs, hT⟩ := hw
        refine lv_aload_n hx hb dX2_greatest_25 rfl (lv_at hl 2 rfl) ?_
        refine lv_aload_n hx hb dX2_greatest_26 rfl (lv_at hl 2 rfl) ?_
        obtain ⟨x15, t16, x18, x19, e20, h17⟩ := (show okX2 ad 10 (f 10) from hT.1 10 (by decide))
        refine va_get (D := D) (cl := vwCl) (ci := 2) (v := .int x15) (C := RX2) (T := TX2) (N := 10) hx hb hts in_X2_greatest_X2 hown hK hP 10 (wl_at (by decide) e20) rfl 0 (by decide) (hts (.fieldLink RX2 46 "EightReasons$Loom" "proved" "I") (List.mem_of_getElem? (i := 2) rfl)) (fun _ h9 => h9) rfl dX2_greatest_27 ?_
        refine lv_iload_n hx hb dX2_greatest_30 rfl (lv_at hl 1 rfl) ?_
        refine lv_ior hx hb dX2_greatest_31 ?_
        refine lv_topi (fun x21 ex21 => ?_)
        refine tVV (As := [.int x21]) (rest := []) (i := 10) ⟨hx, hb, hml, hown, hts⟩ hK hE hP hD hS hA hAB (s_X2_addFrom_0 l B0 adK adV D cy ad fr0 tx rby rnx f hT x21 _) (cwV 1 hts gX2_greatest_X2_addFrom rfl rfl rfl (by decide +kernel) ⟨Nat.le_of_ble_eq_true rfl, Nat.le_of_ble_eq_true rfl⟩) (by decide) 2 e20 rfl rfl hl.1 rfl (Nat.le_of_ble_eq_true rfl) dX2_greatest_32 ⟨Nat.le_of_ble_eq_true rfl, Nat.le_of_ble_eq_true rfl⟩ (fun f H locs hw hP hD hS => ?_)
        obtain ⟨hrs, hT⟩ := hw
        refine lv_aload_n hx hb dX2_greatest_35 rfl (lv_at hl 2 rfl) ?_
        refine lv_iload_n hx hb dX2_greatest_36 rfl (lv_at hl 1 rfl) ?_
        obtain ⟨x22, t23, x25, x26, e27, h24⟩ := (show okX2 ad 10 (f 10) from hT.1 10 (by decide))
        refine tVI (As := [.int v15_l2]) (rest := []) (i := 10) ⟨hx, hb, hml, hown, hts⟩ hK hE hP hD hS hA hAB (s_X2_enough_0 l B0 adK adV D cy ad fr0 tx rby rnx f hT v15_l2 (by omega) _) (cwV 1 hts gX2_greatest_X2_enough rfl rfl rfl (by decide +kernel) ⟨Nat.le_of_ble_eq_true rfl, Nat.le_of_ble_eq_true rfl⟩) (by decide) 2 e27 rfl rfl hl.1 rfl (Nat.le_of_ble_eq_true rfl) dX2_greatest_37 ⟨Nat.le_of_ble_eq_true rfl, Nat.le_of_ble_eq_true rfl⟩ (fun r g H locs hw hP hD hS => ?_)
        obtain ⟨hrs, rfl⟩ := hw
        obtain ⟨x28, rfl⟩ : ∃ q, q = r := ⟨_, rfl⟩
        have h29 := hrs
        refine lv_istore_n (lv' := [(2, .int x28), (3, .int v15_l3), (0, .ref (ad 10)), (1, .int p1)]) hx hb dX2_greatest_40 rfl hl (by decide) rfl (fun ls hl => ?_)
        obtain ⟨x30, ex30⟩ : ∃ q : Int32, q = v15_l3 + Int32.ofInt (1) := ⟨_, rfl⟩
        refine lv_iinc (v := x30) (lv' := [(3, .int x30), (2, .int x28), (0, .ref (ad 10)), (1, .int p1)]) hx hb dX2_greatest_41 hl (k := 1) rfl ex30.symm (by decide) rfl (fun ls hl => ?_)
        have hx30 := r_inc ex30 (by decide) (by omega) (by omega)
        refine lv_goto (tgt := 15) hx hb dX2_greatest_44 (by decide) ?_
        exact ih15 f H locs ls x30 x28 (by omega) (by omega) (by omega) (by omega) hT hP hD hS (lv_sub hl [0, 1, 2, 3] rfl)
  refine lv_aload_n hx hb dX2_greatest_0 rfl (lv_at hl 0 rfl) ?_
  refine lv_iload_n hx hb dX2_greatest_1 rfl (lv_at hl 1 rfl) ?_
  obtain ⟨x31, t32, x34, x35, e36, h33⟩ := (show okX2 ad 10 (f 10) from hT.1 10 (by decide))
  refine tVV (As := [.int p1]) (rest := []) (i := 10) ⟨hx, hb, hml, hown, hts⟩ hK hE hP hD hS hA hAB (s_X2_weigh_0 l B0 adK adV D cy ad fr0 tx rby rnx f hT p1 _) (cwV 1 hts gX2_greatest_X2_weigh rfl rfl rfl (by decide +kernel) ⟨Nat.le_of_ble_eq_true rfl, Nat.le_of_ble_eq_true rfl⟩) (by decide) 2 e36 rfl rfl hl.1 rfl (Nat.le_of_ble_eq_true rfl) dX2_greatest_2 ⟨Nat.le_of_ble_eq_true rfl, Nat.le_of_ble_eq_true rfl⟩ (fun f H locs hw hP hD hS => ?_)
  obtain ⟨hrs, hT⟩ := hw
  refine lv_aload_n hx hb dX2_greatest_5 rfl (lv_at hl 0 rfl) ?_
  obtain ⟨x37, t38, x40, x41, e42, h39⟩ := (show okX2 ad 10 (f 10) from hT.1 10 (by decide))
  refine va_get (D := D) (cl := vwCl) (ci := 2) (v := .ref (ad t38)) (C := RX2) (T := TX2) (N := 10) hx hb hts in_X2_greatest_X2 hown hK hP 10 (wl_at (by decide) e42) rfl 4 (by decide) (hts (.fieldLink RX2 24 "EightReasons$Loom" "suit" "LEightReasons$Suit;") (List.mem_of_getElem? (i := 1) rfl)) (fun _ h9 => h9) rfl dX2_greatest_6 ?_
  obtain ⟨x43, x45, x46, x48, x49, e50, h44, h47⟩ := (ty_suit hT h39)
  refine tVI (As := []) (rest := []) (i := t38) ⟨hx, hb, hml, hown, hts⟩ hK hE hP hD hS hA hAB (s_X5_claims_0 l B0 adK adV D cy ad fr0 tx rby rnx f hT t38 h39 _) (cwV 0 hts gX2_greatest_X5_claims rfl rfl rfl (by decide +kernel) ⟨Nat.le_of_ble_eq_true rfl, Nat.le_of_ble_eq_true rfl⟩) (x_lt (x_suit0 h39)) 5 e50 rfl rfl hl.1 rfl (Nat.le_of_ble_eq_true rfl) dX2_greatest_9 ⟨Nat.le_of_ble_eq_true rfl, Nat.le_of_ble_eq_true rfl⟩ (fun r g H locs hw hP hD hS => ?_)
  obtain ⟨hrs, rfl⟩ := hw
  obtain ⟨x51, rfl⟩ : ∃ q, q = r := ⟨_, rfl⟩
  have h52 := hrs
  refine lv_istore_n (lv' := [(2, .int x51), (0, .ref (ad 10)), (1, .int p1)]) hx hb dX2_greatest_12 rfl hl (by decide) rfl (fun ls hl => ?_)
  refine lv_iconst (v := 0) hx hb dX2_greatest_13 (by decide) ?_
  refine lv_istore_n (lv' := [(3, .int 0), (2, .int x51), (0, .ref (ad 10)), (1, .int p1)]) hx hb dX2_greatest_14 rfl hl (by decide) rfl (fun ls hl => ?_)
  have ttl_0 := tl_0
  exact j15 (Int.toNat (12 - (0 : Int32).toInt)) f H locs ls (0 : Int32) x51 (by omega) (by omega) (by omega) (by omega) hT hP hD hS (lv_sub hl [0, 1, 2, 3] rfl)
set_option maxHeartbeats 4000000 in
set_option maxRecDepth 100000 in
theorem s_X8_tight_0 (l : Launch) (B0 : Nat) (adK adV : Nat → Nat) (D : va_G) (cy : Nat → ClassId) (ad : Nat → Nat) (fr0 : Nat → va_E) (tx : Int32) (rby : Int32) (rnx : Int32) (f : Nat → va_E) (hT : TYx ad cy fr0 tx rby rnx f) (sz : Nat) : TtI l yX8_tight wsX8_tight 5 123 [.ref (ad 0)] B0 adK adV D cy ad f sz (fun (r : Int32) (g : Nat → va_E) => True ∧ (TYx ad cy fr0 tx rby rnx g)) := by
  refine TtI.of (cc := cX8_tight) (maxL := 1) (ty := .int) (own := RX8) (by decide) rfl (Nat.le_of_ble_eq_true rfl) rfl ?_
  intro p e s m below meth c A ls hx hb hr hml hts hown hlk hK hE hP hD hS hA hAB hl
  have hl : lv_has ls 1 [(0, .ref (ad 0))] := hl
  refine st0 (fun H locs hP hS => ?_) hP hS
  refine lv_aload_n hx hb dX8_tight_0 rfl (lv_at hl 0 rfl) ?_
  obtain ⟨t1, x3, x4, e6, h2, h5⟩ := (show okX8 ad tx 0 (f 0) from hT.1 0 (by decide))
  refine tVV (As := []) (rest := []) (i := 0) ⟨hx, hb, hml, hown, hts⟩ hK hE hP hD hS hA hAB (s_X8_look_0 l B0 adK adV D cy ad fr0 tx rby rnx f hT _) (cwV 0 hts gX8_tight_X8_look rfl rfl rfl (by decide +kernel) ⟨Nat.le_of_ble_eq_true rfl, Nat.le_of_ble_eq_true rfl⟩) (by decide) 8 e6 rfl rfl hl.1 rfl (Nat.le_of_ble_eq_true rfl) dX8_tight_1 ⟨Nat.le_of_ble_eq_true rfl, Nat.le_of_ble_eq_true rfl⟩ (fun f H locs hw hP hD hS => ?_)
  obtain ⟨hrs, hT⟩ := hw
  refine lv_aload_n hx hb dX8_tight_4 rfl (lv_at hl 0 rfl) ?_
  obtain ⟨t7, x9, x10, e12, h8, h11⟩ := (show okX8 ad tx 0 (f 0) from hT.1 0 (by decide))
  refine va_get (D := D) (cl := vwCl) (ci := 8) (v := .ref (ad 10)) (C := RX8) (T := TX8) (N := 13) hx hb hts in_X8_tight_X8 hown hK hP 0 (wl_at (by decide) e12) rfl 6 (by decide) (hts (.fieldLink RX8 44 "EightReasons" "loom" "LEightReasons$Loom;") (List.mem_of_getElem? (i := 1) rfl)) (fun _ h9 => h9) rfl dX8_tight_5 ?_
  refine lv_aload_n hx hb dX8_tight_8 rfl (lv_at hl 0 rfl) ?_
  refine tVR (As := []) (rest := [.ref (ad 10)]) (i := 0) ⟨hx, hb, hml, hown, hts⟩ hK hE hP hD hS hA hAB (s_X8_now_0 l B0 adK adV D cy ad fr0 tx rby rnx f hT _) (cwV 0 hts gX8_tight_X8_now rfl rfl rfl (by decide +kernel) ⟨Nat.le_of_ble_eq_true rfl, Nat.le_of_ble_eq_true rfl⟩) (by decide) 8 e12 rfl rfl hl.1 rfl (Nat.le_of_ble_eq_true rfl) dX8_tight_9 ⟨Nat.le_of_ble_eq_true rfl, Nat.le_of_ble_eq_true rfl⟩ (fun ra g H locs hw hra hP hD hS => ?_)
  obtain ⟨hrs, rfl⟩ := hw
  obtain ⟨t13, h14, rfl⟩ := hra
  obtain ⟨x15, x17, x18, x19, e20, h16⟩ := (ty_state hT h14)
  refine va_get (D := D) (cl := vwCl) (ci := 4) (v := .int x15) (C := RX4) (T := TX4) (N := 5) hx hb hts in_X8_tight_X4 hown hK hP t13 (wl_at (x_lt (x_state0 h14)) e20) rfl 1 (by decide) (hts (.fieldLink RX8 145 "EightReasons$State" "tied" "I") (List.mem_of_getElem? (i := 2) rfl)) (fun _ h9 => h9) rfl dX8_tight_12 ?_
  obtain ⟨x21, t22, x24, x25, e26, h23⟩ := (show okX2 ad 10 (f 10) from hT.1 10 (by decide))
  refine tVI (As := [.int x15]) (rest := []) (i := 10) ⟨hx, hb, hml, hown, hts⟩ hK hE hP hD hS hA hAB (s_X2_greatest_0 l B0 adK adV D cy ad fr0 tx rby rnx f hT x15 (by omega) _) (cwV 1 hts gX8_tight_X2_greatest rfl rfl rfl (by decide +kernel) ⟨Nat.le_of_ble_eq_true rfl, Nat.le_of_ble_eq_true rfl⟩) (by decide) 2 e26 rfl rfl hl.1 rfl (Nat.le_of_ble_eq_true rfl) dX8_tight_15 ⟨Nat.le_of_ble_eq_true rfl, Nat.le_of_ble_eq_true rfl⟩ (fun r f H locs hw hP hD hS => ?_)
  obtain ⟨hrs, hT⟩ := hw
  obtain ⟨x27, rfl⟩ : ∃ q, q = r := ⟨_, rfl⟩
  have h28 := hrs
  exact tI hx hb hr hlk rfl hP hS ⟨trivial, hT⟩ dX8_tight_18
set_option maxHeartbeats 4000000 in
set_option maxRecDepth 100000 in
theorem s_X8_hollow_0 (l : Launch) (B0 : Nat) (adK adV : Nat → Nat) (D : va_G) (cy : Nat → ClassId) (ad : Nat → Nat) (fr0 : Nat → va_E) (tx : Int32) (rby : Int32) (rnx : Int32) (f : Nat → va_E) (hT : TYx ad cy fr0 tx rby rnx f) (sz : Nat) : TtI l yX8_hollow wsX8_hollow 5 124 [.ref (ad 0)] B0 adK adV D cy ad f sz (fun (r : Int32) (g : Nat → va_E) => True ∧ (TYx ad cy fr0 tx rby rnx g)) := by
  refine TtI.of (cc := cX8_hollow) (maxL := 1) (ty := .int) (own := RX8) (by decide) rfl (Nat.le_of_ble_eq_true rfl) rfl ?_
  intro p e s m below meth c A ls hx hb hr hml hts hown hlk hK hE hP hD hS hA hAB hl
  have hl : lv_has ls 1 [(0, .ref (ad 0))] := hl
  refine st0 (fun H locs hP hS => ?_) hP hS
  refine lv_aload_n hx hb dX8_hollow_0 rfl (lv_at hl 0 rfl) ?_
  obtain ⟨t1, x3, x4, e6, h2, h5⟩ := (show okX8 ad tx 0 (f 0) from hT.1 0 (by decide))
  refine tVV (As := []) (rest := []) (i := 0) ⟨hx, hb, hml, hown, hts⟩ hK hE hP hD hS hA hAB (s_X8_look_0 l B0 adK adV D cy ad fr0 tx rby rnx f hT _) (cwV 0 hts gX8_hollow_X8_look rfl rfl rfl (by decide +kernel) ⟨Nat.le_of_ble_eq_true rfl, Nat.le_of_ble_eq_true rfl⟩) (by decide) 8 e6 rfl rfl hl.1 rfl (Nat.le_of_ble_eq_true rfl) dX8_hollow_1 ⟨Nat.le_of_ble_eq_true rfl, Nat.le_of_ble_eq_true rfl⟩ (fun f H locs hw hP hD hS => ?_)
  obtain ⟨hrs, hT⟩ := hw
  refine lv_aload_n hx hb dX8_hollow_4 rfl (lv_at hl 0 rfl) ?_
  obtain ⟨t7, x9, x10, e12, h8, h11⟩ := (show okX8 ad tx 0 (f 0) from hT.1 0 (by decide))
  refine va_get (D := D) (cl := vwCl) (ci := 8) (v := .ref (ad 10)) (C := RX8) (T := TX8) (N := 13) hx hb hts in_X8_hollow_X8 hown hK hP 0 (wl_at (by decide) e12) rfl 6 (by decide) (hts (.fieldLink RX8 44 "EightReasons" "loom" "LEightReasons$Loom;") (List.mem_of_getElem? (i := 1) rfl)) (fun _ h9 => h9) rfl dX8_hollow_5 ?_
  refine lv_aload_n hx hb dX8_hollow_8 rfl (lv_at hl 0 rfl) ?_
  refine tVR (As := []) (rest := [.ref (ad 10)]) (i := 0) ⟨hx, hb, hml, hown, hts⟩ hK hE hP hD hS hA hAB (s_X8_now_0 l B0 adK adV D cy ad fr0 tx rby rnx f hT _) (cwV 0 hts gX8_hollow_X8_now rfl rfl rfl (by decide +kernel) ⟨Nat.le_of_ble_eq_true rfl, Nat.le_of_ble_eq_true rfl⟩) (by decide) 8 e12 rfl rfl hl.1 rfl (Nat.le_of_ble_eq_true rfl) dX8_hollow_9 ⟨Nat.le_of_ble_eq_true rfl, Nat.le_of_ble_eq_true rfl⟩ (fun ra g H locs hw hra hP hD hS => ?_)
  obtain ⟨hrs, rfl⟩ := hw
  obtain ⟨t13, h14, rfl⟩ := hra
  obtain ⟨x15, x17, x18, x19, e20, h16⟩ := (ty_state hT h14)
  refine va_get (D := D) (cl := vwCl) (ci := 4) (v := .int x15) (C := RX4) (T := TX4) (N := 5) hx hb hts in_X8_hollow_X4 hown hK hP t13 (wl_at (x_lt (x_state0 h14)) e20) rfl 1 (by decide) (hts (.fieldLink RX8 145 "EightReasons$State" "tied" "I") (List.mem_of_getElem? (i := 2) rfl)) (fun _ h9 => h9) rfl dX8_hollow_12 ?_
  obtain ⟨x21, t22, x24, x25, e26, h23⟩ := (show okX2 ad 10 (f 10) from hT.1 10 (by decide))
  refine tVI (As := [.int x15]) (rest := []) (i := 10) ⟨hx, hb, hml, hown, hts⟩ hK hE hP hD hS hA hAB (s_X2_greatest_0 l B0 adK adV D cy ad fr0 tx rby rnx f hT x15 (by omega) _) (cwV 1 hts gX8_hollow_X2_greatest rfl rfl rfl (by decide +kernel) ⟨Nat.le_of_ble_eq_true rfl, Nat.le_of_ble_eq_true rfl⟩) (by decide) 2 e26 rfl rfl hl.1 rfl (Nat.le_of_ble_eq_true rfl) dX8_hollow_15 ⟨Nat.le_of_ble_eq_true rfl, Nat.le_of_ble_eq_true rfl⟩ (fun r f H locs hw hP hD hS => ?_)
  obtain ⟨hrs, hT⟩ := hw
  obtain ⟨x27, rfl⟩ : ∃ q, q = r := ⟨_, rfl⟩
  have h28 := hrs
  refine lv_aload_n hx hb dX8_hollow_18 rfl (lv_at hl 0 rfl) ?_
  obtain ⟨t29, x31, x32, e34, h30, h33⟩ := (show okX8 ad tx 0 (f 0) from hT.1 0 (by decide))
  refine va_get (D := D) (cl := vwCl) (ci := 8) (v := .ref (ad 10)) (C := RX8) (T := TX8) (N := 13) hx hb hts in_X8_hollow_X8 hown hK hP 0 (wl_at (by decide) e34) rfl 6 (by decide) (hts (.fieldLink RX8 44 "EightReasons" "loom" "LEightReasons$Loom;") (List.mem_of_getElem? (i := 1) rfl)) (fun _ h9 => h9) rfl dX8_hollow_19 ?_
  refine lv_aload_n hx hb dX8_hollow_22 rfl (lv_at hl 0 rfl) ?_
  refine tVR (As := []) (rest := [.ref (ad 10), .int x27]) (i := 0) ⟨hx, hb, hml, hown, hts⟩ hK hE hP hD hS hA hAB (s_X8_now_0 l B0 adK adV D cy ad fr0 tx rby rnx f hT _) (cwV 0 hts gX8_hollow_X8_now rfl rfl rfl (by decide +kernel) ⟨Nat.le_of_ble_eq_true rfl, Nat.le_of_ble_eq_true rfl⟩) (by decide) 8 e34 rfl rfl hl.1 rfl (Nat.le_of_ble_eq_true rfl) dX8_hollow_23 ⟨Nat.le_of_ble_eq_true rfl, Nat.le_of_ble_eq_true rfl⟩ (fun ra g H locs hw hra hP hD hS => ?_)
  obtain ⟨hrs, rfl⟩ := hw
  obtain ⟨t35, h36, rfl⟩ := hra
  obtain ⟨x37, x39, x40, x41, e42, h38⟩ := (ty_state hT h36)
  refine va_get (D := D) (cl := vwCl) (ci := 4) (v := .int x37) (C := RX4) (T := TX4) (N := 5) hx hb hts in_X8_hollow_X4 hown hK hP t35 (wl_at (x_lt (x_state0 h36)) e42) rfl 1 (by decide) (hts (.fieldLink RX8 145 "EightReasons$State" "tied" "I") (List.mem_of_getElem? (i := 2) rfl)) (fun _ h9 => h9) rfl dX8_hollow_26 ?_
  obtain ⟨x43, t44, x46, x47, e48, h45⟩ := (show okX2 ad 10 (f 10) from hT.1 10 (by decide))
  refine tVI (As := [.int x37]) (rest := [.int x27]) (i := 10) ⟨hx, hb, hml, hown, hts⟩ hK hE hP hD hS hA hAB (s_X2_standing_0 l B0 adK adV D cy ad fr0 tx rby rnx f hT x37 _) (cwV 1 hts gX8_hollow_X2_standing rfl rfl rfl (by decide +kernel) ⟨Nat.le_of_ble_eq_true rfl, Nat.le_of_ble_eq_true rfl⟩) (by decide) 2 e48 rfl rfl hl.1 rfl (Nat.le_of_ble_eq_true rfl) dX8_hollow_29 ⟨Nat.le_of_ble_eq_true rfl, Nat.le_of_ble_eq_true rfl⟩ (fun r f H locs hw hP hD hS => ?_)
  obtain ⟨hrs, hT⟩ := hw
  obtain ⟨x49, rfl⟩ : ∃ q, q = r := ⟨_, rfl⟩
  have h50 := hrs
  refine lv_iconst (v := (-1)) hx hb dX8_hollow_32 (by decide) ?_
  refine lv_ixor hx hb dX8_hollow_33 ?_
  refine lv_topi (fun x51 ex51 => ?_)
  refine lv_iand hx hb dX8_hollow_34 ?_
  refine lv_topi (fun x52 ex52 => ?_)
  exact tI hx hb hr hlk rfl hP hS ⟨trivial, hT⟩ dX8_hollow_35
