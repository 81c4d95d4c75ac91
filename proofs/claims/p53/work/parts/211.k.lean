theorem dX9_divisor_0 : decode cX9_divisor 0 = .ok (.iload_n 0, 1) := by decide +kernel
theorem dX9_divisor_1 : decode cX9_divisor 1 = .ok (.istore_n 2, 1) := by decide +kernel
theorem dX9_divisor_2 : decode cX9_divisor 2 = .ok (.iload_n 1, 1) := by decide +kernel
theorem dX9_divisor_3 : decode cX9_divisor 3 = .ok (.istore_n 3, 1) := by decide +kernel
theorem dX9_divisor_4 : decode cX9_divisor 4 = .ok (.iload_n 3, 1) := by decide +kernel
theorem dX9_divisor_5 : decode cX9_divisor 5 = .ok (.ifCond .le 16, 3) := by decide +kernel
theorem dX9_divisor_8 : decode cX9_divisor 8 = .ok (.iload_n 2, 1) := by decide +kernel
theorem dX9_divisor_9 : decode cX9_divisor 9 = .ok (.iload_n 3, 1) := by decide +kernel
theorem dX9_divisor_10 : decode cX9_divisor 10 = .ok (.irem, 1) := by decide +kernel
theorem dX9_divisor_11 : decode cX9_divisor 11 = .ok (.istore 4, 2) := by decide +kernel
theorem dX9_divisor_13 : decode cX9_divisor 13 = .ok (.iload_n 3, 1) := by decide +kernel
theorem dX9_divisor_14 : decode cX9_divisor 14 = .ok (.istore_n 2, 1) := by decide +kernel
theorem dX9_divisor_15 : decode cX9_divisor 15 = .ok (.iload 4, 2) := by decide +kernel
theorem dX9_divisor_17 : decode cX9_divisor 17 = .ok (.istore_n 3, 1) := by decide +kernel
theorem dX9_divisor_18 : decode cX9_divisor 18 = .ok (.goto (-14), 3) := by decide +kernel
theorem dX9_divisor_21 : decode cX9_divisor 21 = .ok (.iload_n 2, 1) := by decide +kernel
theorem dX9_divisor_22 : decode cX9_divisor 22 = .ok (.ireturn, 1) := by decide +kernel
theorem dX9_raised_0 : decode cX9_raised 0 = .ok (.iconst 1, 1) := by decide +kernel
theorem dX9_raised_1 : decode cX9_raised 1 = .ok (.istore_n 2, 1) := by decide +kernel
theorem dX9_raised_2 : decode cX9_raised 2 = .ok (.iconst 0, 1) := by decide +kernel
theorem dX9_raised_3 : decode cX9_raised 3 = .ok (.istore_n 3, 1) := by decide +kernel
theorem dX9_raised_4 : decode cX9_raised 4 = .ok (.iload_n 3, 1) := by decide +kernel
theorem dX9_raised_5 : decode cX9_raised 5 = .ok (.iload_n 1, 1) := by decide +kernel
theorem dX9_raised_6 : decode cX9_raised 6 = .ok (.if_icmp .ge 13, 3) := by decide +kernel
theorem dX9_raised_9 : decode cX9_raised 9 = .ok (.iload_n 2, 1) := by decide +kernel
theorem dX9_raised_10 : decode cX9_raised 10 = .ok (.iload_n 0, 1) := by decide +kernel
theorem dX9_raised_11 : decode cX9_raised 11 = .ok (.imul, 1) := by decide +kernel
theorem dX9_raised_12 : decode cX9_raised 12 = .ok (.istore_n 2, 1) := by decide +kernel
theorem dX9_raised_13 : decode cX9_raised 13 = .ok (.iinc 3 1, 3) := by decide +kernel
theorem dX9_raised_16 : decode cX9_raised 16 = .ok (.goto (-12), 3) := by decide +kernel
theorem dX9_raised_19 : decode cX9_raised 19 = .ok (.iload_n 2, 1) := by decide +kernel
theorem dX9_raised_20 : decode cX9_raised 20 = .ok (.ireturn, 1) := by decide +kernel
set_option maxRecDepth 20000 in
theorem ggX9_depth_X9_standNow : GoodIn wsX9_depth wsX9_standNow := goodIn_r _ [6, 7, 8, 9, 10, 5, 11, 1, 12, 13, 14, 15, 16, 17, 18, 19, 20, 21, 22, 23, 24, 25, 26, 27, 28, 29, 30, 31, 32, 33, 34, 35, 36, 37, 38, 39, 40, 41, 42, 43, 44, 45, 46, 47, 48, 49, 50, 51, 52, 53, 54, 55, 56, 57, 58, 59, 60, 61, 62, 63, 64, 65, 66, 67, 68, 69, 70, 71, 72, 73, 74, 75, 76, 77, 78, 79, 80, 81, 82, 83, 84, 85, 86, 87, 88, 89, 90, 91, 92, 93, 94, 95, 96, 97, 98, 99, 100, 101, 102, 103, 104, 105, 106, 107, 108, 109, 110, 111, 112, 113, 114, 115, 116, 117, 118, 119, 120, 121, 122, 123, 124, 125, 126, 127, 128, 129, 130, 131, 132, 133, 134, 135, 136, 137, 138, 139, 140, 141, 142, 143, 144, 145, 146, 147, 148, 149, 150, 151, 152, 153, 154, 155, 156, 157, 158, 159, 160, 161, 162, 163, 164, 165, 166, 167, 168, 169, 170, 171] rfl rfl
set_option maxRecDepth 20000 in
theorem gX9_depth_X9_standNow : GoodIn wsX9_depth (wsV RX9 402 RX9 yX9_standNow wsX9_standNow) := goodIn_app (goodIn_of _ (by decide +kernel)) ggX9_depth_X9_standNow
set_option maxRecDepth 20000 in
theorem ggX9_depth_X9_many : GoodIn wsX9_depth wsX9_many := goodIn_r _ [87, 88, 20, 108, 109, 110, 111, 112, 113, 114, 115, 116, 117, 118, 119, 120, 121, 122, 123, 124, 125, 126, 127, 128, 129, 130, 131, 132, 133, 134, 135, 136, 137, 138, 139, 140, 141, 142, 143, 144, 145, 146, 147, 148, 149, 150, 151, 152, 153, 154, 155, 156, 157, 158, 159, 160, 161, 162, 163, 164, 165, 166, 167, 168, 169, 170, 171] rfl rfl
set_option maxRecDepth 20000 in
theorem gX9_depth_X9_many : GoodIn wsX9_depth (wsV RX9 343 RX9 yX9_many wsX9_many) := goodIn_app (goodIn_of _ (by decide +kernel)) ggX9_depth_X9_many
set_option maxRecDepth 20000 in
theorem ggX9_depth_X9_bit : GoodIn wsX9_depth wsX9_bit := goodIn_r _ [28] rfl rfl
set_option maxRecDepth 20000 in
theorem gX9_depth_X9_bit : GoodIn wsX9_depth (va_wsS RX9 245 yX9_bit wsX9_bit) := goodIn_app (goodIn_of _ (by decide +kernel)) ggX9_depth_X9_bit
theorem dX9_depth_0 : decode cX9_depth 0 = .ok (.aload_n 0, 1) := by decide +kernel
theorem dX9_depth_1 : decode cX9_depth 1 = .ok (.invokevirtual 402, 3) := by decide +kernel
theorem dX9_depth_4 : decode cX9_depth 4 = .ok (.istore_n 1, 1) := by decide +kernel
theorem dX9_depth_5 : decode cX9_depth 5 = .ok (.iconst (-1), 1) := by decide +kernel
theorem dX9_depth_6 : decode cX9_depth 6 = .ok (.istore_n 2, 1) := by decide +kernel
theorem dX9_depth_7 : decode cX9_depth 7 = .ok (.iconst 0, 1) := by decide +kernel
theorem dX9_depth_8 : decode cX9_depth 8 = .ok (.istore_n 3, 1) := by decide +kernel
theorem dX9_depth_9 : decode cX9_depth 9 = .ok (.iload_n 3, 1) := by decide +kernel
theorem dX9_depth_10 : decode cX9_depth 10 = .ok (.aload_n 0, 1) := by decide +kernel
theorem dX9_depth_11 : decode cX9_depth 11 = .ok (.invokevirtual 343, 3) := by decide +kernel
theorem dX9_depth_14 : decode cX9_depth 14 = .ok (.if_icmp .ge 34, 3) := by decide +kernel
theorem dX9_depth_17 : decode cX9_depth 17 = .ok (.iload_n 1, 1) := by decide +kernel
theorem dX9_depth_18 : decode cX9_depth 18 = .ok (.iload_n 3, 1) := by decide +kernel
theorem dX9_depth_19 : decode cX9_depth 19 = .ok (.invokestatic 245, 3) := by decide +kernel
theorem dX9_depth_22 : decode cX9_depth 22 = .ok (.ifCond .eq 20, 3) := by decide +kernel
theorem dX9_depth_25 : decode cX9_depth 25 = .ok (.aload_n 0, 1) := by decide +kernel
theorem dX9_depth_26 : decode cX9_depth 26 = .ok (.getfield 91, 3) := by decide +kernel
theorem dX9_depth_29 : decode cX9_depth 29 = .ok (.iload_n 3, 1) := by decide +kernel
theorem dX9_depth_30 : decode cX9_depth 30 = .ok (.iaload, 1) := by decide +kernel
theorem dX9_depth_31 : decode cX9_depth 31 = .ok (.iload_n 2, 1) := by decide +kernel
theorem dX9_depth_32 : decode cX9_depth 32 = .ok (.if_icmp .le 10, 3) := by decide +kernel
theorem dX9_depth_35 : decode cX9_depth 35 = .ok (.aload_n 0, 1) := by decide +kernel
theorem dX9_depth_36 : decode cX9_depth 36 = .ok (.getfield 91, 3) := by decide +kernel
theorem dX9_depth_39 : decode cX9_depth 39 = .ok (.iload_n 3, 1) := by decide +kernel
theorem dX9_depth_40 : decode cX9_depth 40 = .ok (.iaload, 1) := by decide +kernel
theorem dX9_depth_41 : decode cX9_depth 41 = .ok (.istore_n 2, 1) := by decide +kernel
theorem dX9_depth_42 : decode cX9_depth 42 = .ok (.iinc 3 1, 3) := by decide +kernel
theorem dX9_depth_45 : decode cX9_depth 45 = .ok (.goto (-36), 3) := by decide +kernel
theorem dX9_depth_48 : decode cX9_depth 48 = .ok (.iload_n 2, 1) := by decide +kernel
theorem dX9_depth_49 : decode cX9_depth 49 = .ok (.ireturn, 1) := by decide +kernel
set_option maxRecDepth 20000 in
theorem ggX9_gaps_X9_many : GoodIn wsX9_gaps wsX9_many := goodIn_r _ [6, 7, 8, 35, 36, 37, 38, 39, 40, 41, 42, 43, 44, 45, 46, 47, 48, 49, 50, 51, 52, 53, 54, 55, 56, 57, 58, 59, 60, 61, 62, 63, 64, 65, 66, 67, 68, 69, 70, 71, 72, 73, 74, 75, 76, 77, 78, 79, 80, 81, 82, 83, 84, 85, 86, 87, 88, 89, 90, 91, 92, 93, 94, 95, 96, 97, 98] rfl rfl
set_option maxRecDepth 20000 in
theorem gX9_gaps_X9_many : GoodIn wsX9_gaps (wsV RX9 343 RX9 yX9_many wsX9_many) := goodIn_app (goodIn_of _ (by decide +kernel)) ggX9_gaps_X9_many
set_option maxRecDepth 20000 in
theorem ggX9_gaps_X9_isClaim : GoodIn wsX9_gaps wsX9_isClaim := goodIn_r _ [12, 13, 8, 14, 15, 16, 5, 17, 2, 3, 4, 6, 7, 18, 19, 20, 35, 36, 37, 38, 39, 40, 41, 42, 43, 44, 45, 46, 47, 48, 49, 50, 51, 52, 53, 54, 55, 56, 57, 58, 59, 60, 61, 62, 63, 64, 65, 66, 67, 68, 69, 70, 71, 72, 73, 74, 75, 76, 77, 78, 79, 80, 81, 82, 83, 84, 85, 86, 87, 88, 89, 90, 91, 92, 93, 94, 95, 96, 97, 98] rfl rfl
set_option maxRecDepth 20000 in
theorem gX9_gaps_X9_isClaim : GoodIn wsX9_gaps (wsV RX9 390 RX9 yX9_isClaim wsX9_isClaim) := goodIn_app (goodIn_of _ (by decide +kernel)) ggX9_gaps_X9_isClaim
set_option maxRecDepth 20000 in
theorem ggX9_gaps_X9_leadingTo : GoodIn wsX9_gaps wsX9_leadingTo := goodIn_r _ [24, 25, 26, 27, 5, 28, 29, 8, 30, 31, 32, 33, 34, 35, 36, 37, 38, 39, 40, 41, 42, 43, 44, 45, 46, 47, 48, 49, 50, 51, 52, 53, 54, 55, 56, 57, 58, 59, 60, 61, 62, 63, 64, 65, 66, 67, 68, 69, 70, 71, 72, 73, 74, 75, 76, 77, 78, 79, 80, 81, 82, 83, 84, 85, 86, 87, 88, 89, 90, 91, 92, 93, 94, 95, 96, 97, 98] rfl rfl
set_option maxRecDepth 20000 in
theorem gX9_gaps_X9_leadingTo : GoodIn wsX9_gaps (wsV RX9 318 RX9 yX9_leadingTo wsX9_leadingTo) := goodIn_app (goodIn_of _ (by decide +kernel)) ggX9_gaps_X9_leadingTo
theorem dX9_gaps_0 : decode cX9_gaps 0 = .ok (.iconst 0, 1) := by decide +kernel
theorem dX9_gaps_1 : decode cX9_gaps 1 = .ok (.istore_n 1, 1) := by decide +kernel
theorem dX9_gaps_2 : decode cX9_gaps 2 = .ok (.iconst 0, 1) := by decide +kernel
theorem dX9_gaps_3 : decode cX9_gaps 3 = .ok (.istore_n 2, 1) := by decide +kernel
theorem dX9_gaps_4 : decode cX9_gaps 4 = .ok (.iload_n 2, 1) := by decide +kernel
theorem dX9_gaps_5 : decode cX9_gaps 5 = .ok (.aload_n 0, 1) := by decide +kernel
theorem dX9_gaps_6 : decode cX9_gaps 6 = .ok (.invokevirtual 343, 3) := by decide +kernel
theorem dX9_gaps_9 : decode cX9_gaps 9 = .ok (.if_icmp .ge 38, 3) := by decide +kernel
theorem dX9_gaps_12 : decode cX9_gaps 12 = .ok (.aload_n 0, 1) := by decide +kernel
theorem dX9_gaps_13 : decode cX9_gaps 13 = .ok (.iload_n 2, 1) := by decide +kernel
theorem dX9_gaps_14 : decode cX9_gaps 14 = .ok (.invokevirtual 390, 3) := by decide +kernel
theorem dX9_gaps_17 : decode cX9_gaps 17 = .ok (.ifCond .eq 24, 3) := by decide +kernel
theorem dX9_gaps_20 : decode cX9_gaps 20 = .ok (.aload_n 0, 1) := by decide +kernel
theorem dX9_gaps_21 : decode cX9_gaps 21 = .ok (.iload_n 2, 1) := by decide +kernel
theorem dX9_gaps_22 : decode cX9_gaps 22 = .ok (.invokevirtual 318, 3) := by decide +kernel
theorem dX9_gaps_25 : decode cX9_gaps 25 = .ok (.aload_n 0, 1) := by decide +kernel
theorem dX9_gaps_26 : decode cX9_gaps 26 = .ok (.getfield 76, 3) := by decide +kernel
theorem dX9_gaps_29 : decode cX9_gaps 29 = .ok (.iconst 1, 1) := by decide +kernel
theorem dX9_gaps_30 : decode cX9_gaps 30 = .ok (.iaload, 1) := by decide +kernel
theorem dX9_gaps_31 : decode cX9_gaps 31 = .ok (.iand, 1) := by decide +kernel
theorem dX9_gaps_32 : decode cX9_gaps 32 = .ok (.ifCond .ne 9, 3) := by decide +kernel
theorem dX9_gaps_35 : decode cX9_gaps 35 = .ok (.iload_n 1, 1) := by decide +kernel
theorem dX9_gaps_36 : decode cX9_gaps 36 = .ok (.iconst 1, 1) := by decide +kernel
theorem dX9_gaps_37 : decode cX9_gaps 37 = .ok (.iload_n 2, 1) := by decide +kernel
theorem dX9_gaps_38 : decode cX9_gaps 38 = .ok (.ishl, 1) := by decide +kernel
theorem dX9_gaps_39 : decode cX9_gaps 39 = .ok (.ior, 1) := by decide +kernel
theorem dX9_gaps_40 : decode cX9_gaps 40 = .ok (.istore_n 1, 1) := by decide +kernel
theorem dX9_gaps_41 : decode cX9_gaps 41 = .ok (.iinc 2 1, 3) := by decide +kernel
theorem dX9_gaps_44 : decode cX9_gaps 44 = .ok (.goto (-40), 3) := by decide +kernel
theorem dX9_gaps_47 : decode cX9_gaps 47 = .ok (.iload_n 1, 1) := by decide +kernel
theorem dX9_gaps_48 : decode cX9_gaps 48 = .ok (.ireturn, 1) := by decide +kernel
set_option maxRecDepth 20000 in
theorem ggX9_weakest_X9_layWeights : GoodIn wsX9_weakest wsX9_layWeights := goodIn_r _ [7, 8, 9, 1, 2, 10, 11, 12, 13, 14, 6, 15, 16, 17, 18, 19, 20, 21, 22, 23, 24, 25, 26, 27, 28, 29, 30, 31, 32, 33, 34, 35, 36, 37, 38, 39, 40, 41, 42, 43, 44, 45, 46, 47, 48, 49, 50, 51, 52, 53, 54, 55, 56, 57, 58, 59, 60, 61, 62, 63, 64, 65, 66, 67, 68, 69, 70, 71, 72, 73, 74, 75, 76, 77, 78, 79, 80, 81, 82, 83, 84, 85, 86, 87, 88, 89, 90, 91, 92, 93, 94, 95, 96, 97, 98, 99, 100, 101, 102, 103, 104, 105, 106, 107, 108, 109, 110, 111, 112, 113, 114, 115, 116, 117, 118, 119, 120, 121, 122, 123, 124, 125, 126, 127, 128, 129, 130, 131, 132, 133, 134] rfl rfl
set_option maxRecDepth 20000 in
theorem gX9_weakest_X9_layWeights : GoodIn wsX9_weakest (wsV RX9 386 RX9 yX9_layWeights wsX9_layWeights) := goodIn_app (goodIn_of _ (by decide +kernel)) ggX9_weakest_X9_layWeights
set_option maxRecDepth 20000 in
theorem ggX9_weakest_X9_threads : GoodIn wsX9_weakest wsX9_threads := goodIn_r _ [15, 16, 11, 71, 72, 73, 74, 75, 76, 77, 78, 79, 80, 81, 82, 83, 84, 85, 86, 87, 88, 89, 90, 91, 92, 93, 94, 95, 96, 97, 98, 99, 100, 101, 102, 103, 104, 105, 106, 107, 108, 109, 110, 111, 112, 113, 114, 115, 116, 117, 118, 119, 120, 121, 122, 123, 124, 125, 126, 127, 128, 129, 130, 131, 132, 133, 134] rfl rfl
set_option maxRecDepth 20000 in
theorem gX9_weakest_X9_threads : GoodIn wsX9_weakest (wsV RX9 350 RX9 yX9_threads wsX9_threads) := goodIn_app (goodIn_of _ (by decide +kernel)) ggX9_weakest_X9_threads
set_option maxRecDepth 20000 in
theorem ggX9_weakest_X9_bit : GoodIn wsX9_weakest wsX9_bit := goodIn_r _ [19] rfl rfl
set_option maxRecDepth 20000 in
theorem gX9_weakest_X9_bit : GoodIn wsX9_weakest (va_wsS RX9 245 yX9_bit wsX9_bit) := goodIn_app (goodIn_of _ (by decide +kernel)) ggX9_weakest_X9_bit
theorem dX9_weakest_0 : decode cX9_weakest 0 = .ok (.aload_n 0, 1) := by decide +kernel
theorem dX9_weakest_1 : decode cX9_weakest 1 = .ok (.aload_n 0, 1) := by decide +kernel
theorem dX9_weakest_2 : decode cX9_weakest 2 = .ok (.getfield 76, 3) := by decide +kernel
theorem dX9_weakest_5 : decode cX9_weakest 5 = .ok (.iconst 1, 1) := by decide +kernel
theorem dX9_weakest_6 : decode cX9_weakest 6 = .ok (.iaload, 1) := by decide +kernel
theorem dX9_weakest_7 : decode cX9_weakest 7 = .ok (.invokevirtual 386, 3) := by decide +kernel
theorem dX9_weakest_10 : decode cX9_weakest 10 = .ok (.iconst (-1), 1) := by decide +kernel
theorem dX9_weakest_11 : decode cX9_weakest 11 = .ok (.istore_n 1, 1) := by decide +kernel
theorem dX9_weakest_12 : decode cX9_weakest 12 = .ok (.iconst 0, 1) := by decide +kernel
theorem dX9_weakest_13 : decode cX9_weakest 13 = .ok (.istore_n 2, 1) := by decide +kernel
theorem dX9_weakest_14 : decode cX9_weakest 14 = .ok (.iload_n 2, 1) := by decide +kernel
theorem dX9_weakest_15 : decode cX9_weakest 15 = .ok (.aload_n 0, 1) := by decide +kernel
theorem dX9_weakest_16 : decode cX9_weakest 16 = .ok (.invokevirtual 350, 3) := by decide +kernel
theorem dX9_weakest_19 : decode cX9_weakest 19 = .ok (.if_icmp .ge 43, 3) := by decide +kernel
theorem dX9_weakest_22 : decode cX9_weakest 22 = .ok (.aload_n 0, 1) := by decide +kernel
theorem dX9_weakest_23 : decode cX9_weakest 23 = .ok (.getfield 76, 3) := by decide +kernel
theorem dX9_weakest_26 : decode cX9_weakest 26 = .ok (.iconst 1, 1) := by decide +kernel
theorem dX9_weakest_27 : decode cX9_weakest 27 = .ok (.iaload, 1) := by decide +kernel
theorem dX9_weakest_28 : decode cX9_weakest 28 = .ok (.iload_n 2, 1) := by decide +kernel
theorem dX9_weakest_29 : decode cX9_weakest 29 = .ok (.invokestatic 245, 3) := by decide +kernel
theorem dX9_weakest_32 : decode cX9_weakest 32 = .ok (.ifCond .eq 24, 3) := by decide +kernel
theorem dX9_weakest_35 : decode cX9_weakest 35 = .ok (.iload_n 1, 1) := by decide +kernel
theorem dX9_weakest_36 : decode cX9_weakest 36 = .ok (.ifCond .lt 18, 3) := by decide +kernel
theorem dX9_weakest_39 : decode cX9_weakest 39 = .ok (.aload_n 0, 1) := by decide +kernel
theorem dX9_weakest_40 : decode cX9_weakest 40 = .ok (.getfield 88, 3) := by decide +kernel
theorem dX9_weakest_43 : decode cX9_weakest 43 = .ok (.iload_n 2, 1) := by decide +kernel
theorem dX9_weakest_44 : decode cX9_weakest 44 = .ok (.iaload, 1) := by decide +kernel
theorem dX9_weakest_45 : decode cX9_weakest 45 = .ok (.aload_n 0, 1) := by decide +kernel
theorem dX9_weakest_46 : decode cX9_weakest 46 = .ok (.getfield 88, 3) := by decide +kernel
theorem dX9_weakest_49 : decode cX9_weakest 49 = .ok (.iload_n 1, 1) := by decide +kernel
theorem dX9_weakest_50 : decode cX9_weakest 50 = .ok (.iaload, 1) := by decide +kernel
theorem dX9_weakest_51 : decode cX9_weakest 51 = .ok (.if_icmp .ge 5, 3) := by decide +kernel
theorem dX9_weakest_54 : decode cX9_weakest 54 = .ok (.iload_n 2, 1) := by decide +kernel
theorem dX9_weakest_55 : decode cX9_weakest 55 = .ok (.istore_n 1, 1) := by decide +kernel
theorem dX9_weakest_56 : decode cX9_weakest 56 = .ok (.iinc 2 1, 3) := by decide +kernel
theorem dX9_weakest_59 : decode cX9_weakest 59 = .ok (.goto (-45), 3) := by decide +kernel
theorem dX9_weakest_62 : decode cX9_weakest 62 = .ok (.iload_n 1, 1) := by decide +kernel
theorem dX9_weakest_63 : decode cX9_weakest 63 = .ok (.ireturn, 1) := by decide +kernel
set_option maxRecDepth 20000 in
theorem ggX9_best_X9_isClaim : GoodIn wsX9_best wsX9_isClaim := goodIn_r _ [6, 7, 8, 9, 10, 11, 5, 12, 13, 14, 15, 16, 17, 18, 19, 20, 108, 109, 110, 111, 112, 113, 114, 115, 116, 117, 118, 119, 120, 121, 122, 123, 124, 125, 126, 127, 128, 129, 130, 131, 132, 133, 134, 135, 136, 137, 138, 139, 140, 141, 142, 143, 144, 145, 146, 147, 148, 149, 150, 151, 152, 153, 154, 155, 156, 157, 158, 159, 160, 161, 162, 163, 164, 165, 166, 167, 168, 169, 170, 171] rfl rfl
set_option maxRecDepth 20000 in
theorem gX9_best_X9_isClaim : GoodIn wsX9_best (wsV RX9 390 RX9 yX9_isClaim wsX9_isClaim) := goodIn_app (goodIn_of _ (by decide +kernel)) ggX9_best_X9_isClaim
set_option maxRecDepth 20000 in
theorem ggX9_best_X9_standNow : GoodIn wsX9_best wsX9_standNow := goodIn_r _ [24, 25, 26, 27, 28, 5, 29, 30, 31, 32, 33, 34, 35, 36, 1, 37, 8, 38, 39, 40, 41, 42, 43, 44, 45, 46, 47, 48, 49, 50, 51, 52, 53, 54, 55, 56, 57, 58, 59, 60, 61, 62, 63, 64, 65, 66, 67, 68, 69, 70, 71, 72, 73, 74, 75, 76, 77, 78, 79, 80, 81, 82, 83, 84, 85, 86, 87, 88, 89, 7, 90, 91, 92, 93, 94, 95, 96, 97, 98, 99, 13, 14, 15, 16, 17, 100, 101, 102, 103, 9, 10, 11, 12, 18, 19, 20, 2, 3, 4, 6, 104, 105, 106, 107, 108, 109, 110, 111, 112, 113, 114, 115, 116, 117, 118, 119, 120, 121, 122, 123, 124, 125, 126, 127, 128, 129, 130, 131, 132, 133, 134, 135, 136, 137, 138, 139, 140, 141, 142, 143, 144, 145, 146, 147, 148, 149, 150, 151, 152, 153, 154, 155, 156, 157, 158, 159, 160, 161, 162, 163, 164, 165, 166, 167, 168, 169, 170, 171] rfl rfl
set_option maxRecDepth 20000 in
theorem gX9_best_X9_standNow : GoodIn wsX9_best (wsV RX9 402 RX9 yX9_standNow wsX9_standNow) := goodIn_app (goodIn_of _ (by decide +kernel)) ggX9_best_X9_standNow
set_option maxRecDepth 20000 in
theorem ggX9_best_X9_threads : GoodIn wsX9_best wsX9_threads := goodIn_r _ [41, 42, 8, 108, 109, 110, 111, 112, 113, 114, 115, 116, 117, 118, 119, 120, 121, 122, 123, 124, 125, 126, 127, 128, 129, 130, 131, 132, 133, 134, 135, 136, 137, 138, 139, 140, 141, 142, 143, 144, 145, 146, 147, 148, 149, 150, 151, 152, 153, 154, 155, 156, 157, 158, 159, 160, 161, 162, 163, 164, 165, 166, 167, 168, 169, 170, 171] rfl rfl
set_option maxRecDepth 20000 in
theorem gX9_best_X9_threads : GoodIn wsX9_best (wsV RX9 350 RX9 yX9_threads wsX9_threads) := goodIn_app (goodIn_of _ (by decide +kernel)) ggX9_best_X9_threads
set_option maxRecDepth 20000 in
theorem ggX9_best_X9_toOf : GoodIn wsX9_best wsX9_toOf := goodIn_r _ [65, 66, 8, 108, 109, 110, 111, 112, 113, 114, 115, 116, 117, 118, 119, 120, 121, 122, 123, 124, 125, 126, 127, 128, 129, 130, 131, 132, 133, 134, 135, 136, 137, 138, 139, 140, 141, 142, 143, 144, 145, 146, 147, 148, 149, 150, 151, 152, 153, 154, 155, 156, 157, 158, 159, 160, 161, 162, 163, 164, 165, 166, 167, 168, 169, 170, 171] rfl rfl
set_option maxRecDepth 20000 in
theorem gX9_best_X9_toOf : GoodIn wsX9_best (wsV RX9 315 RX9 yX9_toOf wsX9_toOf) := goodIn_app (goodIn_of _ (by decide +kernel)) ggX9_best_X9_toOf
set_option maxRecDepth 20000 in
theorem ggX9_best_X9_fromOf : GoodIn wsX9_best wsX9_fromOf := goodIn_r _ [77, 78, 8, 108, 109, 110, 111, 112, 113, 114, 115, 116, 117, 118, 119, 120, 121, 122, 123, 124, 125, 126, 127, 128, 129, 130, 131, 132, 133, 134, 135, 136, 137, 138, 139, 140, 141, 142, 143, 144, 145, 146, 147, 148, 149, 150, 151, 152, 153, 154, 155, 156, 157, 158, 159, 160, 161, 162, 163, 164, 165, 166, 167, 168, 169, 170, 171] rfl rfl
set_option maxRecDepth 20000 in
theorem gX9_best_X9_fromOf : GoodIn wsX9_best (wsV RX9 327 RX9 yX9_fromOf wsX9_fromOf) := goodIn_app (goodIn_of _ (by decide +kernel)) ggX9_best_X9_fromOf
set_option maxRecDepth 20000 in
theorem ggX9_best_X9_bit : GoodIn wsX9_best wsX9_bit := goodIn_r _ [45] rfl rfl
set_option maxRecDepth 20000 in
theorem gX9_best_X9_bit : GoodIn wsX9_best (va_wsS RX9 245 yX9_bit wsX9_bit) := goodIn_app (goodIn_of _ (by decide +kernel)) ggX9_best_X9_bit
theorem dX9_best_0 : decode cX9_best 0 = .ok (.aload_n 0, 1) := by decide +kernel
theorem dX9_best_1 : decode cX9_best 1 = .ok (.iload_n 1, 1) := by decide +kernel
theorem dX9_best_2 : decode cX9_best 2 = .ok (.invokevirtual 390, 3) := by decide +kernel
theorem dX9_best_5 : decode cX9_best 5 = .ok (.ifCond .ne 5, 3) := by decide +kernel
theorem dX9_best_8 : decode cX9_best 8 = .ok (.iconst (-1), 1) := by decide +kernel
theorem dX9_best_9 : decode cX9_best 9 = .ok (.ireturn, 1) := by decide +kernel
theorem dX9_best_10 : decode cX9_best 10 = .ok (.aload_n 0, 1) := by decide +kernel
theorem dX9_best_11 : decode cX9_best 11 = .ok (.invokevirtual 402, 3) := by decide +kernel
theorem dX9_best_14 : decode cX9_best 14 = .ok (.istore_n 2, 1) := by decide +kernel
theorem dX9_best_15 : decode cX9_best 15 = .ok (.iconst (-1), 1) := by decide +kernel
theorem dX9_best_16 : decode cX9_best 16 = .ok (.istore_n 3, 1) := by decide +kernel
theorem dX9_best_17 : decode cX9_best 17 = .ok (.iconst 0, 1) := by decide +kernel
theorem dX9_best_18 : decode cX9_best 18 = .ok (.istore 4, 2) := by decide +kernel
theorem dX9_best_20 : decode cX9_best 20 = .ok (.iconst 0, 1) := by decide +kernel
theorem dX9_best_21 : decode cX9_best 21 = .ok (.istore 5, 2) := by decide +kernel
theorem dX9_best_23 : decode cX9_best 23 = .ok (.iload 5, 2) := by decide +kernel
theorem dX9_best_25 : decode cX9_best 25 = .ok (.aload_n 0, 1) := by decide +kernel
theorem dX9_best_26 : decode cX9_best 26 = .ok (.invokevirtual 350, 3) := by decide +kernel
theorem dX9_best_29 : decode cX9_best 29 = .ok (.if_icmp .ge 59, 3) := by decide +kernel
theorem dX9_best_32 : decode cX9_best 32 = .ok (.aload_n 0, 1) := by decide +kernel
theorem dX9_best_33 : decode cX9_best 33 = .ok (.iload 5, 2) := by decide +kernel
theorem dX9_best_35 : decode cX9_best 35 = .ok (.invokevirtual 315, 3) := by decide +kernel
theorem dX9_best_38 : decode cX9_best 38 = .ok (.iload_n 1, 1) := by decide +kernel
theorem dX9_best_39 : decode cX9_best 39 = .ok (.if_icmp .ne 43, 3) := by decide +kernel
theorem dX9_best_42 : decode cX9_best 42 = .ok (.iload_n 2, 1) := by decide +kernel
theorem dX9_best_43 : decode cX9_best 43 = .ok (.aload_n 0, 1) := by decide +kernel
theorem dX9_best_44 : decode cX9_best 44 = .ok (.iload 5, 2) := by decide +kernel
theorem dX9_best_46 : decode cX9_best 46 = .ok (.invokevirtual 327, 3) := by decide +kernel
theorem dX9_best_49 : decode cX9_best 49 = .ok (.invokestatic 245, 3) := by decide +kernel
theorem dX9_best_52 : decode cX9_best 52 = .ok (.ifCond .eq 30, 3) := by decide +kernel
theorem dX9_best_55 : decode cX9_best 55 = .ok (.aload_n 0, 1) := by decide +kernel
theorem dX9_best_56 : decode cX9_best 56 = .ok (.getfield 88, 3) := by decide +kernel
theorem dX9_best_59 : decode cX9_best 59 = .ok (.iload 5, 2) := by decide +kernel
theorem dX9_best_61 : decode cX9_best 61 = .ok (.iaload, 1) := by decide +kernel
theorem dX9_best_62 : decode cX9_best 62 = .ok (.iload 4, 2) := by decide +kernel
theorem dX9_best_64 : decode cX9_best 64 = .ok (.if_icmp .gt 6, 3) := by decide +kernel
theorem dX9_best_67 : decode cX9_best 67 = .ok (.goto 15, 3) := by decide +kernel
theorem dX9_best_70 : decode cX9_best 70 = .ok (.iload 5, 2) := by decide +kernel
theorem dX9_best_72 : decode cX9_best 72 = .ok (.istore_n 3, 1) := by decide +kernel
theorem dX9_best_73 : decode cX9_best 73 = .ok (.aload_n 0, 1) := by decide +kernel
theorem dX9_best_74 : decode cX9_best 74 = .ok (.getfield 88, 3) := by decide +kernel
theorem dX9_best_77 : decode cX9_best 77 = .ok (.iload 5, 2) := by decide +kernel
theorem dX9_best_79 : decode cX9_best 79 = .ok (.iaload, 1) := by decide +kernel
theorem dX9_best_80 : decode cX9_best 80 = .ok (.istore 4, 2) := by decide +kernel
theorem dX9_best_82 : decode cX9_best 82 = .ok (.iinc 5 1, 3) := by decide +kernel
theorem dX9_best_85 : decode cX9_best 85 = .ok (.goto (-62), 3) := by decide +kernel
theorem dX9_best_88 : decode cX9_best 88 = .ok (.iload_n 3, 1) := by decide +kernel
theorem dX9_best_89 : decode cX9_best 89 = .ok (.ireturn, 1) := by decide +kernel
set_option maxRecDepth 20000 in
theorem ggX9_lies_X9_isIn : GoodIn wsX9_lies wsX9_isIn := goodIn_r _ [6] rfl rfl
set_option maxRecDepth 20000 in
theorem gX9_lies_X9_isIn : GoodIn wsX9_lies (va_wsS RX9 346 yX9_isIn wsX9_isIn) := goodIn_app (goodIn_of _ (by decide +kernel)) ggX9_lies_X9_isIn
theorem dX9_lies_0 : decode cX9_lies 0 = .ok (.iload_n 1, 1) := by decide +kernel
theorem dX9_lies_1 : decode cX9_lies 1 = .ok (.iconst 0, 1) := by decide +kernel
theorem dX9_lies_2 : decode cX9_lies 2 = .ok (.aload_n 0, 1) := by decide +kernel
theorem dX9_lies_3 : decode cX9_lies 3 = .ok (.getfield 377, 3) := by decide +kernel
theorem dX9_lies_6 : decode cX9_lies 6 = .ok (.iconst 1, 1) := by decide +kernel
theorem dX9_lies_7 : decode cX9_lies 7 = .ok (.isub, 1) := by decide +kernel
theorem dX9_lies_8 : decode cX9_lies 8 = .ok (.invokestatic 346, 3) := by decide +kernel
theorem dX9_lies_11 : decode cX9_lies 11 = .ok (.ifCond .eq 12, 3) := by decide +kernel
theorem dX9_lies_14 : decode cX9_lies 14 = .ok (.aload_n 0, 1) := by decide +kernel
theorem dX9_lies_15 : decode cX9_lies 15 = .ok (.getfield 97, 3) := by decide +kernel
theorem dX9_lies_18 : decode cX9_lies 18 = .ok (.iload_n 1, 1) := by decide +kernel
theorem dX9_lies_19 : decode cX9_lies 19 = .ok (.iaload, 1) := by decide +kernel
theorem dX9_lies_20 : decode cX9_lies 20 = .ok (.goto 4, 3) := by decide +kernel
theorem dX9_lies_23 : decode cX9_lies 23 = .ok (.iconst (-1), 1) := by decide +kernel
theorem dX9_lies_24 : decode cX9_lies 24 = .ok (.ireturn, 1) := by decide +kernel
set_option maxRecDepth 20000 in
theorem ggX9_brings_X9_isThread : GoodIn wsX9_brings wsX9_isThread := goodIn_r _ [6, 7, 8, 9, 5, 10, 11, 12, 13, 14, 15, 116, 117, 118, 119, 120, 121, 122, 123, 124, 125, 126, 127, 128, 129, 130, 131, 132, 133, 134, 135, 136, 137, 138, 139, 140, 141, 142, 143, 144, 145, 146, 147, 148, 149, 150, 151, 152, 153, 154, 155, 156, 157, 158, 159, 160, 161, 162, 163, 164, 165, 166, 167, 168, 169, 170, 171, 172, 173, 174, 175, 176, 177, 178, 179] rfl rfl
set_option maxRecDepth 20000 in
theorem gX9_brings_X9_isThread : GoodIn wsX9_brings (wsV RX9 408 RX9 yX9_isThread wsX9_isThread) := goodIn_app (goodIn_of _ (by decide +kernel)) ggX9_brings_X9_isThread
set_option maxRecDepth 20000 in
theorem ggX9_brings_X9_bit : GoodIn wsX9_brings wsX9_bit := goodIn_r _ [18] rfl rfl
set_option maxRecDepth 20000 in
theorem gX9_brings_X9_bit : GoodIn wsX9_brings (va_wsS RX9 245 yX9_bit wsX9_bit) := goodIn_app (goodIn_of _ (by decide +kernel)) ggX9_brings_X9_bit
set_option maxRecDepth 20000 in
theorem ggX9_brings_X9_standNow : GoodIn wsX9_brings wsX9_standNow := goodIn_r _ [22, 1, 23, 24, 25, 5, 26, 27, 28, 29, 30, 31, 32, 33, 34, 35, 12, 7, 8, 9, 10, 11, 16, 17, 18, 36, 37, 38, 39, 40, 41, 42, 43, 44, 45, 46, 47, 48, 49, 50, 51, 52, 53, 54, 55, 56, 57, 58, 59, 60, 61, 62, 63, 64, 65, 66, 67, 68, 69, 70, 71, 72, 73, 74, 75, 76, 77, 78, 79, 80, 81, 82, 83, 84, 85, 86, 87, 88, 89, 90, 91, 92, 93, 94, 95, 96, 97, 98, 99, 100, 101, 102, 103, 13, 14, 15, 104, 105, 106, 107, 108, 109, 110, 111, 116, 117, 118, 119, 120, 121, 122, 123, 124, 125, 126, 127, 128, 129, 130, 131, 132, 133, 134, 135, 136, 137, 138, 139, 140, 141, 142, 143, 144, 145, 146, 147, 148, 149, 150, 151, 152, 153, 154, 155, 156, 157, 158, 159, 160, 161, 162, 163, 164, 165, 166, 167, 168, 169, 170, 171, 172, 173, 174, 175, 176, 177, 178, 179] rfl rfl
set_option maxRecDepth 20000 in
theorem gX9_brings_X9_standNow : GoodIn wsX9_brings (wsV RX9 402 RX9 yX9_standNow wsX9_standNow) := goodIn_app (goodIn_of _ (by decide +kernel)) ggX9_brings_X9_standNow
set_option maxRecDepth 20000 in
theorem ggX9_brings_X9_standWith : GoodIn wsX9_brings wsX9_standWith := goodIn_r _ [115, 1, 23, 24, 25, 5, 26, 27, 28, 29, 30, 31, 32, 33, 34, 35, 12, 7, 8, 9, 10, 11, 16, 17, 18, 36, 37, 38, 39, 40, 41, 42, 43, 44, 45, 46, 47, 48, 49, 50, 51, 52, 53, 54, 55, 56, 57, 58, 59, 60, 61, 62, 63, 64, 65, 66, 67, 68, 69, 70, 71, 72, 73, 74, 75, 76, 77, 78, 79, 80, 81, 82, 83, 84, 85, 86, 87, 88, 89, 90, 91, 92, 93, 94, 95, 96, 97, 98, 99, 100, 101, 102, 103, 13, 14, 15, 104, 105, 106, 107, 108, 109, 110, 111, 116, 117, 118, 119, 120, 121, 122, 123, 124, 125, 126, 127, 128, 129, 130, 131, 132, 133, 134, 135, 136, 137, 138, 139, 140, 141, 142, 143, 144, 145, 146, 147, 148, 149, 150, 151, 152, 153, 154, 155, 156, 157, 158, 159, 160, 161, 162, 163, 164, 165, 166, 167, 168, 169, 170, 171, 172, 173, 174, 175, 176, 177, 178, 179] rfl rfl
set_option maxRecDepth 20000 in
theorem gX9_brings_X9_standWith : GoodIn wsX9_brings (wsV RX9 399 RX9 yX9_standWith wsX9_standWith) := goodIn_app (goodIn_of _ (by decide +kernel)) ggX9_brings_X9_standWith
theorem dX9_brings_0 : decode cX9_brings 0 = .ok (.aload_n 0, 1) := by decide +kernel
theorem dX9_brings_1 : decode cX9_brings 1 = .ok (.iload_n 1, 1) := by decide +kernel
theorem dX9_brings_2 : decode cX9_brings 2 = .ok (.invokevirtual 408, 3) := by decide +kernel
theorem dX9_brings_5 : decode cX9_brings 5 = .ok (.ifCond .eq 16, 3) := by decide +kernel
theorem dX9_brings_8 : decode cX9_brings 8 = .ok (.aload_n 0, 1) := by decide +kernel
theorem dX9_brings_9 : decode cX9_brings 9 = .ok (.getfield 76, 3) := by decide +kernel
theorem dX9_brings_12 : decode cX9_brings 12 = .ok (.iconst 1, 1) := by decide +kernel
theorem dX9_brings_13 : decode cX9_brings 13 = .ok (.iaload, 1) := by decide +kernel
theorem dX9_brings_14 : decode cX9_brings 14 = .ok (.iload_n 1, 1) := by decide +kernel
theorem dX9_brings_15 : decode cX9_brings 15 = .ok (.invokestatic 245, 3) := by decide +kernel
theorem dX9_brings_18 : decode cX9_brings 18 = .ok (.ifCond .ne 5, 3) := by decide +kernel
theorem dX9_brings_21 : decode cX9_brings 21 = .ok (.iconst (-1), 1) := by decide +kernel
theorem dX9_brings_22 : decode cX9_brings 22 = .ok (.ireturn, 1) := by decide +kernel
theorem dX9_brings_23 : decode cX9_brings 23 = .ok (.aload_n 0, 1) := by decide +kernel
theorem dX9_brings_24 : decode cX9_brings 24 = .ok (.invokevirtual 402, 3) := by decide +kernel
theorem dX9_brings_27 : decode cX9_brings 27 = .ok (.istore_n 2, 1) := by decide +kernel
theorem dX9_brings_28 : decode cX9_brings 28 = .ok (.iload_n 2, 1) := by decide +kernel
theorem dX9_brings_29 : decode cX9_brings 29 = .ok (.aload_n 0, 1) := by decide +kernel
theorem dX9_brings_30 : decode cX9_brings 30 = .ok (.aload_n 0, 1) := by decide +kernel
theorem dX9_brings_31 : decode cX9_brings 31 = .ok (.getfield 76, 3) := by decide +kernel
theorem dX9_brings_34 : decode cX9_brings 34 = .ok (.iconst 1, 1) := by decide +kernel
theorem dX9_brings_35 : decode cX9_brings 35 = .ok (.iaload, 1) := by decide +kernel
theorem dX9_brings_36 : decode cX9_brings 36 = .ok (.iconst 1, 1) := by decide +kernel
theorem dX9_brings_37 : decode cX9_brings 37 = .ok (.iload_n 1, 1) := by decide +kernel
theorem dX9_brings_38 : decode cX9_brings 38 = .ok (.ishl, 1) := by decide +kernel
theorem dX9_brings_39 : decode cX9_brings 39 = .ok (.iconst (-1), 1) := by decide +kernel
theorem dX9_brings_40 : decode cX9_brings 40 = .ok (.ixor, 1) := by decide +kernel
theorem dX9_brings_41 : decode cX9_brings 41 = .ok (.iand, 1) := by decide +kernel
theorem dX9_brings_42 : decode cX9_brings 42 = .ok (.invokevirtual 399, 3) := by decide +kernel
theorem dX9_brings_45 : decode cX9_brings 45 = .ok (.iconst (-1), 1) := by decide +kernel
theorem dX9_brings_46 : decode cX9_brings 46 = .ok (.ixor, 1) := by decide +kernel
theorem dX9_brings_47 : decode cX9_brings 47 = .ok (.iand, 1) := by decide +kernel
theorem dX9_brings_48 : decode cX9_brings 48 = .ok (.ireturn, 1) := by decide +kernel
set_option maxRecDepth 20000 in
theorem ggX9_odds_X9_isIn : GoodIn wsX9_odds wsX9_isIn := goodIn_r _ [6] rfl rfl
set_option maxRecDepth 20000 in
theorem gX9_odds_X9_isIn : GoodIn wsX9_odds (va_wsS RX9 346 yX9_isIn wsX9_isIn) := goodIn_app (goodIn_of _ (by decide +kernel)) ggX9_odds_X9_isIn
set_option maxRecDepth 20000 in
theorem ggX9_odds_X9_raised : GoodIn wsX9_odds wsX9_raised := goodIn_r _ [9] rfl rfl
set_option maxRecDepth 20000 in
theorem gX9_odds_X9_raised : GoodIn wsX9_odds (va_wsS RX9 482 yX9_raised wsX9_raised) := goodIn_app (goodIn_of _ (by decide +kernel)) ggX9_odds_X9_raised
set_option maxRecDepth 20000 in
theorem ggX9_odds_X9_divisor : GoodIn wsX9_odds wsX9_divisor := goodIn_r _ [12] rfl rfl
set_option maxRecDepth 20000 in
theorem gX9_odds_X9_divisor : GoodIn wsX9_odds (va_wsS RX9 485 yX9_divisor wsX9_divisor) := goodIn_app (goodIn_of _ (by decide +kernel)) ggX9_odds_X9_divisor
theorem dX9_odds_0 : decode cX9_odds 0 = .ok (.iload_n 1, 1) := by decide +kernel
theorem dX9_odds_1 : decode cX9_odds 1 = .ok (.iconst 0, 1) := by decide +kernel
theorem dX9_odds_2 : decode cX9_odds 2 = .ok (.iconst 4, 1) := by decide +kernel
theorem dX9_odds_3 : decode cX9_odds 3 = .ok (.invokestatic 346, 3) := by decide +kernel
theorem dX9_odds_6 : decode cX9_odds 6 = .ok (.ifCond .eq 12, 3) := by decide +kernel
theorem dX9_odds_9 : decode cX9_odds 9 = .ok (.iload_n 2, 1) := by decide +kernel
theorem dX9_odds_10 : decode cX9_odds 10 = .ok (.iconst 0, 1) := by decide +kernel
theorem dX9_odds_11 : decode cX9_odds 11 = .ok (.iconst 1, 1) := by decide +kernel
theorem dX9_odds_12 : decode cX9_odds 12 = .ok (.invokestatic 346, 3) := by decide +kernel
theorem dX9_odds_15 : decode cX9_odds 15 = .ok (.ifCond .ne 5, 3) := by decide +kernel
theorem dX9_odds_18 : decode cX9_odds 18 = .ok (.iconst (-1), 1) := by decide +kernel
theorem dX9_odds_19 : decode cX9_odds 19 = .ok (.ireturn, 1) := by decide +kernel
theorem dX9_odds_20 : decode cX9_odds 20 = .ok (.bipush 100, 2) := by decide +kernel
theorem dX9_odds_22 : decode cX9_odds 22 = .ok (.aload_n 0, 1) := by decide +kernel
theorem dX9_odds_23 : decode cX9_odds 23 = .ok (.getfield 30, 3) := by decide +kernel
theorem dX9_odds_26 : decode cX9_odds 26 = .ok (.aload_n 0, 1) := by decide +kernel
theorem dX9_odds_27 : decode cX9_odds 27 = .ok (.getfield 239, 3) := by decide +kernel
theorem dX9_odds_30 : decode cX9_odds 30 = .ok (.iaload, 1) := by decide +kernel
theorem dX9_odds_31 : decode cX9_odds 31 = .ok (.isub, 1) := by decide +kernel
theorem dX9_odds_32 : decode cX9_odds 32 = .ok (.iload_n 1, 1) := by decide +kernel
theorem dX9_odds_33 : decode cX9_odds 33 = .ok (.invokestatic 482, 3) := by decide +kernel
theorem dX9_odds_36 : decode cX9_odds 36 = .ok (.istore_n 3, 1) := by decide +kernel
theorem dX9_odds_37 : decode cX9_odds 37 = .ok (.bipush 100, 2) := by decide +kernel
theorem dX9_odds_39 : decode cX9_odds 39 = .ok (.iload_n 1, 1) := by decide +kernel
theorem dX9_odds_40 : decode cX9_odds 40 = .ok (.invokestatic 482, 3) := by decide +kernel
theorem dX9_odds_43 : decode cX9_odds 43 = .ok (.istore 4, 2) := by decide +kernel
theorem dX9_odds_45 : decode cX9_odds 45 = .ok (.iload_n 2, 1) := by decide +kernel
theorem dX9_odds_46 : decode cX9_odds 46 = .ok (.ifCond .ne 7, 3) := by decide +kernel
theorem dX9_odds_49 : decode cX9_odds 49 = .ok (.iload_n 3, 1) := by decide +kernel
theorem dX9_odds_50 : decode cX9_odds 50 = .ok (.goto 5, 3) := by decide +kernel
theorem dX9_odds_53 : decode cX9_odds 53 = .ok (.iload 4, 2) := by decide +kernel
theorem dX9_odds_55 : decode cX9_odds 55 = .ok (.iload 4, 2) := by decide +kernel
theorem dX9_odds_57 : decode cX9_odds 57 = .ok (.iload_n 3, 1) := by decide +kernel
theorem dX9_odds_58 : decode cX9_odds 58 = .ok (.invokestatic 485, 3) := by decide +kernel
theorem dX9_odds_61 : decode cX9_odds 61 = .ok (.idiv, 1) := by decide +kernel
theorem dX9_odds_62 : decode cX9_odds 62 = .ok (.ireturn, 1) := by decide +kernel
set_option maxRecDepth 20000 in
theorem ggX9_seen_X9_isClaim : GoodIn wsX9_seen wsX9_isClaim := goodIn_r _ [11, 12, 13, 14, 15, 16, 10, 17, 18, 19, 20, 21, 22, 23, 24, 25, 26, 27, 28, 29, 30, 31, 32, 33, 34, 35, 36, 37, 38, 39, 40, 41, 42, 43, 44, 45, 46, 47, 48, 49, 50, 51, 52, 53, 54, 55, 56, 57, 58, 59, 60, 61, 62, 63, 64, 65, 66, 67, 68, 69, 70, 71, 72, 73, 74, 75, 76, 77, 78, 79, 80, 81, 82, 83, 84, 85, 86, 87, 88, 89] rfl rfl
set_option maxRecDepth 20000 in
theorem gX9_seen_X9_isClaim : GoodIn wsX9_seen (wsV RX9 390 RX9 yX9_isClaim wsX9_isClaim) := goodIn_app (goodIn_of _ (by decide +kernel)) ggX9_seen_X9_isClaim
theorem dX9_seen_0 : decode cX9_seen 0 = .ok (.aload_n 0, 1) := by decide +kernel
theorem dX9_seen_1 : decode cX9_seen 1 = .ok (.iload_n 1, 1) := by decide +kernel
theorem dX9_seen_2 : decode cX9_seen 2 = .ok (.invokevirtual 390, 3) := by decide +kernel
theorem dX9_seen_5 : decode cX9_seen 5 = .ok (.ifCond .eq 12, 3) := by decide +kernel
theorem dX9_seen_8 : decode cX9_seen 8 = .ok (.aload_n 0, 1) := by decide +kernel
theorem dX9_seen_9 : decode cX9_seen 9 = .ok (.getfield 374, 3) := by decide +kernel
theorem dX9_seen_12 : decode cX9_seen 12 = .ok (.bipush 30, 2) := by decide +kernel
theorem dX9_seen_14 : decode cX9_seen 14 = .ok (.if_icmp .ne 5, 3) := by decide +kernel
theorem dX9_seen_17 : decode cX9_seen 17 = .ok (.iconst (-1), 1) := by decide +kernel
theorem dX9_seen_18 : decode cX9_seen 18 = .ok (.ireturn, 1) := by decide +kernel
theorem dX9_seen_19 : decode cX9_seen 19 = .ok (.aload_n 0, 1) := by decide +kernel
theorem dX9_seen_20 : decode cX9_seen 20 = .ok (.getfield 109, 3) := by decide +kernel
theorem dX9_seen_23 : decode cX9_seen 23 = .ok (.aload_n 0, 1) := by decide +kernel
theorem dX9_seen_24 : decode cX9_seen 24 = .ok (.getfield 374, 3) := by decide +kernel
theorem dX9_seen_27 : decode cX9_seen 27 = .ok (.iload_n 1, 1) := by decide +kernel
theorem dX9_seen_28 : decode cX9_seen 28 = .ok (.iastore, 1) := by decide +kernel
theorem dX9_seen_29 : decode cX9_seen 29 = .ok (.aload_n 0, 1) := by decide +kernel
theorem dX9_seen_30 : decode cX9_seen 30 = .ok (.getfield 112, 3) := by decide +kernel
theorem dX9_seen_33 : decode cX9_seen 33 = .ok (.aload_n 0, 1) := by decide +kernel
theorem dX9_seen_34 : decode cX9_seen 34 = .ok (.getfield 374, 3) := by decide +kernel
theorem dX9_seen_37 : decode cX9_seen 37 = .ok (.iload_n 2, 1) := by decide +kernel
theorem dX9_seen_38 : decode cX9_seen 38 = .ok (.ifCond .eq 7, 3) := by decide +kernel
theorem dX9_seen_41 : decode cX9_seen 41 = .ok (.iconst 1, 1) := by decide +kernel
theorem dX9_seen_42 : decode cX9_seen 42 = .ok (.goto 4, 3) := by decide +kernel
theorem dX9_seen_45 : decode cX9_seen 45 = .ok (.iconst 0, 1) := by decide +kernel
theorem dX9_seen_46 : decode cX9_seen 46 = .ok (.iastore, 1) := by decide +kernel
theorem dX9_seen_47 : decode cX9_seen 47 = .ok (.aload_n 0, 1) := by decide +kernel
theorem dX9_seen_48 : decode cX9_seen 48 = .ok (.getfield 115, 3) := by decide +kernel
theorem dX9_seen_51 : decode cX9_seen 51 = .ok (.aload_n 0, 1) := by decide +kernel
theorem dX9_seen_52 : decode cX9_seen 52 = .ok (.getfield 374, 3) := by decide +kernel
theorem dX9_seen_55 : decode cX9_seen 55 = .ok (.aload_n 0, 1) := by decide +kernel
theorem dX9_seen_56 : decode cX9_seen 56 = .ok (.getfield 488, 3) := by decide +kernel
theorem dX9_seen_59 : decode cX9_seen 59 = .ok (.iastore, 1) := by decide +kernel
theorem dX9_seen_60 : decode cX9_seen 60 = .ok (.aload_n 0, 1) := by decide +kernel
theorem dX9_seen_61 : decode cX9_seen 61 = .ok (.getfield 118, 3) := by decide +kernel
theorem dX9_seen_64 : decode cX9_seen 64 = .ok (.aload_n 0, 1) := by decide +kernel
theorem dX9_seen_65 : decode cX9_seen 65 = .ok (.getfield 374, 3) := by decide +kernel
theorem dX9_seen_68 : decode cX9_seen 68 = .ok (.iconst (-1), 1) := by decide +kernel
theorem dX9_seen_69 : decode cX9_seen 69 = .ok (.iastore, 1) := by decide +kernel
theorem dX9_seen_70 : decode cX9_seen 70 = .ok (.aload_n 0, 1) := by decide +kernel
theorem dX9_seen_71 : decode cX9_seen 71 = .ok (.dup, 1) := by decide +kernel
theorem dX9_seen_72 : decode cX9_seen 72 = .ok (.getfield 374, 3) := by decide +kernel
theorem dX9_seen_75 : decode cX9_seen 75 = .ok (.iconst 1, 1) := by decide +kernel
theorem dX9_seen_76 : decode cX9_seen 76 = .ok (.iadd, 1) := by decide +kernel
theorem dX9_seen_77 : decode cX9_seen 77 = .ok (.putfield 374, 3) := by decide +kernel
theorem dX9_seen_80 : decode cX9_seen 80 = .ok (.aload_n 0, 1) := by decide +kernel
theorem dX9_seen_81 : decode cX9_seen 81 = .ok (.getfield 374, 3) := by decide +kernel
theorem dX9_seen_84 : decode cX9_seen 84 = .ok (.iconst 1, 1) := by decide +kernel
theorem dX9_seen_85 : decode cX9_seen 85 = .ok (.isub, 1) := by decide +kernel
theorem dX9_seen_86 : decode cX9_seen 86 = .ok (.ireturn, 1) := by decide +kernel
set_option maxRecDepth 20000 in
theorem ggX9_untell_X9_isIn : GoodIn wsX9_untell wsX9_isIn := goodIn_r _ [7] rfl rfl
set_option maxRecDepth 20000 in
theorem gX9_untell_X9_isIn : GoodIn wsX9_untell (va_wsS RX9 346 yX9_isIn wsX9_isIn) := goodIn_app (goodIn_of _ (by decide +kernel)) ggX9_untell_X9_isIn
theorem dX9_untell_0 : decode cX9_untell 0 = .ok (.iload_n 1, 1) := by decide +kernel
theorem dX9_untell_1 : decode cX9_untell 1 = .ok (.iconst 0, 1) := by decide +kernel
theorem dX9_untell_2 : decode cX9_untell 2 = .ok (.aload_n 0, 1) := by decide +kernel
theorem dX9_untell_3 : decode cX9_untell 3 = .ok (.getfield 374, 3) := by decide +kernel
theorem dX9_untell_6 : decode cX9_untell 6 = .ok (.iconst 1, 1) := by decide +kernel
theorem dX9_untell_7 : decode cX9_untell 7 = .ok (.isub, 1) := by decide +kernel
theorem dX9_untell_8 : decode cX9_untell 8 = .ok (.invokestatic 346, 3) := by decide +kernel
theorem dX9_untell_11 : decode cX9_untell 11 = .ok (.ifCond .eq 12, 3) := by decide +kernel
theorem dX9_untell_14 : decode cX9_untell 14 = .ok (.aload_n 0, 1) := by decide +kernel
theorem dX9_untell_15 : decode cX9_untell 15 = .ok (.getfield 118, 3) := by decide +kernel
theorem dX9_untell_18 : decode cX9_untell 18 = .ok (.iload_n 1, 1) := by decide +kernel
theorem dX9_untell_19 : decode cX9_untell 19 = .ok (.iaload, 1) := by decide +kernel
theorem dX9_untell_20 : decode cX9_untell 20 = .ok (.ifCond .lt 5, 3) := by decide +kernel
theorem dX9_untell_23 : decode cX9_untell 23 = .ok (.iconst 0, 1) := by decide +kernel
theorem dX9_untell_24 : decode cX9_untell 24 = .ok (.ireturn, 1) := by decide +kernel
theorem dX9_untell_25 : decode cX9_untell 25 = .ok (.aload_n 0, 1) := by decide +kernel
theorem dX9_untell_26 : decode cX9_untell 26 = .ok (.getfield 118, 3) := by decide +kernel
theorem dX9_untell_29 : decode cX9_untell 29 = .ok (.iload_n 1, 1) := by decide +kernel
theorem dX9_untell_30 : decode cX9_untell 30 = .ok (.aload_n 0, 1) := by decide +kernel
theorem dX9_untell_31 : decode cX9_untell 31 = .ok (.getfield 488, 3) := by decide +kernel
theorem dX9_untell_34 : decode cX9_untell 34 = .ok (.iastore, 1) := by decide +kernel
theorem dX9_untell_35 : decode cX9_untell 35 = .ok (.iconst 1, 1) := by decide +kernel
theorem dX9_untell_36 : decode cX9_untell 36 = .ok (.ireturn, 1) := by decide +kernel
set_option maxRecDepth 20000 in
theorem ggX9_later_X9_isIn : GoodIn wsX9_later wsX9_isIn := goodIn_r _ [6] rfl rfl
set_option maxRecDepth 20000 in
theorem gX9_later_X9_isIn : GoodIn wsX9_later (va_wsS RX9 346 yX9_isIn wsX9_isIn) := goodIn_app (goodIn_of _ (by decide +kernel)) ggX9_later_X9_isIn
theorem dX9_later_0 : decode cX9_later 0 = .ok (.iload_n 1, 1) := by decide +kernel
theorem dX9_later_1 : decode cX9_later 1 = .ok (.iconst 0, 1) := by decide +kernel
theorem dX9_later_2 : decode cX9_later 2 = .ok (.sipush 1000, 3) := by decide +kernel
theorem dX9_later_5 : decode cX9_later 5 = .ok (.invokestatic 346, 3) := by decide +kernel
theorem dX9_later_8 : decode cX9_later 8 = .ok (.ifCond .eq 15, 3) := by decide +kernel
theorem dX9_later_11 : decode cX9_later 11 = .ok (.aload_n 0, 1) := by decide +kernel
theorem dX9_later_12 : decode cX9_later 12 = .ok (.getfield 488, 3) := by decide +kernel
theorem dX9_later_15 : decode cX9_later 15 = .ok (.iload_n 1, 1) := by decide +kernel
theorem dX9_later_16 : decode cX9_later 16 = .ok (.iadd, 1) := by decide +kernel
theorem dX9_later_17 : decode cX9_later 17 = .ok (.ldc_w 457, 3) := by decide +kernel
theorem dX9_later_20 : decode cX9_later 20 = .ok (.if_icmp .le 5, 3) := by decide +kernel
theorem dX9_later_23 : decode cX9_later 23 = .ok (.iconst (-1), 1) := by decide +kernel
theorem dX9_later_24 : decode cX9_later 24 = .ok (.ireturn, 1) := by decide +kernel
theorem dX9_later_25 : decode cX9_later 25 = .ok (.aload_n 0, 1) := by decide +kernel
theorem dX9_later_26 : decode cX9_later 26 = .ok (.dup, 1) := by decide +kernel
theorem dX9_later_27 : decode cX9_later 27 = .ok (.getfield 488, 3) := by decide +kernel
theorem dX9_later_30 : decode cX9_later 30 = .ok (.iload_n 1, 1) := by decide +kernel
theorem dX9_later_31 : decode cX9_later 31 = .ok (.iadd, 1) := by decide +kernel
theorem dX9_later_32 : decode cX9_later 32 = .ok (.putfield 488, 3) := by decide +kernel
theorem dX9_later_35 : decode cX9_later 35 = .ok (.aload_n 0, 1) := by decide +kernel
theorem dX9_later_36 : decode cX9_later 36 = .ok (.getfield 488, 3) := by decide +kernel
theorem dX9_later_39 : decode cX9_later 39 = .ok (.ireturn, 1) := by decide +kernel
theorem dX9_doesFit_0 : decode cX9_doesFit 0 = .ok (.iconst 0, 1) := by decide +kernel
theorem dX9_doesFit_1 : decode cX9_doesFit 1 = .ok (.istore_n 3, 1) := by decide +kernel
theorem dX9_doesFit_2 : decode cX9_doesFit 2 = .ok (.iload_n 3, 1) := by decide +kernel
theorem dX9_doesFit_3 : decode cX9_doesFit 3 = .ok (.aload_n 0, 1) := by decide +kernel
theorem dX9_doesFit_4 : decode cX9_doesFit 4 = .ok (.getfield 374, 3) := by decide +kernel
theorem dX9_doesFit_7 : decode cX9_doesFit 7 = .ok (.if_icmp .ge 67, 3) := by decide +kernel
theorem dX9_doesFit_10 : decode cX9_doesFit 10 = .ok (.aload_n 0, 1) := by decide +kernel
theorem dX9_doesFit_11 : decode cX9_doesFit 11 = .ok (.getfield 115, 3) := by decide +kernel
theorem dX9_doesFit_14 : decode cX9_doesFit 14 = .ok (.iload_n 3, 1) := by decide +kernel
theorem dX9_doesFit_15 : decode cX9_doesFit 15 = .ok (.iaload, 1) := by decide +kernel
theorem dX9_doesFit_16 : decode cX9_doesFit 16 = .ok (.iload_n 2, 1) := by decide +kernel
theorem dX9_doesFit_17 : decode cX9_doesFit 17 = .ok (.if_icmp .gt 51, 3) := by decide +kernel
theorem dX9_doesFit_20 : decode cX9_doesFit 20 = .ok (.aload_n 0, 1) := by decide +kernel
theorem dX9_doesFit_21 : decode cX9_doesFit 21 = .ok (.getfield 118, 3) := by decide +kernel
theorem dX9_doesFit_24 : decode cX9_doesFit 24 = .ok (.iload_n 3, 1) := by decide +kernel
theorem dX9_doesFit_25 : decode cX9_doesFit 25 = .ok (.iaload, 1) := by decide +kernel
theorem dX9_doesFit_26 : decode cX9_doesFit 26 = .ok (.ifCond .lt 16, 3) := by decide +kernel
theorem dX9_doesFit_29 : decode cX9_doesFit 29 = .ok (.aload_n 0, 1) := by decide +kernel
theorem dX9_doesFit_30 : decode cX9_doesFit 30 = .ok (.getfield 118, 3) := by decide +kernel
theorem dX9_doesFit_33 : decode cX9_doesFit 33 = .ok (.iload_n 3, 1) := by decide +kernel
theorem dX9_doesFit_34 : decode cX9_doesFit 34 = .ok (.iaload, 1) := by decide +kernel
theorem dX9_doesFit_35 : decode cX9_doesFit 35 = .ok (.iload_n 2, 1) := by decide +kernel
theorem dX9_doesFit_36 : decode cX9_doesFit 36 = .ok (.if_icmp .gt 6, 3) := by decide +kernel
theorem dX9_doesFit_39 : decode cX9_doesFit 39 = .ok (.goto 29, 3) := by decide +kernel
theorem dX9_doesFit_42 : decode cX9_doesFit 42 = .ok (.aload_n 0, 1) := by decide +kernel
theorem dX9_doesFit_43 : decode cX9_doesFit 43 = .ok (.getfield 106, 3) := by decide +kernel
theorem dX9_doesFit_46 : decode cX9_doesFit 46 = .ok (.iload_n 1, 1) := by decide +kernel
theorem dX9_doesFit_47 : decode cX9_doesFit 47 = .ok (.iaload, 1) := by decide +kernel
theorem dX9_doesFit_48 : decode cX9_doesFit 48 = .ok (.aload_n 0, 1) := by decide +kernel
theorem dX9_doesFit_49 : decode cX9_doesFit 49 = .ok (.getfield 109, 3) := by decide +kernel
theorem dX9_doesFit_52 : decode cX9_doesFit 52 = .ok (.iload_n 3, 1) := by decide +kernel
theorem dX9_doesFit_53 : decode cX9_doesFit 53 = .ok (.iaload, 1) := by decide +kernel
theorem dX9_doesFit_54 : decode cX9_doesFit 54 = .ok (.ishr, 1) := by decide +kernel
theorem dX9_doesFit_55 : decode cX9_doesFit 55 = .ok (.iconst 1, 1) := by decide +kernel
theorem dX9_doesFit_56 : decode cX9_doesFit 56 = .ok (.iand, 1) := by decide +kernel
theorem dX9_doesFit_57 : decode cX9_doesFit 57 = .ok (.aload_n 0, 1) := by decide +kernel
theorem dX9_doesFit_58 : decode cX9_doesFit 58 = .ok (.getfield 112, 3) := by decide +kernel
theorem dX9_doesFit_61 : decode cX9_doesFit 61 = .ok (.iload_n 3, 1) := by decide +kernel
theorem dX9_doesFit_62 : decode cX9_doesFit 62 = .ok (.iaload, 1) := by decide +kernel
theorem dX9_doesFit_63 : decode cX9_doesFit 63 = .ok (.if_icmp .eq 5, 3) := by decide +kernel
theorem dX9_doesFit_66 : decode cX9_doesFit 66 = .ok (.iconst 0, 1) := by decide +kernel
theorem dX9_doesFit_67 : decode cX9_doesFit 67 = .ok (.ireturn, 1) := by decide +kernel
theorem dX9_doesFit_68 : decode cX9_doesFit 68 = .ok (.iinc 3 1, 3) := by decide +kernel
theorem dX9_doesFit_71 : decode cX9_doesFit 71 = .ok (.goto (-69), 3) := by decide +kernel
theorem dX9_doesFit_74 : decode cX9_doesFit 74 = .ok (.iconst 1, 1) := by decide +kernel
theorem dX9_doesFit_75 : decode cX9_doesFit 75 = .ok (.ireturn, 1) := by decide +kernel
set_option maxRecDepth 20000 in
theorem ggX9_layWays_X9_keepNow : GoodIn wsX9_layWays wsX9_keepNow := goodIn_r _ [11, 12, 3, 133, 134, 135, 136, 137, 138, 139, 140, 141, 142, 143, 144, 145, 146, 147, 148, 149, 150, 151, 152, 153, 154, 155, 156, 157, 158, 159, 160, 161, 162, 163, 164, 165, 166, 167, 168, 169, 170, 171, 172, 173, 174, 175, 176, 177, 178, 179, 180, 181, 182, 183, 184, 185, 186, 187, 188, 189, 190, 191, 192, 193, 194, 195, 196] rfl rfl
set_option maxRecDepth 20000 in
theorem gX9_layWays_X9_keepNow : GoodIn wsX9_layWays (wsV RX9 430 RX9 yX9_keepNow wsX9_keepNow) := goodIn_app (goodIn_of _ (by decide +kernel)) ggX9_layWays_X9_keepNow
set_option maxRecDepth 20000 in
theorem ggX9_layWays_X9_layTold : GoodIn wsX9_layWays wsX9_layTold := goodIn_r _ [16, 3, 17, 18, 19, 20, 21, 22, 10, 23, 24, 133, 134, 135, 136, 137, 138, 139, 140, 141, 142, 143, 144, 145, 146, 147, 148, 149, 150, 151, 152, 153, 154, 155, 156, 157, 158, 159, 160, 161, 162, 163, 164, 165, 166, 167, 168, 169, 170, 171, 172, 173, 174, 175, 176, 177, 178, 179, 180, 181, 182, 183, 184, 185, 186, 187, 188, 189, 190, 191, 192, 193, 194, 195, 196] rfl rfl
set_option maxRecDepth 20000 in
theorem gX9_layWays_X9_layTold : GoodIn wsX9_layWays (wsV RX9 365 RX9 yX9_layTold wsX9_layTold) := goodIn_app (goodIn_of _ (by decide +kernel)) ggX9_layWays_X9_layTold
set_option maxRecDepth 20000 in
theorem ggX9_layWays_X9_bitsOf : GoodIn wsX9_layWays wsX9_bitsOf := goodIn_r _ [27] rfl rfl
set_option maxRecDepth 20000 in
theorem gX9_layWays_X9_bitsOf : GoodIn wsX9_layWays (va_wsS RX9 324 yX9_bitsOf wsX9_bitsOf) := goodIn_app (goodIn_of _ (by decide +kernel)) ggX9_layWays_X9_bitsOf
set_option maxRecDepth 20000 in
theorem ggX9_layWays_X9_standBy : GoodIn wsX9_layWays wsX9_standBy := goodIn_r _ [31, 32, 33, 34, 35, 10, 36, 37, 38, 3, 39, 40, 18, 20, 21, 22, 23, 24, 41, 42, 43, 44, 45, 46, 47, 48, 49, 50, 51, 52, 53, 54, 55, 56, 57, 58, 59, 60, 61, 62, 63, 64, 65, 66, 67, 68, 25, 26, 27, 69, 70, 71, 72, 73, 74, 75, 76, 77, 78, 79, 80, 81, 82, 83, 84, 85, 86, 87, 88, 89, 90, 91, 92, 93, 94, 95, 96, 97, 98, 99, 100, 101, 102, 103, 104, 105, 106, 107, 108, 109, 110, 111, 112, 113, 114, 115, 116, 117, 118, 119, 133, 134, 135, 136, 137, 138, 139, 140, 141, 142, 143, 144, 145, 146, 147, 148, 149, 150, 151, 152, 153, 154, 155, 156, 157, 158, 159, 160, 161, 162, 163, 164, 165, 166, 167, 168, 169, 170, 171, 172, 173, 174, 175, 176, 177, 178, 179, 180, 181, 182, 183, 184, 185, 186, 187, 188, 189, 190, 191, 192, 193, 194, 195, 196] rfl rfl
set_option maxRecDepth 20000 in
theorem gX9_layWays_X9_standBy : GoodIn wsX9_layWays (wsV RX9 396 RX9 yX9_standBy wsX9_standBy) := goodIn_app (goodIn_of _ (by decide +kernel)) ggX9_layWays_X9_standBy
set_option maxRecDepth 20000 in
theorem ggX9_layWays_X9_doesFit : GoodIn wsX9_layWays wsX9_doesFit := goodIn_r _ [123, 124, 125, 126, 5, 127, 128, 133, 134, 135, 136, 137, 138, 139, 140, 141, 142, 143, 144, 145, 146, 147, 148, 149, 150, 151, 152, 153, 154, 155, 156, 157, 158, 159, 160, 161, 162, 163, 164, 165, 166, 167, 168, 169, 170, 171, 172, 173, 174, 175, 176, 177, 178, 179, 180, 181, 182, 183, 184, 185, 186, 187, 188, 189, 190, 191, 192, 193, 194, 195, 196] rfl rfl
set_option maxRecDepth 20000 in
theorem gX9_layWays_X9_doesFit : GoodIn wsX9_layWays (wsV RX9 497 RX9 yX9_doesFit wsX9_doesFit) := goodIn_app (goodIn_of _ (by decide +kernel)) ggX9_layWays_X9_doesFit
set_option maxRecDepth 20000 in
theorem ggX9_layWays_X9_bringBack : GoodIn wsX9_layWays wsX9_bringBack := goodIn_r _ [132, 3, 12, 133, 134, 135, 136, 137, 138, 139, 140, 141, 142, 143, 144, 145, 146, 147, 148, 149, 150, 151, 152, 153, 154, 155, 156, 157, 158, 159, 160, 161, 162, 163, 164, 165, 166, 167, 168, 169, 170, 171, 172, 173, 174, 175, 176, 177, 178, 179, 180, 181, 182, 183, 184, 185, 186, 187, 188, 189, 190, 191, 192, 193, 194, 195, 196] rfl rfl
set_option maxRecDepth 20000 in
theorem gX9_layWays_X9_bringBack : GoodIn wsX9_layWays (wsV RX9 433 RX9 yX9_bringBack wsX9_bringBack) := goodIn_app (goodIn_of _ (by decide +kernel)) ggX9_layWays_X9_bringBack
theorem dX9_layWays_0 : decode cX9_layWays 0 = .ok (.aload_n 0, 1) := by decide +kernel
theorem dX9_layWays_1 : decode cX9_layWays 1 = .ok (.invokevirtual 430, 3) := by decide +kernel
theorem dX9_layWays_4 : decode cX9_layWays 4 = .ok (.aload_n 0, 1) := by decide +kernel
theorem dX9_layWays_5 : decode cX9_layWays 5 = .ok (.invokevirtual 365, 3) := by decide +kernel
theorem dX9_layWays_8 : decode cX9_layWays 8 = .ok (.aload_n 0, 1) := by decide +kernel
theorem dX9_layWays_9 : decode cX9_layWays 9 = .ok (.iconst 0, 1) := by decide +kernel
theorem dX9_layWays_10 : decode cX9_layWays 10 = .ok (.putfield 491, 3) := by decide +kernel
theorem dX9_layWays_13 : decode cX9_layWays 13 = .ok (.aload_n 0, 1) := by decide +kernel
theorem dX9_layWays_14 : decode cX9_layWays 14 = .ok (.iconst 0, 1) := by decide +kernel
theorem dX9_layWays_15 : decode cX9_layWays 15 = .ok (.putfield 494, 3) := by decide +kernel
theorem dX9_layWays_18 : decode cX9_layWays 18 = .ok (.iconst 0, 1) := by decide +kernel
theorem dX9_layWays_19 : decode cX9_layWays 19 = .ok (.istore_n 2, 1) := by decide +kernel
theorem dX9_layWays_20 : decode cX9_layWays 20 = .ok (.iload_n 2, 1) := by decide +kernel
theorem dX9_layWays_21 : decode cX9_layWays 21 = .ok (.aload_n 0, 1) := by decide +kernel
theorem dX9_layWays_22 : decode cX9_layWays 22 = .ok (.getfield 76, 3) := by decide +kernel
theorem dX9_layWays_25 : decode cX9_layWays 25 = .ok (.iconst 1, 1) := by decide +kernel
theorem dX9_layWays_26 : decode cX9_layWays 26 = .ok (.iaload, 1) := by decide +kernel
theorem dX9_layWays_27 : decode cX9_layWays 27 = .ok (.if_icmp .gt 108, 3) := by decide +kernel
theorem dX9_layWays_30 : decode cX9_layWays 30 = .ok (.iload_n 2, 1) := by decide +kernel
theorem dX9_layWays_31 : decode cX9_layWays 31 = .ok (.invokestatic 324, 3) := by decide +kernel
theorem dX9_layWays_34 : decode cX9_layWays 34 = .ok (.iconst 2, 1) := by decide +kernel
theorem dX9_layWays_35 : decode cX9_layWays 35 = .ok (.if_icmp .le 6, 3) := by decide +kernel
theorem dX9_layWays_38 : decode cX9_layWays 38 = .ok (.goto 91, 3) := by decide +kernel
theorem dX9_layWays_41 : decode cX9_layWays 41 = .ok (.aload_n 0, 1) := by decide +kernel
theorem dX9_layWays_42 : decode cX9_layWays 42 = .ok (.getfield 103, 3) := by decide +kernel
theorem dX9_layWays_45 : decode cX9_layWays 45 = .ok (.aload_n 0, 1) := by decide +kernel
theorem dX9_layWays_46 : decode cX9_layWays 46 = .ok (.getfield 491, 3) := by decide +kernel
theorem dX9_layWays_49 : decode cX9_layWays 49 = .ok (.iload_n 2, 1) := by decide +kernel
theorem dX9_layWays_50 : decode cX9_layWays 50 = .ok (.iastore, 1) := by decide +kernel
theorem dX9_layWays_51 : decode cX9_layWays 51 = .ok (.aload_n 0, 1) := by decide +kernel
theorem dX9_layWays_52 : decode cX9_layWays 52 = .ok (.getfield 106, 3) := by decide +kernel
theorem dX9_layWays_55 : decode cX9_layWays 55 = .ok (.aload_n 0, 1) := by decide +kernel
theorem dX9_layWays_56 : decode cX9_layWays 56 = .ok (.getfield 491, 3) := by decide +kernel
theorem dX9_layWays_59 : decode cX9_layWays 59 = .ok (.aload_n 0, 1) := by decide +kernel
theorem dX9_layWays_60 : decode cX9_layWays 60 = .ok (.iconst 0, 1) := by decide +kernel
theorem dX9_layWays_61 : decode cX9_layWays 61 = .ok (.aload_n 0, 1) := by decide +kernel
theorem dX9_layWays_62 : decode cX9_layWays 62 = .ok (.getfield 76, 3) := by decide +kernel
theorem dX9_layWays_65 : decode cX9_layWays 65 = .ok (.iconst 1, 1) := by decide +kernel
theorem dX9_layWays_66 : decode cX9_layWays 66 = .ok (.iaload, 1) := by decide +kernel
theorem dX9_layWays_67 : decode cX9_layWays 67 = .ok (.iload_n 2, 1) := by decide +kernel
theorem dX9_layWays_68 : decode cX9_layWays 68 = .ok (.iconst (-1), 1) := by decide +kernel
theorem dX9_layWays_69 : decode cX9_layWays 69 = .ok (.ixor, 1) := by decide +kernel
theorem dX9_layWays_70 : decode cX9_layWays 70 = .ok (.iand, 1) := by decide +kernel
theorem dX9_layWays_71 : decode cX9_layWays 71 = .ok (.invokevirtual 396, 3) := by decide +kernel
theorem dX9_layWays_74 : decode cX9_layWays 74 = .ok (.iastore, 1) := by decide +kernel
theorem dX9_layWays_75 : decode cX9_layWays 75 = .ok (.aload_n 0, 1) := by decide +kernel
theorem dX9_layWays_76 : decode cX9_layWays 76 = .ok (.getfield 121, 3) := by decide +kernel
theorem dX9_layWays_79 : decode cX9_layWays 79 = .ok (.aload_n 0, 1) := by decide +kernel
theorem dX9_layWays_80 : decode cX9_layWays 80 = .ok (.getfield 491, 3) := by decide +kernel
theorem dX9_layWays_83 : decode cX9_layWays 83 = .ok (.aload_n 0, 1) := by decide +kernel
theorem dX9_layWays_84 : decode cX9_layWays 84 = .ok (.aload_n 0, 1) := by decide +kernel
theorem dX9_layWays_85 : decode cX9_layWays 85 = .ok (.getfield 491, 3) := by decide +kernel
theorem dX9_layWays_88 : decode cX9_layWays 88 = .ok (.iload_n 1, 1) := by decide +kernel
theorem dX9_layWays_89 : decode cX9_layWays 89 = .ok (.invokevirtual 497, 3) := by decide +kernel
theorem dX9_layWays_92 : decode cX9_layWays 92 = .ok (.bastore, 1) := by decide +kernel
theorem dX9_layWays_93 : decode cX9_layWays 93 = .ok (.aload_n 0, 1) := by decide +kernel
theorem dX9_layWays_94 : decode cX9_layWays 94 = .ok (.dup, 1) := by decide +kernel
theorem dX9_layWays_95 : decode cX9_layWays 95 = .ok (.getfield 494, 3) := by decide +kernel
theorem dX9_layWays_98 : decode cX9_layWays 98 = .ok (.aload_n 0, 1) := by decide +kernel
theorem dX9_layWays_99 : decode cX9_layWays 99 = .ok (.getfield 121, 3) := by decide +kernel
theorem dX9_layWays_102 : decode cX9_layWays 102 = .ok (.aload_n 0, 1) := by decide +kernel
theorem dX9_layWays_103 : decode cX9_layWays 103 = .ok (.getfield 491, 3) := by decide +kernel
theorem dX9_layWays_106 : decode cX9_layWays 106 = .ok (.baload, 1) := by decide +kernel
theorem dX9_layWays_107 : decode cX9_layWays 107 = .ok (.ifCond .eq 7, 3) := by decide +kernel
theorem dX9_layWays_110 : decode cX9_layWays 110 = .ok (.iconst 1, 1) := by decide +kernel
theorem dX9_layWays_111 : decode cX9_layWays 111 = .ok (.goto 4, 3) := by decide +kernel
theorem dX9_layWays_114 : decode cX9_layWays 114 = .ok (.iconst 0, 1) := by decide +kernel
theorem dX9_layWays_115 : decode cX9_layWays 115 = .ok (.iadd, 1) := by decide +kernel
theorem dX9_layWays_116 : decode cX9_layWays 116 = .ok (.putfield 494, 3) := by decide +kernel
theorem dX9_layWays_119 : decode cX9_layWays 119 = .ok (.aload_n 0, 1) := by decide +kernel
theorem dX9_layWays_120 : decode cX9_layWays 120 = .ok (.dup, 1) := by decide +kernel
theorem dX9_layWays_121 : decode cX9_layWays 121 = .ok (.getfield 491, 3) := by decide +kernel
theorem dX9_layWays_124 : decode cX9_layWays 124 = .ok (.iconst 1, 1) := by decide +kernel
theorem dX9_layWays_125 : decode cX9_layWays 125 = .ok (.iadd, 1) := by decide +kernel
theorem dX9_layWays_126 : decode cX9_layWays 126 = .ok (.putfield 491, 3) := by decide +kernel
theorem dX9_layWays_129 : decode cX9_layWays 129 = .ok (.iinc 2 1, 3) := by decide +kernel
theorem dX9_layWays_132 : decode cX9_layWays 132 = .ok (.goto (-112), 3) := by decide +kernel
theorem dX9_layWays_135 : decode cX9_layWays 135 = .ok (.aload_n 0, 1) := by decide +kernel
theorem dX9_layWays_136 : decode cX9_layWays 136 = .ok (.invokevirtual 433, 3) := by decide +kernel
theorem dX9_layWays_139 : decode cX9_layWays 139 = .ok (.return_, 1) := by decide +kernel
theorem in_X9_brings_X9 : ∀ w ∈ wsX90, w ∈ wsX9_brings := fun _ h => List.mem_cons_of_mem _ (List.mem_append_right _ h)
theorem in_X9_gaps_X9 : ∀ w ∈ wsX90, w ∈ wsX9_gaps := fun _ h => List.mem_cons_of_mem _ (List.mem_append_right _ h)
theorem in_X9_best_X9 : ∀ w ∈ wsX90, w ∈ wsX9_best := fun _ h => List.mem_cons_of_mem _ (List.mem_append_right _ h)
theorem in_X9_depth_X9 : ∀ w ∈ wsX90, w ∈ wsX9_depth := fun _ h => List.mem_cons_of_mem _ (List.mem_append_right _ h)
theorem in_X9_weakest_X9 : ∀ w ∈ wsX90, w ∈ wsX9_weakest := fun _ h => List.mem_cons_of_mem _ (List.mem_append_right _ h)
theorem in_X9_lies_X9 : ∀ w ∈ wsX90, w ∈ wsX9_lies := fun _ h => List.mem_cons_of_mem _ (List.mem_append_right _ h)
theorem in_X9_odds_X9 : ∀ w ∈ wsX90, w ∈ wsX9_odds := fun _ h => List.mem_cons_of_mem _ (List.mem_append_right _ h)
theorem in_X9_seen_X9 : ∀ w ∈ wsX90, w ∈ wsX9_seen := fun _ h => List.mem_cons_of_mem _ (List.mem_append_right _ h)
theorem in_X9_untell_X9 : ∀ w ∈ wsX90, w ∈ wsX9_untell := fun _ h => List.mem_cons_of_mem _ (List.mem_append_right _ h)
theorem in_X9_later_X9 : ∀ w ∈ wsX90, w ∈ wsX9_later := fun _ h => List.mem_cons_of_mem _ (List.mem_append_right _ h)
theorem in_X9_doesFit_X9 : ∀ w ∈ wsX90, w ∈ wsX9_doesFit := fun _ h => List.mem_cons_of_mem _ (List.mem_append_right _ h)
theorem in_X9_layWays_X9 : ∀ w ∈ wsX90, w ∈ wsX9_layWays := fun _ h => List.mem_cons_of_mem _ (List.mem_append_right _ h)
set_option maxHeartbeats 4000000 in
set_option maxRecDepth 100000 in
theorem s_X9_brings_0 (l : Launch) (B0 : Nat) (adK adV : Nat → Nat) (D : va_G) (cy : Nat → ClassId) (ad : Nat → Nat) (fr0 : Nat → va_E) (c_text : Nat → Int32) (m_taped : Int32) (m_size : Int32) (m_faultKind : Int32) (m_faultPlace : Int32) (m_at : Int32) (m_end : Int32) (m_token : Int32) (m_number : Int32) (m_name : Int64) (c_points : Nat → Int32) (c_strands : Nat → Int32) (c_units : Nat → Int32) (c_told : Nat → Int32) (c_ruleFrom : Nat → Int32) (c_ruleTo : Nat → Int32) (c_code : Nat → Int32) (c_eWhat : Nat → Int32) (c_eSign : Nat → Int32) (m_bank : Int32) (m_rb : Int32) (m_codes : Int32) (m_within : Int32) (m_piled : Int32) (m_unitsInRule : Int32) (m_askStrand : Int32) (m_askTied : Int32) (m_thoughtClaim : Int32) (m_thoughtNeed : Int32) (m_thoughtAll : Int32) (c_roundOf : Nat → Int32) (m_acts : Int32) (m_undone : Int32) (m_laid : Int32) (m_firstMove : Int32) (m_seens : Int32) (m_time : Int32) (m_waysNow : Int32) (m_fitting : Int32) (f : Nat → va_E) (hT : TYm ad cy fr0 c_text m_taped m_size m_faultKind m_faultPlace m_at m_end m_token m_number m_name c_points c_strands c_units c_told c_ruleFrom c_ruleTo c_code c_eWhat c_eSign m_bank m_rb m_codes m_within m_piled m_unitsInRule m_askStrand m_askTied m_thoughtClaim m_thoughtNeed m_thoughtAll c_roundOf m_acts m_undone m_laid m_firstMove m_seens m_time m_waysNow m_fitting f) (p1 : Int32) (hCV : CVp c_told c_ruleFrom c_ruleTo c_code m_bank) (sz : Nat) : TtI l yX9_brings wsX9_brings 7 159 [.ref (ad 148), .int p1] B0 adK adV D cy ad f sz (fun (r : Int32) (g : Nat → va_E) => (-1 ≤ r.toInt ∧ r.toInt ≤ 4095) ∧ (∃ (m_askStrand' : Int32) (m_askTied' : Int32) (c_roundOf' : Nat → Int32), TYm ad cy fr0 c_text m_taped m_size m_faultKind m_faultPlace m_at m_end m_token m_number m_name c_points c_strands c_units c_told c_ruleFrom c_ruleTo c_code c_eWhat c_eSign m_bank m_rb m_codes m_within m_piled m_unitsInRule m_askStrand' m_askTied' m_thoughtClaim m_thoughtNeed m_thoughtAll c_roundOf' m_acts m_undone m_laid m_firstMove m_seens m_time m_waysNow m_fitting g)) := by
  refine TtI.of (cc := cX9_brings) (maxL := 3) (ty := .int) (own := RX9) (by decide) rfl (Nat.le_of_ble_eq_true rfl) rfl ?_
  intro p e s m below meth c A ls hx hb hr hml hts hown hlk hK hE hP hD hS hA hAB hl
  have hl : lv_has ls 3 [(0, .ref (ad 148)), (1, .int p1)] := hl
  refine st0 (fun H locs hP hS => ?_) hP hS
  refine lv_aload_n hx hb dX9_brings_0 rfl (lv_at hl 0 rfl) ?_
  refine lv_iload_n hx hb dX9_brings_1 rfl (lv_at hl 1 rfl) ?_
  obtain ⟨e16, h1, h2, h3, h4, h5, h6, h7, h8, h9, h10, h11, h12, h13, h14, h15⟩ := (show okX9 ad m_taped m_size m_faultKind m_faultPlace m_at m_end m_token m_number m_name m_bank m_rb m_codes m_within m_piled m_unitsInRule m_askStrand m_askTied m_thoughtClaim m_thoughtNeed m_thoughtAll m_acts m_undone m_laid m_firstMove m_seens m_time m_waysNow m_fitting 148 (f 148) from hT.1 148 (by decide))
  refine tVI (As := [.int p1]) (rest := []) (i := 148) ⟨hx, hb, hml, hown, hts⟩ hK hE hP hD hS hA hAB (s_X9_isThread_0 l B0 adK adV D cy ad fr0 c_text m_taped m_size m_faultKind m_faultPlace m_at m_end m_token m_number m_name c_points c_strands c_units c_told c_ruleFrom c_ruleTo c_code c_eWhat c_eSign m_bank m_rb m_codes m_within m_piled m_unitsInRule m_askStrand m_askTied m_thoughtClaim m_thoughtNeed m_thoughtAll c_roundOf m_acts m_undone m_laid m_firstMove m_seens m_time m_waysNow m_fitting f hT p1 _) (cwV 1 hts gX9_brings_X9_isThread rfl rfl rfl (by decide +kernel) ⟨Nat.le_of_ble_eq_true rfl, Nat.le_of_ble_eq_true rfl⟩) (by decide) 9 e16 rfl rfl hl.1 rfl (Nat.le_of_ble_eq_true rfl) dX9_brings_2 ⟨Nat.le_of_ble_eq_true rfl, Nat.le_of_ble_eq_true rfl⟩ (fun r g H locs hw hP hD hS => ?_)
  obtain ⟨hrs, rfl⟩ := hw
  obtain ⟨x17, rfl⟩ : ∃ q, q = r := ⟨_, rfl⟩
  rcases hrs with ⟨rfl, h18, h19⟩ | rfl
  · refine lv_if_eq (tgt := 21) hx hb dX9_brings_5 (by decide) (fun c => absurd c (by decide)) (fun _ => ?_)
    refine lv_aload_n hx hb dX9_brings_8 rfl (lv_at hl 0 rfl) ?_
    refine va_get (D := D) (cl := vwCl) (ci := 9) (v := .ref (ad 169)) (C := RX9) (T := TX9) (N := 64) hx hb hts in_X9_brings_X9 hown hK hP 148 (wl_at (by decide) e16) rfl 37 (by decide) (hts (.fieldLink RX9 76 "EightReasonsModel" "all" "[I") (List.mem_of_getElem? (i := 1) rfl)) (fun _ h9 => h9) rfl dX9_brings_9 ?_
    refine lv_iconst (v := 1) hx hb dX9_brings_12 (by decide) ?_
    obtain ⟨g22, e20, h21⟩ := (show okIr cy 16 (0) (4095) 16 1 (f 169) from hT.1 169 (by decide))
    have ttl_1 := tl_1
    refine va_iald hx hb hK hP 169 0 (wl_at (by decide) e20) rfl (vin (by decide)) dX9_brings_13 ?_
    refine lv_topi (fun x23 ex23 => ?_)
    have hx23 := r_el (h21 _ (by decide)) ex23
    refine lv_iload_n hx hb dX9_brings_14 rfl (lv_at hl 1 rfl) ?_
    refine tSI (As := [.int x23, .int p1]) (rest := []) ⟨hx, hb, hml, hown, hts⟩ hK hE hP hD hS hA hAB (s_X9_bit_0 l B0 adK adV D cy ad f x23 p1 (by omega) _) (va_cwS 2 hts gX9_brings_X9_bit rfl rfl rfl (by decide +kernel) ⟨Nat.le_of_ble_eq_true rfl, Nat.le_of_ble_eq_true rfl⟩) rfl hl.1 rfl (Nat.le_of_ble_eq_true rfl) dX9_brings_15 ⟨Nat.le_of_ble_eq_true rfl, Nat.le_of_ble_eq_true rfl⟩ (fun r g H locs hw hP hD hS => ?_)
    obtain ⟨hrs, rfl⟩ := hw
    obtain ⟨x24, rfl⟩ : ∃ q, q = r := ⟨_, rfl⟩
    rcases hrs with ⟨rfl, h25⟩ | ⟨rfl, h26⟩
    · refine lv_if_ne (tgt := 23) hx hb dX9_brings_18 (by decide) (fun _ => ?_) (fun c => absurd c (by decide))
      refine lv_aload_n hx hb dX9_brings_23 rfl (lv_at hl 0 rfl) ?_
      refine tVI (As := []) (rest := []) (i := 148) ⟨hx, hb, hml, hown, hts⟩ hK hE hP hD hS hA hAB (s_X9_standNow_0 l B0 adK adV D cy ad fr0 c_text m_taped m_size m_faultKind m_faultPlace m_at m_end m_token m_number m_name c_points c_strands c_units c_told c_ruleFrom c_ruleTo c_code c_eWhat c_eSign m_bank m_rb m_codes m_within m_piled m_unitsInRule m_askStrand m_askTied m_thoughtClaim m_thoughtNeed m_thoughtAll c_roundOf m_acts m_undone m_laid m_firstMove m_seens m_time m_waysNow m_fitting f hT hCV _) (cwV 0 hts gX9_brings_X9_standNow rfl rfl rfl (by decide +kernel) ⟨Nat.le_of_ble_eq_true rfl, Nat.le_of_ble_eq_true rfl⟩) (by decide) 9 e16 rfl rfl hl.1 rfl (Nat.le_of_ble_eq_true rfl) dX9_brings_24 ⟨Nat.le_of_ble_eq_true rfl, Nat.le_of_ble_eq_true rfl⟩ (fun r f H locs hw hP hD hS => ?_)
      obtain ⟨hrs, x27, x28, y29, hT, h30⟩ := hw
      obtain ⟨x31, rfl⟩ : ∃ q, q = r := ⟨_, rfl⟩
      have h32 := hrs
      refine lv_istore_n (lv' := [(2, .int x31), (0, .ref (ad 148)), (1, .int p1)]) hx hb dX9_brings_27 rfl hl (by decide) rfl (fun ls hl => ?_)
      refine lv_iload_n hx hb dX9_brings_28 rfl (lv_at hl 0 rfl) ?_
      refine lv_aload_n hx hb dX9_brings_29 rfl (lv_at hl 1 rfl) ?_
      refine lv_aload_n hx hb dX9_brings_30 rfl (lv_at hl 1 rfl) ?_
      obtain ⟨e48, h33, h34, h35, h36, h37, h38, h39, h40, h41, h42, h43, h44, h45, h46, h47⟩ := (show okX9 ad m_taped m_size m_faultKind m_faultPlace m_at m_end m_token m_number m_name m_bank m_rb m_codes m_within m_piled m_unitsInRule x27 x28 m_thoughtClaim m_thoughtNeed m_thoughtAll m_acts m_undone m_laid m_firstMove m_seens m_time m_waysNow m_fitting 148 (f 148) from hT.1 148 (by decide))
      refine va_get (D := D) (cl := vwCl) (ci := 9) (v := .ref (ad 169)) (C := RX9) (T := TX9) (N := 64) hx hb hts in_X9_brings_X9 hown hK hP 148 (wl_at (by decide) e48) rfl 37 (by decide) (hts (.fieldLink RX9 76 "EightReasonsModel" "all" "[I") (List.mem_of_getElem? (i := 1) rfl)) (fun _ h9 => h9) rfl dX9_brings_31 ?_
      refine lv_iconst (v := 1) hx hb dX9_brings_34 (by decide) ?_
      obtain ⟨g51, e49, h50⟩ := (show okIr cy 16 (0) (4095) 16 1 (f 169) from hT.1 169 (by decide))
      refine va_iald hx hb hK hP 169 0 (wl_at (by decide) e49) rfl (vin (by decide)) dX9_brings_35 ?_
      refine lv_topi (fun x52 ex52 => ?_)
      have hx52 := r_el (h50 _ (by decide)) ex52
      refine lv_iconst (v := 1) hx hb dX9_brings_36 (by decide) ?_
      refine lv_iload_n hx hb dX9_brings_37 rfl (lv_at hl 2 rfl) ?_
      refine lv_ishl hx hb dX9_brings_38 ?_
      refine lv_topi (fun x53 ex53 => ?_)
      have hx53 := r_shl (K := 11) (M := 2048) ex53 (by decide) (by decide) (by omega) (by omega)
      refine lv_iconst (v := (-1)) hx hb dX9_brings_39 (by decide) ?_
      refine lv_ixor hx hb dX9_brings_40 ?_
      refine lv_topi (fun x54 ex54 => ?_)
      refine lv_iand hx hb dX9_brings_41 ?_
      refine lv_topi (fun x55 ex55 => ?_)
      have hx55 := r_andl ex55 (by omega)
      refine tVI (As := [.int x55]) (rest := [.int x31]) (i := 148) ⟨hx, hb, hml, hown, hts⟩ hK hE hP hD hS hA hAB (s_X9_standWith_0 l B0 adK adV D cy ad fr0 c_text m_taped m_size m_faultKind m_faultPlace m_at m_end m_token m_number m_name c_points c_strands c_units c_told c_ruleFrom c_ruleTo c_code c_eWhat c_eSign m_bank m_rb m_codes m_within m_piled m_unitsInRule x27 x28 m_thoughtClaim m_thoughtNeed m_thoughtAll y29 m_acts m_undone m_laid m_firstMove m_seens m_time m_waysNow m_fitting f hT x55 (by omega) hCV _) (cwV 1 hts gX9_brings_X9_standWith rfl rfl rfl (by decide +kernel) ⟨Nat.le_of_ble_eq_true rfl, Nat.le_of_ble_eq_true rfl⟩) (by decide) 9 e48 rfl rfl hl.1 rfl (Nat.le_of_ble_eq_true rfl) dX9_brings_42 ⟨Nat.le_of_ble_eq_true rfl, Nat.le_of_ble_eq_true rfl⟩ (fun r f H locs hw hP hD hS => ?_)
      obtain ⟨hrs, x56, x57, y58, hT, h59⟩ := hw
      obtain ⟨x60, rfl⟩ : ∃ q, q = r := ⟨_, rfl⟩
      have h61 := hrs
      refine lv_iconst (v := (-1)) hx hb dX9_brings_45 (by decide) ?_
      refine lv_ixor hx hb dX9_brings_46 ?_
      refine lv_topi (fun x62 ex62 => ?_)
      refine lv_iand hx hb dX9_brings_47 ?_
      refine lv_topi (fun x63 ex63 => ?_)
      have hx63 := r_andl ex63 (by omega)
      exact tI hx hb hr hlk rfl hP hS ⟨(by omega), ⟨x56, x57, y58, hT⟩⟩ dX9_brings_48
    · refine lv_if_ne (tgt := 23) hx hb dX9_brings_18 (by decide) (fun c => absurd (by decide) c) (fun _ => ?_)
      refine lv_iconst (v := (-1)) hx hb dX9_brings_21 (by decide) ?_
      have ttl_m1 := tl_m1
      exact tI hx hb hr hlk rfl hP hS ⟨(by omega), ⟨m_askStrand, m_askTied, c_roundOf, hT⟩⟩ dX9_brings_22
  · refine lv_if_eq (tgt := 21) hx hb dX9_brings_5 (by decide) (fun _ => ?_) (fun c => absurd (by decide) c)
    refine lv_iconst (v := (-1)) hx hb dX9_brings_21 (by decide) ?_
    have ttl_m1 := tl_m1
    exact tI hx hb hr hlk rfl hP hS ⟨(by omega), ⟨m_askStrand, m_askTied, c_roundOf, hT⟩⟩ dX9_brings_22
set_option maxHeartbeats 4000000 in
set_option maxRecDepth 100000 in
theorem s_X9_gaps_0 (l : Launch) (B0 : Nat) (adK adV : Nat → Nat) (D : va_G) (cy : Nat → ClassId) (ad : Nat → Nat) (fr0 : Nat → va_E) (c_text : Nat → Int32) (m_taped : Int32) (m_size : Int32) (m_faultKind : Int32) (m_faultPlace : Int32) (m_at : Int32) (m_end : Int32) (m_token : Int32) (m_number : Int32) (m_name : Int64) (c_points : Nat → Int32) (c_strands : Nat → Int32) (c_units : Nat → Int32) (c_told : Nat → Int32) (c_ruleFrom : Nat → Int32) (c_ruleTo : Nat → Int32) (c_code : Nat → Int32) (c_eWhat : Nat → Int32) (c_eSign : Nat → Int32) (m_bank : Int32) (m_rb : Int32) (m_codes : Int32) (m_within : Int32) (m_piled : Int32) (m_unitsInRule : Int32) (m_askStrand : Int32) (m_askTied : Int32) (m_thoughtClaim : Int32) (m_thoughtNeed : Int32) (m_thoughtAll : Int32) (c_roundOf : Nat → Int32) (m_acts : Int32) (m_undone : Int32) (m_laid : Int32) (m_firstMove : Int32) (m_seens : Int32) (m_time : Int32) (m_waysNow : Int32) (m_fitting : Int32) (f : Nat → va_E) (hT : TYm ad cy fr0 c_text m_taped m_size m_faultKind m_faultPlace m_at m_end m_token m_number m_name c_points c_strands c_units c_told c_ruleFrom c_ruleTo c_code c_eWhat c_eSign m_bank m_rb m_codes m_within m_piled m_unitsInRule m_askStrand m_askTied m_thoughtClaim m_thoughtNeed m_thoughtAll c_roundOf m_acts m_undone m_laid m_firstMove m_seens m_time m_waysNow m_fitting f) (sz : Nat) : TtI l yX9_gaps wsX9_gaps 3 64 [.ref (ad 148)] B0 adK adV D cy ad f sz (fun (r : Int32) (g : Nat → va_E) => (0 ≤ r.toInt ∧ r.toInt ≤ 4095) ∧ (f = g)) := by
  refine TtI.of (cc := cX9_gaps) (maxL := 3) (ty := .int) (own := RX9) (by decide) rfl (Nat.le_of_ble_eq_true rfl) rfl ?_
  intro p e s m below meth c A ls hx hb hr hml hts hown hlk hK hE hP hD hS hA hAB hl
  have hl : lv_has ls 3 [(0, .ref (ad 148))] := hl
  refine st0 (fun H locs hP hS => ?_) hP hS
  have j4 : ∀ (N : Nat) (H : Heap) (locs : List Loc) (ls : Array Slot) (v4_l2 : Int32) (v4_l1 : Int32), (11 - v4_l2.toInt ≤ (N : Int)) → (0 ≤ v4_l2.toInt ∧ v4_l2.toInt ≤ 10) → (0 ≤ v4_l1.toInt ∧ v4_l1.toInt ≤ 4095) → (va_P D vwCl (wl ad f) H) → (va_D A (wl ad f)) → (va_S A s.heap H locs) → (lv_has ls 3 [(2, .int v4_l2), (1, .int v4_l1), (0, .ref (ad 148))]) → W p l e (rmO 3 64 0 0) s m ([.ref (ad 148)] : List Value).toArray below meth c H locs 0 0 (MQ below (va_Qi (fun (r : Int32) (g : Nat → va_E) => (0 ≤ r.toInt ∧ r.toInt ≤ 4095) ∧ (f = g)) (fun g t => PstT D ad g t) A) ([.ref (ad 148)] : List Value).toArray s 0 0 A) (F0 m 4 ls []) := by
    intro N
    induction N with
    | zero => intro H locs ls v4_l2 v4_l1 hN hv4_l2 hv4_l1 hP hD hS hl; exact absurd hN (by omega)
    | succ N ih4 =>
      intro H locs ls v4_l2 v4_l1 hN hv4_l2 hv4_l1 hP hD hS hl
      have j41 : ∀ (H : Heap) (locs : List Loc) (ls : Array Slot) (v41_l1 : Int32), (0 ≤ v4_l2.toInt ∧ v4_l2.toInt ≤ 9) → (0 ≤ v41_l1.toInt ∧ v41_l1.toInt ≤ 4095) → (va_P D vwCl (wl ad f) H) → (va_D A (wl ad f)) → (va_S A s.heap H locs) → (lv_has ls 3 [(2, .int v4_l2), (1, .int v41_l1), (0, .ref (ad 148))]) → W p l e (rmO 3 64 0 0) s m ([.ref (ad 148)] : List Value).toArray below meth c H locs 0 0 (MQ below (va_Qi (fun (r : Int32) (g : Nat → va_E) => (0 ≤ r.toInt ∧ r.toInt ≤ 4095) ∧ (f = g)) (fun g t => PstT D ad g t) A) ([.ref (ad 148)] : List Value).toArray s 0 0 A) (F0 m 41 ls []) := by
        intro H locs ls v41_l1 hv41_l2 hv41_l1 hP hD hS hl
        obtain ⟨x1, ex1⟩ : ∃ q : Int32, q = v4_l2 + Int32.ofInt (1) := ⟨_, rfl⟩
        refine lv_iinc (v := x1) (lv' := [(2, .int x1), (1, .int v41_l1), (0, .ref (ad 148))]) hx hb dX9_gaps_41 hl (k := 0) rfl ex1.symm (by decide) rfl (fun ls hl => ?_)
        have hx1 := r_inc ex1 (by decide) (by omega) (by omega)
        refine lv_goto (tgt := 4) hx hb dX9_gaps_44 (by decide) ?_
        exact ih4 H locs ls x1 v41_l1 (by omega) (by omega) (by omega) hP hD hS (lv_sub hl [0, 1, 2] rfl)
      refine lv_iload_n hx hb dX9_gaps_4 rfl (lv_at hl 0 rfl) ?_
      refine lv_aload_n hx hb dX9_gaps_5 rfl (lv_at hl 2 rfl) ?_
      obtain ⟨e17, h2, h3, h4, h5, h6, h7, h8, h9, h10, h11, h12, h13, h14, h15, h16⟩ := (show okX9 ad m_taped m_size m_faultKind m_faultPlace m_at m_end m_token m_number m_name m_bank m_rb m_codes m_within m_piled m_unitsInRule m_askStrand m_askTied m_thoughtClaim m_thoughtNeed m_thoughtAll m_acts m_undone m_laid m_firstMove m_seens m_time m_waysNow m_fitting 148 (f 148) from hT.1 148 (by decide))
      refine tVI (As := []) (rest := [.int v4_l2]) (i := 148) ⟨hx, hb, hml, hown, hts⟩ hK hE hP hD hS hA hAB (s_X9_many_0 l B0 adK adV D cy ad fr0 c_text m_taped m_size m_faultKind m_faultPlace m_at m_end m_token m_number m_name c_points c_strands c_units c_told c_ruleFrom c_ruleTo c_code c_eWhat c_eSign m_bank m_rb m_codes m_within m_piled m_unitsInRule m_askStrand m_askTied m_thoughtClaim m_thoughtNeed m_thoughtAll c_roundOf m_acts m_undone m_laid m_firstMove m_seens m_time m_waysNow m_fitting f hT _) (cwV 0 hts gX9_gaps_X9_many rfl rfl rfl (by decide +kernel) ⟨Nat.le_of_ble_eq_true rfl, Nat.le_of_ble_eq_true rfl⟩) (by decide) 9 e17 rfl rfl hl.1 rfl (Nat.le_of_ble_eq_true rfl) dX9_gaps_6 ⟨Nat.le_of_ble_eq_true rfl, Nat.le_of_ble_eq_true rfl⟩ (fun r g H locs hw hP hD hS => ?_)
      obtain ⟨hrs, rfl⟩ := hw
      obtain ⟨x18, rfl⟩ : ∃ q, q = r := ⟨_, rfl⟩
      have h19 := hrs
      refine lv_icmp_ge (tgt := 47) hx hb dX9_gaps_9 (by decide) (fun c20 => ?_) (fun c20 => ?_)
      · have kc20 := c_le c20
        refine lv_iload_n hx hb dX9_gaps_47 rfl (lv_at hl 1 rfl) ?_
        exact tI hx hb hr hlk rfl hP hS ⟨(by omega), rfl⟩ dX9_gaps_48
      · have kc20 := c_nle c20
        refine lv_aload_n hx hb dX9_gaps_12 rfl (lv_at hl 2 rfl) ?_
        refine lv_iload_n hx hb dX9_gaps_13 rfl (lv_at hl 0 rfl) ?_
        refine tVI (As := [.int v4_l2]) (rest := []) (i := 148) ⟨hx, hb, hml, hown, hts⟩ hK hE hP hD hS hA hAB (s_X9_isClaim_0 l B0 adK adV D cy ad fr0 c_text m_taped m_size m_faultKind m_faultPlace m_at m_end m_token m_number m_name c_points c_strands c_units c_told c_ruleFrom c_ruleTo c_code c_eWhat c_eSign m_bank m_rb m_codes m_within m_piled m_unitsInRule m_askStrand m_askTied m_thoughtClaim m_thoughtNeed m_thoughtAll c_roundOf m_acts m_undone m_laid m_firstMove m_seens m_time m_waysNow m_fitting f hT v4_l2 _) (cwV 1 hts gX9_gaps_X9_isClaim rfl rfl rfl (by decide +kernel) ⟨Nat.le_of_ble_eq_true rfl, Nat.le_of_ble_eq_true rfl⟩) (by decide) 9 e17 rfl rfl hl.1 rfl (Nat.le_of_ble_eq_true rfl) dX9_gaps_14 ⟨Nat.le_of_ble_eq_true rfl, Nat.le_of_ble_eq_true rfl⟩ (fun r g H locs hw hP hD hS => ?_)
        obtain ⟨hrs, rfl⟩ := hw
        obtain ⟨x21, rfl⟩ : ∃ q, q = r := ⟨_, rfl⟩
        rcases hrs with ⟨rfl, h22, h23⟩ | rfl
        · refine lv_if_eq (tgt := 41) hx hb dX9_gaps_17 (by decide) (fun c => absurd c (by decide)) (fun _ => ?_)
          refine lv_aload_n hx hb dX9_gaps_20 rfl (lv_at hl 2 rfl) ?_
          refine lv_iload_n hx hb dX9_gaps_21 rfl (lv_at hl 0 rfl) ?_
          refine tVI (As := [.int v4_l2]) (rest := []) (i := 148) ⟨hx, hb, hml, hown, hts⟩ hK hE hP hD hS hA hAB (s_X9_leadingTo_0 l B0 adK adV D cy ad fr0 c_text m_taped m_size m_faultKind m_faultPlace m_at m_end m_token m_number m_name c_points c_strands c_units c_told c_ruleFrom c_ruleTo c_code c_eWhat c_eSign m_bank m_rb m_codes m_within m_piled m_unitsInRule m_askStrand m_askTied m_thoughtClaim m_thoughtNeed m_thoughtAll c_roundOf m_acts m_undone m_laid m_firstMove m_seens m_time m_waysNow m_fitting f hT v4_l2 (by omega) _) (cwV 1 hts gX9_gaps_X9_leadingTo rfl rfl rfl (by decide +kernel) ⟨Nat.le_of_ble_eq_true rfl, Nat.le_of_ble_eq_true rfl⟩) (by decide) 9 e17 rfl rfl hl.1 rfl (Nat.le_of_ble_eq_true rfl) dX9_gaps_22 ⟨Nat.le_of_ble_eq_true rfl, Nat.le_of_ble_eq_true rfl⟩ (fun r g H locs hw hP hD hS => ?_)
          obtain ⟨hrs, rfl⟩ := hw
          obtain ⟨x24, rfl⟩ : ∃ q, q = r := ⟨_, rfl⟩
          have h25 := hrs
          refine lv_aload_n hx hb dX9_gaps_25 rfl (lv_at hl 2 rfl) ?_
          refine va_get (D := D) (cl := vwCl) (ci := 9) (v := .ref (ad 169)) (C := RX9) (T := TX9) (N := 64) hx hb hts in_X9_gaps_X9 hown hK hP 148 (wl_at (by decide) e17) rfl 37 (by decide) (hts (.fieldLink RX9 76 "EightReasonsModel" "all" "[I") (List.mem_of_getElem? (i := 1) rfl)) (fun _ h9 => h9) rfl dX9_gaps_26 ?_
          refine lv_iconst (v := 1) hx hb dX9_gaps_29 (by decide) ?_
          obtain ⟨g28, e26, h27⟩ := (show okIr cy 16 (0) (4095) 16 1 (f 169) from hT.1 169 (by decide))
          have ttl_1 := tl_1
          refine va_iald hx hb hK hP 169 0 (wl_at (by decide) e26) rfl (vin (by decide)) dX9_gaps_30 ?_
          refine lv_topi (fun x29 ex29 => ?_)
          have hx29 := r_el (h27 _ (by decide)) ex29
          refine lv_iand hx hb dX9_gaps_31 ?_
          refine lv_topi (fun x30 ex30 => ?_)
          have hx30 := r_andr ex30 (by omega)
          have ttl_0 := tl_0
          refine lv_if_ne (tgt := 41) hx hb dX9_gaps_32 (by decide) (fun c31 => ?_) (fun c31 => ?_)
          · have kc31 := c_ne c31
            exact j41 H locs ls v4_l1 (by omega) (by omega) hP hD hS (lv_sub hl [0, 1, 2] rfl)
          · have kc31 := c_eq c31
            refine lv_iload_n hx hb dX9_gaps_35 rfl (lv_at hl 1 rfl) ?_
            refine lv_iconst (v := 1) hx hb dX9_gaps_36 (by decide) ?_
            refine lv_iload_n hx hb dX9_gaps_37 rfl (lv_at hl 0 rfl) ?_
            refine lv_ishl hx hb dX9_gaps_38 ?_
            refine lv_topi (fun x32 ex32 => ?_)
            have hx32 := r_shl (K := 9) (M := 512) ex32 (by decide) (by decide) (by omega) (by omega)
            refine lv_ior hx hb dX9_gaps_39 ?_
            refine lv_topi (fun x33 ex33 => ?_)
            have hx33 := r_or (k := 12) (K := 4096) ex33 (by decide) (by decide) (by omega) (by omega) (by omega) (by omega)
            refine lv_istore_n (lv' := [(1, .int x33), (2, .int v4_l2), (0, .ref (ad 148))]) hx hb dX9_gaps_40 rfl hl (by decide) rfl (fun ls hl => ?_)
            exact j41 H locs ls x33 (by omega) (by omega) hP hD hS (lv_sub hl [1, 0, 2] rfl)
        · refine lv_if_eq (tgt := 41) hx hb dX9_gaps_17 (by decide) (fun _ => ?_) (fun c => absurd (by decide) c)
          exact j41 H locs ls v4_l1 (by omega) (by omega) hP hD hS (lv_sub hl [0, 1, 2] rfl)
  refine lv_iconst (v := 0) hx hb dX9_gaps_0 (by decide) ?_
  refine lv_istore_n (lv' := [(1, .int 0), (0, .ref (ad 148))]) hx hb dX9_gaps_1 rfl hl (by decide) rfl (fun ls hl => ?_)
  refine lv_iconst (v := 0) hx hb dX9_gaps_2 (by decide) ?_
  refine lv_istore_n (lv' := [(2, .int 0), (1, .int 0), (0, .ref (ad 148))]) hx hb dX9_gaps_3 rfl hl (by decide) rfl (fun ls hl => ?_)
  have ttl_0 := tl_0
  exact j4 (Int.toNat (11 - (0 : Int32).toInt)) H locs ls (0 : Int32) (0 : Int32) (by omega) (by omega) (by omega) hP hD hS (lv_sub hl [0, 1, 2] rfl)
set_option maxHeartbeats 4000000 in
set_option maxRecDepth 100000 in
theorem s_X9_best_0 (l : Launch) (B0 : Nat) (adK adV : Nat → Nat) (D : va_G) (cy : Nat → ClassId) (ad : Nat → Nat) (fr0 : Nat → va_E) (c_text : Nat → Int32) (m_taped : Int32) (m_size : Int32) (m_faultKind : Int32) (m_faultPlace : Int32) (m_at : Int32) (m_end : Int32) (m_token : Int32) (m_number : Int32) (m_name : Int64) (c_points : Nat → Int32) (c_strands : Nat → Int32) (c_units : Nat → Int32) (c_told : Nat → Int32) (c_ruleFrom : Nat → Int32) (c_ruleTo : Nat → Int32) (c_code : Nat → Int32) (c_eWhat : Nat → Int32) (c_eSign : Nat → Int32) (m_bank : Int32) (m_rb : Int32) (m_codes : Int32) (m_within : Int32) (m_piled : Int32) (m_unitsInRule : Int32) (m_askStrand : Int32) (m_askTied : Int32) (m_thoughtClaim : Int32) (m_thoughtNeed : Int32) (m_thoughtAll : Int32) (c_roundOf : Nat → Int32) (m_acts : Int32) (m_undone : Int32) (m_laid : Int32) (m_firstMove : Int32) (m_seens : Int32) (m_time : Int32) (m_waysNow : Int32) (m_fitting : Int32) (f : Nat → va_E) (hT : TYm ad cy fr0 c_text m_taped m_size m_faultKind m_faultPlace m_at m_end m_token m_number m_name c_points c_strands c_units c_told c_ruleFrom c_ruleTo c_code c_eWhat c_eSign m_bank m_rb m_codes m_within m_piled m_unitsInRule m_askStrand m_askTied m_thoughtClaim m_thoughtNeed m_thoughtAll c_roundOf m_acts m_undone m_laid m_firstMove m_seens m_time m_waysNow m_fitting f) (p1 : Int32) (hCV : CVp c_told c_ruleFrom c_ruleTo c_code m_bank) (sz : Nat) : TtI l yX9_best wsX9_best 7 158 [.ref (ad 148), .int p1] B0 adK adV D cy ad f sz (fun (r : Int32) (g : Nat → va_E) => (-1 ≤ r.toInt ∧ r.toInt ≤ 11) ∧ (∃ (m_askStrand' : Int32) (m_askTied' : Int32) (c_roundOf' : Nat → Int32), TYm ad cy fr0 c_text m_taped m_size m_faultKind m_faultPlace m_at m_end m_token m_number m_name c_points c_strands c_units c_told c_ruleFrom c_ruleTo c_code c_eWhat c_eSign m_bank m_rb m_codes m_within m_piled m_unitsInRule m_askStrand' m_askTied' m_thoughtClaim m_thoughtNeed m_thoughtAll c_roundOf' m_acts m_undone m_laid m_firstMove m_seens m_time m_waysNow m_fitting g)) := by
  refine TtI.of (cc := cX9_best) (maxL := 6) (ty := .int) (own := RX9) (by decide) rfl (Nat.le_of_ble_eq_true rfl) rfl ?_
  intro p e s m below meth c A ls hx hb hr hml hts hown hlk hK hE hP hD hS hA hAB hl
  have hl : lv_has ls 6 [(0, .ref (ad 148)), (1, .int p1)] := hl
  refine st0 (fun H locs hP hS => ?_) hP hS
  have j23 : ∀ (N : Nat) (f : Nat → va_E) (H : Heap) (locs : List Loc) (ls : Array Slot) (v23_l5 : Int32) (v23_l4 : Int32) (v23_l3 : Int32) (v23_l2 : Int32) (v23_p_m_askStrand : Int32) (v23_p_m_askTied : Int32) (v23_p_c_roundOf : Nat → Int32), (13 - v23_l5.toInt ≤ (N : Int)) → (0 ≤ v23_l5.toInt ∧ v23_l5.toInt ≤ 12) → (-1 ≤ v23_l3.toInt ∧ v23_l3.toInt ≤ 11) → (0 ≤ v23_l2.toInt ∧ v23_l2.toInt ≤ 4095) → (0 ≤ p1.toInt ∧ p1.toInt ≤ 9) → (0 ≤ v23_p_m_askTied.toInt ∧ v23_p_m_askTied.toInt ≤ 4095) → (TYm ad cy fr0 c_text m_taped m_size m_faultKind m_faultPlace m_at m_end m_token m_number m_name c_points c_strands c_units c_told c_ruleFrom c_ruleTo c_code c_eWhat c_eSign m_bank m_rb m_codes m_within m_piled m_unitsInRule v23_p_m_askStrand v23_p_m_askTied m_thoughtClaim m_thoughtNeed m_thoughtAll v23_p_c_roundOf m_acts m_undone m_laid m_firstMove m_seens m_time m_waysNow m_fitting f) → (va_P D vwCl (wl ad f) H) → (va_D A (wl ad f)) → (va_S A s.heap H locs) → (lv_has ls 6 [(5, .int v23_l5), (4, .int v23_l4), (3, .int v23_l3), (2, .int v23_l2), (0, .ref (ad 148)), (1, .int p1)]) → W p l e (rmO 7 158 0 0) s m ([.ref (ad 148), .int p1] : List Value).toArray below meth c H locs 0 0 (MQ below (va_Qi (fun (r : Int32) (g : Nat → va_E) => (-1 ≤ r.toInt ∧ r.toInt ≤ 11) ∧ (∃ (m_askStrand' : Int32) (m_askTied' : Int32) (c_roundOf' : Nat → Int32), TYm ad cy fr0 c_text m_taped m_size m_faultKind m_faultPlace m_at m_end m_token m_number m_name c_points c_strands c_units c_told c_ruleFrom c_ruleTo c_code c_eWhat c_eSign m_bank m_rb m_codes m_within m_piled m_unitsInRule m_askStrand' m_askTied' m_thoughtClaim m_thoughtNeed m_thoughtAll c_roundOf' m_acts m_undone m_laid m_firstMove m_seens m_time m_waysNow m_fitting g)) (fun g t => PstT D ad g t) A) ([.ref (ad 148), .int p1] : List Value).toArray s 0 0 A) (F0 m 23 ls []) := by
    intro N
    induction N with
    | zero => intro f H locs ls v23_l5 v23_l4 v23_l3 v23_l2 v23_p_m_askStrand v23_p_m_askTied v23_p_c_roundOf hN hv23_l5 hv23_l3 hv23_l2 hv23_l1 hv23_p_m_askTied hT hP hD hS hl; exact absurd hN (by omega)
    | succ N ih23 =>
      intro f H locs ls v23_l5 v23_l4 v23_l3 v23_l2 v23_p_m_askStrand v23_p_m_askTied v23_p_c_roundOf hN hv23_l5 hv23_l3 hv23_l2 hv23_l1 hv23_p_m_askTied hT hP hD hS hl
      have j82 : ∀ (f : Nat → va_E) (H : Heap) (locs : List Loc) (ls : Array Slot) (v82_l4 : Int32) (v82_l3 : Int32), (0 ≤ v23_l5.toInt ∧ v23_l5.toInt ≤ 11) → (-1 ≤ v82_l3.toInt ∧ v82_l3.toInt ≤ 11) → (0 ≤ v23_l2.toInt ∧ v23_l2.toInt ≤ 4095) → (0 ≤ p1.toInt ∧ p1.toInt ≤ 9) → (0 ≤ v23_p_m_askTied.toInt ∧ v23_p_m_askTied.toInt ≤ 4095) → (TYm ad cy fr0 c_text m_taped m_size m_faultKind m_faultPlace m_at m_end m_token m_number m_name c_points c_strands c_units c_told c_ruleFrom c_ruleTo c_code c_eWhat c_eSign m_bank m_rb m_codes m_within m_piled m_unitsInRule v23_p_m_askStrand v23_p_m_askTied m_thoughtClaim m_thoughtNeed m_thoughtAll v23_p_c_roundOf m_acts m_undone m_laid m_firstMove m_seens m_time m_waysNow m_fitting f) → (va_P D vwCl (wl ad f) H) → (va_D A (wl ad f)) → (va_S A s.heap H locs) → (lv_has ls 6 [(5, .int v23_l5), (4, .int v82_l4), (3, .int v82_l3), (2, .int v23_l2), (0, .ref (ad 148)), (1, .int p1)]) → W p l e (rmO 7 158 0 0) s m ([.ref (ad 148), .int p1] : List Value).toArray below meth c H locs 0 0 (MQ below (va_Qi (fun (r : Int32) (g : Nat → va_E) => (-1 ≤ r.toInt ∧ r.toInt ≤ 11) ∧ (∃ (m_askStrand' : Int32) (m_askTied' : Int32) (c_roundOf' : Nat → Int32), TYm ad cy fr0 c_text m_taped m_size m_faultKind m_faultPlace m_at m_end m_token m_number m_name c_points c_strands c_units c_told c_ruleFrom c_ruleTo c_code c_eWhat c_eSign m_bank m_rb m_codes m_within m_piled m_unitsInRule m_askStrand' m_askTied' m_thoughtClaim m_thoughtNeed m_thoughtAll c_roundOf' m_acts m_undone m_laid m_firstMove m_seens m_time m_waysNow m_fitting g)) (fun g t => PstT D ad g t) A) ([.ref (ad 148), .int p1] : List Value).toArray s 0 0 A) (F0 m 82 ls []) := by
        intro f H locs ls v82_l4 v82_l3 hv82_l5 hv82_l3 hv82_l2 hv82_l1 hv82_p_m_askTied hT hP hD hS hl
        obtain ⟨x1, ex1⟩ : ∃ q : Int32, q = v23_l5 + Int32.ofInt (1) := ⟨_, rfl⟩
        refine lv_iinc (v := x1) (lv' := [(5, .int x1), (4, .int v82_l4), (3, .int v82_l3), (2, .int v23_l2), (0, .ref (ad 148)), (1, .int p1)]) hx hb dX9_best_82 hl (k := 0) rfl ex1.symm (by decide) rfl (fun ls hl => ?_)
        have hx1 := r_inc ex1 (by decide) (by omega) (by omega)
        refine lv_goto (tgt := 23) hx hb dX9_best_85 (by decide) ?_
        exact ih23 f H locs ls x1 v82_l4 v82_l3 v23_l2 v23_p_m_askStrand v23_p_m_askTied v23_p_c_roundOf (by omega) (by omega) (by omega) (by omega) (by omega) (by omega) hT hP hD hS (lv_sub hl [0, 1, 2, 3, 4, 5] rfl)
      refine lv_iload hx hb dX9_best_23 (lv_at hl 0 rfl) ?_
      refine lv_aload_n hx hb dX9_best_25 rfl (lv_at hl 4 rfl) ?_
      obtain ⟨e17, h2, h3, h4, h5, h6, h7, h8, h9, h10, h11, h12, h13, h14, h15, h16⟩ := (show okX9 ad m_taped m_size m_faultKind m_faultPlace m_at m_end m_token m_number m_name m_bank m_rb m_codes m_within m_piled m_unitsInRule v23_p_m_askStrand v23_p_m_askTied m_thoughtClaim m_thoughtNeed m_thoughtAll m_acts m_undone m_laid m_firstMove m_seens m_time m_waysNow m_fitting 148 (f 148) from hT.1 148 (by decide))
      refine tVI (As := []) (rest := [.int v23_l5]) (i := 148) ⟨hx, hb, hml, hown, hts⟩ hK hE hP hD hS hA hAB (s_X9_threads_0 l B0 adK adV D cy ad fr0 c_text m_taped m_size m_faultKind m_faultPlace m_at m_end m_token m_number m_name c_points c_strands c_units c_told c_ruleFrom c_ruleTo c_code c_eWhat c_eSign m_bank m_rb m_codes m_within m_piled m_unitsInRule v23_p_m_askStrand v23_p_m_askTied m_thoughtClaim m_thoughtNeed m_thoughtAll v23_p_c_roundOf m_acts m_undone m_laid m_firstMove m_seens m_time m_waysNow m_fitting f hT _) (cwV 0 hts gX9_best_X9_threads rfl rfl rfl (by decide +kernel) ⟨Nat.le_of_ble_eq_true rfl, Nat.le_of_ble_eq_true rfl⟩) (by decide) 9 e17 rfl rfl hl.1 rfl (Nat.le_of_ble_eq_true rfl) dX9_best_26 ⟨Nat.le_of_ble_eq_true rfl, Nat.le_of_ble_eq_true rfl⟩ (fun r g H locs hw hP hD hS => ?_)
      obtain ⟨hrs, rfl⟩ := hw
      obtain ⟨x18, rfl⟩ : ∃ q, q = r := ⟨_, rfl⟩
      have h19 := hrs
      refine lv_icmp_ge (tgt := 88) hx hb dX9_best_29 (by decide) (fun c20 => ?_) (fun c20 => ?_)
      · have kc20 := c_le c20
        refine lv_iload_n hx hb dX9_best_88 rfl (lv_at hl 2 rfl) ?_
        exact tI hx hb hr hlk rfl hP hS ⟨(by omega), ⟨v23_p_m_askStrand, v23_p_m_askTied, v23_p_c_roundOf, hT⟩⟩ dX9_best_89
      · have kc20 := c_nle c20
        refine lv_aload_n hx hb dX9_best_32 rfl (lv_at hl 4 rfl) ?_
        refine lv_iload hx hb dX9_best_33 (lv_at hl 0 rfl) ?_
        refine tVI (As := [.int v23_l5]) (rest := []) (i := 148) ⟨hx, hb, hml, hown, hts⟩ hK hE hP hD hS hA hAB (s_X9_toOf_0 l B0 adK adV D cy ad fr0 c_text m_taped m_size m_faultKind m_faultPlace m_at m_end m_token m_number m_name c_points c_strands c_units c_told c_ruleFrom c_ruleTo c_code c_eWhat c_eSign m_bank m_rb m_codes m_within m_piled m_unitsInRule v23_p_m_askStrand v23_p_m_askTied m_thoughtClaim m_thoughtNeed m_thoughtAll v23_p_c_roundOf m_acts m_undone m_laid m_firstMove m_seens m_time m_waysNow m_fitting f hT v23_l5 (by omega) _) (cwV 1 hts gX9_best_X9_toOf rfl rfl rfl (by decide +kernel) ⟨Nat.le_of_ble_eq_true rfl, Nat.le_of_ble_eq_true rfl⟩) (by decide) 9 e17 rfl rfl hl.1 rfl (Nat.le_of_ble_eq_true rfl) dX9_best_35 ⟨Nat.le_of_ble_eq_true rfl, Nat.le_of_ble_eq_true rfl⟩ (fun r g H locs hw hP hD hS => ?_)
        obtain ⟨hrs, rfl⟩ := hw
        obtain ⟨x21, rfl⟩ : ∃ q, q = r := ⟨_, rfl⟩
        have h22 := hrs
        refine lv_iload_n hx hb dX9_best_38 rfl (lv_at hl 5 rfl) ?_
        refine lv_icmp_ne (tgt := 82) hx hb dX9_best_39 (by decide) (fun c23 => ?_) (fun c23 => ?_)
        · have kc23 := c_ne c23
          exact j82 f H locs ls v23_l4 v23_l3 (by omega) (by omega) (by omega) (by omega) (by omega) hT hP hD hS (lv_sub hl [0, 1, 2, 3, 4, 5] rfl)
        · have kc23 := c_eq c23
          refine lv_iload_n hx hb dX9_best_42 rfl (lv_at hl 3 rfl) ?_
          refine lv_aload_n hx hb dX9_best_43 rfl (lv_at hl 4 rfl) ?_
          refine lv_iload hx hb dX9_best_44 (lv_at hl 0 rfl) ?_
          refine tVI (As := [.int v23_l5]) (rest := [.int v23_l2]) (i := 148) ⟨hx, hb, hml, hown, hts⟩ hK hE hP hD hS hA hAB (s_X9_fromOf_0 l B0 adK adV D cy ad fr0 c_text m_taped m_size m_faultKind m_faultPlace m_at m_end m_token m_number m_name c_points c_strands c_units c_told c_ruleFrom c_ruleTo c_code c_eWhat c_eSign m_bank m_rb m_codes m_within m_piled m_unitsInRule v23_p_m_askStrand v23_p_m_askTied m_thoughtClaim m_thoughtNeed m_thoughtAll v23_p_c_roundOf m_acts m_undone m_laid m_firstMove m_seens m_time m_waysNow m_fitting f hT v23_l5 (by omega) _) (cwV 1 hts gX9_best_X9_fromOf rfl rfl rfl (by decide +kernel) ⟨Nat.le_of_ble_eq_true rfl, Nat.le_of_ble_eq_true rfl⟩) (by decide) 9 e17 rfl rfl hl.1 rfl (Nat.le_of_ble_eq_true rfl) dX9_best_46 ⟨Nat.le_of_ble_eq_true rfl, Nat.le_of_ble_eq_true rfl⟩ (fun r g H locs hw hP hD hS => ?_)
          obtain ⟨hrs, rfl⟩ := hw
          obtain ⟨x24, rfl⟩ : ∃ q, q = r := ⟨_, rfl⟩
          have h25 := hrs
          refine tSI (As := [.int v23_l2, .int x24]) (rest := []) ⟨hx, hb, hml, hown, hts⟩ hK hE hP hD hS hA hAB (s_X9_bit_0 l B0 adK adV D cy ad f v23_l2 x24 (by omega) _) (va_cwS 2 hts gX9_best_X9_bit rfl rfl rfl (by decide +kernel) ⟨Nat.le_of_ble_eq_true rfl, Nat.le_of_ble_eq_true rfl⟩) rfl hl.1 rfl (Nat.le_of_ble_eq_true rfl) dX9_best_49 ⟨Nat.le_of_ble_eq_true rfl, Nat.le_of_ble_eq_true rfl⟩ (fun r g H locs hw hP hD hS => ?_)
          obtain ⟨hrs, rfl⟩ := hw
          obtain ⟨x26, rfl⟩ : ∃ q, q = r := ⟨_, rfl⟩
          rcases hrs with ⟨rfl, h27⟩ | ⟨rfl, h28⟩
          · refine lv_if_eq (tgt := 82) hx hb dX9_best_52 (by decide) (fun c => absurd c (by decide)) (fun _ => ?_)
            refine lv_aload_n hx hb dX9_best_55 rfl (lv_at hl 4 rfl) ?_
            refine va_get (D := D) (cl := vwCl) (ci := 9) (v := .ref (ad 171)) (C := RX9) (T := TX9) (N := 64) hx hb hts in_X9_best_X9 hown hK hP 148 (wl_at (by decide) e17) rfl 42 (by decide) (hts (.fieldLink RX9 88 "EightReasonsModel" "weightOf" "[I") (List.mem_of_getElem? (i := 1) rfl)) (fun _ h9 => h9) rfl dX9_best_56 ?_
            refine lv_iload hx hb dX9_best_59 (lv_at hl 0 rfl) ?_
            obtain ⟨g30, e29⟩ := (show okI cy 12 (f 171) from hT.1 171 (by decide))
            refine va_iald hx hb hK hP 171 0 (wl_at (by decide) e29) rfl (vp_in_iff.mpr ⟨by omega, by omega⟩) dX9_best_61 ?_
            refine lv_topi (fun x31 ex31 => ?_)
            refine lv_iload hx hb dX9_best_62 (lv_at hl 1 rfl) ?_
            refine lv_icmp_gt (tgt := 70) hx hb dX9_best_64 (by decide) (fun c32 => ?_) (fun c32 => ?_)
            · have kc32 := c_lt c32
              refine lv_iload hx hb dX9_best_70 (lv_at hl 0 rfl) ?_
              refine lv_istore_n (lv' := [(3, .int v23_l5), (5, .int v23_l5), (4, .int v23_l4), (2, .int v23_l2), (0, .ref (ad 148)), (1, .int p1)]) hx hb dX9_best_72 rfl hl (by decide) rfl (fun ls hl => ?_)
              refine lv_aload_n hx hb dX9_best_73 rfl (lv_at hl 4 rfl) ?_
              refine va_get (D := D) (cl := vwCl) (ci := 9) (v := .ref (ad 171)) (C := RX9) (T := TX9) (N := 64) hx hb hts in_X9_best_X9 hown hK hP 148 (wl_at (by decide) e17) rfl 42 (by decide) (hts (.fieldLink RX9 88 "EightReasonsModel" "weightOf" "[I") (List.mem_of_getElem? (i := 1) rfl)) (fun _ h9 => h9) rfl dX9_best_74 ?_
              refine lv_iload hx hb dX9_best_77 (lv_at hl 1 rfl) ?_
              refine va_iald hx hb hK hP 171 0 (wl_at (by decide) e29) rfl (vp_in_iff.mpr ⟨by omega, by omega⟩) dX9_best_79 ?_
              refine lv_topi (fun x33 ex33 => ?_)
              refine lv_istore (lv' := [(4, .int x33), (3, .int v23_l5), (5, .int v23_l5), (2, .int v23_l2), (0, .ref (ad 148)), (1, .int p1)]) hx hb dX9_best_80 hl (by decide) rfl (fun ls hl => ?_)
              exact j82 f H locs ls x33 v23_l5 (by omega) (by omega) (by omega) (by omega) (by omega) hT hP hD hS (lv_sub hl [2, 0, 1, 3, 4, 5] rfl)
            · have kc32 := c_nlt c32
              refine lv_goto (tgt := 82) hx hb dX9_best_67 (by decide) ?_
              exact j82 f H locs ls v23_l4 v23_l3 (by omega) (by omega) (by omega) (by omega) (by omega) hT hP hD hS (lv_sub hl [0, 1, 2, 3, 4, 5] rfl)
          · refine lv_if_eq (tgt := 82) hx hb dX9_best_52 (by decide) (fun _ => ?_) (fun c => absurd (by decide) c)
            exact j82 f H locs ls v23_l4 v23_l3 (by omega) (by omega) (by omega) (by omega) (by omega) hT hP hD hS (lv_sub hl [0, 1, 2, 3, 4, 5] rfl)
  refine lv_aload_n hx hb dX9_best_0 rfl (lv_at hl 0 rfl) ?_
  refine lv_iload_n hx hb dX9_best_1 rfl (lv_at hl 1 rfl) ?_
  obtain ⟨e49, h34, h35, h36, h37, h38, h39, h40, h41, h42, h43, h44, h45, h46, h47, h48⟩ := (show okX9 ad m_taped m_size m_faultKind m_faultPlace m_at m_end m_token m_number m_name m_bank m_rb m_codes m_within m_piled m_unitsInRule m_askStrand m_askTied m_thoughtClaim m_thoughtNeed m_thoughtAll m_acts m_undone m_laid m_firstMove m_seens m_time m_waysNow m_fitting 148 (f 148) from hT.1 148 (by decide))
  refine tVI (As := [.int p1]) (rest := []) (i := 148) ⟨hx, hb, hml, hown, hts⟩ hK hE hP hD hS hA hAB (s_X9_isClaim_0 l B0 adK adV D cy ad fr0 c_text m_taped m_size m_faultKind m_faultPlace m_at m_end m_token m_number m_name c_points c_strands c_units c_told c_ruleFrom c_ruleTo c_code c_eWhat c_eSign m_bank m_rb m_codes m_within m_piled m_unitsInRule m_askStrand m_askTied m_thoughtClaim m_thoughtNeed m_thoughtAll c_roundOf m_acts m_undone m_laid m_firstMove m_seens m_time m_waysNow m_fitting f hT p1 _) (cwV 1 hts gX9_best_X9_isClaim rfl rfl rfl (by decide +kernel) ⟨Nat.le_of_ble_eq_true rfl, Nat.le_of_ble_eq_true rfl⟩) (by decide) 9 e49 rfl rfl hl.1 rfl (Nat.le_of_ble_eq_true rfl) dX9_best_2 ⟨Nat.le_of_ble_eq_true rfl, Nat.le_of_ble_eq_true rfl⟩ (fun r g H locs hw hP hD hS => ?_)
  obtain ⟨hrs, rfl⟩ := hw
  obtain ⟨x50, rfl⟩ : ∃ q, q = r := ⟨_, rfl⟩
  rcases hrs with ⟨rfl, h51, h52⟩ | rfl
  · refine lv_if_ne (tgt := 10) hx hb dX9_best_5 (by decide) (fun _ => ?_) (fun c => absurd c (by decide))
    refine lv_aload_n hx hb dX9_best_10 rfl (lv_at hl 0 rfl) ?_
    refine tVI (As := []) (rest := []) (i := 148) ⟨hx, hb, hml, hown, hts⟩ hK hE hP hD hS hA hAB (s_X9_standNow_0 l B0 adK adV D cy ad fr0 c_text m_taped m_size m_faultKind m_faultPlace m_at m_end m_token m_number m_name c_points c_strands c_units c_told c_ruleFrom c_ruleTo c_code c_eWhat c_eSign m_bank m_rb m_codes m_within m_piled m_unitsInRule m_askStrand m_askTied m_thoughtClaim m_thoughtNeed m_thoughtAll c_roundOf m_acts m_undone m_laid m_firstMove m_seens m_time m_waysNow m_fitting f hT hCV _) (cwV 0 hts gX9_best_X9_standNow rfl rfl rfl (by decide +kernel) ⟨Nat.le_of_ble_eq_true rfl, Nat.le_of_ble_eq_true rfl⟩) (by decide) 9 e49 rfl rfl hl.1 rfl (Nat.le_of_ble_eq_true rfl) dX9_best_11 ⟨Nat.le_of_ble_eq_true rfl, Nat.le_of_ble_eq_true rfl⟩ (fun r f H locs hw hP hD hS => ?_)
    obtain ⟨hrs, x53, x54, y55, hT, h56⟩ := hw
    obtain ⟨x57, rfl⟩ : ∃ q, q = r := ⟨_, rfl⟩
    have h58 := hrs
    refine lv_istore_n (lv' := [(2, .int x57), (0, .ref (ad 148)), (1, .int p1)]) hx hb dX9_best_14 rfl hl (by decide) rfl (fun ls hl => ?_)
    refine lv_iconst (v := (-1)) hx hb dX9_best_15 (by decide) ?_
    refine lv_istore_n (lv' := [(3, .int (-1)), (2, .int x57), (0, .ref (ad 148)), (1, .int p1)]) hx hb dX9_best_16 rfl hl (by decide) rfl (fun ls hl => ?_)
    refine lv_iconst (v := 0) hx hb dX9_best_17 (by decide) ?_
    refine lv_istore (lv' := [(4, .int 0), (3, .int (-1)), (2, .int x57), (0, .ref (ad 148)), (1, .int p1)]) hx hb dX9_best_18 hl (by decide) rfl (fun ls hl => ?_)
    refine lv_iconst (v := 0) hx hb dX9_best_20 (by decide) ?_
    refine lv_istore (lv' := [(5, .int 0), (4, .int 0), (3, .int (-1)), (2, .int x57), (0, .ref (ad 148)), (1, .int p1)]) hx hb dX9_best_21 hl (by decide) rfl (fun ls hl => ?_)
    have ttl_0 := tl_0
    have ttl_m1 := tl_m1
    exact j23 (Int.toNat (13 - (0 : Int32).toInt)) f H locs ls (0 : Int32) (0 : Int32) ((-1) : Int32) x57 x53 x54 y55 (by omega) (by omega) (by omega) (by omega) (by omega) (by omega) hT hP hD hS (lv_sub hl [0, 1, 2, 3, 4, 5] rfl)
  · refine lv_if_ne (tgt := 10) hx hb dX9_best_5 (by decide) (fun c => absurd (by decide) c) (fun _ => ?_)
    refine lv_iconst (v := (-1)) hx hb dX9_best_8 (by decide) ?_
    have ttl_m1 := tl_m1
    exact tI hx hb hr hlk rfl hP hS ⟨(by omega), ⟨m_askStrand, m_askTied, c_roundOf, hT⟩⟩ dX9_best_9
set_option maxHeartbeats 4000000 in
set_option maxRecDepth 100000 in
theorem s_X9_depth_0 (l : Launch) (B0 : Nat) (adK adV : Nat → Nat) (D : va_G) (cy : Nat → ClassId) (ad : Nat → Nat) (fr0 : Nat → va_E) (c_text : Nat → Int32) (m_taped : Int32) (m_size : Int32) (m_faultKind : Int32) (m_faultPlace : Int32) (m_at : Int32) (m_end : Int32) (m_token : Int32) (m_number : Int32) (m_name : Int64) (c_points : Nat → Int32) (c_strands : Nat → Int32) (c_units : Nat → Int32) (c_told : Nat → Int32) (c_ruleFrom : Nat → Int32) (c_ruleTo : Nat → Int32) (c_code : Nat → Int32) (c_eWhat : Nat → Int32) (c_eSign : Nat → Int32) (m_bank : Int32) (m_rb : Int32) (m_codes : Int32) (m_within : Int32) (m_piled : Int32) (m_unitsInRule : Int32) (m_askStrand : Int32) (m_askTied : Int32) (m_thoughtClaim : Int32) (m_thoughtNeed : Int32) (m_thoughtAll : Int32) (c_roundOf : Nat → Int32) (m_acts : Int32) (m_undone : Int32) (m_laid : Int32) (m_firstMove : Int32) (m_seens : Int32) (m_time : Int32) (m_waysNow : Int32) (m_fitting : Int32) (f : Nat → va_E) (hT : TYm ad cy fr0 c_text m_taped m_size m_faultKind m_faultPlace m_at m_end m_token m_number m_name c_points c_strands c_units c_told c_ruleFrom c_ruleTo c_code c_eWhat c_eSign m_bank m_rb m_codes m_within m_piled m_unitsInRule m_askStrand m_askTied m_thoughtClaim m_thoughtNeed m_thoughtAll c_roundOf m_acts m_undone m_laid m_firstMove m_seens m_time m_waysNow m_fitting f) (hCV : CVp c_told c_ruleFrom c_ruleTo c_code m_bank) (sz : Nat) : TtI l yX9_depth wsX9_depth 7 158 [.ref (ad 148)] B0 adK adV D cy ad f sz (fun (r : Int32) (g : Nat → va_E) => True ∧ (∃ (m_askStrand' : Int32) (m_askTied' : Int32) (c_roundOf' : Nat → Int32), TYm ad cy fr0 c_text m_taped m_size m_faultKind m_faultPlace m_at m_end m_token m_number m_name c_points c_strands c_units c_told c_ruleFrom c_ruleTo c_code c_eWhat c_eSign m_bank m_rb m_codes m_within m_piled m_unitsInRule m_askStrand' m_askTied' m_thoughtClaim m_thoughtNeed m_thoughtAll c_roundOf' m_acts m_undone m_laid m_firstMove m_seens m_time m_waysNow m_fitting g ∧ (0 ≤ m_askTied'.toInt ∧ m_askTied'.toInt ≤ 4095))) := by
  refine TtI.of (cc := cX9_depth) (maxL := 4) (ty := .int) (own := RX9) (by decide) rfl (Nat.le_of_ble_eq_true rfl) rfl ?_
  intro p e s m below meth c A ls hx hb hr hml hts hown hlk hK hE hP hD hS hA hAB hl
  have hl : lv_has ls 4 [(0, .ref (ad 148))] := hl
  refine st0 (fun H locs hP hS => ?_) hP hS
  have j9 : ∀ (N : Nat) (f : Nat → va_E) (H : Heap) (locs : List Loc) (ls : Array Slot) (v9_l3 : Int32) (v9_l2 : Int32) (v9_l1 : Int32) (v9_p_m_askStrand : Int32) (v9_p_m_askTied : Int32) (v9_p_c_roundOf : Nat → Int32), (11 - v9_l3.toInt ≤ (N : Int)) → (0 ≤ v9_l3.toInt ∧ v9_l3.toInt ≤ 10) → (0 ≤ v9_l1.toInt ∧ v9_l1.toInt ≤ 4095) → (0 ≤ v9_p_m_askTied.toInt ∧ v9_p_m_askTied.toInt ≤ 4095) → (TYm ad cy fr0 c_text m_taped m_size m_faultKind m_faultPlace m_at m_end m_token m_number m_name c_points c_strands c_units c_told c_ruleFrom c_ruleTo c_code c_eWhat c_eSign m_bank m_rb m_codes m_within m_piled m_unitsInRule v9_p_m_askStrand v9_p_m_askTied m_thoughtClaim m_thoughtNeed m_thoughtAll v9_p_c_roundOf m_acts m_undone m_laid m_firstMove m_seens m_time m_waysNow m_fitting f) → (va_P D vwCl (wl ad f) H) → (va_D A (wl ad f)) → (va_S A s.heap H locs) → (lv_has ls 4 [(3, .int v9_l3), (2, .int v9_l2), (1, .int v9_l1), (0, .ref (ad 148))]) → W p l e (rmO 7 158 0 0) s m ([.ref (ad 148)] : List Value).toArray below meth c H locs 0 0 (MQ below (va_Qi (fun (r : Int32) (g : Nat → va_E) => True ∧ (∃ (m_askStrand' : Int32) (m_askTied' : Int32) (c_roundOf' : Nat → Int32), TYm ad cy fr0 c_text m_taped m_size m_faultKind m_faultPlace m_at m_end m_token m_number m_name c_points c_strands c_units c_told c_ruleFrom c_ruleTo c_code c_eWhat c_eSign m_bank m_rb m_codes m_within m_piled m_unitsInRule m_askStrand' m_askTied' m_thoughtClaim m_thoughtNeed m_thoughtAll c_roundOf' m_acts m_undone m_laid m_firstMove m_seens m_time m_waysNow m_fitting g ∧ (0 ≤ m_askTied'.toInt ∧ m_askTied'.toInt ≤ 4095))) (fun g t => PstT D ad g t) A) ([.ref (ad 148)] : List Value).toArray s 0 0 A) (F0 m 9 ls []) := by
    intro N
    induction N with
    | zero => intro f H locs ls v9_l3 v9_l2 v9_l1 v9_p_m_askStrand v9_p_m_askTied v9_p_c_roundOf hN hv9_l3 hv9_l1 hv9_p_m_askTied hT hP hD hS hl; exact absurd hN (by omega)
    | succ N ih9 =>
      intro f H locs ls v9_l3 v9_l2 v9_l1 v9_p_m_askStrand v9_p_m_askTied v9_p_c_roundOf hN hv9_l3 hv9_l1 hv9_p_m_askTied hT hP hD hS hl
      have j42 : ∀ (f : Nat → va_E) (H : Heap) (locs : List Loc) (ls : Array Slot) (v42_l2 : Int32), (0 ≤ v9_l3.toInt ∧ v9_l3.toInt ≤ 9) → (0 ≤ v9_l1.toInt ∧ v9_l1.toInt ≤ 4095) → (0 ≤ v9_p_m_askTied.toInt ∧ v9_p_m_askTied.toInt ≤ 4095) → (TYm ad cy fr0 c_text m_taped m_size m_faultKind m_faultPlace m_at m_end m_token m_number m_name c_points c_strands c_units c_told c_ruleFrom c_ruleTo c_code c_eWhat c_eSign m_bank m_rb m_codes m_within m_piled m_unitsInRule v9_p_m_askStrand v9_p_m_askTied m_thoughtClaim m_thoughtNeed m_thoughtAll v9_p_c_roundOf m_acts m_undone m_laid m_firstMove m_seens m_time m_waysNow m_fitting f) → (va_P D vwCl (wl ad f) H) → (va_D A (wl ad f)) → (va_S A s.heap H locs) → (lv_has ls 4 [(3, .int v9_l3), (2, .int v42_l2), (1, .int v9_l1), (0, .ref (ad 148))]) → W p l e (rmO 7 158 0 0) s m ([.ref (ad 148)] : List Value).toArray below meth c H locs 0 0 (MQ below (va_Qi (fun (r : Int32) (g : Nat → va_E) => True ∧ (∃ (m_askStrand' : Int32) (m_askTied' : Int32) (c_roundOf' : Nat → Int32), TYm ad cy fr0 c_text m_taped m_size m_faultKind m_faultPlace m_at m_end m_token m_number m_name c_points c_strands c_units c_told c_ruleFrom c_ruleTo c_code c_eWhat c_eSign m_bank m_rb m_codes m_within m_piled m_unitsInRule m_askStrand' m_askTied' m_thoughtClaim m_thoughtNeed m_thoughtAll c_roundOf' m_acts m_undone m_laid m_firstMove m_seens m_time m_waysNow m_fitting g ∧ (0 ≤ m_askTied'.toInt ∧ m_askTied'.toInt ≤ 4095))) (fun g t => PstT D ad g t) A) ([.ref (ad 148)] : List Value).toArray s 0 0 A) (F0 m 42 ls []) := by
        intro f H locs ls v42_l2 hv42_l3 hv42_l1 hv42_p_m_askTied hT hP hD hS hl
        obtain ⟨x1, ex1⟩ : ∃ q : Int32, q = v9_l3 + Int32.ofInt (1) := ⟨_, rfl⟩
        refine lv_iinc (v := x1) (lv' := [(3, .int x1), (2, .int v42_l2), (1, .int v9_l1), (0, .ref (ad 148))]) hx hb dX9_depth_42 hl (k := 0) rfl ex1.symm (by decide) rfl (fun ls hl => ?_)
        have hx1 := r_inc ex1 (by decide) (by omega) (by omega)
        refine lv_goto (tgt := 9) hx hb dX9_depth_45 (by decide) ?_
        exact ih9 f H locs ls x1 v42_l2 v9_l1 v9_p_m_askStrand v9_p_m_askTied v9_p_c_roundOf (by omega) (by omega) (by omega) (by omega) hT hP hD hS (lv_sub hl [0, 1, 2, 3] rfl)
      refine lv_iload_n hx hb dX9_depth_9 rfl (lv_at hl 0 rfl) ?_
      refine lv_aload_n hx hb dX9_depth_10 rfl (lv_at hl 3 rfl) ?_
      obtain ⟨e17, h2, h3, h4, h5, h6, h7, h8, h9, h10, h11, h12, h13, h14, h15, h16⟩ := (show okX9 ad m_taped m_size m_faultKind m_faultPlace m_at m_end m_token m_number m_name m_bank m_rb m_codes m_within m_piled m_unitsInRule v9_p_m_askStrand v9_p_m_askTied m_thoughtClaim m_thoughtNeed m_thoughtAll m_acts m_undone m_laid m_firstMove m_seens m_time m_waysNow m_fitting 148 (f 148) from hT.1 148 (by decide))
      refine tVI (As := []) (rest := [.int v9_l3]) (i := 148) ⟨hx, hb, hml, hown, hts⟩ hK hE hP hD hS hA hAB (s_X9_many_0 l B0 adK adV D cy ad fr0 c_text m_taped m_size m_faultKind m_faultPlace m_at m_end m_token m_number m_name c_points c_strands c_units c_told c_ruleFrom c_ruleTo c_code c_eWhat c_eSign m_bank m_rb m_codes m_within m_piled m_unitsInRule v9_p_m_askStrand v9_p_m_askTied m_thoughtClaim m_thoughtNeed m_thoughtAll v9_p_c_roundOf m_acts m_undone m_laid m_firstMove m_seens m_time m_waysNow m_fitting f hT _) (cwV 0 hts gX9_depth_X9_many rfl rfl rfl (by decide +kernel) ⟨Nat.le_of_ble_eq_true rfl, Nat.le_of_ble_eq_true rfl⟩) (by decide) 9 e17 rfl rfl hl.1 rfl (Nat.le_of_ble_eq_true rfl) dX9_depth_11 ⟨Nat.le_of_ble_eq_true rfl, Nat.le_of_ble_eq_true rfl⟩ (fun r g H locs hw hP hD hS => ?_)
      obtain ⟨hrs, rfl⟩ := hw
      obtain ⟨x18, rfl⟩ : ∃ q, q = r := ⟨_, rfl⟩
      have h19 := hrs
      refine lv_icmp_ge (tgt := 48) hx hb dX9_depth_14 (by decide) (fun c20 => ?_) (fun c20 => ?_)
      · have kc20 := c_le c20
        refine lv_iload_n hx hb dX9_depth_48 rfl (lv_at hl 1 rfl) ?_
        exact tI hx hb hr hlk rfl hP hS ⟨trivial, ⟨v9_p_m_askStrand, v9_p_m_askTied, v9_p_c_roundOf, hT, by omega⟩⟩ dX9_depth_49
      · have kc20 := c_nle c20
        refine lv_iload_n hx hb dX9_depth_17 rfl (lv_at hl 2 rfl) ?_
        refine lv_iload_n hx hb dX9_depth_18 rfl (lv_at hl 0 rfl) ?_
        refine tSI (As := [.int v9_l1, .int v9_l3]) (rest := []) ⟨hx, hb, hml, hown, hts⟩ hK hE hP hD hS hA hAB (s_X9_bit_0 l B0 adK adV D cy ad f v9_l1 v9_l3 (by omega) _) (va_cwS 2 hts gX9_depth_X9_bit rfl rfl rfl (by decide +kernel) ⟨Nat.le_of_ble_eq_true rfl, Nat.le_of_ble_eq_true rfl⟩) rfl hl.1 rfl (Nat.le_of_ble_eq_true rfl) dX9_depth_19 ⟨Nat.le_of_ble_eq_true rfl, Nat.le_of_ble_eq_true rfl⟩ (fun r g H locs hw hP hD hS => ?_)
        obtain ⟨hrs, rfl⟩ := hw
        obtain ⟨x21, rfl⟩ : ∃ q, q = r := ⟨_, rfl⟩
        rcases hrs with ⟨rfl, h22⟩ | ⟨rfl, h23⟩
        · refine lv_if_eq (tgt := 42) hx hb dX9_depth_22 (by decide) (fun c => absurd c (by decide)) (fun _ => ?_)
          refine lv_aload_n hx hb dX9_depth_25 rfl (lv_at hl 3 rfl) ?_
          refine va_get (D := D) (cl := vwCl) (ci := 9) (v := .ref (ad 172)) (C := RX9) (T := TX9) (N := 64) hx hb hts in_X9_depth_X9 hown hK hP 148 (wl_at (by decide) e17) rfl 43 (by decide) (hts (.fieldLink RX9 91 "EightReasonsModel" "roundOf" "[I") (List.mem_of_getElem? (i := 1) rfl)) (fun _ h9 => h9) rfl dX9_depth_26 ?_
          refine lv_iload_n hx hb dX9_depth_29 rfl (lv_at hl 0 rfl) ?_
          have e24 : f 172 = _ := (show okIp cy 10 v9_p_c_roundOf (f 172) from hT.1 172 (by decide))
          refine va_iald hx hb hK hP 172 0 (wl_at (by decide) e24) rfl (vp_in_iff.mpr ⟨by omega, by omega⟩) dX9_depth_30 ?_
          refine lv_topi (fun x25 ex25 => ?_)
          have kx25 := congrArg Int32.toInt ex25
          refine lv_iload_n hx hb dX9_depth_31 rfl (lv_at hl 1 rfl) ?_
          refine lv_icmp_le (tgt := 42) hx hb dX9_depth_32 (by decide) (fun c26 => ?_) (fun c26 => ?_)
          · have kc26 := c_le c26
            exact j42 f H locs ls v9_l2 (by omega) (by omega) (by omega) hT hP hD hS (lv_sub hl [0, 1, 2, 3] rfl)
          · have kc26 := c_nle c26
            refine lv_aload_n hx hb dX9_depth_35 rfl (lv_at hl 3 rfl) ?_
            refine va_get (D := D) (cl := vwCl) (ci := 9) (v := .ref (ad 172)) (C := RX9) (T := TX9) (N := 64) hx hb hts in_X9_depth_X9 hown hK hP 148 (wl_at (by decide) e17) rfl 43 (by decide) (hts (.fieldLink RX9 91 "EightReasonsModel" "roundOf" "[I") (List.mem_of_getElem? (i := 1) rfl)) (fun _ h9 => h9) rfl dX9_depth_36 ?_
            refine lv_iload_n hx hb dX9_depth_39 rfl (lv_at hl 0 rfl) ?_
            refine va_iald hx hb hK hP 172 0 (wl_at (by decide) e24) rfl (vp_in_iff.mpr ⟨by omega, by omega⟩) dX9_depth_40 ?_
            refine lv_topi (fun x27 ex27 => ?_)
            have kx27 := congrArg Int32.toInt ex27
            refine lv_istore_n (lv' := [(2, .int x27), (3, .int v9_l3), (1, .int v9_l1), (0, .ref (ad 148))]) hx hb dX9_depth_41 rfl hl (by decide) rfl (fun ls hl => ?_)
            exact j42 f H locs ls x27 (by omega) (by omega) (by omega) hT hP hD hS (lv_sub hl [1, 0, 2, 3] rfl)
        · refine lv_if_eq (tgt := 42) hx hb dX9_depth_22 (by decide) (fun _ => ?_) (fun c => absurd (by decide) c)
          exact j42 f H locs ls v9_l2 (by omega) (by omega) (by omega) hT hP hD hS (lv_sub hl [0, 1, 2, 3] rfl)
  refine lv_aload_n hx hb dX9_depth_0 rfl (lv_at hl 0 rfl) ?_
  obtain ⟨e43, h28, h29, h30, h31, h32, h33, h34, h35, h36, h37, h38, h39, h40, h41, h42⟩ := (show okX9 ad m_taped m_size m_faultKind m_faultPlace m_at m_end m_token m_number m_name m_bank m_rb m_codes m_within m_piled m_unitsInRule m_askStrand m_askTied m_thoughtClaim m_thoughtNeed m_thoughtAll m_acts m_undone m_laid m_firstMove m_seens m_time m_waysNow m_fitting 148 (f 148) from hT.1 148 (by decide))
  refine tVI (As := []) (rest := []) (i := 148) ⟨hx, hb, hml, hown, hts⟩ hK hE hP hD hS hA hAB (s_X9_standNow_0 l B0 adK adV D cy ad fr0 c_text m_taped m_size m_faultKind m_faultPlace m_at m_end m_token m_number m_name c_points c_strands c_units c_told c_ruleFrom c_ruleTo c_code c_eWhat c_eSign m_bank m_rb m_codes m_within m_piled m_unitsInRule m_askStrand m_askTied m_thoughtClaim m_thoughtNeed m_thoughtAll c_roundOf m_acts m_undone m_laid m_firstMove m_seens m_time m_waysNow m_fitting f hT hCV _) (cwV 0 hts gX9_depth_X9_standNow rfl rfl rfl (by decide +kernel) ⟨Nat.le_of_ble_eq_true rfl, Nat.le_of_ble_eq_true rfl⟩) (by decide) 9 e43 rfl rfl hl.1 rfl (Nat.le_of_ble_eq_true rfl) dX9_depth_1 ⟨Nat.le_of_ble_eq_true rfl, Nat.le_of_ble_eq_true rfl⟩ (fun r f H locs hw hP hD hS => ?_)
  obtain ⟨hrs, x44, x45, y46, hT, h47⟩ := hw
  obtain ⟨x48, rfl⟩ : ∃ q, q = r := ⟨_, rfl⟩
  have h49 := hrs
  refine lv_istore_n (lv' := [(1, .int x48), (0, .ref (ad 148))]) hx hb dX9_depth_4 rfl hl (by decide) rfl (fun ls hl => ?_)
  refine lv_iconst (v := (-1)) hx hb dX9_depth_5 (by decide) ?_
  refine lv_istore_n (lv' := [(2, .int (-1)), (1, .int x48), (0, .ref (ad 148))]) hx hb dX9_depth_6 rfl hl (by decide) rfl (fun ls hl => ?_)
  refine lv_iconst (v := 0) hx hb dX9_depth_7 (by decide) ?_
  refine lv_istore_n (lv' := [(3, .int 0), (2, .int (-1)), (1, .int x48), (0, .ref (ad 148))]) hx hb dX9_depth_8 rfl hl (by decide) rfl (fun ls hl => ?_)
  have ttl_0 := tl_0
  have ttl_m1 := tl_m1
  exact j9 (Int.toNat (11 - (0 : Int32).toInt)) f H locs ls (0 : Int32) ((-1) : Int32) x48 x44 x45 y46 (by omega) (by omega) (by omega) (by omega) hT hP hD hS (lv_sub hl [0, 1, 2, 3] rfl)
set_option maxHeartbeats 4000000 in
set_option maxRecDepth 100000 in
theorem s_X9_weakest_0 (l : Launch) (B0 : Nat) (adK adV : Nat → Nat) (D : va_G) (cy : Nat → ClassId) (ad : Nat → Nat) (fr0 : Nat → va_E) (c_text : Nat → Int32) (m_taped : Int32) (m_size : Int32) (m_faultKind : Int32) (m_faultPlace : Int32) (m_at : Int32) (m_end : Int32) (m_token : Int32) (m_number : Int32) (m_name : Int64) (c_points : Nat → Int32) (c_strands : Nat → Int32) (c_units : Nat → Int32) (c_told : Nat → Int32) (c_ruleFrom : Nat → Int32) (c_ruleTo : Nat → Int32) (c_code : Nat → Int32) (c_eWhat : Nat → Int32) (c_eSign : Nat → Int32) (m_bank : Int32) (m_rb : Int32) (m_codes : Int32) (m_within : Int32) (m_piled : Int32) (m_unitsInRule : Int32) (m_askStrand : Int32) (m_askTied : Int32) (m_thoughtClaim : Int32) (m_thoughtNeed : Int32) (m_thoughtAll : Int32) (c_roundOf : Nat → Int32) (m_acts : Int32) (m_undone : Int32) (m_laid : Int32) (m_firstMove : Int32) (m_seens : Int32) (m_time : Int32) (m_waysNow : Int32) (m_fitting : Int32) (f : Nat → va_E) (hT : TYm ad cy fr0 c_text m_taped m_size m_faultKind m_faultPlace m_at m_end m_token m_number m_name c_points c_strands c_units c_told c_ruleFrom c_ruleTo c_code c_eWhat c_eSign m_bank m_rb m_codes m_within m_piled m_unitsInRule m_askStrand m_askTied m_thoughtClaim m_thoughtNeed m_thoughtAll c_roundOf m_acts m_undone m_laid m_firstMove m_seens m_time m_waysNow m_fitting f) (hCV : CVp c_told c_ruleFrom c_ruleTo c_code m_bank) (sz : Nat) : TtI l yX9_weakest wsX9_weakest 5 112 [.ref (ad 148)] B0 adK adV D cy ad f sz (fun (r : Int32) (g : Nat → va_E) => (-1 ≤ r.toInt ∧ r.toInt ≤ 11) ∧ (∃ (m_askStrand' : Int32) (m_askTied' : Int32), TYm ad cy fr0 c_text m_taped m_size m_faultKind m_faultPlace m_at m_end m_token m_number m_name c_points c_strands c_units c_told c_ruleFrom c_ruleTo c_code c_eWhat c_eSign m_bank m_rb m_codes m_within m_piled m_unitsInRule m_askStrand' m_askTied' m_thoughtClaim m_thoughtNeed m_thoughtAll c_roundOf m_acts m_undone m_laid m_firstMove m_seens m_time m_waysNow m_fitting g ∧ (0 ≤ m_askTied'.toInt ∧ m_askTied'.toInt ≤ 4095))) := by
  refine TtI.of (cc := cX9_weakest) (maxL := 3) (ty := .int) (own := RX9) (by decide) rfl (Nat.le_of_ble_eq_true rfl) rfl ?_
  intro p e s m below meth c A ls hx hb hr hml hts hown hlk hK hE hP hD hS hA hAB hl
  have hl : lv_has ls 3 [(0, .ref (ad 148))] := hl
  refine st0 (fun H locs hP hS => ?_) hP hS
  have j14 : ∀ (N : Nat) (f : Nat → va_E) (H : Heap) (locs : List Loc) (ls : Array Slot) (v14_l2 : Int32) (v14_l1 : Int32) (v14_p_m_askStrand : Int32) (v14_p_m_askTied : Int32), (13 - v14_l2.toInt ≤ (N : Int)) → (0 ≤ v14_l2.toInt ∧ v14_l2.toInt ≤ 12) → (-1 ≤ v14_l1.toInt ∧ v14_l1.toInt ≤ 11) → (0 ≤ v14_p_m_askTied.toInt ∧ v14_p_m_askTied.toInt ≤ 4095) → (TYm ad cy fr0 c_text m_taped m_size m_faultKind m_faultPlace m_at m_end m_token m_number m_name c_points c_strands c_units c_told c_ruleFrom c_ruleTo c_code c_eWhat c_eSign m_bank m_rb m_codes m_within m_piled m_unitsInRule v14_p_m_askStrand v14_p_m_askTied m_thoughtClaim m_thoughtNeed m_thoughtAll c_roundOf m_acts m_undone m_laid m_firstMove m_seens m_time m_waysNow m_fitting f) → (va_P D vwCl (wl ad f) H) → (va_D A (wl ad f)) → (va_S A s.heap H locs) → (lv_has ls 3 [(2, .int v14_l2), (1, .int v14_l1), (0, .ref (ad 148))]) → W p l e (rmO 5 112 0 0) s m ([.ref (ad 148)] : List Value).toArray below meth c H locs 0 0 (MQ below (va_Qi (fun (r : Int32) (g : Nat → va_E) => (-1 ≤ r.toInt ∧ r.toInt ≤ 11) ∧ (∃ (m_askStrand' : Int32) (m_askTied' : Int32), TYm ad cy fr0 c_text m_taped m_size m_faultKind m_faultPlace m_at m_end m_token m_number m_name c_points c_strands c_units c_told c_ruleFrom c_ruleTo c_code c_eWhat c_eSign m_bank m_rb m_codes m_within m_piled m_unitsInRule m_askStrand' m_askTied' m_thoughtClaim m_thoughtNeed m_thoughtAll c_roundOf m_acts m_undone m_laid m_firstMove m_seens m_time m_waysNow m_fitting g ∧ (0 ≤ m_askTied'.toInt ∧ m_askTied'.toInt ≤ 4095))) (fun g t => PstT D ad g t) A) ([.ref (ad 148)] : List Value).toArray s 0 0 A) (F0 m 14 ls []) := by
    intro N
    induction N with
    | zero => intro f H locs ls v14_l2 v14_l1 v14_p_m_askStrand v14_p_m_askTied hN hv14_l2 hv14_l1 hv14_p_m_askTied hT hP hD hS hl; exact absurd hN (by omega)
    | succ N ih14 =>
      intro f H locs ls v14_l2 v14_l1 v14_p_m_askStrand v14_p_m_askTied hN hv14_l2 hv14_l1 hv14_p_m_askTied hT hP hD hS hl
      have j56 : ∀ (f : Nat → va_E) (H : Heap) (locs : List Loc) (ls : Array Slot) (v56_l1 : Int32), (0 ≤ v14_l2.toInt ∧ v14_l2.toInt ≤ 11) → (-1 ≤ v56_l1.toInt ∧ v56_l1.toInt ≤ 11) → (0 ≤ v14_p_m_askTied.toInt ∧ v14_p_m_askTied.toInt ≤ 4095) → (TYm ad cy fr0 c_text m_taped m_size m_faultKind m_faultPlace m_at m_end m_token m_number m_name c_points c_strands c_units c_told c_ruleFrom c_ruleTo c_code c_eWhat c_eSign m_bank m_rb m_codes m_within m_piled m_unitsInRule v14_p_m_askStrand v14_p_m_askTied m_thoughtClaim m_thoughtNeed m_thoughtAll c_roundOf m_acts m_undone m_laid m_firstMove m_seens m_time m_waysNow m_fitting f) → (va_P D vwCl (wl ad f) H) → (va_D A (wl ad f)) → (va_S A s.heap H locs) → (lv_has ls 3 [(2, .int v14_l2), (1, .int v56_l1), (0, .ref (ad 148))]) → W p l e (rmO 5 112 0 0) s m ([.ref (ad 148)] : List Value).toArray below meth c H locs 0 0 (MQ below (va_Qi (fun (r : Int32) (g : Nat → va_E) => (-1 ≤ r.toInt ∧ r.toInt ≤ 11) ∧ (∃ (m_askStrand' : Int32) (m_askTied' : Int32), TYm ad cy fr0 c_text m_taped m_size m_faultKind m_faultPlace m_at m_end m_token m_number m_name c_points c_strands c_units c_told c_ruleFrom c_ruleTo c_code c_eWhat c_eSign m_bank m_rb m_codes m_within m_piled m_unitsInRule m_askStrand' m_askTied' m_thoughtClaim m_thoughtNeed m_thoughtAll c_roundOf m_acts m_undone m_laid m_firstMove m_seens m_time m_waysNow m_fitting g ∧ (0 ≤ m_askTied'.toInt ∧ m_askTied'.toInt ≤ 4095))) (fun g t => PstT D ad g t) A) ([.ref (ad 148)] : List Value).toArray s 0 0 A) (F0 m 56 ls []) := by
        intro f H locs ls v56_l1 hv56_l2 hv56_l1 hv56_p_m_askTied hT hP hD hS hl
        obtain ⟨x1, ex1⟩ : ∃ q : Int32, q = v14_l2 + Int32.ofInt (1) := ⟨_, rfl⟩
        refine lv_iinc (v := x1) (lv' := [(2, .int x1), (1, .int v56_l1), (0, .ref (ad 148))]) hx hb dX9_weakest_56 hl (k := 0) rfl ex1.symm (by decide) rfl (fun ls hl => ?_)
        have hx1 := r_inc ex1 (by decide) (by omega) (by omega)
        refine lv_goto (tgt := 14) hx hb dX9_weakest_59 (by decide) ?_
        exact ih14 f H locs ls x1 v56_l1 v14_p_m_askStrand v14_p_m_askTied (by omega) (by omega) (by omega) (by omega) hT hP hD hS (lv_sub hl [0, 1, 2] rfl)
      have j54 : ∀ (f : Nat → va_E) (H : Heap) (locs : List Loc) (ls : Array Slot), (0 ≤ v14_l2.toInt ∧ v14_l2.toInt ≤ 11) → (-1 ≤ v14_l1.toInt ∧ v14_l1.toInt ≤ 11) → (0 ≤ v14_p_m_askTied.toInt ∧ v14_p_m_askTied.toInt ≤ 4095) → (TYm ad cy fr0 c_text m_taped m_size m_faultKind m_faultPlace m_at m_end m_token m_number m_name c_points c_strands c_units c_told c_ruleFrom c_ruleTo c_code c_eWhat c_eSign m_bank m_rb m_codes m_within m_piled m_unitsInRule v14_p_m_askStrand v14_p_m_askTied m_thoughtClaim m_thoughtNeed m_thoughtAll c_roundOf m_acts m_undone m_laid m_firstMove m_seens m_time m_waysNow m_fitting f) → (va_P D vwCl (wl ad f) H) → (va_D A (wl ad f)) → (va_S A s.heap H locs) → (lv_has ls 3 [(2, .int v14_l2), (1, .int v14_l1), (0, .ref (ad 148))]) → W p l e (rmO 5 112 0 0) s m ([.ref (ad 148)] : List Value).toArray below meth c H locs 0 0 (MQ below (va_Qi (fun (r : Int32) (g : Nat → va_E) => (-1 ≤ r.toInt ∧ r.toInt ≤ 11) ∧ (∃ (m_askStrand' : Int32) (m_askTied' : Int32), TYm ad cy fr0 c_text m_taped m_size m_faultKind m_faultPlace m_at m_end m_token m_number m_name c_points c_strands c_units c_told c_ruleFrom c_ruleTo c_code c_eWhat c_eSign m_bank m_rb m_codes m_within m_piled m_unitsInRule m_askStrand' m_askTied' m_thoughtClaim m_thoughtNeed m_thoughtAll c_roundOf m_acts m_undone m_laid m_firstMove m_seens m_time m_waysNow m_fitting g ∧ (0 ≤ m_askTied'.toInt ∧ m_askTied'.toInt ≤ 4095))) (fun g t => PstT D ad g t) A) ([.ref (ad 148)] : List Value).toArray s 0 0 A) (F0 m 54 ls []) := by
        intro f H locs ls hv54_l2 hv54_l1 hv54_p_m_askTied hT hP hD hS hl
        refine lv_iload_n hx hb dX9_weakest_54 rfl (lv_at hl 0 rfl) ?_
        refine lv_istore_n (lv' := [(1, .int v14_l2), (2, .int v14_l2), (0, .ref (ad 148))]) hx hb dX9_weakest_55 rfl hl (by decide) rfl (fun ls hl => ?_)
        exact j56 f H locs ls v14_l2 (by omega) (by omega) (by omega) hT hP hD hS (lv_sub hl [1, 0, 2] rfl)
      refine lv_iload_n hx hb dX9_weakest_14 rfl (lv_at hl 0 rfl) ?_
      refine lv_aload_n hx hb dX9_weakest_15 rfl (lv_at hl 2 rfl) ?_
      obtain ⟨e17, h2, h3, h4, h5, h6, h7, h8, h9, h10, h11, h12, h13, h14, h15, h16⟩ := (show okX9 ad m_taped m_size m_faultKind m_faultPlace m_at m_end m_token m_number m_name m_bank m_rb m_codes m_within m_piled m_unitsInRule v14_p_m_askStrand v14_p_m_askTied m_thoughtClaim m_thoughtNeed m_thoughtAll m_acts m_undone m_laid m_firstMove m_seens m_time m_waysNow m_fitting 148 (f 148) from hT.1 148 (by decide))
      refine tVI (As := []) (rest := [.int v14_l2]) (i := 148) ⟨hx, hb, hml, hown, hts⟩ hK hE hP hD hS hA hAB (s_X9_threads_0 l B0 adK adV D cy ad fr0 c_text m_taped m_size m_faultKind m_faultPlace m_at m_end m_token m_number m_name c_points c_strands c_units c_told c_ruleFrom c_ruleTo c_code c_eWhat c_eSign m_bank m_rb m_codes m_within m_piled m_unitsInRule v14_p_m_askStrand v14_p_m_askTied m_thoughtClaim m_thoughtNeed m_thoughtAll c_roundOf m_acts m_undone m_laid m_firstMove m_seens m_time m_waysNow m_fitting f hT _) (cwV 0 hts gX9_weakest_X9_threads rfl rfl rfl (by decide +kernel) ⟨Nat.le_of_ble_eq_true rfl, Nat.le_of_ble_eq_true rfl⟩) (by decide) 9 e17 rfl rfl hl.1 rfl (Nat.le_of_ble_eq_true rfl) dX9_weakest_16 ⟨Nat.le_of_ble_eq_true rfl, Nat.le_of_ble_eq_true rfl⟩ (fun r g H locs hw hP hD hS => ?_)
      obtain ⟨hrs, rfl⟩ := hw
      obtain ⟨x18, rfl⟩ : ∃ q, q = r := ⟨_, rfl⟩
      have h19 := hrs
      refine lv_icmp_ge (tgt := 62) hx hb dX9_weakest_19 (by decide) (fun c20 => ?_) (fun c20 => ?_)
      · have kc20 := c_le c20
        refine lv_iload_n hx hb dX9_weakest_62 rfl (lv_at hl 1 rfl) ?_
        exact tI hx hb hr hlk rfl hP hS ⟨(by omega), ⟨v14_p_m_askStrand, v14_p_m_askTied, hT, by omega⟩⟩ dX9_weakest_63
      · have kc20 := c_nle c20
        refine lv_aload_n hx hb dX9_weakest_22 rfl (lv_at hl 2 rfl) ?_
        refine va_get (D := D) (cl := vwCl) (ci := 9) (v := .ref (ad 169)) (C := RX9) (T := TX9) (N := 64) hx hb hts in_X9_weakest_X9 hown hK hP 148 (wl_at (by decide) e17) rfl 37 (by decide) (hts (.fieldLink RX9 76 "EightReasonsModel" "all" "[I") (List.mem_of_getElem? (i := 1) rfl)) (fun _ h9 => h9) rfl dX9_weakest_23 ?_
        refine lv_iconst (v := 1) hx hb dX9_weakest_26 (by decide) ?_
        obtain ⟨g23, e21, h22⟩ := (show okIr cy 16 (0) (4095) 16 1 (f 169) from hT.1 169 (by decide))
        have ttl_1 := tl_1
        refine va_iald hx hb hK hP 169 0 (wl_at (by decide) e21) rfl (vin (by decide)) dX9_weakest_27 ?_
        refine lv_topi (fun x24 ex24 => ?_)
        have hx24 := r_el (h22 _ (by decide)) ex24
        refine lv_iload_n hx hb dX9_weakest_28 rfl (lv_at hl 0 rfl) ?_
        refine tSI (As := [.int x24, .int v14_l2]) (rest := []) ⟨hx, hb, hml, hown, hts⟩ hK hE hP hD hS hA hAB (s_X9_bit_0 l B0 adK adV D cy ad f x24 v14_l2 (by omega) _) (va_cwS 2 hts gX9_weakest_X9_bit rfl rfl rfl (by decide +kernel) ⟨Nat.le_of_ble_eq_true rfl, Nat.le_of_ble_eq_true rfl⟩) rfl hl.1 rfl (Nat.le_of_ble_eq_true rfl) dX9_weakest_29 ⟨Nat.le_of_ble_eq_true rfl, Nat.le_of_ble_eq_true rfl⟩ (fun r g H locs hw hP hD hS => ?_)
        obtain ⟨hrs, rfl⟩ := hw
        obtain ⟨x25, rfl⟩ : ∃ q, q = r := ⟨_, rfl⟩
        rcases hrs with ⟨rfl, h26⟩ | ⟨rfl, h27⟩
        · refine lv_if_eq (tgt := 56) hx hb dX9_weakest_32 (by decide) (fun c => absurd c (by decide)) (fun _ => ?_)
          refine lv_iload_n hx hb dX9_weakest_35 rfl (lv_at hl 1 rfl) ?_
          have ttl_0 := tl_0
          refine lv_if_lt (tgt := 54) hx hb dX9_weakest_36 (by decide) (fun c28 => ?_) (fun c28 => ?_)
          · have kc28 := c_lt c28
            exact j54 f H locs ls (by omega) (by omega) (by omega) hT hP hD hS (lv_sub hl [0, 1, 2] rfl)
          · have kc28 := c_nlt c28
            refine lv_aload_n hx hb dX9_weakest_39 rfl (lv_at hl 2 rfl) ?_
            refine va_get (D := D) (cl := vwCl) (ci := 9) (v := .ref (ad 171)) (C := RX9) (T := TX9) (N := 64) hx hb hts in_X9_weakest_X9 hown hK hP 148 (wl_at (by decide) e17) rfl 42 (by decide) (hts (.fieldLink RX9 88 "EightReasonsModel" "weightOf" "[I") (List.mem_of_getElem? (i := 2) rfl)) (fun _ h9 => h9) rfl dX9_weakest_40 ?_
            refine lv_iload_n hx hb dX9_weakest_43 rfl (lv_at hl 0 rfl) ?_
            obtain ⟨g30, e29⟩ := (show okI cy 12 (f 171) from hT.1 171 (by decide))
            refine va_iald hx hb hK hP 171 0 (wl_at (by decide) e29) rfl (vp_in_iff.mpr ⟨by omega, by omega⟩) dX9_weakest_44 ?_
            refine lv_topi (fun x31 ex31 => ?_)
            refine lv_aload_n hx hb dX9_weakest_45 rfl (lv_at hl 2 rfl) ?_
            refine va_get (D := D) (cl := vwCl) (ci := 9) (v := .ref (ad 171)) (C := RX9) (T := TX9) (N := 64) hx hb hts in_X9_weakest_X9 hown hK hP 148 (wl_at (by decide) e17) rfl 42 (by decide) (hts (.fieldLink RX9 88 "EightReasonsModel" "weightOf" "[I") (List.mem_of_getElem? (i := 2) rfl)) (fun _ h9 => h9) rfl dX9_weakest_46 ?_
            refine lv_iload_n hx hb dX9_weakest_49 rfl (lv_at hl 1 rfl) ?_
            refine va_iald hx hb hK hP 171 0 (wl_at (by decide) e29) rfl (vp_in_iff.mpr ⟨by omega, by omega⟩) dX9_weakest_50 ?_
            refine lv_topi (fun x32 ex32 => ?_)
            refine lv_icmp_ge (tgt := 56) hx hb dX9_weakest_51 (by decide) (fun c33 => ?_) (fun c33 => ?_)
            · have kc33 := c_le c33
              exact j56 f H locs ls v14_l1 (by omega) (by omega) (by omega) hT hP hD hS (lv_sub hl [0, 1, 2] rfl)
            · have kc33 := c_nle c33
              exact j54 f H locs ls (by omega) (by omega) (by omega) hT hP hD hS (lv_sub hl [0, 1, 2] rfl)
        · refine lv_if_eq (tgt := 56) hx hb dX9_weakest_32 (by decide) (fun _ => ?_) (fun c => absurd (by decide) c)
          exact j56 f H locs ls v14_l1 (by omega) (by omega) (by omega) hT hP hD hS (lv_sub hl [0, 1, 2] rfl)
  refine lv_aload_n hx hb dX9_weakest_0 rfl (lv_at hl 0 rfl) ?_
  refine lv_aload_n hx hb dX9_weakest_1 rfl (lv_at hl 0 rfl) ?_
  obtain ⟨e49, h34, h35, h36, h37, h38, h39, h40, h41, h42, h43, h44, h45, h46, h47, h48⟩ := (show okX9 ad m_taped m_size m_faultKind m_faultPlace m_at m_end m_token m_number m_name m_bank m_rb m_codes m_within m_piled m_unitsInRule m_askStrand m_askTied m_thoughtClaim m_thoughtNeed m_thoughtAll m_acts m_undone m_laid m_firstMove m_seens m_time m_waysNow m_fitting 148 (f 148) from hT.1 148 (by decide))
  refine va_get (D := D) (cl := vwCl) (ci := 9) (v := .ref (ad 169)) (C := RX9) (T := TX9) (N := 64) hx hb hts in_X9_weakest_X9 hown hK hP 148 (wl_at (by decide) e49) rfl 37 (by decide) (hts (.fieldLink RX9 76 "EightReasonsModel" "all" "[I") (List.mem_of_getElem? (i := 1) rfl)) (fun _ h9 => h9) rfl dX9_weakest_2 ?_
  refine lv_iconst (v := 1) hx hb dX9_weakest_5 (by decide) ?_
  obtain ⟨g52, e50, h51⟩ := (show okIr cy 16 (0) (4095) 16 1 (f 169) from hT.1 169 (by decide))
  have ttl_1 := tl_1
  refine va_iald hx hb hK hP 169 0 (wl_at (by decide) e50) rfl (vin (by decide)) dX9_weakest_6 ?_
  refine lv_topi (fun x53 ex53 => ?_)
  have hx53 := r_el (h51 _ (by decide)) ex53
  refine tVV (As := [.int x53]) (rest := []) (i := 148) ⟨hx, hb, hml, hown, hts⟩ hK hE hP hD hS hA hAB (s_X9_layWeights_0 l B0 adK adV D cy ad fr0 c_text m_taped m_size m_faultKind m_faultPlace m_at m_end m_token m_number m_name c_points c_strands c_units c_told c_ruleFrom c_ruleTo c_code c_eWhat c_eSign m_bank m_rb m_codes m_within m_piled m_unitsInRule m_askStrand m_askTied m_thoughtClaim m_thoughtNeed m_thoughtAll c_roundOf m_acts m_undone m_laid m_firstMove m_seens m_time m_waysNow m_fitting f hT x53 (by omega) hCV _) (cwV 1 hts gX9_weakest_X9_layWeights rfl rfl rfl (by decide +kernel) ⟨Nat.le_of_ble_eq_true rfl, Nat.le_of_ble_eq_true rfl⟩) (by decide) 9 e49 rfl rfl hl.1 rfl (Nat.le_of_ble_eq_true rfl) dX9_weakest_7 ⟨Nat.le_of_ble_eq_true rfl, Nat.le_of_ble_eq_true rfl⟩ (fun f H locs hw hP hD hS => ?_)
  obtain ⟨hrs, x54, x55, hT, h56⟩ := hw
  refine lv_iconst (v := (-1)) hx hb dX9_weakest_10 (by decide) ?_
  refine lv_istore_n (lv' := [(1, .int (-1)), (0, .ref (ad 148))]) hx hb dX9_weakest_11 rfl hl (by decide) rfl (fun ls hl => ?_)
  refine lv_iconst (v := 0) hx hb dX9_weakest_12 (by decide) ?_
  refine lv_istore_n (lv' := [(2, .int 0), (1, .int (-1)), (0, .ref (ad 148))]) hx hb dX9_weakest_13 rfl hl (by decide) rfl (fun ls hl => ?_)
  have ttl_0 := tl_0
  have ttl_m1 := tl_m1
  exact j14 (Int.toNat (13 - (0 : Int32).toInt)) f H locs ls (0 : Int32) ((-1) : Int32) x54 x55 (by omega) (by omega) (by omega) (by omega) hT hP hD hS (lv_sub hl [0, 1, 2] rfl)
set_option maxHeartbeats 4000000 in
set_option maxRecDepth 100000 in
theorem s_X9_lies_0 (l : Launch) (B0 : Nat) (adK adV : Nat → Nat) (D : va_G) (cy : Nat → ClassId) (ad : Nat → Nat) (fr0 : Nat → va_E) (c_text : Nat → Int32) (m_taped : Int32) (m_size : Int32) (m_faultKind : Int32) (m_faultPlace : Int32) (m_at : Int32) (m_end : Int32) (m_token : Int32) (m_number : Int32) (m_name : Int64) (c_points : Nat → Int32) (c_strands : Nat → Int32) (c_units : Nat → Int32) (c_told : Nat → Int32) (c_ruleFrom : Nat → Int32) (c_ruleTo : Nat → Int32) (c_code : Nat → Int32) (c_eWhat : Nat → Int32) (c_eSign : Nat → Int32) (m_bank : Int32) (m_rb : Int32) (m_codes : Int32) (m_within : Int32) (m_piled : Int32) (m_unitsInRule : Int32) (m_askStrand : Int32) (m_askTied : Int32) (m_thoughtClaim : Int32) (m_thoughtNeed : Int32) (m_thoughtAll : Int32) (c_roundOf : Nat → Int32) (m_acts : Int32) (m_undone : Int32) (m_laid : Int32) (m_firstMove : Int32) (m_seens : Int32) (m_time : Int32) (m_waysNow : Int32) (m_fitting : Int32) (f : Nat → va_E) (hT : TYm ad cy fr0 c_text m_taped m_size m_faultKind m_faultPlace m_at m_end m_token m_number m_name c_points c_strands c_units c_told c_ruleFrom c_ruleTo c_code c_eWhat c_eSign m_bank m_rb m_codes m_within m_piled m_unitsInRule m_askStrand m_askTied m_thoughtClaim m_thoughtNeed m_thoughtAll c_roundOf m_acts m_undone m_laid m_firstMove m_seens m_time m_waysNow m_fitting f) (p1 : Int32) (sz : Nat) : TtI l yX9_lies wsX9_lies 1 22 [.ref (ad 148), .int p1] B0 adK adV D cy ad f sz (fun (r : Int32) (g : Nat → va_E) => True ∧ (f = g)) := by
  refine TtI.of (cc := cX9_lies) (maxL := 2) (ty := .int) (own := RX9) (by decide) rfl (Nat.le_of_ble_eq_true rfl) rfl ?_
  intro p e s m below meth c A ls hx hb hr hml hts hown hlk hK hE hP hD hS hA hAB hl
  have hl : lv_has ls 2 [(0, .ref (ad 148)), (1, .int p1)] := hl
  refine st0 (fun H locs hP hS => ?_) hP hS
  refine lv_iload_n hx hb dX9_lies_0 rfl (lv_at hl 1 rfl) ?_
  refine lv_iconst (v := 0) hx hb dX9_lies_1 (by decide) ?_
  refine lv_aload_n hx hb dX9_lies_2 rfl (lv_at hl 0 rfl) ?_
  obtain ⟨e16, h1, h2, h3, h4, h5, h6, h7, h8, h9, h10, h11, h12, h13, h14, h15⟩ := (show okX9 ad m_taped m_size m_faultKind m_faultPlace m_at m_end m_token m_number m_name m_bank m_rb m_codes m_within m_piled m_unitsInRule m_askStrand m_askTied m_thoughtClaim m_thoughtNeed m_thoughtAll m_acts m_undone m_laid m_firstMove m_seens m_time m_waysNow m_fitting 148 (f 148) from hT.1 148 (by decide))
  refine va_get (D := D) (cl := vwCl) (ci := 9) (v := .int m_laid) (C := RX9) (T := TX9) (N := 64) hx hb hts in_X9_lies_X9 hown hK hP 148 (wl_at (by decide) e16) rfl 48 (by decide) (hts (.fieldLink RX9 377 "EightReasonsModel" "laid" "I") (List.mem_of_getElem? (i := 1) rfl)) (fun _ h9 => h9) rfl dX9_lies_3 ?_
  refine lv_iconst (v := 1) hx hb dX9_lies_6 (by decide) ?_
  have ttl_1 := tl_1
  refine lv_isub hx hb dX9_lies_7 ?_
  refine lv_topi (fun x17 ex17 => ?_)
  have hx17 := r_sub ex17 (by omega) (by omega)
  have ttl_0 := tl_0
  refine tSI (As := [.int p1, .int 0, .int x17]) (rest := []) ⟨hx, hb, hml, hown, hts⟩ hK hE hP hD hS hA hAB (s_X9_isIn_0 l B0 adK adV D cy ad f p1 (0 : Int32) (by omega) x17 (by omega) _) (va_cwS 3 hts gX9_lies_X9_isIn rfl rfl rfl (by decide +kernel) ⟨Nat.le_of_ble_eq_true rfl, Nat.le_of_ble_eq_true rfl⟩) rfl hl.1 rfl (Nat.le_of_ble_eq_true rfl) dX9_lies_8 ⟨Nat.le_of_ble_eq_true rfl, Nat.le_of_ble_eq_true rfl⟩ (fun r g H locs hw hP hD hS => ?_)
  obtain ⟨hrs, rfl⟩ := hw
  obtain ⟨x18, rfl⟩ : ∃ q, q = r := ⟨_, rfl⟩
  rcases hrs with ⟨rfl, h19, h20⟩ | rfl
  · refine lv_if_eq (tgt := 23) hx hb dX9_lies_11 (by decide) (fun c => absurd c (by decide)) (fun _ => ?_)
    refine lv_aload_n hx hb dX9_lies_14 rfl (lv_at hl 0 rfl) ?_
    refine va_get (D := D) (cl := vwCl) (ci := 9) (v := .ref (ad 174)) (C := RX9) (T := TX9) (N := 64) hx hb hts in_X9_lies_X9 hown hK hP 148 (wl_at (by decide) e16) rfl 47 (by decide) (hts (.fieldLink RX9 97 "EightReasonsModel" "laidRow" "[I") (List.mem_of_getElem? (i := 2) rfl)) (fun _ h9 => h9) rfl dX9_lies_15 ?_
    refine lv_iload_n hx hb dX9_lies_18 rfl (lv_at hl 1 rfl) ?_
    obtain ⟨g22, e21⟩ := (show okI cy 10 (f 174) from hT.1 174 (by decide))
    refine va_iald hx hb hK hP 174 0 (wl_at (by decide) e21) rfl (vp_in_iff.mpr ⟨by omega, by omega⟩) dX9_lies_19 ?_
    refine lv_topi (fun x23 ex23 => ?_)
    refine lv_goto (tgt := 24) hx hb dX9_lies_20 (by decide) ?_
    exact tI hx hb hr hlk rfl hP hS ⟨trivial, rfl⟩ dX9_lies_24
  · refine lv_if_eq (tgt := 23) hx hb dX9_lies_11 (by decide) (fun _ => ?_) (fun c => absurd (by decide) c)
    refine lv_iconst (v := (-1)) hx hb dX9_lies_23 (by decide) ?_
    have ttl_m1 := tl_m1
    exact tI hx hb hr hlk rfl hP hS ⟨trivial, rfl⟩ dX9_lies_24
set_option maxHeartbeats 4000000 in
set_option maxRecDepth 100000 in
theorem s_X9_divisor_0 (l : Launch) (B0 : Nat) (adK adV : Nat → Nat) (D : va_G) (cy : Nat → ClassId) (ad : Nat → Nat) (f : Nat → va_E) (p0 : Int32) (hp0 : 1 ≤ p0.toInt) (p1 : Int32) (hh0 : ¬ p0.toInt = 0) (sz : Nat) : TtI l yX9_divisor wsX9_divisor 0 0 [.int p0, .int p1] B0 adK adV D cy ad f sz (fun (r : Int32) (g : Nat → va_E) => (1 ≤ r.toInt ∧ ¬ r.toInt = 0) ∧ (f = g)) := by
  refine TtI.of (cc := cX9_divisor) (maxL := 5) (ty := .int) (own := RX9) (by decide) rfl (Nat.le_of_ble_eq_true rfl) rfl ?_
  intro p e s m below meth c A ls hx hb hr hml hts hown hlk hK hE hP hD hS hA hAB hl
  have hl : lv_has ls 5 [(0, .int p0), (1, .int p1)] := hl
  refine st0 (fun H locs hP hS => ?_) hP hS
  have j4 : ∀ (N : Nat) (H : Heap) (locs : List Loc) (ls : Array Slot) (v4_l3 : Int32) (v4_l2 : Int32), (v4_l3.toInt + 2147483649 ≤ (N : Int)) → (1 ≤ v4_l2.toInt) → (1 ≤ p0.toInt) → (-2147483648 ≤ v4_l3.toInt) → (¬ v4_l2.toInt = 0) → (va_P D vwCl (wl ad f) H) → (va_D A (wl ad f)) → (va_S A s.heap H locs) → (lv_has ls 5 [(3, .int v4_l3), (2, .int v4_l2), (0, .int p0), (1, .int p1)]) → W p l e (rmO 0 0 0 0) s m ([.int p0, .int p1] : List Value).toArray below meth c H locs 0 0 (MQ below (va_Qi (fun (r : Int32) (g : Nat → va_E) => (1 ≤ r.toInt ∧ ¬ r.toInt = 0) ∧ (f = g)) (fun g t => PstT D ad g t) A) ([.int p0, .int p1] : List Value).toArray s 0 0 A) (F0 m 4 ls []) := by
    intro N
    induction N with
    | zero => intro H locs ls v4_l3 v4_l2 hN hv4_l2 hv4_l0 hJ4_0 hJ4_1 hP hD hS hl; exact absurd hN (by omega)
    | succ N ih4 =>
      intro H locs ls v4_l3 v4_l2 hN hv4_l2 hv4_l0 hJ4_0 hJ4_1 hP hD hS hl
      refine lv_iload_n hx hb dX9_divisor_4 rfl (lv_at hl 0 rfl) ?_
      have ttl_0 := tl_0
      refine lv_if_le (tgt := 21) hx hb dX9_divisor_5 (by decide) (fun c1 => ?_) (fun c1 => ?_)
      · have kc1 := c_le c1
        refine lv_iload_n hx hb dX9_divisor_21 rfl (lv_at hl 1 rfl) ?_
        exact tI hx hb hr hlk rfl hP hS ⟨(by omega), rfl⟩ dX9_divisor_22
      · have kc1 := c_nle c1
        have hy2 := rgI v4_l3
        refine lv_iload_n hx hb dX9_divisor_8 rfl (lv_at hl 1 rfl) ?_
        refine lv_iload_n hx hb dX9_divisor_9 rfl (lv_at hl 0 rfl) ?_
        refine lv_irem hx hb dX9_divisor_10 (ne0 (by omega)) ?_
        refine lv_topi (fun x2 ex2 => ?_)
        have hx2 := r_remp ex2 (by omega)
        refine lv_istore (lv' := [(4, .int x2), (3, .int v4_l3), (2, .int v4_l2), (0, .int p0), (1, .int p1)]) hx hb dX9_divisor_11 hl (by decide) rfl (fun ls hl => ?_)
        refine lv_iload_n hx hb dX9_divisor_13 rfl (lv_at hl 1 rfl) ?_
        refine lv_istore_n (lv' := [(2, .int v4_l3), (4, .int x2), (3, .int v4_l3), (0, .int p0), (1, .int p1)]) hx hb dX9_divisor_14 rfl hl (by decide) rfl (fun ls hl => ?_)
        refine lv_iload hx hb dX9_divisor_15 (lv_at hl 1 rfl) ?_
        refine lv_istore_n (lv' := [(3, .int x2), (2, .int v4_l3), (4, .int x2), (0, .int p0), (1, .int p1)]) hx hb dX9_divisor_17 rfl hl (by decide) rfl (fun ls hl => ?_)
        refine lv_goto (tgt := 4) hx hb dX9_divisor_18 (by decide) ?_
        exact ih4 H locs ls x2 v4_l3 (by omega) (by omega) (by omega) (by omega) (by omega) hP hD hS (lv_sub hl [0, 1, 3, 4] rfl)
  have hz := rgI p1
  refine lv_iload_n hx hb dX9_divisor_0 rfl (lv_at hl 0 rfl) ?_
  refine lv_istore_n (lv' := [(2, .int p0), (0, .int p0), (1, .int p1)]) hx hb dX9_divisor_1 rfl hl (by decide) rfl (fun ls hl => ?_)
  refine lv_iload_n hx hb dX9_divisor_2 rfl (lv_at hl 2 rfl) ?_
  refine lv_istore_n (lv' := [(3, .int p1), (2, .int p0), (0, .int p0), (1, .int p1)]) hx hb dX9_divisor_3 rfl hl (by decide) rfl (fun ls hl => ?_)
  exact j4 (Int.toNat (p1.toInt + 2147483649)) H locs ls p1 p0 (by omega) (by omega) (by omega) (by omega) (by omega) hP hD hS (lv_sub hl [0, 1, 2, 3] rfl)
set_option maxHeartbeats 4000000 in
set_option maxRecDepth 100000 in
theorem s_X9_raised_0 (l : Launch) (B0 : Nat) (adK adV : Nat → Nat) (D : va_G) (cy : Nat → ClassId) (ad : Nat → Nat) (f : Nat → va_E) (p0 : Int32) (p1 : Int32) (hp1 : 0 ≤ p1.toInt ∧ p1.toInt ≤ 4) (sz : Nat) : TtI l yX9_raised wsX9_raised 0 0 [.int p0, .int p1] B0 adK adV D cy ad f sz (fun (r : Int32) (g : Nat → va_E) => True ∧ (f = g)) := by
  refine TtI.of (cc := cX9_raised) (maxL := 4) (ty := .int) (own := RX9) (by decide) rfl (Nat.le_of_ble_eq_true rfl) rfl ?_
  intro p e s m below meth c A ls hx hb hr hml hts hown hlk hK hE hP hD hS hA hAB hl
  have hl : lv_has ls 4 [(0, .int p0), (1, .int p1)] := hl
  refine st0 (fun H locs hP hS => ?_) hP hS
  have j4 : ∀ (N : Nat) (H : Heap) (locs : List Loc) (ls : Array Slot) (v4_l3 : Int32) (v4_l2 : Int32), (5 - v4_l3.toInt ≤ (N : Int)) → (0 ≤ v4_l3.toInt ∧ v4_l3.toInt ≤ 4) → (0 ≤ p1.toInt ∧ p1.toInt ≤ 4) → (va_P D vwCl (wl ad f) H) → (va_D A (wl ad f)) → (va_S A s.heap H locs) → (lv_has ls 4 [(3, .int v4_l3), (2, .int v4_l2), (0, .int p0), (1, .int p1)]) → W p l e (rmO 0 0 0 0) s m ([.int p0, .int p1] : List Value).toArray below meth c H locs 0 0 (MQ below (va_Qi (fun (r : Int32) (g : Nat → va_E) => True ∧ (f = g)) (fun g t => PstT D ad g t) A) ([.int p0, .int p1] : List Value).toArray s 0 0 A) (F0 m 4 ls []) := by
    intro N
    induction N with
    | zero => intro H locs ls v4_l3 v4_l2 hN hv4_l3 hv4_l1 hP hD hS hl; exact absurd hN (by omega)
    | succ N ih4 =>
      intro H locs ls v4_l3 v4_l2 hN hv4_l3 hv4_l1 hP hD hS hl
      refine lv_iload_n hx hb dX9_raised_4 rfl (lv_at hl 0 rfl) ?_
      refine lv_iload_n hx hb dX9_raised_5 rfl (lv_at hl 3 rfl) ?_
      refine lv_icmp_ge (tgt := 19) hx hb dX9_raised_6 (by decide) (fun c1 => ?_) (fun c1 => ?_)
      · have kc1 := c_le c1
        refine lv_iload_n hx hb dX9_raised_19 rfl (lv_at hl 1 rfl) ?_
        exact tI hx hb hr hlk rfl hP hS ⟨trivial, rfl⟩ dX9_raised_20
      · have kc1 := c_nle c1
        refine lv_iload_n hx hb dX9_raised_9 rfl (lv_at hl 1 rfl) ?_
        refine lv_iload_n hx hb dX9_raised_10 rfl (lv_at hl 2 rfl) ?_
        refine lv_imul hx hb dX9_raised_11 ?_
        refine lv_topi (fun x2 ex2 => ?_)
        refine lv_istore_n (lv' := [(2, .int x2), (3, .int v4_l3), (0, .int p0), (1, .int p1)]) hx hb dX9_raised_12 rfl hl (by decide) rfl (fun ls hl => ?_)
        obtain ⟨x3, ex3⟩ : ∃ q : Int32, q = v4_l3 + Int32.ofInt (1) := ⟨_, rfl⟩
        refine lv_iinc (v := x3) (lv' := [(3, .int x3), (2, .int x2), (0, .int p0), (1, .int p1)]) hx hb dX9_raised_13 hl (k := 1) rfl ex3.symm (by decide) rfl (fun ls hl => ?_)
        have hx3 := r_inc ex3 (by decide) (by omega) (by omega)
        refine lv_goto (tgt := 4) hx hb dX9_raised_16 (by decide) ?_
        exact ih4 H locs ls x3 x2 (by omega) (by omega) (by omega) hP hD hS (lv_sub hl [0, 1, 2, 3] rfl)
  refine lv_iconst (v := 1) hx hb dX9_raised_0 (by decide) ?_
  refine lv_istore_n (lv' := [(2, .int 1), (0, .int p0), (1, .int p1)]) hx hb dX9_raised_1 rfl hl (by decide) rfl (fun ls hl => ?_)
  refine lv_iconst (v := 0) hx hb dX9_raised_2 (by decide) ?_
  refine lv_istore_n (lv' := [(3, .int 0), (2, .int 1), (0, .int p0), (1, .int p1)]) hx hb dX9_raised_3 rfl hl (by decide) rfl (fun ls hl => ?_)
  have ttl_0 := tl_0
  have ttl_1 := tl_1
  exact j4 (Int.toNat (5 - (0 : Int32).toInt)) H locs ls (0 : Int32) (1 : Int32) (by omega) (by omega) (by omega) hP hD hS (lv_sub hl [0, 1, 2, 3] rfl)
set_option maxHeartbeats 4000000 in
set_option maxRecDepth 100000 in
theorem s_X9_raised_1 (l : Launch) (B0 : Nat) (adK adV : Nat → Nat) (D : va_G) (cy : Nat → ClassId) (ad : Nat → Nat) (f : Nat → va_E) (p1 : Int32) (hp1 : 0 ≤ p1.toInt ∧ p1.toInt ≤ 4) (sz : Nat) : TtI l yX9_raised wsX9_raised 0 0 [.int 100, .int p1] B0 adK adV D cy ad f sz (fun (r : Int32) (g : Nat → va_E) => (1 ≤ r.toInt ∧ r.toInt ≤ 100000000) ∧ (f = g)) := by
  refine TtI.of (cc := cX9_raised) (maxL := 4) (ty := .int) (own := RX9) (by decide) rfl (Nat.le_of_ble_eq_true rfl) rfl ?_
  intro p e s m below meth c A ls hx hb hr hml hts hown hlk hK hE hP hD hS hA hAB hl
  have hl : lv_has ls 4 [(0, .int 100), (1, .int p1)] := hl
  refine st0 (fun H locs hP hS => ?_) hP hS
  have j4 : ∀ (N : Nat) (H : Heap) (locs : List Loc) (ls : Array Slot) (v4_l3 : Int32) (v4_l2 : Int32), (5 - v4_l3.toInt ≤ (N : Int)) → (0 ≤ v4_l3.toInt ∧ v4_l3.toInt ≤ 4) → (1 ≤ v4_l2.toInt ∧ v4_l2.toInt ≤ 100000000) → (0 ≤ p1.toInt ∧ p1.toInt ≤ 4) → ((v4_l3.toInt = 0 ∧ v4_l2.toInt = 1) ∨ (v4_l3.toInt = 1 ∧ v4_l2.toInt = 100) ∨ (v4_l3.toInt = 2 ∧ v4_l2.toInt = 10000) ∨ (v4_l3.toInt = 3 ∧ v4_l2.toInt = 1000000) ∨ (v4_l3.toInt = 4 ∧ v4_l2.toInt = 100000000)) → (va_P D vwCl (wl ad f) H) → (va_D A (wl ad f)) → (va_S A s.heap H locs) → (lv_has ls 4 [(3, .int v4_l3), (2, .int v4_l2), (0, .int 100), (1, .int p1)]) → W p l e (rmO 0 0 0 0) s m ([.int 100, .int p1] : List Value).toArray below meth c H locs 0 0 (MQ below (va_Qi (fun (r : Int32) (g : Nat → va_E) => (1 ≤ r.toInt ∧ r.toInt ≤ 100000000) ∧ (f = g)) (fun g t => PstT D ad g t) A) ([.int 100, .int p1] : List Value).toArray s 0 0 A) (F0 m 4 ls []) := by
    intro N
    induction N with
    | zero => intro H locs ls v4_l3 v4_l2 hN hv4_l3 hv4_l2 hv4_l1 hJ4_0 hP hD hS hl; exact absurd hN (by omega)
    | succ N ih4 =>
      intro H locs ls v4_l3 v4_l2 hN hv4_l3 hv4_l2 hv4_l1 hJ4_0 hP hD hS hl
      refine lv_iload_n hx hb dX9_raised_4 rfl (lv_at hl 0 rfl) ?_
      refine lv_iload_n hx hb dX9_raised_5 rfl (lv_at hl 3 rfl) ?_
      refine lv_icmp_ge (tgt := 19) hx hb dX9_raised_6 (by decide) (fun c1 => ?_) (fun c1 => ?_)
      · have kc1 := c_le c1
        have ha2 : 1 ≤ v4_l2.toInt ∧ v4_l2.toInt ≤ 100000000 := by omega
        refine lv_iload_n hx hb dX9_raised_19 rfl (lv_at hl 1 rfl) ?_
        exact tI hx hb hr hlk rfl hP hS ⟨(by omega), rfl⟩ dX9_raised_20
      · have kc1 := c_nle c1
        refine lv_iload_n hx hb dX9_raised_9 rfl (lv_at hl 1 rfl) ?_
        refine lv_iload_n hx hb dX9_raised_10 rfl (lv_at hl 2 rfl) ?_
        have ha3 : 1 ≤ v4_l2.toInt ∧ v4_l2.toInt ≤ 1000000 := by omega
        refine lv_imul hx hb dX9_raised_11 ?_
        refine lv_topi (fun x4 ex4 => ?_)
        have hx4 := r_mulr ex4 tl_100 (by omega) (by omega)
        refine lv_istore_n (lv' := [(2, .int x4), (3, .int v4_l3), (0, .int 100), (1, .int p1)]) hx hb dX9_raised_12 rfl hl (by decide) rfl (fun ls hl => ?_)
        obtain ⟨x5, ex5⟩ : ∃ q : Int32, q = v4_l3 + Int32.ofInt (1) := ⟨_, rfl⟩
        refine lv_iinc (v := x5) (lv' := [(3, .int x5), (2, .int x4), (0, .int 100), (1, .int p1)]) hx hb dX9_raised_13 hl (k := 1) rfl ex5.symm (by decide) rfl (fun ls hl => ?_)
        have hx5 := r_inc ex5 (by decide) (by omega) (by omega)
        refine lv_goto (tgt := 4) hx hb dX9_raised_16 (by decide) ?_
        have ttl_100 := tl_100
        exact ih4 H locs ls x5 x4 (by omega) (by omega) (by omega) (by omega) (by omega) hP hD hS (lv_sub hl [0, 1, 2, 3] rfl)
  refine lv_iconst (v := 1) hx hb dX9_raised_0 (by decide) ?_
  refine lv_istore_n (lv' := [(2, .int 1), (0, .int 100), (1, .int p1)]) hx hb dX9_raised_1 rfl hl (by decide) rfl (fun ls hl => ?_)
  refine lv_iconst (v := 0) hx hb dX9_raised_2 (by decide) ?_
  refine lv_istore_n (lv' := [(3, .int 0), (2, .int 1), (0, .int 100), (1, .int p1)]) hx hb dX9_raised_3 rfl hl (by decide) rfl (fun ls hl => ?_)
  have ttl_0 := tl_0
  have ttl_1 := tl_1
  have ttl_100 := tl_100
  exact j4 (Int.toNat (5 - (0 : Int32).toInt)) H locs ls (0 : Int32) (1 : Int32) (by omega) (by omega) (by omega) (by omega) (by omega) hP hD hS (lv_sub hl [0, 1, 2, 3] rfl)
set_option maxHeartbeats 4000000 in
set_option maxRecDepth 100000 in
theorem s_X9_odds_0 (l : Launch) (B0 : Nat) (adK adV : Nat → Nat) (D : va_G) (cy : Nat → ClassId) (ad : Nat → Nat) (fr0 : Nat → va_E) (c_text : Nat → Int32) (m_taped : Int32) (m_size : Int32) (m_faultKind : Int32) (m_faultPlace : Int32) (m_at : Int32) (m_end : Int32) (m_token : Int32) (m_number : Int32) (m_name : Int64) (c_points : Nat → Int32) (c_strands : Nat → Int32) (c_units : Nat → Int32) (c_told : Nat → Int32) (c_ruleFrom : Nat → Int32) (c_ruleTo : Nat → Int32) (c_code : Nat → Int32) (c_eWhat : Nat → Int32) (c_eSign : Nat → Int32) (m_bank : Int32) (m_rb : Int32) (m_codes : Int32) (m_within : Int32) (m_piled : Int32) (m_unitsInRule : Int32) (m_askStrand : Int32) (m_askTied : Int32) (m_thoughtClaim : Int32) (m_thoughtNeed : Int32) (m_thoughtAll : Int32) (c_roundOf : Nat → Int32) (m_acts : Int32) (m_undone : Int32) (m_laid : Int32) (m_firstMove : Int32) (m_seens : Int32) (m_time : Int32) (m_waysNow : Int32) (m_fitting : Int32) (f : Nat → va_E) (hT : TYm ad cy fr0 c_text m_taped m_size m_faultKind m_faultPlace m_at m_end m_token m_number m_name c_points c_strands c_units c_told c_ruleFrom c_ruleTo c_code c_eWhat c_eSign m_bank m_rb m_codes m_within m_piled m_unitsInRule m_askStrand m_askTied m_thoughtClaim m_thoughtNeed m_thoughtAll c_roundOf m_acts m_undone m_laid m_firstMove m_seens m_time m_waysNow m_fitting f) (p1 : Int32) (p2 : Int32) (sz : Nat) : TtI l yX9_odds wsX9_odds 1 24 [.ref (ad 148), .int p1, .int p2] B0 adK adV D cy ad f sz (fun (r : Int32) (g : Nat → va_E) => True ∧ (f = g)) := by
  refine TtI.of (cc := cX9_odds) (maxL := 5) (ty := .int) (own := RX9) (by decide) rfl (Nat.le_of_ble_eq_true rfl) rfl ?_
  intro p e s m below meth c A ls hx hb hr hml hts hown hlk hK hE hP hD hS hA hAB hl
  have hl : lv_has ls 5 [(0, .ref (ad 148)), (1, .int p1), (2, .int p2)] := hl
  refine st0 (fun H locs hP hS => ?_) hP hS
  have j55 : ∀ (H : Heap) (locs : List Loc) (ls : Array Slot) (v55_l4 : Int32) (v55_l3 : Int32) (v55_s0 : Int32), (1 ≤ v55_l4.toInt ∧ v55_l4.toInt ≤ 100000000) → (0 ≤ p1.toInt ∧ p1.toInt ≤ 4) → (0 ≤ p2.toInt ∧ p2.toInt ≤ 1) → (va_P D vwCl (wl ad f) H) → (va_D A (wl ad f)) → (va_S A s.heap H locs) → (lv_has ls 5 [(4, .int v55_l4), (3, .int v55_l3), (0, .ref (ad 148)), (1, .int p1), (2, .int p2)]) → W p l e (rmO 1 24 0 0) s m ([.ref (ad 148), .int p1, .int p2] : List Value).toArray below meth c H locs 0 0 (MQ below (va_Qi (fun (r : Int32) (g : Nat → va_E) => True ∧ (f = g)) (fun g t => PstT D ad g t) A) ([.ref (ad 148), .int p1, .int p2] : List Value).toArray s 0 0 A) (F0 m 55 ls [.int v55_s0]) := by
    intro H locs ls v55_l4 v55_l3 v55_s0 hv55_l4 hv55_l1 hv55_l2 hP hD hS hl
    refine lv_iload hx hb dX9_odds_55 (lv_at hl 0 rfl) ?_
    refine lv_iload_n hx hb dX9_odds_57 rfl (lv_at hl 1 rfl) ?_
    refine tSI (As := [.int v55_l4, .int v55_l3]) (rest := [.int v55_s0]) ⟨hx, hb, hml, hown, hts⟩ hK hE hP hD hS hA hAB (s_X9_divisor_0 l B0 adK adV D cy ad f v55_l4 (by omega) v55_l3 (by omega) _) (va_cwS 2 hts gX9_odds_X9_divisor rfl rfl rfl (by decide +kernel) ⟨Nat.le_of_ble_eq_true rfl, Nat.le_of_ble_eq_true rfl⟩) rfl hl.1 rfl (Nat.le_of_ble_eq_true rfl) dX9_odds_58 ⟨Nat.le_of_ble_eq_true rfl, Nat.le_of_ble_eq_true rfl⟩ (fun r g H locs hw hP hD hS => ?_)
    obtain ⟨hrs, rfl⟩ := hw
    obtain ⟨x1, rfl⟩ : ∃ q, q = r := ⟨_, rfl⟩
    have h2 := hrs
    refine lv_idiv hx hb dX9_odds_61 (ne0 (by omega)) ?_
    refine lv_topi (fun x3 ex3 => ?_)
    exact tI hx hb hr hlk rfl hP hS ⟨trivial, rfl⟩ dX9_odds_62
  refine lv_iload_n hx hb dX9_odds_0 rfl (lv_at hl 1 rfl) ?_
  refine lv_iconst (v := 0) hx hb dX9_odds_1 (by decide) ?_
  refine lv_iconst (v := 4) hx hb dX9_odds_2 (by decide) ?_
  have ttl_0 := tl_0
  have ttl_4 := tl_4
  refine tSI (As := [.int p1, .int 0, .int 4]) (rest := []) ⟨hx, hb, hml, hown, hts⟩ hK hE hP hD hS hA hAB (s_X9_isIn_0 l B0 adK adV D cy ad f p1 (0 : Int32) (by omega) (4 : Int32) (by omega) _) (va_cwS 3 hts gX9_odds_X9_isIn rfl rfl rfl (by decide +kernel) ⟨Nat.le_of_ble_eq_true rfl, Nat.le_of_ble_eq_true rfl⟩) rfl hl.1 rfl (Nat.le_of_ble_eq_true rfl) dX9_odds_3 ⟨Nat.le_of_ble_eq_true rfl, Nat.le_of_ble_eq_true rfl⟩ (fun r g H locs hw hP hD hS => ?_)
  obtain ⟨hrs, rfl⟩ := hw
  obtain ⟨x4, rfl⟩ : ∃ q, q = r := ⟨_, rfl⟩
  rcases hrs with ⟨rfl, h5, h6⟩ | rfl
  · refine lv_if_eq (tgt := 18) hx hb dX9_odds_6 (by decide) (fun c => absurd c (by decide)) (fun _ => ?_)
    refine lv_iload_n hx hb dX9_odds_9 rfl (lv_at hl 2 rfl) ?_
    refine lv_iconst (v := 0) hx hb dX9_odds_10 (by decide) ?_
    refine lv_iconst (v := 1) hx hb dX9_odds_11 (by decide) ?_
    have ttl_1 := tl_1
    refine tSI (As := [.int p2, .int 0, .int 1]) (rest := []) ⟨hx, hb, hml, hown, hts⟩ hK hE hP hD hS hA hAB (s_X9_isIn_0 l B0 adK adV D cy ad f p2 (0 : Int32) (by omega) (1 : Int32) (by omega) _) (va_cwS 3 hts gX9_odds_X9_isIn rfl rfl rfl (by decide +kernel) ⟨Nat.le_of_ble_eq_true rfl, Nat.le_of_ble_eq_true rfl⟩) rfl hl.1 rfl (Nat.le_of_ble_eq_true rfl) dX9_odds_12 ⟨Nat.le_of_ble_eq_true rfl, Nat.le_of_ble_eq_true rfl⟩ (fun r g H locs hw hP hD hS => ?_)
    obtain ⟨hrs, rfl⟩ := hw
    obtain ⟨x7, rfl⟩ : ∃ q, q = r := ⟨_, rfl⟩
    rcases hrs with ⟨rfl, h8, h9⟩ | rfl
    · refine lv_if_ne (tgt := 20) hx hb dX9_odds_15 (by decide) (fun _ => ?_) (fun c => absurd c (by decide))
      refine lv_bipush (v := 100) hx hb dX9_odds_20 (by decide) ?_
      refine lv_aload_n hx hb dX9_odds_22 rfl (lv_at hl 0 rfl) ?_
      obtain ⟨e25, h10, h11, h12, h13, h14, h15, h16, h17, h18, h19, h20, h21, h22, h23, h24⟩ := (show okX9 ad m_taped m_size m_faultKind m_faultPlace m_at m_end m_token m_number m_name m_bank m_rb m_codes m_within m_piled m_unitsInRule m_askStrand m_askTied m_thoughtClaim m_thoughtNeed m_thoughtAll m_acts m_undone m_laid m_firstMove m_seens m_time m_waysNow m_fitting 148 (f 148) from hT.1 148 (by decide))
      refine va_get (D := D) (cl := vwCl) (ci := 9) (v := .ref (ad 154)) (C := RX9) (T := TX9) (N := 64) hx hb hts in_X9_odds_X9 hown hK hP 148 (wl_at (by decide) e25) rfl 14 (by decide) (hts (.fieldLink RX9 30 "EightReasonsModel" "fray" "[I") (List.mem_of_getElem? (i := 1) rfl)) (fun _ h9 => h9) rfl dX9_odds_23 ?_
      refine lv_aload_n hx hb dX9_odds_26 rfl (lv_at hl 0 rfl) ?_
      refine va_get (D := D) (cl := vwCl) (ci := 9) (v := .int m_bank) (C := RX9) (T := TX9) (N := 64) hx hb hts in_X9_odds_X9 hown hK hP 148 (wl_at (by decide) e25) rfl 29 (by decide) (hts (.fieldLink RX9 239 "EightReasonsModel" "bank" "I") (List.mem_of_getElem? (i := 2) rfl)) (fun _ h9 => h9) rfl dX9_odds_27 ?_
      obtain ⟨g27, e26⟩ := (show okI cy 2 (f 154) from hT.1 154 (by decide))
      refine va_iald hx hb hK hP 154 0 (wl_at (by decide) e26) rfl (vp_in_iff.mpr ⟨by omega, by omega⟩) dX9_odds_30 ?_
      refine lv_topi (fun x28 ex28 => ?_)
      refine lv_isub hx hb dX9_odds_31 ?_
      refine lv_topi (fun x29 ex29 => ?_)
      refine lv_iload_n hx hb dX9_odds_32 rfl (lv_at hl 1 rfl) ?_
      refine tSI (As := [.int x29, .int p1]) (rest := []) ⟨hx, hb, hml, hown, hts⟩ hK hE hP hD hS hA hAB (s_X9_raised_0 l B0 adK adV D cy ad f x29 p1 (by omega) _) (va_cwS 2 hts gX9_odds_X9_raised rfl rfl rfl (by decide +kernel) ⟨Nat.le_of_ble_eq_true rfl, Nat.le_of_ble_eq_true rfl⟩) rfl hl.1 rfl (Nat.le_of_ble_eq_true rfl) dX9_odds_33 ⟨Nat.le_of_ble_eq_true rfl, Nat.le_of_ble_eq_true rfl⟩ (fun r g H locs hw hP hD hS => ?_)
      obtain ⟨hrs, rfl⟩ := hw
      obtain ⟨x30, rfl⟩ : ∃ q, q = r := ⟨_, rfl⟩
      have h31 := hrs
      refine lv_istore_n (lv' := [(3, .int x30), (0, .ref (ad 148)), (1, .int p1), (2, .int p2)]) hx hb dX9_odds_36 rfl hl (by decide) rfl (fun ls hl => ?_)
      refine lv_bipush (v := 100) hx hb dX9_odds_37 (by decide) ?_
      refine lv_iload_n hx hb dX9_odds_39 rfl (lv_at hl 2 rfl) ?_
      have ttl_100 := tl_100
      refine tSI (As := [.int 100, .int p1]) (rest := []) ⟨hx, hb, hml, hown, hts⟩ hK hE hP hD hS hA hAB (s_X9_raised_1 l B0 adK adV D cy ad f p1 (by omega) _) (va_cwS 2 hts gX9_odds_X9_raised rfl rfl rfl (by decide +kernel) ⟨Nat.le_of_ble_eq_true rfl, Nat.le_of_ble_eq_true rfl⟩) rfl hl.1 rfl (Nat.le_of_ble_eq_true rfl) dX9_odds_40 ⟨Nat.le_of_ble_eq_true rfl, Nat.le_of_ble_eq_true rfl⟩ (fun r g H locs hw hP hD hS => ?_)
      obtain ⟨hrs, rfl⟩ := hw
      obtain ⟨x32, rfl⟩ : ∃ q, q = r := ⟨_, rfl⟩
      have h33 := hrs
      refine lv_istore (lv' := [(4, .int x32), (3, .int x30), (0, .ref (ad 148)), (1, .int p1), (2, .int p2)]) hx hb dX9_odds_43 hl (by decide) rfl (fun ls hl => ?_)
      refine lv_iload_n hx hb dX9_odds_45 rfl (lv_at hl 4 rfl) ?_
      refine lv_if_ne (tgt := 53) hx hb dX9_odds_46 (by decide) (fun c34 => ?_) (fun c34 => ?_)
      · have kc34 := c_ne c34
        refine lv_iload hx hb dX9_odds_53 (lv_at hl 0 rfl) ?_
        exact j55 H locs ls x32 x30 x32 (by omega) (by omega) (by omega) hP hD hS (lv_sub hl [0, 1, 2, 3, 4] rfl)
      · have kc34 := c_eq c34
        refine lv_iload_n hx hb dX9_odds_49 rfl (lv_at hl 1 rfl) ?_
        refine lv_goto (tgt := 55) hx hb dX9_odds_50 (by decide) ?_
        exact j55 H locs ls x32 x30 x30 (by omega) (by omega) (by omega) hP hD hS (lv_sub hl [0, 1, 2, 3, 4] rfl)
    · refine lv_if_ne (tgt := 20) hx hb dX9_odds_15 (by decide) (fun c => absurd (by decide) c) (fun _ => ?_)
      refine lv_iconst (v := (-1)) hx hb dX9_odds_18 (by decide) ?_
      have ttl_m1 := tl_m1
      exact tI hx hb hr hlk rfl hP hS ⟨trivial, rfl⟩ dX9_odds_19
  · refine lv_if_eq (tgt := 18) hx hb dX9_odds_6 (by decide) (fun _ => ?_) (fun c => absurd (by decide) c)
    refine lv_iconst (v := (-1)) hx hb dX9_odds_18 (by decide) ?_
    have ttl_m1 := tl_m1
    exact tI hx hb hr hlk rfl hP hS ⟨trivial, rfl⟩ dX9_odds_19
set_option maxHeartbeats 4000000 in
set_option maxRecDepth 100000 in
theorem s_X9_seen_0 (l : Launch) (B0 : Nat) (adK adV : Nat → Nat) (D : va_G) (cy : Nat → ClassId) (ad : Nat → Nat) (fr0 : Nat → va_E) (c_text : Nat → Int32) (m_taped : Int32) (m_size : Int32) (m_faultKind : Int32) (m_faultPlace : Int32) (m_at : Int32) (m_end : Int32) (m_token : Int32) (m_number : Int32) (m_name : Int64) (c_points : Nat → Int32) (c_strands : Nat → Int32) (c_units : Nat → Int32) (c_told : Nat → Int32) (c_ruleFrom : Nat → Int32) (c_ruleTo : Nat → Int32) (c_code : Nat → Int32) (c_eWhat : Nat → Int32) (c_eSign : Nat → Int32) (m_bank : Int32) (m_rb : Int32) (m_codes : Int32) (m_within : Int32) (m_piled : Int32) (m_unitsInRule : Int32) (m_askStrand : Int32) (m_askTied : Int32) (m_thoughtClaim : Int32) (m_thoughtNeed : Int32) (m_thoughtAll : Int32) (c_roundOf : Nat → Int32) (m_acts : Int32) (m_undone : Int32) (m_laid : Int32) (m_firstMove : Int32) (m_seens : Int32) (m_time : Int32) (m_waysNow : Int32) (m_fitting : Int32) (f : Nat → va_E) (hT : TYm ad cy fr0 c_text m_taped m_size m_faultKind m_faultPlace m_at m_end m_token m_number m_name c_points c_strands c_units c_told c_ruleFrom c_ruleTo c_code c_eWhat c_eSign m_bank m_rb m_codes m_within m_piled m_unitsInRule m_askStrand m_askTied m_thoughtClaim m_thoughtNeed m_thoughtAll c_roundOf m_acts m_undone m_laid m_firstMove m_seens m_time m_waysNow m_fitting f) (p1 : Int32) (p2 : Int32) (sz : Nat) : TtI l yX9_seen wsX9_seen 3 64 [.ref (ad 148), .int p1, .int p2] B0 adK adV D cy ad f sz (fun (r : Int32) (g : Nat → va_E) => (-1 ≤ r.toInt ∧ r.toInt ≤ 29) ∧ (∃ (m_seens' : Int32), TYm ad cy fr0 c_text m_taped m_size m_faultKind m_faultPlace m_at m_end m_token m_number m_name c_points c_strands c_units c_told c_ruleFrom c_ruleTo c_code c_eWhat c_eSign m_bank m_rb m_codes m_within m_piled m_unitsInRule m_askStrand m_askTied m_thoughtClaim m_thoughtNeed m_thoughtAll c_roundOf m_acts m_undone m_laid m_firstMove m_seens' m_time m_waysNow m_fitting g)) := by
  refine TtI.of (cc := cX9_seen) (maxL := 3) (ty := .int) (own := RX9) (by decide) rfl (Nat.le_of_ble_eq_true rfl) rfl ?_
  intro p e s m below meth c A ls hx hb hr hml hts hown hlk hK hE hP hD hS hA hAB hl
  have hl : lv_has ls 3 [(0, .ref (ad 148)), (1, .int p1), (2, .int p2)] := hl
  refine st0 (fun H locs hP hS => ?_) hP hS
  have j46 : ∀ (f : Nat → va_E) (H : Heap) (locs : List Loc) (ls : Array Slot) (v46_s2 : Int32), (0 ≤ p1.toInt ∧ p1.toInt ≤ 9) → (0 ≤ m_seens.toInt ∧ m_seens.toInt ≤ 29) → (0 ≤ v46_s2.toInt ∧ v46_s2.toInt ≤ 1) → (0 ≤ m_seens.toInt ∧ m_seens.toInt ≤ 29) → (TYm ad cy fr0 c_text m_taped m_size m_faultKind m_faultPlace m_at m_end m_token m_number m_name c_points c_strands c_units c_told c_ruleFrom c_ruleTo c_code c_eWhat c_eSign m_bank m_rb m_codes m_within m_piled m_unitsInRule m_askStrand m_askTied m_thoughtClaim m_thoughtNeed m_thoughtAll c_roundOf m_acts m_undone m_laid m_firstMove m_seens m_time m_waysNow m_fitting f) → (va_P D vwCl (wl ad f) H) → (va_D A (wl ad f)) → (va_S A s.heap H locs) → (lv_has ls 3 [(0, .ref (ad 148)), (1, .int p1), (2, .int p2)]) → W p l e (rmO 3 64 0 0) s m ([.ref (ad 148), .int p1, .int p2] : List Value).toArray below meth c H locs 0 0 (MQ below (va_Qi (fun (r : Int32) (g : Nat → va_E) => (-1 ≤ r.toInt ∧ r.toInt ≤ 29) ∧ (∃ (m_seens' : Int32), TYm ad cy fr0 c_text m_taped m_size m_faultKind m_faultPlace m_at m_end m_token m_number m_name c_points c_strands c_units c_told c_ruleFrom c_ruleTo c_code c_eWhat c_eSign m_bank m_rb m_codes m_within m_piled m_unitsInRule m_askStrand m_askTied m_thoughtClaim m_thoughtNeed m_thoughtAll c_roundOf m_acts m_undone m_laid m_firstMove m_seens' m_time m_waysNow m_fitting g)) (fun g t => PstT D ad g t) A) ([.ref (ad 148), .int p1, .int p2] : List Value).toArray s 0 0 A) (F0 m 46 ls [.int v46_s2, .int m_seens, .ref (ad 179)]) := by
    intro f H locs ls v46_s2 hv46_l1 hv46_s1 hv46_s2 hv46_p_m_seens hT hP hD hS hl
    obtain ⟨g2, e1⟩ := (show okI cy 30 (f 179) from hT.1 179 (by decide))
    refine va_iast hx hb hK hP hD hS 179 0 (wl_at (by decide) e1) rfl (vp_in_iff.mpr ⟨by omega, by omega⟩) dX9_seen_46 (fun H locs hP hD hS => ?_)
    obtain ⟨f, hT, hP, hD, e3, hj4⟩ := stU (by decide) (TYm.up hT (by decide) (show OKm ad cy c_text m_taped m_size m_faultKind m_faultPlace m_at m_end m_token m_number m_name c_points c_strands c_units c_told c_ruleFrom c_ruleTo c_code c_eWhat c_eSign m_bank m_rb m_codes m_within m_piled m_unitsInRule m_askStrand m_askTied m_thoughtClaim m_thoughtNeed m_thoughtAll c_roundOf m_acts m_undone m_laid m_firstMove m_seens m_time m_waysNow m_fitting 179 _ from (show okI cy 30 _ from ⟨_, rfl⟩))) hP hD
    refine lv_aload_n hx hb dX9_seen_47 rfl (lv_at hl 0 rfl) ?_
    obtain ⟨e20, h5, h6, h7, h8, h9, h10, h11, h12, h13, h14, h15, h16, h17, h18, h19⟩ := (show okX9 ad m_taped m_size m_faultKind m_faultPlace m_at m_end m_token m_number m_name m_bank m_rb m_codes m_within m_piled m_unitsInRule m_askStrand m_askTied m_thoughtClaim m_thoughtNeed m_thoughtAll m_acts m_undone m_laid m_firstMove m_seens m_time m_waysNow m_fitting 148 (f 148) from hT.1 148 (by decide))
    refine va_get (D := D) (cl := vwCl) (ci := 9) (v := .ref (ad 180)) (C := RX9) (T := TX9) (N := 64) hx hb hts in_X9_seen_X9 hown hK hP 148 (wl_at (by decide) e20) rfl 55 (by decide) (hts (.fieldLink RX9 115 "EightReasonsModel" "sTold" "[I") (List.mem_of_getElem? (i := 4) rfl)) (fun _ h9 => h9) rfl dX9_seen_48 ?_
    refine lv_aload_n hx hb dX9_seen_51 rfl (lv_at hl 0 rfl) ?_
    refine va_get (D := D) (cl := vwCl) (ci := 9) (v := .int m_seens) (C := RX9) (T := TX9) (N := 64) hx hb hts in_X9_seen_X9 hown hK hP 148 (wl_at (by decide) e20) rfl 58 (by decide) (hts (.fieldLink RX9 374 "EightReasonsModel" "seens" "I") (List.mem_of_getElem? (i := 1) rfl)) (fun _ h9 => h9) rfl dX9_seen_52 ?_
    refine lv_aload_n hx hb dX9_seen_55 rfl (lv_at hl 0 rfl) ?_
    refine va_get (D := D) (cl := vwCl) (ci := 9) (v := .int m_time) (C := RX9) (T := TX9) (N := 64) hx hb hts in_X9_seen_X9 hown hK hP 148 (wl_at (by decide) e20) rfl 59 (by decide) (hts (.fieldLink RX9 488 "EightReasonsModel" "time" "I") (List.mem_of_getElem? (i := 5) rfl)) (fun _ h9 => h9) rfl dX9_seen_56 ?_
    obtain ⟨g22, e21⟩ := (show okI cy 30 (f 180) from hT.1 180 (by decide))
    refine va_iast hx hb hK hP hD hS 180 0 (wl_at (by decide) e21) rfl (vp_in_iff.mpr ⟨by omega, by omega⟩) dX9_seen_59 (fun H locs hP hD hS => ?_)
    obtain ⟨f, hT, hP, hD, e23, hj24⟩ := stU (by decide) (TYm.up hT (by decide) (show OKm ad cy c_text m_taped m_size m_faultKind m_faultPlace m_at m_end m_token m_number m_name c_points c_strands c_units c_told c_ruleFrom c_ruleTo c_code c_eWhat c_eSign m_bank m_rb m_codes m_within m_piled m_unitsInRule m_askStrand m_askTied m_thoughtClaim m_thoughtNeed m_thoughtAll c_roundOf m_acts m_undone m_laid m_firstMove m_seens m_time m_waysNow m_fitting 180 _ from (show okI cy 30 _ from ⟨_, rfl⟩))) hP hD
    have e25 := (hj24 148 (by decide)).trans e20
    refine lv_aload_n hx hb dX9_seen_60 rfl (lv_at hl 0 rfl) ?_
    refine va_get (D := D) (cl := vwCl) (ci := 9) (v := .ref (ad 181)) (C := RX9) (T := TX9) (N := 64) hx hb hts in_X9_seen_X9 hown hK hP 148 (wl_at (by decide) e25) rfl 56 (by decide) (hts (.fieldLink RX9 118 "EightReasonsModel" "sUntold" "[I") (List.mem_of_getElem? (i := 6) rfl)) (fun _ h9 => h9) rfl dX9_seen_61 ?_
    refine lv_aload_n hx hb dX9_seen_64 rfl (lv_at hl 0 rfl) ?_
    refine va_get (D := D) (cl := vwCl) (ci := 9) (v := .int m_seens) (C := RX9) (T := TX9) (N := 64) hx hb hts in_X9_seen_X9 hown hK hP 148 (wl_at (by decide) e25) rfl 58 (by decide) (hts (.fieldLink RX9 374 "EightReasonsModel" "seens" "I") (List.mem_of_getElem? (i := 1) rfl)) (fun _ h9 => h9) rfl dX9_seen_65 ?_
    refine lv_iconst (v := (-1)) hx hb dX9_seen_68 (by decide) ?_
    obtain ⟨g27, e26⟩ := (show okI cy 30 (f 181) from hT.1 181 (by decide))
    have ttl_m1 := tl_m1
    refine va_iast hx hb hK hP hD hS 181 0 (wl_at (by decide) e26) rfl (vp_in_iff.mpr ⟨by omega, by omega⟩) dX9_seen_69 (fun H locs hP hD hS => ?_)
    obtain ⟨f, hT, hP, hD, e28, hj29⟩ := stU (by decide) (TYm.up hT (by decide) (show OKm ad cy c_text m_taped m_size m_faultKind m_faultPlace m_at m_end m_token m_number m_name c_points c_strands c_units c_told c_ruleFrom c_ruleTo c_code c_eWhat c_eSign m_bank m_rb m_codes m_within m_piled m_unitsInRule m_askStrand m_askTied m_thoughtClaim m_thoughtNeed m_thoughtAll c_roundOf m_acts m_undone m_laid m_firstMove m_seens m_time m_waysNow m_fitting 181 _ from (show okI cy 30 _ from ⟨_, rfl⟩))) hP hD
    have e30 := (hj29 148 (by decide)).trans e25
    refine lv_aload_n hx hb dX9_seen_70 rfl (lv_at hl 0 rfl) ?_
    refine lv_dup hx hb dX9_seen_71 rfl ?_
    refine va_get (D := D) (cl := vwCl) (ci := 9) (v := .int m_seens) (C := RX9) (T := TX9) (N := 64) hx hb hts in_X9_seen_X9 hown hK hP 148 (wl_at (by decide) e30) rfl 58 (by decide) (hts (.fieldLink RX9 374 "EightReasonsModel" "seens" "I") (List.mem_of_getElem? (i := 1) rfl)) (fun _ h9 => h9) rfl dX9_seen_72 ?_
    refine lv_iconst (v := 1) hx hb dX9_seen_75 (by decide) ?_
    have ttl_1 := tl_1
    refine lv_iadd hx hb dX9_seen_76 ?_
    refine lv_topi (fun x31 ex31 => ?_)
    have hx31 := r_add ex31 (by omega) (by omega)
    refine va_put (D := D) (cl := vwCl) (ci := 9) (v := .int x31) (ty := tyX9 58) (C := RX9) (T := TX9) (N := 64) hx hb hts in_X9_seen_X9 tyX9 tyX9_ok nmX9 hown hK hP hD hS 148 (wl_at (by decide) e30) rfl 58 (by decide) (hts (.fieldLink RX9 374 "EightReasonsModel" "seens" "I") (List.mem_of_getElem? (i := 1) rfl)) (fun _ h9 => h9) rfl (tyX9_ok 58 (by decide)) rfl rfl (Nat.le_of_ble_eq_true rfl) dX9_seen_77 (fun H locs hP hD hS => ?_)
    obtain ⟨f, hT, hP, hD, e32, hj33⟩ := stU (by decide) (TYm.p148 hT (show OKm ad cy c_text m_taped m_size m_faultKind m_faultPlace m_at m_end m_token m_number m_name c_points c_strands c_units c_told c_ruleFrom c_ruleTo c_code c_eWhat c_eSign m_bank m_rb m_codes m_within m_piled m_unitsInRule m_askStrand m_askTied m_thoughtClaim m_thoughtNeed m_thoughtAll c_roundOf m_acts m_undone m_laid m_firstMove x31 m_time m_waysNow m_fitting 148 _ from (show okX9 ad m_taped m_size m_faultKind m_faultPlace m_at m_end m_token m_number m_name m_bank m_rb m_codes m_within m_piled m_unitsInRule m_askStrand m_askTied m_thoughtClaim m_thoughtNeed m_thoughtAll m_acts m_undone m_laid m_firstMove x31 m_time m_waysNow m_fitting 148 _ from ⟨rfl, by omega, by omega, by omega, by omega, by omega, by omega, by omega, by omega, by omega, by omega, by omega, by omega, by omega, by omega, by omega⟩))) hP hD
    refine lv_aload_n hx hb dX9_seen_80 rfl (lv_at hl 0 rfl) ?_
    refine va_get (D := D) (cl := vwCl) (ci := 9) (v := .int x31) (C := RX9) (T := TX9) (N := 64) hx hb hts in_X9_seen_X9 hown hK hP 148 (wl_at (by decide) e32) rfl 58 (by decide) (hts (.fieldLink RX9 374 "EightReasonsModel" "seens" "I") (List.mem_of_getElem? (i := 1) rfl)) (fun _ h9 => h9) rfl dX9_seen_81 ?_
    refine lv_iconst (v := 1) hx hb dX9_seen_84 (by decide) ?_
    refine lv_isub hx hb dX9_seen_85 ?_
    refine lv_topi (fun x34 ex34 => ?_)
    have hx34 := r_sub ex34 (by omega) (by omega)
    exact tI hx hb hr hlk rfl hP hS ⟨(by omega), ⟨x31, hT⟩⟩ dX9_seen_86
  refine lv_aload_n hx hb dX9_seen_0 rfl (lv_at hl 0 rfl) ?_
  refine lv_iload_n hx hb dX9_seen_1 rfl (lv_at hl 1 rfl) ?_
  obtain ⟨e50, h35, h36, h37, h38, h39, h40, h41, h42, h43, h44, h45, h46, h47, h48, h49⟩ := (show okX9 ad m_taped m_size m_faultKind m_faultPlace m_at m_end m_token m_number m_name m_bank m_rb m_codes m_within m_piled m_unitsInRule m_askStrand m_askTied m_thoughtClaim m_thoughtNeed m_thoughtAll m_acts m_undone m_laid m_firstMove m_seens m_time m_waysNow m_fitting 148 (f 148) from hT.1 148 (by decide))
  refine tVI (As := [.int p1]) (rest := []) (i := 148) ⟨hx, hb, hml, hown, hts⟩ hK hE hP hD hS hA hAB (s_X9_isClaim_0 l B0 adK adV D cy ad fr0 c_text m_taped m_size m_faultKind m_faultPlace m_at m_end m_token m_number m_name c_points c_strands c_units c_told c_ruleFrom c_ruleTo c_code c_eWhat c_eSign m_bank m_rb m_codes m_within m_piled m_unitsInRule m_askStrand m_askTied m_thoughtClaim m_thoughtNeed m_thoughtAll c_roundOf m_acts m_undone m_laid m_firstMove m_seens m_time m_waysNow m_fitting f hT p1 _) (cwV 1 hts gX9_seen_X9_isClaim rfl rfl rfl (by decide +kernel) ⟨Nat.le_of_ble_eq_true rfl, Nat.le_of_ble_eq_true rfl⟩) (by decide) 9 e50 rfl rfl hl.1 rfl (Nat.le_of_ble_eq_true rfl) dX9_seen_2 ⟨Nat.le_of_ble_eq_true rfl, Nat.le_of_ble_eq_true rfl⟩ (fun r g H locs hw hP hD hS => ?_)
  obtain ⟨hrs, rfl⟩ := hw
  obtain ⟨x51, rfl⟩ : ∃ q, q = r := ⟨_, rfl⟩
  rcases hrs with ⟨rfl, h52, h53⟩ | rfl
  · refine lv_if_eq (tgt := 17) hx hb dX9_seen_5 (by decide) (fun c => absurd c (by decide)) (fun _ => ?_)
    refine lv_aload_n hx hb dX9_seen_8 rfl (lv_at hl 0 rfl) ?_
    refine va_get (D := D) (cl := vwCl) (ci := 9) (v := .int m_seens) (C := RX9) (T := TX9) (N := 64) hx hb hts in_X9_seen_X9 hown hK hP 148 (wl_at (by decide) e50) rfl 58 (by decide) (hts (.fieldLink RX9 374 "EightReasonsModel" "seens" "I") (List.mem_of_getElem? (i := 1) rfl)) (fun _ h9 => h9) rfl dX9_seen_9 ?_
    refine lv_bipush (v := 30) hx hb dX9_seen_12 (by decide) ?_
    have ttl_30 := tl_30
    refine lv_icmp_ne (tgt := 19) hx hb dX9_seen_14 (by decide) (fun c54 => ?_) (fun c54 => ?_)
    · have kc54 := c_ne c54
      refine lv_aload_n hx hb dX9_seen_19 rfl (lv_at hl 0 rfl) ?_
      refine va_get (D := D) (cl := vwCl) (ci := 9) (v := .ref (ad 178)) (C := RX9) (T := TX9) (N := 64) hx hb hts in_X9_seen_X9 hown hK hP 148 (wl_at (by decide) e50) rfl 53 (by decide) (hts (.fieldLink RX9 109 "EightReasonsModel" "sClaim" "[I") (List.mem_of_getElem? (i := 2) rfl)) (fun _ h9 => h9) rfl dX9_seen_20 ?_
      refine lv_aload_n hx hb dX9_seen_23 rfl (lv_at hl 0 rfl) ?_
      refine va_get (D := D) (cl := vwCl) (ci := 9) (v := .int m_seens) (C := RX9) (T := TX9) (N := 64) hx hb hts in_X9_seen_X9 hown hK hP 148 (wl_at (by decide) e50) rfl 58 (by decide) (hts (.fieldLink RX9 374 "EightReasonsModel" "seens" "I") (List.mem_of_getElem? (i := 1) rfl)) (fun _ h9 => h9) rfl dX9_seen_24 ?_
      refine lv_iload_n hx hb dX9_seen_27 rfl (lv_at hl 1 rfl) ?_
      obtain ⟨g56, e55⟩ := (show okI cy 30 (f 178) from hT.1 178 (by decide))
      refine va_iast hx hb hK hP hD hS 178 0 (wl_at (by decide) e55) rfl (vp_in_iff.mpr ⟨by omega, by omega⟩) dX9_seen_28 (fun H locs hP hD hS => ?_)
      obtain ⟨f, hT, hP, hD, e57, hj58⟩ := stU (by decide) (TYm.up hT (by decide) (show OKm ad cy c_text m_taped m_size m_faultKind m_faultPlace m_at m_end m_token m_number m_name c_points c_strands c_units c_told c_ruleFrom c_ruleTo c_code c_eWhat c_eSign m_bank m_rb m_codes m_within m_piled m_unitsInRule m_askStrand m_askTied m_thoughtClaim m_thoughtNeed m_thoughtAll c_roundOf m_acts m_undone m_laid m_firstMove m_seens m_time m_waysNow m_fitting 178 _ from (show okI cy 30 _ from ⟨_, rfl⟩))) hP hD
      have e59 := (hj58 148 (by decide)).trans e50
      refine lv_aload_n hx hb dX9_seen_29 rfl (lv_at hl 0 rfl) ?_
      refine va_get (D := D) (cl := vwCl) (ci := 9) (v := .ref (ad 179)) (C := RX9) (T := TX9) (N := 64) hx hb hts in_X9_seen_X9 hown hK hP 148 (wl_at (by decide) e59) rfl 54 (by decide) (hts (.fieldLink RX9 112 "EightReasonsModel" "sIs" "[I") (List.mem_of_getElem? (i := 3) rfl)) (fun _ h9 => h9) rfl dX9_seen_30 ?_
      refine lv_aload_n hx hb dX9_seen_33 rfl (lv_at hl 0 rfl) ?_
      refine va_get (D := D) (cl := vwCl) (ci := 9) (v := .int m_seens) (C := RX9) (T := TX9) (N := 64) hx hb hts in_X9_seen_X9 hown hK hP 148 (wl_at (by decide) e59) rfl 58 (by decide) (hts (.fieldLink RX9 374 "EightReasonsModel" "seens" "I") (List.mem_of_getElem? (i := 1) rfl)) (fun _ h9 => h9) rfl dX9_seen_34 ?_
      refine lv_iload_n hx hb dX9_seen_37 rfl (lv_at hl 2 rfl) ?_
      have ttl_0 := tl_0
      refine lv_if_eq (tgt := 45) hx hb dX9_seen_38 (by decide) (fun c60 => ?_) (fun c60 => ?_)
      · have kc60 := c_eq c60
        refine lv_iconst (v := 0) hx hb dX9_seen_45 (by decide) ?_
        exact j46 f H locs ls (0 : Int32) (by omega) (by omega) (by omega) (by omega) hT hP hD hS (lv_sub hl [0, 1, 2] rfl)
      · have kc60 := c_ne c60
        refine lv_iconst (v := 1) hx hb dX9_seen_41 (by decide) ?_
        refine lv_goto (tgt := 46) hx hb dX9_seen_42 (by decide) ?_
        have ttl_1 := tl_1
        exact j46 f H locs ls (1 : Int32) (by omega) (by omega) (by omega) (by omega) hT hP hD hS (lv_sub hl [0, 1, 2] rfl)
    · have kc54 := c_eq c54
      refine lv_iconst (v := (-1)) hx hb dX9_seen_17 (by decide) ?_
      have ttl_m1 := tl_m1
      exact tI hx hb hr hlk rfl hP hS ⟨(by omega), ⟨m_seens, hT⟩⟩ dX9_seen_18
  · refine lv_if_eq (tgt := 17) hx hb dX9_seen_5 (by decide) (fun _ => ?_) (fun c => absurd (by decide) c)
    refine lv_iconst (v := (-1)) hx hb dX9_seen_17 (by decide) ?_
    have ttl_m1 := tl_m1
    exact tI hx hb hr hlk rfl hP hS ⟨(by omega), ⟨m_seens, hT⟩⟩ dX9_seen_18
set_option maxHeartbeats 4000000 in
set_option maxRecDepth 100000 in
theorem s_X9_untell_0 (l : Launch) (B0 : Nat) (adK adV : Nat → Nat) (D : va_G) (cy : Nat → ClassId) (ad : Nat → Nat) (fr0 : Nat → va_E) (c_text : Nat → Int32) (m_taped : Int32) (m_size : Int32) (m_faultKind : Int32) (m_faultPlace : Int32) (m_at : Int32) (m_end : Int32) (m_token : Int32) (m_number : Int32) (m_name : Int64) (c_points : Nat → Int32) (c_strands : Nat → Int32) (c_units : Nat → Int32) (c_told : Nat → Int32) (c_ruleFrom : Nat → Int32) (c_ruleTo : Nat → Int32) (c_code : Nat → Int32) (c_eWhat : Nat → Int32) (c_eSign : Nat → Int32) (m_bank : Int32) (m_rb : Int32) (m_codes : Int32) (m_within : Int32) (m_piled : Int32) (m_unitsInRule : Int32) (m_askStrand : Int32) (m_askTied : Int32) (m_thoughtClaim : Int32) (m_thoughtNeed : Int32) (m_thoughtAll : Int32) (c_roundOf : Nat → Int32) (m_acts : Int32) (m_undone : Int32) (m_laid : Int32) (m_firstMove : Int32) (m_seens : Int32) (m_time : Int32) (m_waysNow : Int32) (m_fitting : Int32) (f : Nat → va_E) (hT : TYm ad cy fr0 c_text m_taped m_size m_faultKind m_faultPlace m_at m_end m_token m_number m_name c_points c_strands c_units c_told c_ruleFrom c_ruleTo c_code c_eWhat c_eSign m_bank m_rb m_codes m_within m_piled m_unitsInRule m_askStrand m_askTied m_thoughtClaim m_thoughtNeed m_thoughtAll c_roundOf m_acts m_undone m_laid m_firstMove m_seens m_time m_waysNow m_fitting f) (p1 : Int32) (sz : Nat) : TtI l yX9_untell wsX9_untell 1 22 [.ref (ad 148), .int p1] B0 adK adV D cy ad f sz (fun (r : Int32) (g : Nat → va_E) => ((r = 1) ∨ (r = 0)) ∧ (TYm ad cy fr0 c_text m_taped m_size m_faultKind m_faultPlace m_at m_end m_token m_number m_name c_points c_strands c_units c_told c_ruleFrom c_ruleTo c_code c_eWhat c_eSign m_bank m_rb m_codes m_within m_piled m_unitsInRule m_askStrand m_askTied m_thoughtClaim m_thoughtNeed m_thoughtAll c_roundOf m_acts m_undone m_laid m_firstMove m_seens m_time m_waysNow m_fitting g)) := by
  refine TtI.of (cc := cX9_untell) (maxL := 2) (ty := .boolean) (own := RX9) (by decide) rfl (Nat.le_of_ble_eq_true rfl) rfl ?_
  intro p e s m below meth c A ls hx hb hr hml hts hown hlk hK hE hP hD hS hA hAB hl
  have hl : lv_has ls 2 [(0, .ref (ad 148)), (1, .int p1)] := hl
  refine st0 (fun H locs hP hS => ?_) hP hS
  refine lv_iload_n hx hb dX9_untell_0 rfl (lv_at hl 1 rfl) ?_
  refine lv_iconst (v := 0) hx hb dX9_untell_1 (by decide) ?_
  refine lv_aload_n hx hb dX9_untell_2 rfl (lv_at hl 0 rfl) ?_
  obtain ⟨e16, h1, h2, h3, h4, h5, h6, h7, h8, h9, h10, h11, h12, h13, h14, h15⟩ := (show okX9 ad m_taped m_size m_faultKind m_faultPlace m_at m_end m_token m_number m_name m_bank m_rb m_codes m_within m_piled m_unitsInRule m_askStrand m_askTied m_thoughtClaim m_thoughtNeed m_thoughtAll m_acts m_undone m_laid m_firstMove m_seens m_time m_waysNow m_fitting 148 (f 148) from hT.1 148 (by decide))
  refine va_get (D := D) (cl := vwCl) (ci := 9) (v := .int m_seens) (C := RX9) (T := TX9) (N := 64) hx hb hts in_X9_untell_X9 hown hK hP 148 (wl_at (by decide) e16) rfl 58 (by decide) (hts (.fieldLink RX9 374 "EightReasonsModel" "seens" "I") (List.mem_of_getElem? (i := 1) rfl)) (fun _ h9 => h9) rfl dX9_untell_3 ?_
  refine lv_iconst (v := 1) hx hb dX9_untell_6 (by decide) ?_
  have ttl_1 := tl_1
  refine lv_isub hx hb dX9_untell_7 ?_
  refine lv_topi (fun x17 ex17 => ?_)
  have hx17 := r_sub ex17 (by omega) (by omega)
  have ttl_0 := tl_0
  refine tSI (As := [.int p1, .int 0, .int x17]) (rest := []) ⟨hx, hb, hml, hown, hts⟩ hK hE hP hD hS hA hAB (s_X9_isIn_0 l B0 adK adV D cy ad f p1 (0 : Int32) (by omega) x17 (by omega) _) (va_cwS 3 hts gX9_untell_X9_isIn rfl rfl rfl (by decide +kernel) ⟨Nat.le_of_ble_eq_true rfl, Nat.le_of_ble_eq_true rfl⟩) rfl hl.1 rfl (Nat.le_of_ble_eq_true rfl) dX9_untell_8 ⟨Nat.le_of_ble_eq_true rfl, Nat.le_of_ble_eq_true rfl⟩ (fun r g H locs hw hP hD hS => ?_)
  obtain ⟨hrs, rfl⟩ := hw
  obtain ⟨x18, rfl⟩ : ∃ q, q = r := ⟨_, rfl⟩
  rcases hrs with ⟨rfl, h19, h20⟩ | rfl
  · refine lv_if_eq (tgt := 23) hx hb dX9_untell_11 (by decide) (fun c => absurd c (by decide)) (fun _ => ?_)
    refine lv_aload_n hx hb dX9_untell_14 rfl (lv_at hl 0 rfl) ?_
    refine va_get (D := D) (cl := vwCl) (ci := 9) (v := .ref (ad 181)) (C := RX9) (T := TX9) (N := 64) hx hb hts in_X9_untell_X9 hown hK hP 148 (wl_at (by decide) e16) rfl 56 (by decide) (hts (.fieldLink RX9 118 "EightReasonsModel" "sUntold" "[I") (List.mem_of_getElem? (i := 2) rfl)) (fun _ h9 => h9) rfl dX9_untell_15 ?_
    refine lv_iload_n hx hb dX9_untell_18 rfl (lv_at hl 1 rfl) ?_
    obtain ⟨g22, e21⟩ := (show okI cy 30 (f 181) from hT.1 181 (by decide))
    refine va_iald hx hb hK hP 181 0 (wl_at (by decide) e21) rfl (vp_in_iff.mpr ⟨by omega, by omega⟩) dX9_untell_19 ?_
    refine lv_topi (fun x23 ex23 => ?_)
    refine lv_if_lt (tgt := 25) hx hb dX9_untell_20 (by decide) (fun c24 => ?_) (fun c24 => ?_)
    · have kc24 := c_lt c24
      refine lv_aload_n hx hb dX9_untell_25 rfl (lv_at hl 0 rfl) ?_
      refine va_get (D := D) (cl := vwCl) (ci := 9) (v := .ref (ad 181)) (C := RX9) (T := TX9) (N := 64) hx hb hts in_X9_untell_X9 hown hK hP 148 (wl_at (by decide) e16) rfl 56 (by decide) (hts (.fieldLink RX9 118 "EightReasonsModel" "sUntold" "[I") (List.mem_of_getElem? (i := 2) rfl)) (fun _ h9 => h9) rfl dX9_untell_26 ?_
      refine lv_iload_n hx hb dX9_untell_29 rfl (lv_at hl 1 rfl) ?_
      refine lv_aload_n hx hb dX9_untell_30 rfl (lv_at hl 0 rfl) ?_
      refine va_get (D := D) (cl := vwCl) (ci := 9) (v := .int m_time) (C := RX9) (T := TX9) (N := 64) hx hb hts in_X9_untell_X9 hown hK hP 148 (wl_at (by decide) e16) rfl 59 (by decide) (hts (.fieldLink RX9 488 "EightReasonsModel" "time" "I") (List.mem_of_getElem? (i := 3) rfl)) (fun _ h9 => h9) rfl dX9_untell_31 ?_
      refine va_iast hx hb hK hP hD hS 181 0 (wl_at (by decide) e21) rfl (vp_in_iff.mpr ⟨by omega, by omega⟩) dX9_untell_34 (fun H locs hP hD hS => ?_)
      obtain ⟨f, hT, hP, hD, e25, hj26⟩ := stU (by decide) (TYm.up hT (by decide) (show OKm ad cy c_text m_taped m_size m_faultKind m_faultPlace m_at m_end m_token m_number m_name c_points c_strands c_units c_told c_ruleFrom c_ruleTo c_code c_eWhat c_eSign m_bank m_rb m_codes m_within m_piled m_unitsInRule m_askStrand m_askTied m_thoughtClaim m_thoughtNeed m_thoughtAll c_roundOf m_acts m_undone m_laid m_firstMove m_seens m_time m_waysNow m_fitting 181 _ from (show okI cy 30 _ from ⟨_, rfl⟩))) hP hD
      have e27 := (hj26 148 (by decide)).trans e16
      refine lv_iconst (v := 1) hx hb dX9_untell_35 (by decide) ?_
      exact tI hx hb hr hlk rfl hP hS ⟨(Or.inl rfl), hT⟩ dX9_untell_36
    · have kc24 := c_nlt c24
      refine lv_iconst (v := 0) hx hb dX9_untell_23 (by decide) ?_
      exact tI hx hb hr hlk rfl hP hS ⟨(Or.inr rfl), hT⟩ dX9_untell_24
  · refine lv_if_eq (tgt := 23) hx hb dX9_untell_11 (by decide) (fun _ => ?_) (fun c => absurd (by decide) c)
    refine lv_iconst (v := 0) hx hb dX9_untell_23 (by decide) ?_
    exact tI hx hb hr hlk rfl hP hS ⟨(Or.inr rfl), hT⟩ dX9_untell_24
set_option maxHeartbeats 4000000 in
set_option maxRecDepth 100000 in
theorem s_X9_isIn_1 (l : Launch) (B0 : Nat) (adK adV : Nat → Nat) (D : va_G) (cy : Nat → ClassId) (ad : Nat → Nat) (f : Nat → va_E) (p0 : Int32) (p1 : Int32) (hp1 : 0 ≤ p1.toInt ∧ p1.toInt ≤ 0) (p2 : Int32) (hp2 : 1 ≤ p2.toInt ∧ p2.toInt ≤ 1000) (sz : Nat) : TtI l yX9_isIn wsX9_isIn 0 0 [.int p0, .int p1, .int p2] B0 adK adV D cy ad f sz (fun (r : Int32) (g : Nat → va_E) => ((r = 1 ∧ p1.toInt ≤ p0.toInt ∧ p0.toInt ≤ p2.toInt) ∨ (r = 0 ∧ (p0.toInt < p1.toInt ∨ p2.toInt < p0.toInt))) ∧ (f = g)) := by
  refine TtI.of (cc := cX9_isIn) (maxL := 3) (ty := .boolean) (own := RX9) (by decide) rfl (Nat.le_of_ble_eq_true rfl) rfl ?_
  intro p e s m below meth c A ls hx hb hr hml hts hown hlk hK hE hP hD hS hA hAB hl
  have hl : lv_has ls 3 [(0, .int p0), (1, .int p1), (2, .int p2)] := hl
  refine st0 (fun H locs hP hS => ?_) hP hS
  refine lv_iload_n hx hb dX9_isIn_0 rfl (lv_at hl 0 rfl) ?_
  refine lv_iload_n hx hb dX9_isIn_1 rfl (lv_at hl 1 rfl) ?_
  refine lv_icmp_lt (tgt := 14) hx hb dX9_isIn_2 (by decide) (fun c1 => ?_) (fun c1 => ?_)
  · have kc1 := c_lt c1
    refine lv_iconst (v := 0) hx hb dX9_isIn_14 (by decide) ?_
    have ttl_0 := tl_0
    exact tI hx hb hr hlk rfl hP hS ⟨(Or.inr ⟨rfl, by omega⟩), rfl⟩ dX9_isIn_15
  · have kc1 := c_nlt c1
    refine lv_iload_n hx hb dX9_isIn_5 rfl (lv_at hl 0 rfl) ?_
    refine lv_iload_n hx hb dX9_isIn_6 rfl (lv_at hl 2 rfl) ?_
    refine lv_icmp_gt (tgt := 14) hx hb dX9_isIn_7 (by decide) (fun c2 => ?_) (fun c2 => ?_)
    · have kc2 := c_lt c2
      refine lv_iconst (v := 0) hx hb dX9_isIn_14 (by decide) ?_
      have ttl_0 := tl_0
      exact tI hx hb hr hlk rfl hP hS ⟨(Or.inr ⟨rfl, by omega⟩), rfl⟩ dX9_isIn_15
    · have kc2 := c_nlt c2
      refine lv_iconst (v := 1) hx hb dX9_isIn_10 (by decide) ?_
      refine lv_goto (tgt := 15) hx hb dX9_isIn_11 (by decide) ?_
      have ttl_1 := tl_1
      exact tI hx hb hr hlk rfl hP hS ⟨(Or.inl ⟨rfl, by omega, by omega⟩), rfl⟩ dX9_isIn_15
set_option maxHeartbeats 4000000 in
set_option maxRecDepth 100000 in
theorem s_X9_later_0 (l : Launch) (B0 : Nat) (adK adV : Nat → Nat) (D : va_G) (cy : Nat → ClassId) (ad : Nat → Nat) (fr0 : Nat → va_E) (c_text : Nat → Int32) (m_taped : Int32) (m_size : Int32) (m_faultKind : Int32) (m_faultPlace : Int32) (m_at : Int32) (m_end : Int32) (m_token : Int32) (m_number : Int32) (m_name : Int64) (c_points : Nat → Int32) (c_strands : Nat → Int32) (c_units : Nat → Int32) (c_told : Nat → Int32) (c_ruleFrom : Nat → Int32) (c_ruleTo : Nat → Int32) (c_code : Nat → Int32) (c_eWhat : Nat → Int32) (c_eSign : Nat → Int32) (m_bank : Int32) (m_rb : Int32) (m_codes : Int32) (m_within : Int32) (m_piled : Int32) (m_unitsInRule : Int32) (m_askStrand : Int32) (m_askTied : Int32) (m_thoughtClaim : Int32) (m_thoughtNeed : Int32) (m_thoughtAll : Int32) (c_roundOf : Nat → Int32) (m_acts : Int32) (m_undone : Int32) (m_laid : Int32) (m_firstMove : Int32) (m_seens : Int32) (m_time : Int32) (m_waysNow : Int32) (m_fitting : Int32) (f : Nat → va_E) (hT : TYm ad cy fr0 c_text m_taped m_size m_faultKind m_faultPlace m_at m_end m_token m_number m_name c_points c_strands c_units c_told c_ruleFrom c_ruleTo c_code c_eWhat c_eSign m_bank m_rb m_codes m_within m_piled m_unitsInRule m_askStrand m_askTied m_thoughtClaim m_thoughtNeed m_thoughtAll c_roundOf m_acts m_undone m_laid m_firstMove m_seens m_time m_waysNow m_fitting f) (p1 : Int32) (hph_m_time : 0 ≤ m_time.toInt ∧ m_time.toInt ≤ 100000) (sz : Nat) : TtI l yX9_later wsX9_later 1 22 [.ref (ad 148), .int p1] B0 adK adV D cy ad f sz (fun (r : Int32) (g : Nat → va_E) => (-1 ≤ r.toInt ∧ r.toInt ≤ 101000) ∧ (∃ (m_time' : Int32), TYm ad cy fr0 c_text m_taped m_size m_faultKind m_faultPlace m_at m_end m_token m_number m_name c_points c_strands c_units c_told c_ruleFrom c_ruleTo c_code c_eWhat c_eSign m_bank m_rb m_codes m_within m_piled m_unitsInRule m_askStrand m_askTied m_thoughtClaim m_thoughtNeed m_thoughtAll c_roundOf m_acts m_undone m_laid m_firstMove m_seens m_time' m_waysNow m_fitting g ∧ (0 ≤ m_time'.toInt ∧ m_time'.toInt ≤ 101000) ∧ ((r.toInt = -1 ∧ m_time'.toInt = m_time.toInt ∧ (p1.toInt < 0 ∨ 1000 < p1.toInt ∨ 100000 < m_time.toInt + p1.toInt)) ∨ (r.toInt = m_time'.toInt ∧ m_time'.toInt = m_time.toInt + p1.toInt ∧ 0 ≤ p1.toInt ∧ p1.toInt ≤ 1000 ∧ m_time.toInt + p1.toInt ≤ 100000)))) := by
  refine TtI.of (cc := cX9_later) (maxL := 2) (ty := .int) (own := RX9) (by decide) rfl (Nat.le_of_ble_eq_true rfl) rfl ?_
  intro p e s m below meth c A ls hx hb hr hml hts hown hlk hK hE hP hD hS hA hAB hl
  have hl : lv_has ls 2 [(0, .ref (ad 148)), (1, .int p1)] := hl
  refine st0 (fun H locs hP hS => ?_) hP hS
  refine lv_iload_n hx hb dX9_later_0 rfl (lv_at hl 1 rfl) ?_
  refine lv_iconst (v := 0) hx hb dX9_later_1 (by decide) ?_
  refine lv_sipush (v := 1000) hx hb dX9_later_2 (by decide) ?_
  have ttl_0 := tl_0
  have ttl_1000 := tl_1000
  refine tSI (As := [.int p1, .int 0, .int 1000]) (rest := []) ⟨hx, hb, hml, hown, hts⟩ hK hE hP hD hS hA hAB (s_X9_isIn_1 l B0 adK adV D cy ad f p1 (0 : Int32) (by omega) (1000 : Int32) (by omega) _) (va_cwS 3 hts gX9_later_X9_isIn rfl rfl rfl (by decide +kernel) ⟨Nat.le_of_ble_eq_true rfl, Nat.le_of_ble_eq_true rfl⟩) rfl hl.1 rfl (Nat.le_of_ble_eq_true rfl) dX9_later_5 ⟨Nat.le_of_ble_eq_true rfl, Nat.le_of_ble_eq_true rfl⟩ (fun r g H locs hw hP hD hS => ?_)
  obtain ⟨hrs, rfl⟩ := hw
  obtain ⟨x1, rfl⟩ : ∃ q, q = r := ⟨_, rfl⟩
  rcases hrs with ⟨rfl, h2, h3⟩ | ⟨rfl, h4⟩
  · refine lv_if_eq (tgt := 23) hx hb dX9_later_8 (by decide) (fun c => absurd c (by decide)) (fun _ => ?_)
    refine lv_aload_n hx hb dX9_later_11 rfl (lv_at hl 0 rfl) ?_
    obtain ⟨e20, h5, h6, h7, h8, h9, h10, h11, h12, h13, h14, h15, h16, h17, h18, h19⟩ := (show okX9 ad m_taped m_size m_faultKind m_faultPlace m_at m_end m_token m_number m_name m_bank m_rb m_codes m_within m_piled m_unitsInRule m_askStrand m_askTied m_thoughtClaim m_thoughtNeed m_thoughtAll m_acts m_undone m_laid m_firstMove m_seens m_time m_waysNow m_fitting 148 (f 148) from hT.1 148 (by decide))
    refine va_get (D := D) (cl := vwCl) (ci := 9) (v := .int m_time) (C := RX9) (T := TX9) (N := 64) hx hb hts in_X9_later_X9 hown hK hP 148 (wl_at (by decide) e20) rfl 59 (by decide) (hts (.fieldLink RX9 488 "EightReasonsModel" "time" "I") (List.mem_of_getElem? (i := 1) rfl)) (fun _ h9 => h9) rfl dX9_later_12 ?_
    refine lv_iload_n hx hb dX9_later_15 rfl (lv_at hl 1 rfl) ?_
    refine lv_iadd hx hb dX9_later_16 ?_
    refine lv_topi (fun x21 ex21 => ?_)
    have hx21 := r_add ex21 (by omega) (by omega)
    refine lv_ldcw (v := 100000) hx hb hown (hts (.constant RX9 457 (100000)) (List.mem_of_getElem? (i := 2) rfl)) dX9_later_17 ?_
    have ttl_100000 := tl_100000
    refine lv_icmp_le (tgt := 25) hx hb dX9_later_20 (by decide) (fun c22 => ?_) (fun c22 => ?_)
    · have kc22 := c_le c22
      refine lv_aload_n hx hb dX9_later_25 rfl (lv_at hl 0 rfl) ?_
      refine lv_dup hx hb dX9_later_26 rfl ?_
      refine va_get (D := D) (cl := vwCl) (ci := 9) (v := .int m_time) (C := RX9) (T := TX9) (N := 64) hx hb hts in_X9_later_X9 hown hK hP 148 (wl_at (by decide) e20) rfl 59 (by decide) (hts (.fieldLink RX9 488 "EightReasonsModel" "time" "I") (List.mem_of_getElem? (i := 1) rfl)) (fun _ h9 => h9) rfl dX9_later_27 ?_
      refine lv_iload_n hx hb dX9_later_30 rfl (lv_at hl 1 rfl) ?_
      refine lv_iadd hx hb dX9_later_31 ?_
      refine lv_topi (fun x23 ex23 => ?_)
      have hx23 := r_add ex23 (by omega) (by omega)
      refine va_put (D := D) (cl := vwCl) (ci := 9) (v := .int x23) (ty := tyX9 59) (C := RX9) (T := TX9) (N := 64) hx hb hts in_X9_later_X9 tyX9 tyX9_ok nmX9 hown hK hP hD hS 148 (wl_at (by decide) e20) rfl 59 (by decide) (hts (.fieldLink RX9 488 "EightReasonsModel" "time" "I") (List.mem_of_getElem? (i := 1) rfl)) (fun _ h9 => h9) rfl (tyX9_ok 59 (by decide)) rfl rfl (Nat.le_of_ble_eq_true rfl) dX9_later_32 (fun H locs hP hD hS => ?_)
      obtain ⟨f, hT, hP, hD, e24, hj25⟩ := stU (by decide) (TYm.p148 hT (show OKm ad cy c_text m_taped m_size m_faultKind m_faultPlace m_at m_end m_token m_number m_name c_points c_strands c_units c_told c_ruleFrom c_ruleTo c_code c_eWhat c_eSign m_bank m_rb m_codes m_within m_piled m_unitsInRule m_askStrand m_askTied m_thoughtClaim m_thoughtNeed m_thoughtAll c_roundOf m_acts m_undone m_laid m_firstMove m_seens x23 m_waysNow m_fitting 148 _ from (show okX9 ad m_taped m_size m_faultKind m_faultPlace m_at m_end m_token m_number m_name m_bank m_rb m_codes m_within m_piled m_unitsInRule m_askStrand m_askTied m_thoughtClaim m_thoughtNeed m_thoughtAll m_acts m_undone m_laid m_firstMove m_seens x23 m_waysNow m_fitting 148 _ from ⟨rfl, by omega, by omega, by omega, by omega, by omega, by omega, by omega, by omega, by omega, by omega, by omega, by omega, by omega, by omega, by omega⟩))) hP hD
      refine lv_aload_n hx hb dX9_later_35 rfl (lv_at hl 0 rfl) ?_
      refine va_get (D := D) (cl := vwCl) (ci := 9) (v := .int x23) (C := RX9) (T := TX9) (N := 64) hx hb hts in_X9_later_X9 hown hK hP 148 (wl_at (by decide) e24) rfl 59 (by decide) (hts (.fieldLink RX9 488 "EightReasonsModel" "time" "I") (List.mem_of_getElem? (i := 1) rfl)) (fun _ h9 => h9) rfl dX9_later_36 ?_
      exact tI hx hb hr hlk rfl hP hS ⟨(by omega), ⟨x23, hT, by omega, by omega⟩⟩ dX9_later_39
    · have kc22 := c_nle c22
      refine lv_iconst (v := (-1)) hx hb dX9_later_23 (by decide) ?_
      have ttl_m1 := tl_m1
      exact tI hx hb hr hlk rfl hP hS ⟨(by omega), ⟨m_time, hT, by omega, by omega⟩⟩ dX9_later_24
  · refine lv_if_eq (tgt := 23) hx hb dX9_later_8 (by decide) (fun _ => ?_) (fun c => absurd (by decide) c)
    refine lv_iconst (v := (-1)) hx hb dX9_later_23 (by decide) ?_
    have ttl_m1 := tl_m1
    exact tI hx hb hr hlk rfl hP hS ⟨(by omega), ⟨m_time, hT, by omega, by omega⟩⟩ dX9_later_24
set_option maxHeartbeats 4000000 in
set_option maxRecDepth 100000 in
theorem s_X9_doesFit_0 (l : Launch) (B0 : Nat) (adK adV : Nat → Nat) (D : va_G) (cy : Nat → ClassId) (ad : Nat → Nat) (fr0 : Nat → va_E) (c_text : Nat → Int32) (m_taped : Int32) (m_size : Int32) (m_faultKind : Int32) (m_faultPlace : Int32) (m_at : Int32) (m_end : Int32) (m_token : Int32) (m_number : Int32) (m_name : Int64) (c_points : Nat → Int32) (c_strands : Nat → Int32) (c_units : Nat → Int32) (c_told : Nat → Int32) (c_ruleFrom : Nat → Int32) (c_ruleTo : Nat → Int32) (c_code : Nat → Int32) (c_eWhat : Nat → Int32) (c_eSign : Nat → Int32) (m_bank : Int32) (m_rb : Int32) (m_codes : Int32) (m_within : Int32) (m_piled : Int32) (m_unitsInRule : Int32) (m_askStrand : Int32) (m_askTied : Int32) (m_thoughtClaim : Int32) (m_thoughtNeed : Int32) (m_thoughtAll : Int32) (c_roundOf : Nat → Int32) (m_acts : Int32) (m_undone : Int32) (m_laid : Int32) (m_firstMove : Int32) (m_seens : Int32) (m_time : Int32) (m_waysNow : Int32) (m_fitting : Int32) (f : Nat → va_E) (hT : TYm ad cy fr0 c_text m_taped m_size m_faultKind m_faultPlace m_at m_end m_token m_number m_name c_points c_strands c_units c_told c_ruleFrom c_ruleTo c_code c_eWhat c_eSign m_bank m_rb m_codes m_within m_piled m_unitsInRule m_askStrand m_askTied m_thoughtClaim m_thoughtNeed m_thoughtAll c_roundOf m_acts m_undone m_laid m_firstMove m_seens m_time m_waysNow m_fitting f) (p1 : Int32) (hp1 : 0 ≤ p1.toInt ∧ p1.toInt ≤ 78) (p2 : Int32) (sz : Nat) : TtI l yX9_doesFit wsX9_doesFit 0 0 [.ref (ad 148), .int p1, .int p2] B0 adK adV D cy ad f sz (fun (r : Int32) (g : Nat → va_E) => ((r = 1) ∨ (r = 0)) ∧ (f = g)) := by
  refine TtI.of (cc := cX9_doesFit) (maxL := 4) (ty := .boolean) (own := RX9) (by decide) rfl (Nat.le_of_ble_eq_true rfl) rfl ?_
  intro p e s m below meth c A ls hx hb hr hml hts hown hlk hK hE hP hD hS hA hAB hl
  have hl : lv_has ls 4 [(0, .ref (ad 148)), (1, .int p1), (2, .int p2)] := hl
  refine st0 (fun H locs hP hS => ?_) hP hS
  have j2 : ∀ (N : Nat) (H : Heap) (locs : List Loc) (ls : Array Slot) (v2_l3 : Int32), (31 - v2_l3.toInt ≤ (N : Int)) → (0 ≤ v2_l3.toInt ∧ v2_l3.toInt ≤ 30) → (0 ≤ p1.toInt ∧ p1.toInt ≤ 78) → (va_P D vwCl (wl ad f) H) → (va_D A (wl ad f)) → (va_S A s.heap H locs) → (lv_has ls 4 [(3, .int v2_l3), (0, .ref (ad 148)), (1, .int p1), (2, .int p2)]) → W p l e (rmO 0 0 0 0) s m ([.ref (ad 148), .int p1, .int p2] : List Value).toArray below meth c H locs 0 0 (MQ below (va_Qi (fun (r : Int32) (g : Nat → va_E) => ((r = 1) ∨ (r = 0)) ∧ (f = g)) (fun g t => PstT D ad g t) A) ([.ref (ad 148), .int p1, .int p2] : List Value).toArray s 0 0 A) (F0 m 2 ls []) := by
    intro N
    induction N with
    | zero => intro H locs ls v2_l3 hN hv2_l3 hv2_l1 hP hD hS hl; exact absurd hN (by omega)
    | succ N ih2 =>
      intro H locs ls v2_l3 hN hv2_l3 hv2_l1 hP hD hS hl
      have j68 : ∀ (H : Heap) (locs : List Loc) (ls : Array Slot), (0 ≤ v2_l3.toInt ∧ v2_l3.toInt ≤ 29) → (0 ≤ p1.toInt ∧ p1.toInt ≤ 78) → (1 ≤ m_seens.toInt ∧ m_seens.toInt ≤ 30) → (va_P D vwCl (wl ad f) H) → (va_D A (wl ad f)) → (va_S A s.heap H locs) → (lv_has ls 4 [(3, .int v2_l3), (0, .ref (ad 148)), (1, .int p1), (2, .int p2)]) → W p l e (rmO 0 0 0 0) s m ([.ref (ad 148), .int p1, .int p2] : List Value).toArray below meth c H locs 0 0 (MQ below (va_Qi (fun (r : Int32) (g : Nat → va_E) => ((r = 1) ∨ (r = 0)) ∧ (f = g)) (fun g t => PstT D ad g t) A) ([.ref (ad 148), .int p1, .int p2] : List Value).toArray s 0 0 A) (F0 m 68 ls []) := by
        intro H locs ls hv68_l3 hv68_l1 hv68_p_m_seens hP hD hS hl
        obtain ⟨x1, ex1⟩ : ∃ q : Int32, q = v2_l3 + Int32.ofInt (1) := ⟨_, rfl⟩
        refine lv_iinc (v := x1) (lv' := [(3, .int x1), (0, .ref (ad 148)), (1, .int p1), (2, .int p2)]) hx hb dX9_doesFit_68 hl (k := 0) rfl ex1.symm (by decide) rfl (fun ls hl => ?_)
        have hx1 := r_inc ex1 (by decide) (by omega) (by omega)
        refine lv_goto (tgt := 2) hx hb dX9_doesFit_71 (by decide) ?_
        exact ih2 H locs ls x1 (by omega) (by omega) (by omega) hP hD hS (lv_sub hl [0, 1, 2, 3] rfl)
      have j42 : ∀ (H : Heap) (locs : List Loc) (ls : Array Slot), (0 ≤ v2_l3.toInt ∧ v2_l3.toInt ≤ 29) → (0 ≤ p1.toInt ∧ p1.toInt ≤ 78) → (1 ≤ m_seens.toInt ∧ m_seens.toInt ≤ 30) → (va_P D vwCl (wl ad f) H) → (va_D A (wl ad f)) → (va_S A s.heap H locs) → (lv_has ls 4 [(3, .int v2_l3), (0, .ref (ad 148)), (1, .int p1), (2, .int p2)]) → W p l e (rmO 0 0 0 0) s m ([.ref (ad 148), .int p1, .int p2] : List Value).toArray below meth c H locs 0 0 (MQ below (va_Qi (fun (r : Int32) (g : Nat → va_E) => ((r = 1) ∨ (r = 0)) ∧ (f = g)) (fun g t => PstT D ad g t) A) ([.ref (ad 148), .int p1, .int p2] : List Value).toArray s 0 0 A) (F0 m 42 ls []) := by
        intro H locs ls hv42_l3 hv42_l1 hv42_p_m_seens hP hD hS hl
        refine lv_aload_n hx hb dX9_doesFit_42 rfl (lv_at hl 1 rfl) ?_
        obtain ⟨e17, h2, h3, h4, h5, h6, h7, h8, h9, h10, h11, h12, h13, h14, h15, h16⟩ := (show okX9 ad m_taped m_size m_faultKind m_faultPlace m_at m_end m_token m_number m_name m_bank m_rb m_codes m_within m_piled m_unitsInRule m_askStrand m_askTied m_thoughtClaim m_thoughtNeed m_thoughtAll m_acts m_undone m_laid m_firstMove m_seens m_time m_waysNow m_fitting 148 (f 148) from hT.1 148 (by decide))
        refine va_get (D := D) (cl := vwCl) (ci := 9) (v := .ref (ad 177)) (C := RX9) (T := TX9) (N := 64) hx hb hts in_X9_doesFit_X9 hown hK hP 148 (wl_at (by decide) e17) rfl 52 (by decide) (hts (.fieldLink RX9 106 "EightReasonsModel" "stoodIn" "[I") (List.mem_of_getElem? (i := 4) rfl)) (fun _ h9 => h9) rfl dX9_doesFit_43 ?_
        refine lv_iload_n hx hb dX9_doesFit_46 rfl (lv_at hl 2 rfl) ?_
        obtain ⟨g19, e18⟩ := (show okI cy 79 (f 177) from hT.1 177 (by decide))
        refine va_iald hx hb hK hP 177 0 (wl_at (by decide) e18) rfl (vp_in_iff.mpr ⟨by omega, by omega⟩) dX9_doesFit_47 ?_
        refine lv_topi (fun x20 ex20 => ?_)
        refine lv_aload_n hx hb dX9_doesFit_48 rfl (lv_at hl 1 rfl) ?_
        refine va_get (D := D) (cl := vwCl) (ci := 9) (v := .ref (ad 178)) (C := RX9) (T := TX9) (N := 64) hx hb hts in_X9_doesFit_X9 hown hK hP 148 (wl_at (by decide) e17) rfl 53 (by decide) (hts (.fieldLink RX9 109 "EightReasonsModel" "sClaim" "[I") (List.mem_of_getElem? (i := 5) rfl)) (fun _ h9 => h9) rfl dX9_doesFit_49 ?_
        refine lv_iload_n hx hb dX9_doesFit_52 rfl (lv_at hl 0 rfl) ?_
        obtain ⟨g22, e21⟩ := (show okI cy 30 (f 178) from hT.1 178 (by decide))
        refine va_iald hx hb hK hP 178 0 (wl_at (by decide) e21) rfl (vp_in_iff.mpr ⟨by omega, by omega⟩) dX9_doesFit_53 ?_
        refine lv_topi (fun x23 ex23 => ?_)
        refine lv_ishr hx hb dX9_doesFit_54 ?_
        refine lv_topi (fun x24 ex24 => ?_)
        refine lv_iconst (v := 1) hx hb dX9_doesFit_55 (by decide) ?_
        have ttl_1 := tl_1
        refine lv_iand hx hb dX9_doesFit_56 ?_
        refine lv_topi (fun x25 ex25 => ?_)
        have hx25 := r_andr ex25 (by omega)
        refine lv_aload_n hx hb dX9_doesFit_57 rfl (lv_at hl 1 rfl) ?_
        refine va_get (D := D) (cl := vwCl) (ci := 9) (v := .ref (ad 179)) (C := RX9) (T := TX9) (N := 64) hx hb hts in_X9_doesFit_X9 hown hK hP 148 (wl_at (by decide) e17) rfl 54 (by decide) (hts (.fieldLink RX9 112 "EightReasonsModel" "sIs" "[I") (List.mem_of_getElem? (i := 6) rfl)) (fun _ h9 => h9) rfl dX9_doesFit_58 ?_
        refine lv_iload_n hx hb dX9_doesFit_61 rfl (lv_at hl 0 rfl) ?_
        obtain ⟨g27, e26⟩ := (show okI cy 30 (f 179) from hT.1 179 (by decide))
        refine va_iald hx hb hK hP 179 0 (wl_at (by decide) e26) rfl (vp_in_iff.mpr ⟨by omega, by omega⟩) dX9_doesFit_62 ?_
        refine lv_topi (fun x28 ex28 => ?_)
        refine lv_icmp_eq (tgt := 68) hx hb dX9_doesFit_63 (by decide) (fun c29 => ?_) (fun c29 => ?_)
        · have kc29 := c_eq c29
          exact j68 H locs ls (by omega) (by omega) (by omega) hP hD hS (lv_sub hl [0, 1, 2, 3] rfl)
        · have kc29 := c_ne c29
          refine lv_iconst (v := 0) hx hb dX9_doesFit_66 (by decide) ?_
          have ttl_0 := tl_0
          exact tI hx hb hr hlk rfl hP hS ⟨(Or.inr rfl), rfl⟩ dX9_doesFit_67
      refine lv_iload_n hx hb dX9_doesFit_2 rfl (lv_at hl 0 rfl) ?_
      refine lv_aload_n hx hb dX9_doesFit_3 rfl (lv_at hl 1 rfl) ?_
      obtain ⟨e45, h30, h31, h32, h33, h34, h35, h36, h37, h38, h39, h40, h41, h42, h43, h44⟩ := (show okX9 ad m_taped m_size m_faultKind m_faultPlace m_at m_end m_token m_number m_name m_bank m_rb m_codes m_within m_piled m_unitsInRule m_askStrand m_askTied m_thoughtClaim m_thoughtNeed m_thoughtAll m_acts m_undone m_laid m_firstMove m_seens m_time m_waysNow m_fitting 148 (f 148) from hT.1 148 (by decide))
      refine va_get (D := D) (cl := vwCl) (ci := 9) (v := .int m_seens) (C := RX9) (T := TX9) (N := 64) hx hb hts in_X9_doesFit_X9 hown hK hP 148 (wl_at (by decide) e45) rfl 58 (by decide) (hts (.fieldLink RX9 374 "EightReasonsModel" "seens" "I") (List.mem_of_getElem? (i := 1) rfl)) (fun _ h9 => h9) rfl dX9_doesFit_4 ?_
      refine lv_icmp_ge (tgt := 74) hx hb dX9_doesFit_7 (by decide) (fun c46 => ?_) (fun c46 => ?_)
      · have kc46 := c_le c46
        refine lv_iconst (v := 1) hx hb dX9_doesFit_74 (by decide) ?_
        have ttl_1 := tl_1
        exact tI hx hb hr hlk rfl hP hS ⟨(Or.inl rfl), rfl⟩ dX9_doesFit_75
      · have kc46 := c_nle c46
        refine lv_aload_n hx hb dX9_doesFit_10 rfl (lv_at hl 1 rfl) ?_
        refine va_get (D := D) (cl := vwCl) (ci := 9) (v := .ref (ad 180)) (C := RX9) (T := TX9) (N := 64) hx hb hts in_X9_doesFit_X9 hown hK hP 148 (wl_at (by decide) e45) rfl 55 (by decide) (hts (.fieldLink RX9 115 "EightReasonsModel" "sTold" "[I") (List.mem_of_getElem? (i := 2) rfl)) (fun _ h9 => h9) rfl dX9_doesFit_11 ?_
        refine lv_iload_n hx hb dX9_doesFit_14 rfl (lv_at hl 0 rfl) ?_
        obtain ⟨g48, e47⟩ := (show okI cy 30 (f 180) from hT.1 180 (by decide))
        refine va_iald hx hb hK hP 180 0 (wl_at (by decide) e47) rfl (vp_in_iff.mpr ⟨by omega, by omega⟩) dX9_doesFit_15 ?_
        refine lv_topi (fun x49 ex49 => ?_)
        refine lv_iload_n hx hb dX9_doesFit_16 rfl (lv_at hl 3 rfl) ?_
        refine lv_icmp_gt (tgt := 68) hx hb dX9_doesFit_17 (by decide) (fun c50 => ?_) (fun c50 => ?_)
        · have kc50 := c_lt c50
          exact j68 H locs ls (by omega) (by omega) (by omega) hP hD hS (lv_sub hl [0, 1, 2, 3] rfl)
        · have kc50 := c_nlt c50
          refine lv_aload_n hx hb dX9_doesFit_20 rfl (lv_at hl 1 rfl) ?_
          refine va_get (D := D) (cl := vwCl) (ci := 9) (v := .ref (ad 181)) (C := RX9) (T := TX9) (N := 64) hx hb hts in_X9_doesFit_X9 hown hK hP 148 (wl_at (by decide) e45) rfl 56 (by decide) (hts (.fieldLink RX9 118 "EightReasonsModel" "sUntold" "[I") (List.mem_of_getElem? (i := 3) rfl)) (fun _ h9 => h9) rfl dX9_doesFit_21 ?_
          refine lv_iload_n hx hb dX9_doesFit_24 rfl (lv_at hl 0 rfl) ?_
          obtain ⟨g52, e51⟩ := (show okI cy 30 (f 181) from hT.1 181 (by decide))
          refine va_iald hx hb hK hP 181 0 (wl_at (by decide) e51) rfl (vp_in_iff.mpr ⟨by omega, by omega⟩) dX9_doesFit_25 ?_
          refine lv_topi (fun x53 ex53 => ?_)
          have ttl_0 := tl_0
          refine lv_if_lt (tgt := 42) hx hb dX9_doesFit_26 (by decide) (fun c54 => ?_) (fun c54 => ?_)
          · have kc54 := c_lt c54
            exact j42 H locs ls (by omega) (by omega) (by omega) hP hD hS (lv_sub hl [0, 1, 2, 3] rfl)
          · have kc54 := c_nlt c54
            refine lv_aload_n hx hb dX9_doesFit_29 rfl (lv_at hl 1 rfl) ?_
            refine va_get (D := D) (cl := vwCl) (ci := 9) (v := .ref (ad 181)) (C := RX9) (T := TX9) (N := 64) hx hb hts in_X9_doesFit_X9 hown hK hP 148 (wl_at (by decide) e45) rfl 56 (by decide) (hts (.fieldLink RX9 118 "EightReasonsModel" "sUntold" "[I") (List.mem_of_getElem? (i := 3) rfl)) (fun _ h9 => h9) rfl dX9_doesFit_30 ?_
            refine lv_iload_n hx hb dX9_doesFit_33 rfl (lv_at hl 0 rfl) ?_
            refine va_iald hx hb hK hP 181 0 (wl_at (by decide) e51) rfl (vp_in_iff.mpr ⟨by omega, by omega⟩) dX9_doesFit_34 ?_
            refine lv_topi (fun x55 ex55 => ?_)
            refine lv_iload_n hx hb dX9_doesFit_35 rfl (lv_at hl 3 rfl) ?_
            refine lv_icmp_gt (tgt := 42) hx hb dX9_doesFit_36 (by decide) (fun c56 => ?_) (fun c56 => ?_)
            · have kc56 := c_lt c56
              exact j42 H locs ls (by omega) (by omega) (by omega) hP hD hS (lv_sub hl [0, 1, 2, 3] rfl)
            · have kc56 := c_nlt c56
              refine lv_goto (tgt := 68) hx hb dX9_doesFit_39 (by decide) ?_
              exact j68 H locs ls (by omega) (by omega) (by omega) hP hD hS (lv_sub hl [0, 1, 2, 3] rfl)
  refine lv_iconst (v := 0) hx hb dX9_doesFit_0 (by decide) ?_
  refine lv_istore_n (lv' := [(3, .int 0), (0, .ref (ad 148)), (1, .int p1), (2, .int p2)]) hx hb dX9_doesFit_1 rfl hl (by decide) rfl (fun ls hl => ?_)
  have ttl_0 := tl_0
  exact j2 (Int.toNat (31 - (0 : Int32).toInt)) H locs ls (0 : Int32) (by omega) (by omega) (by omega) hP hD hS (lv_sub hl [0, 1, 2, 3] rfl)
set_option maxHeartbeats 4000000 in
set_option maxRecDepth 100000 in
theorem s_X9_layWays_0 (l : Launch) (B0 : Nat) (adK adV : Nat → Nat) (D : va_G) (cy : Nat → ClassId) (ad : Nat → Nat) (fr0 : Nat → va_E) (c_text : Nat → Int32) (m_taped : Int32) (m_size : Int32) (m_faultKind : Int32) (m_faultPlace : Int32) (m_at : Int32) (m_end : Int32) (m_token : Int32) (m_number : Int32) (m_name : Int64) (c_points : Nat → Int32) (c_strands : Nat → Int32) (c_units : Nat → Int32) (c_told : Nat → Int32) (c_ruleFrom : Nat → Int32) (c_ruleTo : Nat → Int32) (c_code : Nat → Int32) (c_eWhat : Nat → Int32) (c_eSign : Nat → Int32) (m_bank : Int32) (m_rb : Int32) (m_codes : Int32) (m_within : Int32) (m_piled : Int32) (m_unitsInRule : Int32) (m_askStrand : Int32) (m_askTied : Int32) (m_thoughtClaim : Int32) (m_thoughtNeed : Int32) (m_thoughtAll : Int32) (c_roundOf : Nat → Int32) (m_acts : Int32) (m_undone : Int32) (m_laid : Int32) (m_firstMove : Int32) (m_seens : Int32) (m_time : Int32) (m_waysNow : Int32) (m_fitting : Int32) (f : Nat → va_E) (hT : TYm ad cy fr0 c_text m_taped m_size m_faultKind m_faultPlace m_at m_end m_token m_number m_name c_points c_strands c_units c_told c_ruleFrom c_ruleTo c_code c_eWhat c_eSign m_bank m_rb m_codes m_within m_piled m_unitsInRule m_askStrand m_askTied m_thoughtClaim m_thoughtNeed m_thoughtAll c_roundOf m_acts m_undone m_laid m_firstMove m_seens m_time m_waysNow m_fitting f) (p1 : Int32) (hCV : CVp c_told c_ruleFrom c_ruleTo c_code m_bank) (sz : Nat) : TtV l yX9_layWays wsX9_layWays 6 138 [.ref (ad 148), .int p1] B0 adK adV D cy ad f sz (fun (g : Nat → va_E) => True ∧ (∃ (m_askStrand' : Int32) (m_askTied' : Int32) (c_roundOf' : Nat → Int32) (m_waysNow' : Int32) (m_fitting' : Int32), TYm ad cy fr0 c_text m_taped m_size m_faultKind m_faultPlace m_at m_end m_token m_number m_name c_points c_strands c_units c_told c_ruleFrom c_ruleTo c_code c_eWhat c_eSign m_bank m_rb m_codes m_within m_piled m_unitsInRule m_askStrand' m_askTied' m_thoughtClaim m_thoughtNeed m_thoughtAll c_roundOf' m_acts m_undone m_laid m_firstMove m_seens m_time m_waysNow' m_fitting' g)) := by
  refine TtV.of (cc := cX9_layWays) (maxL := 3) (own := RX9) (by decide) rfl (Nat.le_of_ble_eq_true rfl) rfl ?_
  intro p e s m below meth c A ls hx hb hr hml hts hown hlk hK hE hP hD hS hA hAB hl
  have hl : lv_has ls 3 [(0, .ref (ad 148)), (1, .int p1)] := hl
  refine st0 (fun H locs hP hS => ?_) hP hS
  have j20 : ∀ (N : Nat) (f : Nat → va_E) (H : Heap) (locs : List Loc) (ls : Array Slot) (v20_l2 : Int32) (v20_p_m_askStrand : Int32) (v20_p_m_askTied : Int32) (v20_p_c_roundOf : Nat → Int32) (v20_p_m_waysNow : Int32) (v20_p_m_fitting : Int32), (4097 - v20_l2.toInt ≤ (N : Int)) → (0 ≤ v20_l2.toInt ∧ v20_l2.toInt ≤ 4096) → (v20_p_m_waysNow.toInt ≤ cwF v20_l2.toInt) → (TYm ad cy fr0 c_text m_taped m_size m_faultKind m_faultPlace m_at m_end m_token m_number m_name c_points c_strands c_units c_told c_ruleFrom c_ruleTo c_code c_eWhat c_eSign m_bank m_rb m_codes m_within m_piled m_unitsInRule v20_p_m_askStrand v20_p_m_askTied m_thoughtClaim m_thoughtNeed m_thoughtAll v20_p_c_roundOf m_acts m_undone m_laid m_firstMove m_seens m_time v20_p_m_waysNow v20_p_m_fitting f) → (va_P D vwCl (wl ad f) H) → (va_D A (wl ad f)) → (va_S A s.heap H locs) → (lv_has ls 3 [(2, .int v20_l2), (0, .ref (ad 148)), (1, .int p1)]) → W p l e (rmO 6 138 0 0) s m ([.ref (ad 148), .int p1] : List Value).toArray below meth c H locs 0 0 (MQ below (va_Qv (fun (g : Nat → va_E) => True ∧ (∃ (m_askStrand' : Int32) (m_askTied' : Int32) (c_roundOf' : Nat → Int32) (m_waysNow' : Int32) (m_fitting' : Int32), TYm ad cy fr0 c_text m_taped m_size m_faultKind m_faultPlace m_at m_end m_token m_number m_name c_points c_strands c_units c_told c_ruleFrom c_ruleTo c_code c_eWhat c_eSign m_bank m_rb m_codes m_within m_piled m_unitsInRule m_askStrand' m_askTied' m_thoughtClaim m_thoughtNeed m_thoughtAll c_roundOf' m_acts m_undone m_laid m_firstMove m_seens m_time m_waysNow' m_fitting' g)) (fun g t => PstT D ad g t) A) ([.ref (ad 148), .int p1] : List Value).toArray s 0 0 A) (F0 m 20 ls []) := by
    intro N
    induction N with
    | zero => intro f H locs ls v20_l2 v20_p_m_askStrand v20_p_m_askTied v20_p_c_roundOf v20_p_m_waysNow v20_p_m_fitting hN hv20_l2 hJ20_0 hT hP hD hS hl; exact absurd hN (by omega)
    | succ N ih20 =>
      intro f H locs ls v20_l2 v20_p_m_askStrand v20_p_m_askTied v20_p_c_roundOf v20_p_m_waysNow v20_p_m_fitting hN hv20_l2 hJ20_0 hT hP hD hS hl
      have j129 : ∀ (f : Nat → va_E) (H : Heap) (locs : List Loc) (ls : Array Slot) (v129_p_m_askStrand : Int32) (v129_p_m_askTied : Int32) (v129_p_c_roundOf : Nat → Int32) (v129_p_m_waysNow : Int32) (v129_p_m_fitting : Int32), (0 ≤ v20_l2.toInt ∧ v20_l2.toInt ≤ 4095) → (v129_p_m_waysNow.toInt ≤ cwF (v20_l2.toInt + 1)) → (TYm ad cy fr0 c_text m_taped m_size m_faultKind m_faultPlace m_at m_end m_token m_number m_name c_points c_strands c_units c_told c_ruleFrom c_ruleTo c_code c_eWhat c_eSign m_bank m_rb m_codes m_within m_piled m_unitsInRule v129_p_m_askStrand v129_p_m_askTied m_thoughtClaim m_thoughtNeed m_thoughtAll v129_p_c_roundOf m_acts m_undone m_laid m_firstMove m_seens m_time v129_p_m_waysNow v129_p_m_fitting f) → (va_P D vwCl (wl ad f) H) → (va_D A (wl ad f)) → (va_S A s.heap H locs) → (lv_has ls 3 [(2, .int v20_l2), (0, .ref (ad 148)), (1, .int p1)]) → W p l e (rmO 6 138 0 0) s m ([.ref (ad 148), .int p1] : List Value).toArray below meth c H locs 0 0 (MQ below (va_Qv (fun (g : Nat → va_E) => True ∧ (∃ (m_askStrand' : Int32) (m_askTied' : Int32) (c_roundOf' : Nat → Int32) (m_waysNow' : Int32) (m_fitting' : Int32), TYm ad cy fr0 c_text m_taped m_size m_faultKind m_faultPlace m_at m_end m_token m_number m_name c_points c_strands c_units c_told c_ruleFrom c_ruleTo c_code c_eWhat c_eSign m_bank m_rb m_codes m_within m_piled m_unitsInRule m_askStrand' m_askTied' m_thoughtClaim m_thoughtNeed m_thoughtAll c_roundOf' m_acts m_undone m_laid m_firstMove m_seens m_time m_waysNow' m_fitting' g)) (fun g t => PstT D ad g t) A) ([.ref (ad 148), .int p1] : List Value).toArray s 0 0 A) (F0 m 129 ls []) := by
        intro f H locs ls v129_p_m_askStrand v129_p_m_askTied v129_p_c_roundOf v129_p_m_waysNow v129_p_m_fitting hv129_l2 hJ129_0 hT hP hD hS hl
        obtain ⟨x1, ex1⟩ : ∃ q : Int32, q = v20_l2 + Int32.ofInt (1) := ⟨_, rfl⟩
        refine lv_iinc (v := x1) (lv' := [(2, .int x1), (0, .ref (ad 148)), (1, .int p1)]) hx hb dX9_layWays_129 hl (k := 0) rfl ex1.symm (by decide) rfl (fun ls hl => ?_)
        have hx1 := r_inc ex1 (by decide) (by omega) (by omega)
        have hcc := congrArg cwF hx1
        refine lv_goto (tgt := 20) hx hb dX9_layWays_132 (by decide) ?_
        obtain ⟨e17, h2, h3, h4, h5, h6, h7, h8, h9, h10, h11, h12, h13, h14, h15, h16⟩ := (show okX9 ad m_taped m_size m_faultKind m_faultPlace m_at m_end m_token m_number m_name m_bank m_rb m_codes m_within m_piled m_unitsInRule v129_p_m_askStrand v129_p_m_askTied m_thoughtClaim m_thoughtNeed m_thoughtAll m_acts m_undone m_laid m_firstMove m_seens m_time v129_p_m_waysNow v129_p_m_fitting 148 (f 148) from hT.1 148 (by decide))
        exact ih20 f H locs ls x1 v129_p_m_askStrand v129_p_m_askTied v129_p_c_roundOf v129_p_m_waysNow v129_p_m_fitting (by omega) (by omega) (by omega) hT hP hD hS (lv_sub hl [0, 1, 2] rfl)
      have j115 : ∀ (f : Nat → va_E) (H : Heap) (locs : List Loc) (ls : Array Slot) (v115_s2 : Int32) (v115_p_m_askStrand : Int32) (v115_p_m_askTied : Int32) (v115_p_c_roundOf : Nat → Int32), (0 ≤ v20_l2.toInt ∧ v20_l2.toInt ≤ 4095) → (0 ≤ v115_s2.toInt ∧ v115_s2.toInt ≤ 1) → (0 ≤ v115_p_m_askTied.toInt ∧ v115_p_m_askTied.toInt ≤ 4095) → (0 ≤ v20_p_m_waysNow.toInt ∧ v20_p_m_waysNow.toInt ≤ 78) → (v20_p_m_waysNow.toInt + 1 ≤ cwF (v20_l2.toInt + 1)) → (v20_p_m_waysNow.toInt ≤ 78) → (TYm ad cy fr0 c_text m_taped m_size m_faultKind m_faultPlace m_at m_end m_token m_number m_name c_points c_strands c_units c_told c_ruleFrom c_ruleTo c_code c_eWhat c_eSign m_bank m_rb m_codes m_within m_piled m_unitsInRule v115_p_m_askStrand v115_p_m_askTied m_thoughtClaim m_thoughtNeed m_thoughtAll v115_p_c_roundOf m_acts m_undone m_laid m_firstMove m_seens m_time v20_p_m_waysNow v20_p_m_fitting f) → (va_P D vwCl (wl ad f) H) → (va_D A (wl ad f)) → (va_S A s.heap H locs) → (lv_has ls 3 [(2, .int v20_l2), (0, .ref (ad 148)), (1, .int p1)]) → W p l e (rmO 6 138 0 0) s m ([.ref (ad 148), .int p1] : List Value).toArray below meth c H locs 0 0 (MQ below (va_Qv (fun (g : Nat → va_E) => True ∧ (∃ (m_askStrand' : Int32) (m_askTied' : Int32) (c_roundOf' : Nat → Int32) (m_waysNow' : Int32) (m_fitting' : Int32), TYm ad cy fr0 c_text m_taped m_size m_faultKind m_faultPlace m_at m_end m_token m_number m_name c_points c_strands c_units c_told c_ruleFrom c_ruleTo c_code c_eWhat c_eSign m_bank m_rb m_codes m_within m_piled m_unitsInRule m_askStrand' m_askTied' m_thoughtClaim m_thoughtNeed m_thoughtAll c_roundOf' m_acts m_undone m_laid m_firstMove m_seens m_time m_waysNow' m_fitting' g)) (fun g t => PstT D ad g t) A) ([.ref (ad 148), .int p1] : List Value).toArray s 0 0 A) (F0 m 115 ls [.int v115_s2, .int v20_p_m_fitting, .ref (ad 148)]) := by
        intro f H locs ls v115_s2 v115_p_m_askStrand v115_p_m_askTied v115_p_c_roundOf hv115_l2 hv115_s2 hv115_p_m_askTied hv115_p_m_waysNow hJ115_0 hJ115_1 hT hP hD hS hl
        refine lv_iadd hx hb dX9_layWays_115 ?_
        refine lv_topi (fun x18 ex18 => ?_)
        obtain ⟨e34, h19, h20, h21, h22, h23, h24, h25, h26, h27, h28, h29, h30, h31, h32, h33⟩ := (show okX9 ad m_taped m_size m_faultKind m_faultPlace m_at m_end m_token m_number m_name m_bank m_rb m_codes m_within m_piled m_unitsInRule v115_p_m_askStrand v115_p_m_askTied m_thoughtClaim m_thoughtNeed m_thoughtAll m_acts m_undone m_laid m_firstMove m_seens m_time v20_p_m_waysNow v20_p_m_fitting 148 (f 148) from hT.1 148 (by decide))
        refine va_put (D := D) (cl := vwCl) (ci := 9) (v := .int x18) (ty := tyX9 61) (C := RX9) (T := TX9) (N := 64) hx hb hts in_X9_layWays_X9 tyX9 tyX9_ok nmX9 hown hK hP hD hS 148 (wl_at (by decide) e34) rfl 61 (by decide) (hts (.fieldLink RX9 494 "EightReasonsModel" "fitting" "I") (List.mem_of_getElem? (i := 2) rfl)) (fun _ h9 => h9) rfl (tyX9_ok 61 (by decide)) rfl rfl (Nat.le_of_ble_eq_true rfl) dX9_layWays_116 (fun H locs hP hD hS => ?_)
        obtain ⟨f, hT, hP, hD, e35, hj36⟩ := stU (by decide) (TYm.p148 hT (show OKm ad cy c_text m_taped m_size m_faultKind m_faultPlace m_at m_end m_token m_number m_name c_points c_strands c_units c_told c_ruleFrom c_ruleTo c_code c_eWhat c_eSign m_bank m_rb m_codes m_within m_piled m_unitsInRule v115_p_m_askStrand v115_p_m_askTied m_thoughtClaim m_thoughtNeed m_thoughtAll v115_p_c_roundOf m_acts m_undone m_laid m_firstMove m_seens m_time v20_p_m_waysNow x18 148 _ from (show okX9 ad m_taped m_size m_faultKind m_faultPlace m_at m_end m_token m_number m_name m_bank m_rb m_codes m_within m_piled m_unitsInRule v115_p_m_askStrand v115_p_m_askTied m_thoughtClaim m_thoughtNeed m_thoughtAll m_acts m_undone m_laid m_firstMove m_seens m_time v20_p_m_waysNow x18 148 _ from ⟨rfl, by omega, by omega, by omega, by omega, by omega, by omega, by omega, by omega, by omega, by omega, by omega, by omega, by omega, by omega, by omega⟩))) hP hD
        refine lv_aload_n hx hb dX9_layWays_119 rfl (lv_at hl 1 rfl) ?_
        refine lv_dup hx hb dX9_layWays_120 rfl ?_
        refine va_get (D := D) (cl := vwCl) (ci := 9) (v := .int v20_p_m_waysNow) (C := RX9) (T := TX9) (N := 64) hx hb hts in_X9_layWays_X9 hown hK hP 148 (wl_at (by decide) e35) rfl 60 (by decide) (hts (.fieldLink RX9 491 "EightReasonsModel" "waysNow" "I") (List.mem_of_getElem? (i := 1) rfl)) (fun _ h9 => h9) rfl dX9_layWays_121 ?_
        refine lv_iconst (v := 1) hx hb dX9_layWays_124 (by decide) ?_
        have ttl_1 := tl_1
        refine lv_iadd hx hb dX9_layWays_125 ?_
        refine lv_topi (fun x37 ex37 => ?_)
        have hx37 := r_add ex37 (by omega) (by omega)
        have ha38 : 1 ≤ x37.toInt ∧ x37.toInt ≤ 79 := by omega
        refine va_put (D := D) (cl := vwCl) (ci := 9) (v := .int x37) (ty := tyX9 60) (C := RX9) (T := TX9) (N := 64) hx hb hts in_X9_layWays_X9 tyX9 tyX9_ok nmX9 hown hK hP hD hS 148 (wl_at (by decide) e35) rfl 60 (by decide) (hts (.fieldLink RX9 491 "EightReasonsModel" "waysNow" "I") (List.mem_of_getElem? (i := 1) rfl)) (fun _ h9 => h9) rfl (tyX9_ok 60 (by decide)) rfl rfl (Nat.le_of_ble_eq_true rfl) dX9_layWays_126 (fun H locs hP hD hS => ?_)
        obtain ⟨f, hT, hP, hD, e39, hj40⟩ := stU (by decide) (TYm.p148 hT (show OKm ad cy c_text m_taped m_size m_faultKind m_faultPlace m_at m_end m_token m_number m_name c_points c_strands c_units c_told c_ruleFrom c_ruleTo c_code c_eWhat c_eSign m_bank m_rb m_codes m_within m_piled m_unitsInRule v115_p_m_askStrand v115_p_m_askTied m_thoughtClaim m_thoughtNeed m_thoughtAll v115_p_c_roundOf m_acts m_undone m_laid m_firstMove m_seens m_time x37 x18 148 _ from (show okX9 ad m_taped m_size m_faultKind m_faultPlace m_at m_end m_token m_number m_name m_bank m_rb m_codes m_within m_piled m_unitsInRule v115_p_m_askStrand v115_p_m_askTied m_thoughtClaim m_thoughtNeed m_thoughtAll m_acts m_undone m_laid m_firstMove m_seens m_time x37 x18 148 _ from ⟨rfl, by omega, by omega, by omega, by omega, by omega, by omega, by omega, by omega, by omega, by omega, by omega, by omega, by omega, by omega, by omega⟩))) hP hD
        exact j129 f H locs ls v115_p_m_askStrand v115_p_m_askTied v115_p_c_roundOf x37 x18 (by omega) (by omega) hT hP hD hS (lv_sub hl [0, 1, 2] rfl)
      refine lv_iload_n hx hb dX9_layWays_20 rfl (lv_at hl 0 rfl) ?_
      refine lv_aload_n hx hb dX9_layWays_21 rfl (lv_at hl 1 rfl) ?_
      obtain ⟨e56, h41, h42, h43, h44, h45, h46, h47, h48, h49, h50, h51, h52, h53, h54, h55⟩ := (show okX9 ad m_taped m_size m_faultKind m_faultPlace m_at m_end m_token m_number m_name m_bank m_rb m_codes m_within m_piled m_unitsInRule v20_p_m_askStrand v20_p_m_askTied m_thoughtClaim m_thoughtNeed m_thoughtAll m_acts m_undone m_laid m_firstMove m_seens m_time v20_p_m_waysNow v20_p_m_fitting 148 (f 148) from hT.1 148 (by decide))
      refine va_get (D := D) (cl := vwCl) (ci := 9) (v := .ref (ad 169)) (C := RX9) (T := TX9) (N := 64) hx hb hts in_X9_layWays_X9 hown hK hP 148 (wl_at (by decide) e56) rfl 37 (by decide) (hts (.fieldLink RX9 76 "EightReasonsModel" "all" "[I") (List.mem_of_getElem? (i := 3) rfl)) (fun _ h9 => h9) rfl dX9_layWays_22 ?_
      refine lv_iconst (v := 1) hx hb dX9_layWays_25 (by decide) ?_
      obtain ⟨g59, e57, h58⟩ := (show okIr cy 16 (0) (4095) 16 1 (f 169) from hT.1 169 (by decide))
      have ttl_1 := tl_1
      refine va_iald hx hb hK hP 169 0 (wl_at (by decide) e57) rfl (vin (by decide)) dX9_layWays_26 ?_
      refine lv_topi (fun x60 ex60 => ?_)
      have hx60 := r_el (h58 _ (by decide)) ex60
      refine lv_icmp_gt (tgt := 135) hx hb dX9_layWays_27 (by decide) (fun c61 => ?_) (fun c61 => ?_)
      · have kc61 := c_lt c61
        refine lv_aload_n hx hb dX9_layWays_135 rfl (lv_at hl 1 rfl) ?_
        refine tVV (As := []) (rest := []) (i := 148) ⟨hx, hb, hml, hown, hts⟩ hK hE hP hD hS hA hAB (s_X9_bringBack_0 l B0 adK adV D cy ad fr0 c_text m_taped m_size m_faultKind m_faultPlace m_at m_end m_token m_number m_name c_points c_strands c_units c_told c_ruleFrom c_ruleTo c_code c_eWhat c_eSign m_bank m_rb m_codes m_within m_piled m_unitsInRule v20_p_m_askStrand v20_p_m_askTied m_thoughtClaim m_thoughtNeed m_thoughtAll v20_p_c_roundOf m_acts m_undone m_laid m_firstMove m_seens m_time v20_p_m_waysNow v20_p_m_fitting f hT _) (cwV 0 hts gX9_layWays_X9_bringBack rfl rfl rfl (by decide +kernel) ⟨Nat.le_of_ble_eq_true rfl, Nat.le_of_ble_eq_true rfl⟩) (by decide) 9 e56 rfl rfl hl.1 rfl (Nat.le_of_ble_eq_true rfl) dX9_layWays_136 ⟨Nat.le_of_ble_eq_true rfl, Nat.le_of_ble_eq_true rfl⟩ (fun f H locs hw hP hD hS => ?_)
        obtain ⟨hrs, hT⟩ := hw
        exact tV hx hb hr hlk hP hS ⟨trivial, ⟨v20_p_m_askStrand, v20_p_m_askTied, v20_p_c_roundOf, v20_p_m_waysNow, v20_p_m_fitting, hT⟩⟩ dX9_layWays_139
      · have kc61 := c_nlt c61
        refine lv_iload_n hx hb dX9_layWays_30 rfl (lv_at hl 0 rfl) ?_
        refine tSI (As := [.int v20_l2]) (rest := []) ⟨hx, hb, hml, hown, hts⟩ hK hE hP hD hS hA hAB (s_X9_bitsOf_0 l B0 adK adV D cy ad f v20_l2 (by omega) _) (va_cwS 1 hts gX9_layWays_X9_bitsOf rfl rfl rfl (by decide +kernel) ⟨Nat.le_of_ble_eq_true rfl, Nat.le_of_ble_eq_true rfl⟩) rfl hl.1 rfl (Nat.le_of_ble_eq_true rfl) dX9_layWays_31 ⟨Nat.le_of_ble_eq_true rfl, Nat.le_of_ble_eq_true rfl⟩ (fun r g H locs hw hP hD hS => ?_)
        obtain ⟨hrs, rfl⟩ := hw
        obtain ⟨x62, rfl⟩ : ∃ q, q = r := ⟨_, rfl⟩
        have h63 := hrs
        refine lv_iconst (v := 2) hx hb dX9_layWays_34 (by decide) ?_
        have ttl_2 := tl_2
        refine lv_icmp_le (tgt := 41) hx hb dX9_layWays_35 (by decide) (fun c64 => ?_) (fun c64 => ?_)
        · have kc64 := c_le c64
          have hcw := cwF_hit (x := v20_l2) (by omega) (by omega) (by omega)
          have ha65 : 0 ≤ v20_p_m_waysNow.toInt ∧ v20_p_m_waysNow.toInt ≤ 78 := by omega
          refine lv_aload_n hx hb dX9_layWays_41 rfl (lv_at hl 1 rfl) ?_
          refine va_get (D := D) (cl := vwCl) (ci := 9) (v := .ref (ad 176)) (C := RX9) (T := TX9) (N := 64) hx hb hts in_X9_layWays_X9 hown hK hP 148 (wl_at (by decide) e56) rfl 51 (by decide) (hts (.fieldLink RX9 103 "EightReasonsModel" "cutIn" "[I") (List.mem_of_getElem? (i := 4) rfl)) (fun _ h9 => h9) rfl dX9_layWays_42 ?_
          refine lv_aload_n hx hb dX9_layWays_45 rfl (lv_at hl 1 rfl) ?_
          refine va_get (D := D) (cl := vwCl) (ci := 9) (v := .int v20_p_m_waysNow) (C := RX9) (T := TX9) (N := 64) hx hb hts in_X9_layWays_X9 hown hK hP 148 (wl_at (by decide) e56) rfl 60 (by decide) (hts (.fieldLink RX9 491 "EightReasonsModel" "waysNow" "I") (List.mem_of_getElem? (i := 1) rfl)) (fun _ h9 => h9) rfl dX9_layWays_46 ?_
          refine lv_iload_n hx hb dX9_layWays_49 rfl (lv_at hl 0 rfl) ?_
          obtain ⟨g67, e66⟩ := (show okI cy 79 (f 176) from hT.1 176 (by decide))
          refine va_iast hx hb hK hP hD hS 176 0 (wl_at (by decide) e66) rfl (vp_in_iff.mpr ⟨by omega, by omega⟩) dX9_layWays_50 (fun H locs hP hD hS => ?_)
          obtain ⟨f, hT, hP, hD, e68, hj69⟩ := stU (by decide) (TYm.up hT (by decide) (show OKm ad cy c_text m_taped m_size m_faultKind m_faultPlace m_at m_end m_token m_number m_name c_points c_strands c_units c_told c_ruleFrom c_ruleTo c_code c_eWhat c_eSign m_bank m_rb m_codes m_within m_piled m_unitsInRule v20_p_m_askStrand v20_p_m_askTied m_thoughtClaim m_thoughtNeed m_thoughtAll v20_p_c_roundOf m_acts m_undone m_laid m_firstMove m_seens m_time v20_p_m_waysNow v20_p_m_fitting 176 _ from (show okI cy 79 _ from ⟨_, rfl⟩))) hP hD
          have e70 := (hj69 148 (by decide)).trans e56
          have e71 := (hj69 169 (by decide)).trans e57
          refine lv_aload_n hx hb dX9_layWays_51 rfl (lv_at hl 1 rfl) ?_
          refine va_get (D := D) (cl := vwCl) (ci := 9) (v := .ref (ad 177)) (C := RX9) (T := TX9) (N := 64) hx hb hts in_X9_layWays_X9 hown hK hP 148 (wl_at (by decide) e70) rfl 52 (by decide) (hts (.fieldLink RX9 106 "EightReasonsModel" "stoodIn" "[I") (List.mem_of_getElem? (i := 5) rfl)) (fun _ h9 => h9) rfl dX9_layWays_52 ?_
          refine lv_aload_n hx hb dX9_layWays_55 rfl (lv_at hl 1 rfl) ?_
          refine va_get (D := D) (cl := vwCl) (ci := 9) (v := .int v20_p_m_waysNow) (C := RX9) (T := TX9) (N := 64) hx hb hts in_X9_layWays_X9 hown hK hP 148 (wl_at (by decide) e70) rfl 60 (by decide) (hts (.fieldLink RX9 491 "EightReasonsModel" "waysNow" "I") (List.mem_of_getElem? (i := 1) rfl)) (fun _ h9 => h9) rfl dX9_layWays_56 ?_
          refine lv_aload_n hx hb dX9_layWays_59 rfl (lv_at hl 1 rfl) ?_
          refine lv_iconst (v := 0) hx hb dX9_layWays_60 (by decide) ?_
          refine lv_aload_n hx hb dX9_layWays_61 rfl (lv_at hl 1 rfl) ?_
          refine va_get (D := D) (cl := vwCl) (ci := 9) (v := .ref (ad 169)) (C := RX9) (T := TX9) (N := 64) hx hb hts in_X9_layWays_X9 hown hK hP 148 (wl_at (by decide) e70) rfl 37 (by decide) (hts (.fieldLink RX9 76 "EightReasonsModel" "all" "[I") (List.mem_of_getElem? (i := 3) rfl)) (fun _ h9 => h9) rfl dX9_layWays_62 ?_
          refine lv_iconst (v := 1) hx hb dX9_layWays_65 (by decide) ?_
          refine va_iald hx hb hK hP 169 0 (wl_at (by decide) e71) rfl (vin (by decide)) dX9_layWays_66 ?_
          refine lv_topi (fun x72 ex72 => ?_)
          have hx72 := r_el (h58 _ (by decide)) ex72
          refine lv_iload_n hx hb dX9_layWays_67 rfl (lv_at hl 0 rfl) ?_
          refine lv_iconst (v := (-1)) hx hb dX9_layWays_68 (by decide) ?_
          refine lv_ixor hx hb dX9_layWays_69 ?_
          refine lv_topi (fun x73 ex73 => ?_)
          refine lv_iand hx hb dX9_layWays_70 ?_
          refine lv_topi (fun x74 ex74 => ?_)
          have hx74 := r_andl ex74 (by omega)
          have ttl_0 := tl_0
          refine tVI (As := [.int 0, .int x74]) (rest := [.int v20_p_m_waysNow, .ref (ad 177)]) (i := 148) ⟨hx, hb, hml, hown, hts⟩ hK hE hP hD hS hA hAB (s_X9_standBy_0 l B0 adK adV D cy ad fr0 c_text m_taped m_size m_faultKind m_faultPlace m_at m_end m_token m_number m_name c_points c_strands c_units c_told c_ruleFrom c_ruleTo c_code c_eWhat c_eSign m_bank m_rb m_codes m_within m_piled m_unitsInRule v20_p_m_askStrand v20_p_m_askTied m_thoughtClaim m_thoughtNeed m_thoughtAll v20_p_c_roundOf m_acts m_undone m_laid m_firstMove m_seens m_time v20_p_m_waysNow v20_p_m_fitting f hT (0 : Int32) x74 (by omega) hCV _) (cwV 2 hts gX9_layWays_X9_standBy rfl rfl rfl (by decide +kernel) ⟨Nat.le_of_ble_eq_true rfl, Nat.le_of_ble_eq_true rfl⟩) (by decide) 9 e70 rfl rfl hl.1 rfl (Nat.le_of_ble_eq_true rfl) dX9_layWays_71 ⟨Nat.le_of_ble_eq_true rfl, Nat.le_of_ble_eq_true rfl⟩ (fun r f H locs hw hP hD hS => ?_)
          obtain ⟨hrs, x75, x76, y77, hT, h78⟩ := hw
          obtain ⟨x79, rfl⟩ : ∃ q, q = r := ⟨_, rfl⟩
          have h80 := hrs
          obtain ⟨g82, e81⟩ := (show okI cy 79 (f 177) from hT.1 177 (by decide))
          refine va_iast hx hb hK hP hD hS 177 0 (wl_at (by decide) e81) rfl (vp_in_iff.mpr ⟨by omega, by omega⟩) dX9_layWays_74 (fun H locs hP hD hS => ?_)
          obtain ⟨f, hT, hP, hD, e83, hj84⟩ := stU (by decide) (TYm.up hT (by decide) (show OKm ad cy c_text m_taped m_size m_faultKind m_faultPlace m_at m_end m_token m_number m_name c_points c_strands c_units c_told c_ruleFrom c_ruleTo c_code c_eWhat c_eSign m_bank m_rb m_codes m_within m_piled m_unitsInRule x75 x76 m_thoughtClaim m_thoughtNeed m_thoughtAll y77 m_acts m_undone m_laid m_firstMove m_seens m_time v20_p_m_waysNow v20_p_m_fitting 177 _ from (show okI cy 79 _ from ⟨_, rfl⟩))) hP hD
          refine lv_aload_n hx hb dX9_layWays_75 rfl (lv_at hl 1 rfl) ?_
          obtain ⟨e100, h85, h86, h87, h88, h89, h90, h91, h92, h93, h94, h95, h96, h97, h98, h99⟩ := (show okX9 ad m_taped m_size m_faultKind m_faultPlace m_at m_end m_token m_number m_name m_bank m_rb m_codes m_within m_piled m_unitsInRule x75 x76 m_thoughtClaim m_thoughtNeed m_thoughtAll m_acts m_undone m_laid m_firstMove m_seens m_time v20_p_m_waysNow v20_p_m_fitting 148 (f 148) from hT.1 148 (by decide))
          refine va_get (D := D) (cl := vwCl) (ci := 9) (v := .ref (ad 182)) (C := RX9) (T := TX9) (N := 64) hx hb hts in_X9_layWays_X9 hown hK hP 148 (wl_at (by decide) e100) rfl 57 (by decide) (hts (.fieldLink RX9 121 "EightReasonsModel" "isFit" "[Z") (List.mem_of_getElem? (i := 6) rfl)) (fun _ h9 => h9) rfl dX9_layWays_76 ?_
          refine lv_aload_n hx hb dX9_layWays_79 rfl (lv_at hl 1 rfl) ?_
          refine va_get (D := D) (cl := vwCl) (ci := 9) (v := .int v20_p_m_waysNow) (C := RX9) (T := TX9) (N := 64) hx hb hts in_X9_layWays_X9 hown hK hP 148 (wl_at (by decide) e100) rfl 60 (by decide) (hts (.fieldLink RX9 491 "EightReasonsModel" "waysNow" "I") (List.mem_of_getElem? (i := 1) rfl)) (fun _ h9 => h9) rfl dX9_layWays_80 ?_
          refine lv_aload_n hx hb dX9_layWays_83 rfl (lv_at hl 1 rfl) ?_
          refine lv_aload_n hx hb dX9_layWays_84 rfl (lv_at hl 1 rfl) ?_
          refine va_get (D := D) (cl := vwCl) (ci := 9) (v := .int v20_p_m_waysNow) (C := RX9) (T := TX9) (N := 64) hx hb hts in_X9_layWays_X9 hown hK hP 148 (wl_at (by decide) e100) rfl 60 (by decide) (hts (.fieldLink RX9 491 "EightReasonsModel" "waysNow" "I") (List.mem_of_getElem? (i := 1) rfl)) (fun _ h9 => h9) rfl dX9_layWays_85 ?_
          refine lv_iload_n hx hb dX9_layWays_88 rfl (lv_at hl 2 rfl) ?_
          refine tVI (As := [.int v20_p_m_waysNow, .int p1]) (rest := [.int v20_p_m_waysNow, .ref (ad 182)]) (i := 148) ⟨hx, hb, hml, hown, hts⟩ hK hE hP hD hS hA hAB (s_X9_doesFit_0 l B0 adK adV D cy ad fr0 c_text m_taped m_size m_faultKind m_faultPlace m_at m_end m_token m_number m_name c_points c_strands c_units c_told c_ruleFrom c_ruleTo c_code c_eWhat c_eSign m_bank m_rb m_codes m_within m_piled m_unitsInRule x75 x76 m_thoughtClaim m_thoughtNeed m_thoughtAll y77 m_acts m_undone m_laid m_firstMove m_seens m_time v20_p_m_waysNow v20_p_m_fitting f hT v20_p_m_waysNow (by omega) p1 _) (cwV 2 hts gX9_layWays_X9_doesFit rfl rfl rfl (by decide +kernel) ⟨Nat.le_of_ble_eq_true rfl, Nat.le_of_ble_eq_true rfl⟩) (by decide) 9 e100 rfl rfl hl.1 rfl (Nat.le_of_ble_eq_true rfl) dX9_layWays_89 ⟨Nat.le_of_ble_eq_true rfl, Nat.le_of_ble_eq_true rfl⟩ (fun r g H locs hw hP hD hS => ?_)
          obtain ⟨hrs, rfl⟩ := hw
          obtain ⟨x101, rfl⟩ : ∃ q, q = r := ⟨_, rfl⟩
          rcases hrs with rfl | rfl
          · obtain ⟨g103, e102⟩ := (show okZ cy 79 (f 182) from hT.1 182 (by decide))
            refine va_zast hx hb hK hP hD hS 182 3 (wl_at (by decide) e102) rfl (vp_in_iff.mpr ⟨by omega, by omega⟩) dX9_layWays_92 (fun H locs hP hD hS => ?_)
            obtain ⟨f, hT, hP, hD, e104, hj105⟩ := stU (by decide) (TYm.up hT (by decide) (show OKm ad cy c_text m_taped m_size m_faultKind m_faultPlace m_at m_end m_token m_number m_name c_points c_strands c_units c_told c_ruleFrom c_ruleTo c_code c_eWhat c_eSign m_bank m_rb m_codes m_within m_piled m_unitsInRule x75 x76 m_thoughtClaim m_thoughtNeed m_thoughtAll y77 m_acts m_undone m_laid m_firstMove m_seens m_time v20_p_m_waysNow v20_p_m_fitting 182 _ from (show okZ cy 79 _ from ⟨_, rfl⟩))) hP hD
            have e106 := (hj105 148 (by decide)).trans e100
            refine lv_aload_n hx hb dX9_layWays_93 rfl (lv_at hl 1 rfl) ?_
            refine lv_dup hx hb dX9_layWays_94 rfl ?_
            refine va_get (D := D) (cl := vwCl) (ci := 9) (v := .int v20_p_m_fitting) (C := RX9) (T := TX9) (N := 64) hx hb hts in_X9_layWays_X9 hown hK hP 148 (wl_at (by decide) e106) rfl 61 (by decide) (hts (.fieldLink RX9 494 "EightReasonsModel" "fitting" "I") (List.mem_of_getElem? (i := 2) rfl)) (fun _ h9 => h9) rfl dX9_layWays_95 ?_
            refine lv_aload_n hx hb dX9_layWays_98 rfl (lv_at hl 1 rfl) ?_
            refine va_get (D := D) (cl := vwCl) (ci := 9) (v := .ref (ad 182)) (C := RX9) (T := TX9) (N := 64) hx hb hts in_X9_layWays_X9 hown hK hP 148 (wl_at (by decide) e106) rfl 57 (by decide) (hts (.fieldLink RX9 121 "EightReasonsModel" "isFit" "[Z") (List.mem_of_getElem? (i := 6) rfl)) (fun _ h9 => h9) rfl dX9_layWays_99 ?_
            refine lv_aload_n hx hb dX9_layWays_102 rfl (lv_at hl 1 rfl) ?_
            refine va_get (D := D) (cl := vwCl) (ci := 9) (v := .int v20_p_m_waysNow) (C := RX9) (T := TX9) (N := 64) hx hb hts in_X9_layWays_X9 hown hK hP 148 (wl_at (by decide) e106) rfl 60 (by decide) (hts (.fieldLink RX9 491 "EightReasonsModel" "waysNow" "I") (List.mem_of_getElem? (i := 1) rfl)) (fun _ h9 => h9) rfl dX9_layWays_103 ?_
            obtain ⟨g108, e107⟩ := (show okZ cy 79 (f 182) from hT.1 182 (by decide))
            refine va_zald hx hb hK hP 182 3 (wl_at (by decide) e107) rfl (vp_in_iff.mpr ⟨by omega, by omega⟩) dX9_layWays_106 ?_
            refine lv_topi (fun x109 ex109 => ?_)
            refine lv_if_eq (tgt := 114) hx hb dX9_layWays_107 (by decide) (fun c110 => ?_) (fun c110 => ?_)
            · have kc110 := c_eq c110
              refine lv_iconst (v := 0) hx hb dX9_layWays_114 (by decide) ?_
              exact j115 f H locs ls (0 : Int32) x75 x76 y77 (by omega) (by omega) (by omega) (by omega) (by omega) (by omega) hT hP hD hS (lv_sub hl [0, 1, 2] rfl)
            · have kc110 := c_ne c110
              refine lv_iconst (v := 1) hx hb dX9_layWays_110 (by decide) ?_
              refine lv_goto (tgt := 115) hx hb dX9_layWays_111 (by decide) ?_
              exact j115 f H locs ls (1 : Int32) x75 x76 y77 (by omega) (by omega) (by omega) (by omega) (by omega) (by omega) hT hP hD hS (lv_sub hl [0, 1, 2] rfl)
          · obtain ⟨g112, e111⟩ := (show okZ cy 79 (f 182) from hT.1 182 (by decide))
            refine va_zast hx hb hK hP hD hS 182 3 (wl_at (by decide) e111) rfl (vp_in_iff.mpr ⟨by omega, by omega⟩) dX9_layWays_92 (fun H locs hP hD hS => ?_)
            obtain ⟨f, hT, hP, hD, e113, hj114⟩ := stU (by decide) (TYm.up hT (by decide) (show OKm ad cy c_text m_taped m_size m_faultKind m_faultPlace m_at m_end m_token m_number m_name c_points c_strands c_units c_told c_ruleFrom c_ruleTo c_code c_eWhat c_eSign m_bank m_rb m_codes m_within m_piled m_unitsInRule x75 x76 m_thoughtClaim m_thoughtNeed m_thoughtAll y77 m_acts m_undone m_laid m_firstMove m_seens m_time v20_p_m_waysNow v20_p_m_fitting 182 _ from (show okZ cy 79 _ from ⟨_, rfl⟩))) hP hD
            have e115 := (hj114 148 (by decide)).trans e100
            refine lv_aload_n hx hb dX9_layWays_93 rfl (lv_at hl 1 rfl) ?_
            refine lv_dup hx hb dX9_layWays_94 rfl ?_
            refine va_get (D := D) (cl := vwCl) (ci := 9) (v := .int v20_p_m_fitting) (C := RX9) (T := TX9) (N := 64) hx hb hts in_X9_layWays_X9 hown hK hP 148 (wl_at (by decide) e115) rfl 61 (by decide) (hts (.fieldLink RX9 494 "EightReasonsModel" "fitting" "I") (List.mem_of_getElem? (i := 2) rfl)) (fun _ h9 => h9) rfl dX9_layWays_95 ?_
            refine lv_aload_n hx hb dX9_layWays_98 rfl (lv_at hl 1 rfl) ?_
            refine va_get (D := D) (cl := vwCl) (ci := 9) (v := .ref (ad 182)) (C := RX9) (T := TX9) (N := 64) hx hb hts in_X9_layWays_X9 hown hK hP 148 (wl_at (by decide) e115) rfl 57 (by decide) (hts (.fieldLink RX9 121 "EightReasonsModel" "isFit" "[Z") (List.mem_of_getElem? (i := 6) rfl)) (fun _ h9 => h9) rfl dX9_layWays_99 ?_
            refine lv_aload_n hx hb dX9_layWays_102 rfl (lv_at hl 1 rfl) ?_
            refine va_get (D := D) (cl := vwCl) (ci := 9) (v := .int v20_p_m_waysNow) (C := RX9) (T := TX9) (N := 64) hx hb hts in_X9_layWays_X9 hown hK hP 148 (wl_at (by decide) e115) rfl 60 (by decide) (hts (.fieldLink RX9 491 "EightReasonsModel" "waysNow" "I") (List.mem_of_getElem? (i := 1) rfl)) (fun _ h9 => h9) rfl dX9_layWays_103 ?_
            obtain ⟨g117, e116⟩ := (show okZ cy 79 (f 182) from hT.1 182 (by decide))
            refine va_zald hx hb hK hP 182 3 (wl_at (by decide) e116) rfl (vp_in_iff.mpr ⟨by omega, by omega⟩) dX9_layWays_106 ?_
            refine lv_topi (fun x118 ex118 => ?_)
            refine lv_if_eq (tgt := 114) hx hb dX9_layWays_107 (by decide) (fun c119 => ?_) (fun c119 => ?_)
            · have kc119 := c_eq c119
              refine lv_iconst (v := 0) hx hb dX9_layWays_114 (by decide) ?_
              exact j115 f H locs ls (0 : Int32) x75 x76 y77 (by omega) (by omega) (by omega) (by omega) (by omega) (by omega) hT hP hD hS (lv_sub hl [0, 1, 2] rfl)
            · have kc119 := c_ne c119
              refine lv_iconst (v := 1) hx hb dX9_layWays_110 (by decide) ?_
              refine lv_goto (tgt := 115) hx hb dX9_layWays_111 (by decide) ?_
              exact j115 f H locs ls (1 : Int32) x75 x76 y77 (by omega) (by omega) (by omega) (by omega) (by omega) (by omega) hT hP hD hS (lv_sub hl [0, 1, 2] rfl)
        · have kc64 := c_nle c64
          have hcw := cwF_up (z := v20_l2.toInt)
          refine lv_goto (tgt := 129) hx hb dX9_layWays_38 (by decide) ?_
          exact j129 f H locs ls v20_p_m_askStrand v20_p_m_askTied v20_p_c_roundOf v20_p_m_waysNow v20_p_m_fitting (by omega) (by omega) hT hP hD hS (lv_sub hl [0, 1, 2] rfl)
  refine lv_aload_n hx hb dX9_layWays_0 rfl (lv_at hl 0 rfl) ?_
  obtain ⟨e135, h120, h121, h122, h123, h124, h125, h126, h127, h128, h129, h130, h131, h132, h133, h134⟩ := (show okX9 ad m_taped m_size m_faultKind m_faultPlace m_at m_end m_token m_number m_name m_bank m_rb m_codes m_within m_piled m_unitsInRule m_askStrand m_askTied m_thoughtClaim m_thoughtNeed m_thoughtAll m_acts m_undone m_laid m_firstMove m_seens m_time m_waysNow m_fitting 148 (f 148) from hT.1 148 (by decide))
  refine tVV (As := []) (rest := []) (i := 148) ⟨hx, hb, hml, hown, hts⟩ hK hE hP hD hS hA hAB (s_X9_keepNow_0 l B0 adK adV D cy ad fr0 c_text m_taped m_size m_faultKind m_faultPlace m_at m_end m_token m_number m_name c_points c_strands c_units c_told c_ruleFrom c_ruleTo c_code c_eWhat c_eSign m_bank m_rb m_codes m_within m_piled m_unitsInRule m_askStrand m_askTied m_thoughtClaim m_thoughtNeed m_thoughtAll c_roundOf m_acts m_undone m_laid m_firstMove m_seens m_time m_waysNow m_fitting f hT _) (cwV 0 hts gX9_layWays_X9_keepNow rfl rfl rfl (by decide +kernel) ⟨Nat.le_of_ble_eq_true rfl, Nat.le_of_ble_eq_true rfl⟩) (by decide) 9 e135 rfl rfl hl.1 rfl (Nat.le_of_ble_eq_true rfl) dX9_layWays_1 ⟨Nat.le_of_ble_eq_true rfl, Nat.le_of_ble_eq_true rfl⟩ (fun f H locs hw hP hD hS => ?_)
  obtain ⟨hrs, hT⟩ := hw
  refine lv_aload_n hx hb dX9_layWays_4 rfl (lv_at hl 0 rfl) ?_
  obtain ⟨e151, h136, h137, h138, h139, h140, h141, h142, h143, h144, h145, h146, h147, h148, h149, h150⟩ := (show okX9 ad m_taped m_size m_faultKind m_faultPlace m_at m_end m_token m_number m_name m_bank m_rb m_codes m_within m_piled m_unitsInRule m_askStrand m_askTied m_thoughtClaim m_thoughtNeed m_thoughtAll m_acts m_undone m_laid m_firstMove m_seens m_time m_waysNow m_fitting 148 (f 148) from hT.1 148 (by decide))
  refine tVV (As := []) (rest := []) (i := 148) ⟨hx, hb, hml, hown, hts⟩ hK hE hP hD hS hA hAB (s_X9_layTold_0 l B0 adK adV D cy ad fr0 c_text m_taped m_size m_faultKind m_faultPlace m_at m_end m_token m_number m_name c_points c_strands c_units c_told c_ruleFrom c_ruleTo c_code c_eWhat c_eSign m_bank m_rb m_codes m_within m_piled m_unitsInRule m_askStrand m_askTied m_thoughtClaim m_thoughtNeed m_thoughtAll c_roundOf m_acts m_undone m_laid m_firstMove m_seens m_time m_waysNow m_fitting f hT _) (cwV 0 hts gX9_layWays_X9_layTold rfl rfl rfl (by decide +kernel) ⟨Nat.le_of_ble_eq_true rfl, Nat.le_of_ble_eq_true rfl⟩) (by decide) 9 e151 rfl rfl hl.1 rfl (Nat.le_of_ble_eq_true rfl) dX9_layWays_5 ⟨Nat.le_of_ble_eq_true rfl, Nat.le_of_ble_eq_true rfl⟩ (fun f H locs hw hP hD hS => ?_)
  obtain ⟨hrs, hT⟩ := hw
  refine lv_aload_n hx hb dX9_layWays_8 rfl (lv_at hl 0 rfl) ?_
  refine lv_iconst (v := 0) hx hb dX9_layWays_9 (by decide) ?_
  obtain ⟨e167, h152, h153, h154, h155, h156, h157, h158, h159, h160, h161, h162, h163, h164, h165, h166⟩ := (show okX9 ad m_taped m_size m_faultKind m_faultPlace m_at m_end m_token m_number m_name m_bank m_rb m_codes m_within m_piled m_unitsInRule m_askStrand m_askTied m_thoughtClaim m_thoughtNeed m_thoughtAll m_acts m_undone m_laid m_firstMove m_seens m_time m_waysNow m_fitting 148 (f 148) from hT.1 148 (by decide))
  refine va_put (D := D) (cl := vwCl) (ci := 9) (v := .int 0) (ty := tyX9 60) (C := RX9) (T := TX9) (N := 64) hx hb hts in_X9_layWays_X9 tyX9 tyX9_ok nmX9 hown hK hP hD hS 148 (wl_at (by decide) e167) rfl 60 (by decide) (hts (.fieldLink RX9 491 "EightReasonsModel" "waysNow" "I") (List.mem_of_getElem? (i := 1) rfl)) (fun _ h9 => h9) rfl (tyX9_ok 60 (by decide)) rfl rfl (Nat.le_of_ble_eq_true rfl) dX9_layWays_10 (fun H locs hP hD hS => ?_)
  have ttl_0 := tl_0
  obtain ⟨f, hT, hP, hD, e168, hj169⟩ := stU (by decide) (TYm.p148 hT (show OKm ad cy c_text m_taped m_size m_faultKind m_faultPlace m_at m_end m_token m_number m_name c_points c_strands c_units c_told c_ruleFrom c_ruleTo c_code c_eWhat c_eSign m_bank m_rb m_codes m_within m_piled m_unitsInRule m_askStrand m_askTied m_thoughtClaim m_thoughtNeed m_thoughtAll c_roundOf m_acts m_undone m_laid m_firstMove m_seens m_time 0 m_fitting 148 _ from (show okX9 ad m_taped m_size m_faultKind m_faultPlace m_at m_end m_token m_number m_name m_bank m_rb m_codes m_within m_piled m_unitsInRule m_askStrand m_askTied m_thoughtClaim m_thoughtNeed m_thoughtAll m_acts m_undone m_laid m_firstMove m_seens m_time 0 m_fitting 148 _ from ⟨rfl, by omega, by omega, by omega, by omega, by omega, by omega, by omega, by omega, by omega, by omega, by omega, by omega, by omega, by omega, by omega⟩))) hP hD
  refine lv_aload_n hx hb dX9_layWays_13 rfl (lv_at hl 0 rfl) ?_
  refine lv_iconst (v := 0) hx hb dX9_layWays_14 (by decide) ?_
  refine va_put (D := D) (cl := vwCl) (ci := 9) (v := .int 0) (ty := tyX9 61) (C := RX9) (T := TX9) (N := 64) hx hb hts in_X9_layWays_X9 tyX9 tyX9_ok nmX9 hown hK hP hD hS 148 (wl_at (by decide) e168) rfl 61 (by decide) (hts (.fieldLink RX9 494 "EightReasonsModel" "fitting" "I") (List.mem_of_getElem? (i := 2) rfl)) (fun _ h9 => h9) rfl (tyX9_ok 61 (by decide)) rfl rfl (Nat.le_of_ble_eq_true rfl) dX9_layWays_15 (fun H locs hP hD hS => ?_)
  obtain ⟨f, hT, hP, hD, e170, hj171⟩ := stU (by decide) (TYm.p148 hT (show OKm ad cy c_text m_taped m_size m_faultKind m_faultPlace m_at m_end m_token m_number m_name c_points c_strands c_units c_told c_ruleFrom c_ruleTo c_code c_eWhat c_eSign m_bank m_rb m_codes m_within m_piled m_unitsInRule m_askStrand m_askTied m_thoughtClaim m_thoughtNeed m_thoughtAll c_roundOf m_acts m_undone m_laid m_firstMove m_seens m_time 0 0 148 _ from (show okX9 ad m_taped m_size m_faultKind m_faultPlace m_at m_end m_token m_number m_name m_bank m_rb m_codes m_within m_piled m_unitsInRule m_askStrand m_askTied m_thoughtClaim m_thoughtNeed m_thoughtAll m_acts m_undone m_laid m_firstMove m_seens m_time 0 0 148 _ from ⟨rfl, by omega, by omega, by omega, by omega, by omega, by omega, by omega, by omega, by omega, by omega, by omega, by omega, by omega, by omega, by omega⟩))) hP hD
  refine lv_iconst (v := 0) hx hb dX9_layWays_18 (by decide) ?_
  have hc0 : 0 ≤ cwF (0 : Int32).toInt := by rw [tl_0]; decide
  refine lv_istore_n (lv' := [(2, .int 0), (0, .ref (ad 148)), (1, .int p1)]) hx hb dX9_layWays_19 rfl hl (by decide) rfl (fun ls hl => ?_)
  exact j20 (Int.toNat (4097 - (0 : Int32).toInt)) f H locs ls (0 : Int32) m_askStrand m_askTied c_roundOf (0 : Int32) (0 : Int32) (by omega) (by omega) (by omega) hT hP hD hS (lv_sub hl [0, 1, 2] rfl)
