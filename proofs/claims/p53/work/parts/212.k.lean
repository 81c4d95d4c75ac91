set_option maxRecDepth 20000 in
theorem ggX9_ways_X9_layWays : GoodIn wsX9_ways wsX9_layWays := goodIn_r _ [6, 7, 1, 8, 9, 10, 11, 12, 13, 14, 5, 15, 16, 17, 18, 19, 20, 21, 22, 23, 24, 25, 26, 27, 28, 29, 30, 31, 32, 33, 34, 35, 36, 37, 38, 39, 40, 41, 42, 43, 44, 45, 46, 47, 48, 49, 50, 51, 52, 53, 54, 55, 56, 57, 58, 59, 60, 61, 62, 63, 64, 65, 66, 67, 68, 69, 70, 71, 72, 73, 74, 75, 76, 77, 78, 79, 80, 81, 82, 83, 84, 85, 86, 87, 88, 89, 90, 91, 92, 93, 94, 95, 96, 97, 98, 99, 100, 101, 102, 103, 104, 105, 106, 107, 108, 109, 110, 111, 112, 113, 114, 115, 116, 117, 118, 119, 120, 121, 122, 123, 124, 125, 126, 127, 128, 129, 130, 131, 132, 133, 134, 135, 136, 137, 138, 139, 140, 141, 142, 143, 144, 145, 146, 147, 148, 149, 150, 151, 152, 153, 154, 155, 156, 157, 158, 159, 160, 161, 162, 163, 164, 165, 166, 167, 168, 169, 170, 171, 172, 173, 174, 175, 176, 177, 178, 179, 180, 181, 182, 183, 184, 185, 186, 187, 188, 189, 190, 191, 192, 193, 194, 195, 196, 197, 198, 199, 200] rfl rfl
set_option maxRecDepth 20000 in
theorem gX9_ways_X9_layWays : GoodIn wsX9_ways (wsV RX9 500 RX9 yX9_layWays wsX9_layWays) := goodIn_app (goodIn_of _ (by decide +kernel)) ggX9_ways_X9_layWays
theorem dX9_ways_0 : decode cX9_ways 0 = .ok (.aload_n 0, 1) := by decide +kernel
theorem dX9_ways_1 : decode cX9_ways 1 = .ok (.iload_n 1, 1) := by decide +kernel
theorem dX9_ways_2 : decode cX9_ways 2 = .ok (.invokevirtual 500, 3) := by decide +kernel
theorem dX9_ways_5 : decode cX9_ways 5 = .ok (.aload_n 0, 1) := by decide +kernel
theorem dX9_ways_6 : decode cX9_ways 6 = .ok (.getfield 494, 3) := by decide +kernel
theorem dX9_ways_9 : decode cX9_ways 9 = .ok (.ireturn, 1) := by decide +kernel
set_option maxRecDepth 20000 in
theorem ggX9_sure_X9_isThread : GoodIn wsX9_sure wsX9_isThread := goodIn_r _ [9, 10, 11, 12, 8, 13, 14, 15, 16, 17, 18, 141, 142, 143, 144, 145, 146, 147, 148, 149, 150, 151, 152, 153, 154, 155, 156, 157, 158, 159, 160, 161, 162, 163, 164, 165, 166, 167, 168, 169, 170, 171, 172, 173, 174, 175, 176, 177, 178, 179, 180, 181, 182, 183, 184, 185, 186, 187, 188, 189, 190, 191, 192, 193, 194, 195, 196, 197, 198, 199, 200, 201, 202, 203, 204] rfl rfl
set_option maxRecDepth 20000 in
theorem gX9_sure_X9_isThread : GoodIn wsX9_sure (wsV RX9 408 RX9 yX9_isThread wsX9_isThread) := goodIn_app (goodIn_of _ (by decide +kernel)) ggX9_sure_X9_isThread
set_option maxRecDepth 20000 in
theorem ggX9_sure_X9_layWays : GoodIn wsX9_sure wsX9_layWays := goodIn_r _ [22, 1, 4, 23, 3, 24, 2, 25, 26, 27, 8, 28, 29, 30, 31, 32, 33, 34, 15, 35, 10, 11, 12, 13, 14, 36, 37, 38, 39, 40, 41, 42, 43, 44, 45, 46, 47, 48, 49, 50, 51, 52, 53, 54, 55, 56, 57, 58, 59, 60, 61, 62, 63, 64, 65, 66, 67, 68, 69, 70, 71, 72, 73, 74, 75, 76, 77, 78, 79, 80, 81, 82, 83, 84, 85, 86, 87, 88, 89, 90, 91, 92, 93, 94, 95, 96, 97, 98, 99, 100, 101, 102, 103, 104, 105, 106, 107, 108, 109, 110, 111, 112, 113, 114, 115, 116, 117, 118, 119, 16, 17, 18, 120, 121, 122, 123, 124, 125, 126, 127, 128, 129, 130, 131, 132, 133, 134, 135, 136, 137, 138, 139, 140, 141, 142, 143, 144, 145, 146, 147, 148, 149, 150, 151, 152, 153, 154, 155, 156, 157, 158, 159, 160, 161, 162, 163, 164, 165, 166, 167, 168, 169, 170, 171, 172, 173, 174, 175, 176, 177, 178, 179, 180, 181, 182, 183, 184, 185, 186, 187, 188, 189, 190, 191, 192, 193, 194, 195, 196, 197, 198, 199, 200, 201, 202, 203, 204] rfl rfl
set_option maxRecDepth 20000 in
theorem gX9_sure_X9_layWays : GoodIn wsX9_sure (wsV RX9 500 RX9 yX9_layWays wsX9_layWays) := goodIn_app (goodIn_of _ (by decide +kernel)) ggX9_sure_X9_layWays
theorem dX9_sure_0 : decode cX9_sure 0 = .ok (.aload_n 0, 1) := by decide +kernel
theorem dX9_sure_1 : decode cX9_sure 1 = .ok (.iload_n 1, 1) := by decide +kernel
theorem dX9_sure_2 : decode cX9_sure 2 = .ok (.invokevirtual 408, 3) := by decide +kernel
theorem dX9_sure_5 : decode cX9_sure 5 = .ok (.ifCond .ne 5, 3) := by decide +kernel
theorem dX9_sure_8 : decode cX9_sure 8 = .ok (.iconst (-1), 1) := by decide +kernel
theorem dX9_sure_9 : decode cX9_sure 9 = .ok (.ireturn, 1) := by decide +kernel
theorem dX9_sure_10 : decode cX9_sure 10 = .ok (.aload_n 0, 1) := by decide +kernel
theorem dX9_sure_11 : decode cX9_sure 11 = .ok (.iload_n 2, 1) := by decide +kernel
theorem dX9_sure_12 : decode cX9_sure 12 = .ok (.invokevirtual 500, 3) := by decide +kernel
theorem dX9_sure_15 : decode cX9_sure 15 = .ok (.iconst 0, 1) := by decide +kernel
theorem dX9_sure_16 : decode cX9_sure 16 = .ok (.istore_n 3, 1) := by decide +kernel
theorem dX9_sure_17 : decode cX9_sure 17 = .ok (.iconst 0, 1) := by decide +kernel
theorem dX9_sure_18 : decode cX9_sure 18 = .ok (.istore 4, 2) := by decide +kernel
theorem dX9_sure_20 : decode cX9_sure 20 = .ok (.iload 4, 2) := by decide +kernel
theorem dX9_sure_22 : decode cX9_sure 22 = .ok (.aload_n 0, 1) := by decide +kernel
theorem dX9_sure_23 : decode cX9_sure 23 = .ok (.getfield 491, 3) := by decide +kernel
theorem dX9_sure_26 : decode cX9_sure 26 = .ok (.if_icmp .ge 37, 3) := by decide +kernel
theorem dX9_sure_29 : decode cX9_sure 29 = .ok (.iload_n 3, 1) := by decide +kernel
theorem dX9_sure_30 : decode cX9_sure 30 = .ok (.aload_n 0, 1) := by decide +kernel
theorem dX9_sure_31 : decode cX9_sure 31 = .ok (.getfield 121, 3) := by decide +kernel
theorem dX9_sure_34 : decode cX9_sure 34 = .ok (.iload 4, 2) := by decide +kernel
theorem dX9_sure_36 : decode cX9_sure 36 = .ok (.baload, 1) := by decide +kernel
theorem dX9_sure_37 : decode cX9_sure 37 = .ok (.ifCond .eq 17, 3) := by decide +kernel
theorem dX9_sure_40 : decode cX9_sure 40 = .ok (.aload_n 0, 1) := by decide +kernel
theorem dX9_sure_41 : decode cX9_sure 41 = .ok (.getfield 103, 3) := by decide +kernel
theorem dX9_sure_44 : decode cX9_sure 44 = .ok (.iload 4, 2) := by decide +kernel
theorem dX9_sure_46 : decode cX9_sure 46 = .ok (.iaload, 1) := by decide +kernel
theorem dX9_sure_47 : decode cX9_sure 47 = .ok (.iload_n 1, 1) := by decide +kernel
theorem dX9_sure_48 : decode cX9_sure 48 = .ok (.ishr, 1) := by decide +kernel
theorem dX9_sure_49 : decode cX9_sure 49 = .ok (.iconst 1, 1) := by decide +kernel
theorem dX9_sure_50 : decode cX9_sure 50 = .ok (.iand, 1) := by decide +kernel
theorem dX9_sure_51 : decode cX9_sure 51 = .ok (.goto 4, 3) := by decide +kernel
theorem dX9_sure_54 : decode cX9_sure 54 = .ok (.iconst 0, 1) := by decide +kernel
theorem dX9_sure_55 : decode cX9_sure 55 = .ok (.iadd, 1) := by decide +kernel
theorem dX9_sure_56 : decode cX9_sure 56 = .ok (.istore_n 3, 1) := by decide +kernel
theorem dX9_sure_57 : decode cX9_sure 57 = .ok (.iinc 4 1, 3) := by decide +kernel
theorem dX9_sure_60 : decode cX9_sure 60 = .ok (.goto (-40), 3) := by decide +kernel
theorem dX9_sure_63 : decode cX9_sure 63 = .ok (.aload_n 0, 1) := by decide +kernel
theorem dX9_sure_64 : decode cX9_sure 64 = .ok (.getfield 494, 3) := by decide +kernel
theorem dX9_sure_67 : decode cX9_sure 67 = .ok (.ifCond .ne 7, 3) := by decide +kernel
theorem dX9_sure_70 : decode cX9_sure 70 = .ok (.iconst (-1), 1) := by decide +kernel
theorem dX9_sure_71 : decode cX9_sure 71 = .ok (.goto 25, 3) := by decide +kernel
theorem dX9_sure_74 : decode cX9_sure 74 = .ok (.iload_n 3, 1) := by decide +kernel
theorem dX9_sure_75 : decode cX9_sure 75 = .ok (.aload_n 0, 1) := by decide +kernel
theorem dX9_sure_76 : decode cX9_sure 76 = .ok (.getfield 494, 3) := by decide +kernel
theorem dX9_sure_79 : decode cX9_sure 79 = .ok (.if_icmp .ne 7, 3) := by decide +kernel
theorem dX9_sure_82 : decode cX9_sure 82 = .ok (.iconst 1, 1) := by decide +kernel
theorem dX9_sure_83 : decode cX9_sure 83 = .ok (.goto 13, 3) := by decide +kernel
theorem dX9_sure_86 : decode cX9_sure 86 = .ok (.iload_n 3, 1) := by decide +kernel
theorem dX9_sure_87 : decode cX9_sure 87 = .ok (.ifCond .ne 7, 3) := by decide +kernel
theorem dX9_sure_90 : decode cX9_sure 90 = .ok (.iconst 0, 1) := by decide +kernel
theorem dX9_sure_91 : decode cX9_sure 91 = .ok (.goto 5, 3) := by decide +kernel
theorem dX9_sure_94 : decode cX9_sure 94 = .ok (.bipush (-2), 2) := by decide +kernel
theorem dX9_sure_96 : decode cX9_sure 96 = .ok (.ireturn, 1) := by decide +kernel
theorem dX9_mostOf_0 : decode cX9_mostOf 0 = .ok (.iconst 0, 1) := by decide +kernel
theorem dX9_mostOf_1 : decode cX9_mostOf 1 = .ok (.istore_n 2, 1) := by decide +kernel
theorem dX9_mostOf_2 : decode cX9_mostOf 2 = .ok (.iconst 0, 1) := by decide +kernel
theorem dX9_mostOf_3 : decode cX9_mostOf 3 = .ok (.istore_n 3, 1) := by decide +kernel
theorem dX9_mostOf_4 : decode cX9_mostOf 4 = .ok (.iload_n 3, 1) := by decide +kernel
theorem dX9_mostOf_5 : decode cX9_mostOf 5 = .ok (.aload_n 0, 1) := by decide +kernel
theorem dX9_mostOf_6 : decode cX9_mostOf 6 = .ok (.getfield 491, 3) := by decide +kernel
theorem dX9_mostOf_9 : decode cX9_mostOf 9 = .ok (.if_icmp .ge 35, 3) := by decide +kernel
theorem dX9_mostOf_12 : decode cX9_mostOf 12 = .ok (.iload_n 2, 1) := by decide +kernel
theorem dX9_mostOf_13 : decode cX9_mostOf 13 = .ok (.aload_n 0, 1) := by decide +kernel
theorem dX9_mostOf_14 : decode cX9_mostOf 14 = .ok (.getfield 121, 3) := by decide +kernel
theorem dX9_mostOf_17 : decode cX9_mostOf 17 = .ok (.iload_n 3, 1) := by decide +kernel
theorem dX9_mostOf_18 : decode cX9_mostOf 18 = .ok (.baload, 1) := by decide +kernel
theorem dX9_mostOf_19 : decode cX9_mostOf 19 = .ok (.ifCond .eq 16, 3) := by decide +kernel
theorem dX9_mostOf_22 : decode cX9_mostOf 22 = .ok (.aload_n 0, 1) := by decide +kernel
theorem dX9_mostOf_23 : decode cX9_mostOf 23 = .ok (.getfield 106, 3) := by decide +kernel
theorem dX9_mostOf_26 : decode cX9_mostOf 26 = .ok (.iload_n 3, 1) := by decide +kernel
theorem dX9_mostOf_27 : decode cX9_mostOf 27 = .ok (.iaload, 1) := by decide +kernel
theorem dX9_mostOf_28 : decode cX9_mostOf 28 = .ok (.iload_n 1, 1) := by decide +kernel
theorem dX9_mostOf_29 : decode cX9_mostOf 29 = .ok (.ishr, 1) := by decide +kernel
theorem dX9_mostOf_30 : decode cX9_mostOf 30 = .ok (.iconst 1, 1) := by decide +kernel
theorem dX9_mostOf_31 : decode cX9_mostOf 31 = .ok (.iand, 1) := by decide +kernel
theorem dX9_mostOf_32 : decode cX9_mostOf 32 = .ok (.goto 4, 3) := by decide +kernel
theorem dX9_mostOf_35 : decode cX9_mostOf 35 = .ok (.iconst 0, 1) := by decide +kernel
theorem dX9_mostOf_36 : decode cX9_mostOf 36 = .ok (.iadd, 1) := by decide +kernel
theorem dX9_mostOf_37 : decode cX9_mostOf 37 = .ok (.istore_n 2, 1) := by decide +kernel
theorem dX9_mostOf_38 : decode cX9_mostOf 38 = .ok (.iinc 3 1, 3) := by decide +kernel
theorem dX9_mostOf_41 : decode cX9_mostOf 41 = .ok (.goto (-37), 3) := by decide +kernel
theorem dX9_mostOf_44 : decode cX9_mostOf 44 = .ok (.iload_n 2, 1) := by decide +kernel
theorem dX9_mostOf_45 : decode cX9_mostOf 45 = .ok (.aload_n 0, 1) := by decide +kernel
theorem dX9_mostOf_46 : decode cX9_mostOf 46 = .ok (.getfield 494, 3) := by decide +kernel
theorem dX9_mostOf_49 : decode cX9_mostOf 49 = .ok (.iload_n 2, 1) := by decide +kernel
theorem dX9_mostOf_50 : decode cX9_mostOf 50 = .ok (.isub, 1) := by decide +kernel
theorem dX9_mostOf_51 : decode cX9_mostOf 51 = .ok (.if_icmp .le 7, 3) := by decide +kernel
theorem dX9_mostOf_54 : decode cX9_mostOf 54 = .ok (.iload_n 2, 1) := by decide +kernel
theorem dX9_mostOf_55 : decode cX9_mostOf 55 = .ok (.goto 9, 3) := by decide +kernel
theorem dX9_mostOf_58 : decode cX9_mostOf 58 = .ok (.aload_n 0, 1) := by decide +kernel
theorem dX9_mostOf_59 : decode cX9_mostOf 59 = .ok (.getfield 494, 3) := by decide +kernel
theorem dX9_mostOf_62 : decode cX9_mostOf 62 = .ok (.iload_n 2, 1) := by decide +kernel
theorem dX9_mostOf_63 : decode cX9_mostOf 63 = .ok (.isub, 1) := by decide +kernel
theorem dX9_mostOf_64 : decode cX9_mostOf 64 = .ok (.ireturn, 1) := by decide +kernel
set_option maxRecDepth 20000 in
theorem ggX9_ask_X9_isIn : GoodIn wsX9_ask wsX9_isIn := goodIn_r _ [5] rfl rfl
set_option maxRecDepth 20000 in
theorem gX9_ask_X9_isIn : GoodIn wsX9_ask (va_wsS RX9 346 yX9_isIn wsX9_isIn) := goodIn_app (goodIn_of _ (by decide +kernel)) ggX9_ask_X9_isIn
set_option maxRecDepth 20000 in
theorem ggX9_ask_X9_layWays : GoodIn wsX9_ask wsX9_layWays := goodIn_r _ [9, 10, 1, 11, 12, 13, 14, 15, 16, 17, 4, 18, 19, 20, 21, 22, 23, 24, 25, 26, 27, 28, 29, 30, 31, 32, 33, 34, 35, 36, 37, 38, 39, 40, 41, 42, 43, 44, 45, 46, 47, 48, 49, 50, 51, 52, 53, 54, 55, 56, 57, 58, 59, 60, 61, 62, 63, 64, 65, 66, 67, 68, 69, 70, 71, 72, 73, 74, 75, 76, 77, 78, 79, 80, 81, 82, 83, 84, 85, 86, 87, 88, 89, 90, 91, 92, 93, 94, 95, 96, 97, 98, 99, 100, 101, 102, 103, 104, 105, 106, 107, 108, 109, 110, 111, 112, 113, 114, 115, 2, 3, 5, 116, 117, 118, 119, 120, 121, 122, 123, 124, 125, 126, 127, 128, 129, 130, 131, 132, 133, 134, 135, 136, 141, 142, 143, 144, 145, 146, 147, 148, 149, 150, 151, 152, 153, 154, 155, 156, 157, 158, 159, 160, 161, 162, 163, 164, 165, 166, 167, 168, 169, 170, 171, 172, 173, 174, 175, 176, 177, 178, 179, 180, 181, 182, 183, 184, 185, 186, 187, 188, 189, 190, 191, 192, 193, 194, 195, 196, 197, 198, 199, 200, 201, 202, 203, 204] rfl rfl
set_option maxRecDepth 20000 in
theorem gX9_ask_X9_layWays : GoodIn wsX9_ask (wsV RX9 500 RX9 yX9_layWays wsX9_layWays) := goodIn_app (goodIn_of _ (by decide +kernel)) ggX9_ask_X9_layWays
set_option maxRecDepth 20000 in
theorem ggX9_ask_X9_many : GoodIn wsX9_ask wsX9_many := goodIn_r _ [106, 107, 25, 141, 142, 143, 144, 145, 146, 147, 148, 149, 150, 151, 152, 153, 154, 155, 156, 157, 158, 159, 160, 161, 162, 163, 164, 165, 166, 167, 168, 169, 170, 171, 172, 173, 174, 175, 176, 177, 178, 179, 180, 181, 182, 183, 184, 185, 186, 187, 188, 189, 190, 191, 192, 193, 194, 195, 196, 197, 198, 199, 200, 201, 202, 203, 204] rfl rfl
set_option maxRecDepth 20000 in
theorem gX9_ask_X9_many : GoodIn wsX9_ask (wsV RX9 343 RX9 yX9_many wsX9_many) := goodIn_app (goodIn_of _ (by decide +kernel)) ggX9_ask_X9_many
set_option maxRecDepth 20000 in
theorem ggX9_ask_X9_isClaim : GoodIn wsX9_ask wsX9_isClaim := goodIn_r _ [119, 92, 25, 112, 113, 114, 4, 115, 103, 104, 105, 106, 107, 2, 3, 5, 141, 142, 143, 144, 145, 146, 147, 148, 149, 150, 151, 152, 153, 154, 155, 156, 157, 158, 159, 160, 161, 162, 163, 164, 165, 166, 167, 168, 169, 170, 171, 172, 173, 174, 175, 176, 177, 178, 179, 180, 181, 182, 183, 184, 185, 186, 187, 188, 189, 190, 191, 192, 193, 194, 195, 196, 197, 198, 199, 200, 201, 202, 203, 204] rfl rfl
set_option maxRecDepth 20000 in
theorem gX9_ask_X9_isClaim : GoodIn wsX9_ask (wsV RX9 390 RX9 yX9_isClaim wsX9_isClaim) := goodIn_app (goodIn_of _ (by decide +kernel)) ggX9_ask_X9_isClaim
set_option maxRecDepth 20000 in
theorem ggX9_ask_X9_mostOf : GoodIn wsX9_ask wsX9_mostOf := goodIn_r _ [140, 10, 14, 13, 1, 141, 142, 143, 144, 145, 146, 147, 148, 149, 150, 151, 152, 153, 154, 155, 156, 157, 158, 159, 160, 161, 162, 163, 164, 165, 166, 167, 168, 169, 170, 171, 172, 173, 174, 175, 176, 177, 178, 179, 180, 181, 182, 183, 184, 185, 186, 187, 188, 189, 190, 191, 192, 193, 194, 195, 196, 197, 198, 199, 200, 201, 202, 203, 204] rfl rfl
set_option maxRecDepth 20000 in
theorem gX9_ask_X9_mostOf : GoodIn wsX9_ask (wsV RX9 503 RX9 yX9_mostOf wsX9_mostOf) := goodIn_app (goodIn_of _ (by decide +kernel)) ggX9_ask_X9_mostOf
theorem dX9_ask_0 : decode cX9_ask 0 = .ok (.iload_n 1, 1) := by decide +kernel
theorem dX9_ask_1 : decode cX9_ask 1 = .ok (.iconst 0, 1) := by decide +kernel
theorem dX9_ask_2 : decode cX9_ask 2 = .ok (.iconst 1, 1) := by decide +kernel
theorem dX9_ask_3 : decode cX9_ask 3 = .ok (.invokestatic 346, 3) := by decide +kernel
theorem dX9_ask_6 : decode cX9_ask 6 = .ok (.ifCond .ne 5, 3) := by decide +kernel
theorem dX9_ask_9 : decode cX9_ask 9 = .ok (.iconst (-1), 1) := by decide +kernel
theorem dX9_ask_10 : decode cX9_ask 10 = .ok (.ireturn, 1) := by decide +kernel
theorem dX9_ask_11 : decode cX9_ask 11 = .ok (.aload_n 0, 1) := by decide +kernel
theorem dX9_ask_12 : decode cX9_ask 12 = .ok (.iload_n 2, 1) := by decide +kernel
theorem dX9_ask_13 : decode cX9_ask 13 = .ok (.invokevirtual 500, 3) := by decide +kernel
theorem dX9_ask_16 : decode cX9_ask 16 = .ok (.iconst (-1), 1) := by decide +kernel
theorem dX9_ask_17 : decode cX9_ask 17 = .ok (.istore_n 3, 1) := by decide +kernel
theorem dX9_ask_18 : decode cX9_ask 18 = .ok (.iconst 0, 1) := by decide +kernel
theorem dX9_ask_19 : decode cX9_ask 19 = .ok (.istore 4, 2) := by decide +kernel
theorem dX9_ask_21 : decode cX9_ask 21 = .ok (.iload 4, 2) := by decide +kernel
theorem dX9_ask_23 : decode cX9_ask 23 = .ok (.aload_n 0, 1) := by decide +kernel
theorem dX9_ask_24 : decode cX9_ask 24 = .ok (.invokevirtual 343, 3) := by decide +kernel
theorem dX9_ask_27 : decode cX9_ask 27 = .ok (.if_icmp .ge 39, 3) := by decide +kernel
theorem dX9_ask_30 : decode cX9_ask 30 = .ok (.aload_n 0, 1) := by decide +kernel
theorem dX9_ask_31 : decode cX9_ask 31 = .ok (.iload 4, 2) := by decide +kernel
theorem dX9_ask_33 : decode cX9_ask 33 = .ok (.invokevirtual 390, 3) := by decide +kernel
theorem dX9_ask_36 : decode cX9_ask 36 = .ok (.ifCond .eq 24, 3) := by decide +kernel
theorem dX9_ask_39 : decode cX9_ask 39 = .ok (.iload_n 3, 1) := by decide +kernel
theorem dX9_ask_40 : decode cX9_ask 40 = .ok (.ifCond .lt 17, 3) := by decide +kernel
theorem dX9_ask_43 : decode cX9_ask 43 = .ok (.aload_n 0, 1) := by decide +kernel
theorem dX9_ask_44 : decode cX9_ask 44 = .ok (.iload 4, 2) := by decide +kernel
theorem dX9_ask_46 : decode cX9_ask 46 = .ok (.invokevirtual 503, 3) := by decide +kernel
theorem dX9_ask_49 : decode cX9_ask 49 = .ok (.aload_n 0, 1) := by decide +kernel
theorem dX9_ask_50 : decode cX9_ask 50 = .ok (.iload_n 3, 1) := by decide +kernel
theorem dX9_ask_51 : decode cX9_ask 51 = .ok (.invokevirtual 503, 3) := by decide +kernel
theorem dX9_ask_54 : decode cX9_ask 54 = .ok (.if_icmp .ge 6, 3) := by decide +kernel
theorem dX9_ask_57 : decode cX9_ask 57 = .ok (.iload 4, 2) := by decide +kernel
theorem dX9_ask_59 : decode cX9_ask 59 = .ok (.istore_n 3, 1) := by decide +kernel
theorem dX9_ask_60 : decode cX9_ask 60 = .ok (.iinc 4 1, 3) := by decide +kernel
theorem dX9_ask_63 : decode cX9_ask 63 = .ok (.goto (-42), 3) := by decide +kernel
theorem dX9_ask_66 : decode cX9_ask 66 = .ok (.iload_n 3, 1) := by decide +kernel
theorem dX9_ask_67 : decode cX9_ask 67 = .ok (.ifCond .lt 10, 3) := by decide +kernel
theorem dX9_ask_70 : decode cX9_ask 70 = .ok (.aload_n 0, 1) := by decide +kernel
theorem dX9_ask_71 : decode cX9_ask 71 = .ok (.getfield 494, 3) := by decide +kernel
theorem dX9_ask_74 : decode cX9_ask 74 = .ok (.ifCond .ne 7, 3) := by decide +kernel
theorem dX9_ask_77 : decode cX9_ask 77 = .ok (.iconst (-1), 1) := by decide +kernel
theorem dX9_ask_78 : decode cX9_ask 78 = .ok (.goto 16, 3) := by decide +kernel
theorem dX9_ask_81 : decode cX9_ask 81 = .ok (.iload_n 1, 1) := by decide +kernel
theorem dX9_ask_82 : decode cX9_ask 82 = .ok (.ifCond .ne 7, 3) := by decide +kernel
theorem dX9_ask_85 : decode cX9_ask 85 = .ok (.iload_n 3, 1) := by decide +kernel
theorem dX9_ask_86 : decode cX9_ask 86 = .ok (.goto 8, 3) := by decide +kernel
theorem dX9_ask_89 : decode cX9_ask 89 = .ok (.aload_n 0, 1) := by decide +kernel
theorem dX9_ask_90 : decode cX9_ask 90 = .ok (.iload_n 3, 1) := by decide +kernel
theorem dX9_ask_91 : decode cX9_ask 91 = .ok (.invokevirtual 503, 3) := by decide +kernel
theorem dX9_ask_94 : decode cX9_ask 94 = .ok (.ireturn, 1) := by decide +kernel
set_option maxRecDepth 20000 in
theorem ggX9_image_X9_isIn : GoodIn wsX9_image wsX9_isIn := goodIn_r _ [7] rfl rfl
set_option maxRecDepth 20000 in
theorem gX9_image_X9_isIn : GoodIn wsX9_image (va_wsS RX9 346 yX9_isIn wsX9_isIn) := goodIn_app (goodIn_of _ (by decide +kernel)) ggX9_image_X9_isIn
theorem dX9_image_0 : decode cX9_image 0 = .ok (.iload_n 1, 1) := by decide +kernel
theorem dX9_image_1 : decode cX9_image 1 = .ok (.iconst 0, 1) := by decide +kernel
theorem dX9_image_2 : decode cX9_image 2 = .ok (.iconst 2, 1) := by decide +kernel
theorem dX9_image_3 : decode cX9_image 3 = .ok (.invokestatic 346, 3) := by decide +kernel
theorem dX9_image_6 : decode cX9_image 6 = .ok (.ifCond .ne 5, 3) := by decide +kernel
theorem dX9_image_9 : decode cX9_image 9 = .ok (.iconst (-1), 1) := by decide +kernel
theorem dX9_image_10 : decode cX9_image 10 = .ok (.ireturn, 1) := by decide +kernel
theorem dX9_image_11 : decode cX9_image 11 = .ok (.iconst 0, 1) := by decide +kernel
theorem dX9_image_12 : decode cX9_image 12 = .ok (.istore_n 2, 1) := by decide +kernel
theorem dX9_image_13 : decode cX9_image 13 = .ok (.iload_n 2, 1) := by decide +kernel
theorem dX9_image_14 : decode cX9_image 14 = .ok (.bipush 16, 2) := by decide +kernel
theorem dX9_image_16 : decode cX9_image 16 = .ok (.if_icmp .ge 26, 3) := by decide +kernel
theorem dX9_image_19 : decode cX9_image 19 = .ok (.aload_n 0, 1) := by decide +kernel
theorem dX9_image_20 : decode cX9_image 20 = .ok (.getfield 125, 3) := by decide +kernel
theorem dX9_image_23 : decode cX9_image 23 = .ok (.bipush 16, 2) := by decide +kernel
theorem dX9_image_25 : decode cX9_image 25 = .ok (.iload_n 1, 1) := by decide +kernel
theorem dX9_image_26 : decode cX9_image 26 = .ok (.imul, 1) := by decide +kernel
theorem dX9_image_27 : decode cX9_image 27 = .ok (.iload_n 2, 1) := by decide +kernel
theorem dX9_image_28 : decode cX9_image 28 = .ok (.iadd, 1) := by decide +kernel
theorem dX9_image_29 : decode cX9_image 29 = .ok (.aload_n 0, 1) := by decide +kernel
theorem dX9_image_30 : decode cX9_image 30 = .ok (.getfield 76, 3) := by decide +kernel
theorem dX9_image_33 : decode cX9_image 33 = .ok (.iload_n 2, 1) := by decide +kernel
theorem dX9_image_34 : decode cX9_image 34 = .ok (.iaload, 1) := by decide +kernel
theorem dX9_image_35 : decode cX9_image 35 = .ok (.iastore, 1) := by decide +kernel
theorem dX9_image_36 : decode cX9_image 36 = .ok (.iinc 2 1, 3) := by decide +kernel
theorem dX9_image_39 : decode cX9_image 39 = .ok (.goto (-26), 3) := by decide +kernel
theorem dX9_image_42 : decode cX9_image 42 = .ok (.aload_n 0, 1) := by decide +kernel
theorem dX9_image_43 : decode cX9_image 43 = .ok (.getfield 128, 3) := by decide +kernel
theorem dX9_image_46 : decode cX9_image 46 = .ok (.iload_n 1, 1) := by decide +kernel
theorem dX9_image_47 : decode cX9_image 47 = .ok (.iconst 1, 1) := by decide +kernel
theorem dX9_image_48 : decode cX9_image 48 = .ok (.bastore, 1) := by decide +kernel
theorem dX9_image_49 : decode cX9_image 49 = .ok (.aload_n 0, 1) := by decide +kernel
theorem dX9_image_50 : decode cX9_image 50 = .ok (.getfield 76, 3) := by decide +kernel
theorem dX9_image_53 : decode cX9_image 53 = .ok (.bipush 14, 2) := by decide +kernel
theorem dX9_image_55 : decode cX9_image 55 = .ok (.iaload, 1) := by decide +kernel
theorem dX9_image_56 : decode cX9_image 56 = .ok (.ireturn, 1) := by decide +kernel
set_option maxRecDepth 20000 in
theorem ggX9_back_X9_isIn : GoodIn wsX9_back wsX9_isIn := goodIn_r _ [9] rfl rfl
set_option maxRecDepth 20000 in
theorem gX9_back_X9_isIn : GoodIn wsX9_back (va_wsS RX9 346 yX9_isIn wsX9_isIn) := goodIn_app (goodIn_of _ (by decide +kernel)) ggX9_back_X9_isIn
theorem dX9_back_0 : decode cX9_back 0 = .ok (.iload_n 1, 1) := by decide +kernel
theorem dX9_back_1 : decode cX9_back 1 = .ok (.iconst 0, 1) := by decide +kernel
theorem dX9_back_2 : decode cX9_back 2 = .ok (.iconst 2, 1) := by decide +kernel
theorem dX9_back_3 : decode cX9_back 3 = .ok (.invokestatic 346, 3) := by decide +kernel
theorem dX9_back_6 : decode cX9_back 6 = .ok (.ifCond .eq 12, 3) := by decide +kernel
theorem dX9_back_9 : decode cX9_back 9 = .ok (.aload_n 0, 1) := by decide +kernel
theorem dX9_back_10 : decode cX9_back 10 = .ok (.getfield 128, 3) := by decide +kernel
theorem dX9_back_13 : decode cX9_back 13 = .ok (.iload_n 1, 1) := by decide +kernel
theorem dX9_back_14 : decode cX9_back 14 = .ok (.baload, 1) := by decide +kernel
theorem dX9_back_15 : decode cX9_back 15 = .ok (.ifCond .ne 5, 3) := by decide +kernel
theorem dX9_back_18 : decode cX9_back 18 = .ok (.iconst (-1), 1) := by decide +kernel
theorem dX9_back_19 : decode cX9_back 19 = .ok (.ireturn, 1) := by decide +kernel
theorem dX9_back_20 : decode cX9_back 20 = .ok (.iconst 0, 1) := by decide +kernel
theorem dX9_back_21 : decode cX9_back 21 = .ok (.istore_n 2, 1) := by decide +kernel
theorem dX9_back_22 : decode cX9_back 22 = .ok (.iload_n 2, 1) := by decide +kernel
theorem dX9_back_23 : decode cX9_back 23 = .ok (.bipush 16, 2) := by decide +kernel
theorem dX9_back_25 : decode cX9_back 25 = .ok (.if_icmp .ge 26, 3) := by decide +kernel
theorem dX9_back_28 : decode cX9_back 28 = .ok (.aload_n 0, 1) := by decide +kernel
theorem dX9_back_29 : decode cX9_back 29 = .ok (.getfield 76, 3) := by decide +kernel
theorem dX9_back_32 : decode cX9_back 32 = .ok (.iload_n 2, 1) := by decide +kernel
theorem dX9_back_33 : decode cX9_back 33 = .ok (.aload_n 0, 1) := by decide +kernel
theorem dX9_back_34 : decode cX9_back 34 = .ok (.getfield 125, 3) := by decide +kernel
theorem dX9_back_37 : decode cX9_back 37 = .ok (.bipush 16, 2) := by decide +kernel
theorem dX9_back_39 : decode cX9_back 39 = .ok (.iload_n 1, 1) := by decide +kernel
theorem dX9_back_40 : decode cX9_back 40 = .ok (.imul, 1) := by decide +kernel
theorem dX9_back_41 : decode cX9_back 41 = .ok (.iload_n 2, 1) := by decide +kernel
theorem dX9_back_42 : decode cX9_back 42 = .ok (.iadd, 1) := by decide +kernel
theorem dX9_back_43 : decode cX9_back 43 = .ok (.iaload, 1) := by decide +kernel
theorem dX9_back_44 : decode cX9_back 44 = .ok (.iastore, 1) := by decide +kernel
theorem dX9_back_45 : decode cX9_back 45 = .ok (.iinc 2 1, 3) := by decide +kernel
theorem dX9_back_48 : decode cX9_back 48 = .ok (.goto (-26), 3) := by decide +kernel
theorem dX9_back_51 : decode cX9_back 51 = .ok (.aload_n 0, 1) := by decide +kernel
theorem dX9_back_52 : decode cX9_back 52 = .ok (.iconst 0, 1) := by decide +kernel
theorem dX9_back_53 : decode cX9_back 53 = .ok (.putfield 368, 3) := by decide +kernel
theorem dX9_back_56 : decode cX9_back 56 = .ok (.aload_n 0, 1) := by decide +kernel
theorem dX9_back_57 : decode cX9_back 57 = .ok (.iconst 0, 1) := by decide +kernel
theorem dX9_back_58 : decode cX9_back 58 = .ok (.putfield 371, 3) := by decide +kernel
theorem dX9_back_61 : decode cX9_back 61 = .ok (.aload_n 0, 1) := by decide +kernel
theorem dX9_back_62 : decode cX9_back 62 = .ok (.getfield 76, 3) := by decide +kernel
theorem dX9_back_65 : decode cX9_back 65 = .ok (.bipush 14, 2) := by decide +kernel
theorem dX9_back_67 : decode cX9_back 67 = .ok (.iaload, 1) := by decide +kernel
theorem dX9_back_68 : decode cX9_back 68 = .ok (.ireturn, 1) := by decide +kernel
set_option maxRecDepth 20000 in
theorem ggX9_about_X9_many : GoodIn wsX9_about wsX9_many := goodIn_r _ [15, 16, 8, 38, 39, 40, 41, 42, 43, 44, 45, 46, 47, 48, 49, 50, 51, 52, 53, 54, 55, 56, 57, 58, 59, 60, 61, 62, 63, 64, 65, 66, 67, 68, 69, 70, 71, 72, 73, 74, 75, 76, 77, 78, 79, 80, 81, 82, 83, 84, 85, 86, 87, 88, 89, 90, 91, 92, 93, 94, 95, 96, 97, 98, 99, 100, 101] rfl rfl
set_option maxRecDepth 20000 in
theorem gX9_about_X9_many : GoodIn wsX9_about (wsV RX9 343 RX9 yX9_many wsX9_many) := goodIn_app (goodIn_of _ (by decide +kernel)) ggX9_about_X9_many
set_option maxRecDepth 20000 in
theorem ggX9_about_X9_threads : GoodIn wsX9_about wsX9_threads := goodIn_r _ [20, 21, 8, 38, 39, 40, 41, 42, 43, 44, 45, 46, 47, 48, 49, 50, 51, 52, 53, 54, 55, 56, 57, 58, 59, 60, 61, 62, 63, 64, 65, 66, 67, 68, 69, 70, 71, 72, 73, 74, 75, 76, 77, 78, 79, 80, 81, 82, 83, 84, 85, 86, 87, 88, 89, 90, 91, 92, 93, 94, 95, 96, 97, 98, 99, 100, 101] rfl rfl
set_option maxRecDepth 20000 in
theorem gX9_about_X9_threads : GoodIn wsX9_about (wsV RX9 350 RX9 yX9_threads wsX9_threads) := goodIn_app (goodIn_of _ (by decide +kernel)) ggX9_about_X9_threads
set_option maxRecDepth 20000 in
theorem ggX9_about_X9_facts : GoodIn wsX9_about wsX9_facts := goodIn_r _ [25, 11, 12, 13, 14, 15, 16, 8, 26, 27, 28, 29, 30, 31, 32, 33, 34, 35, 36, 37, 38, 39, 40, 41, 42, 43, 44, 45, 46, 47, 48, 49, 50, 51, 52, 53, 54, 55, 56, 57, 58, 59, 60, 61, 62, 63, 64, 65, 66, 67, 68, 69, 70, 71, 72, 73, 74, 75, 76, 77, 78, 79, 80, 81, 82, 83, 84, 85, 86, 87, 88, 89, 90, 91, 92, 93, 94, 95, 96, 97, 98, 99, 100, 101] rfl rfl
set_option maxRecDepth 20000 in
theorem gX9_about_X9_facts : GoodIn wsX9_about (wsV RX9 362 RX9 yX9_facts wsX9_facts) := goodIn_app (goodIn_of _ (by decide +kernel)) ggX9_about_X9_facts
theorem dX9_about_0 : decode cX9_about 0 = .ok (.iload_n 1, 1) := by decide +kernel
theorem dX9_about_1 : decode cX9_about 1 = .ok (.tableswitch 170 0 14 #[75, 80, 85, 90, 97, 104, 112, 120, 125, 130, 135, 140, 145, 155, 165], 75) := by decide +kernel
theorem dX9_about_76 : decode cX9_about 76 = .ok (.aload_n 0, 1) := by decide +kernel
theorem dX9_about_77 : decode cX9_about 77 = .ok (.invokevirtual 343, 3) := by decide +kernel
theorem dX9_about_80 : decode cX9_about 80 = .ok (.ireturn, 1) := by decide +kernel
theorem dX9_about_81 : decode cX9_about 81 = .ok (.aload_n 0, 1) := by decide +kernel
theorem dX9_about_82 : decode cX9_about 82 = .ok (.invokevirtual 350, 3) := by decide +kernel
theorem dX9_about_85 : decode cX9_about 85 = .ok (.ireturn, 1) := by decide +kernel
theorem dX9_about_86 : decode cX9_about 86 = .ok (.aload_n 0, 1) := by decide +kernel
theorem dX9_about_87 : decode cX9_about 87 = .ok (.invokevirtual 362, 3) := by decide +kernel
theorem dX9_about_90 : decode cX9_about 90 = .ok (.ireturn, 1) := by decide +kernel
theorem dX9_about_91 : decode cX9_about 91 = .ok (.aload_n 0, 1) := by decide +kernel
theorem dX9_about_92 : decode cX9_about 92 = .ok (.getfield 76, 3) := by decide +kernel
theorem dX9_about_95 : decode cX9_about 95 = .ok (.iconst 0, 1) := by decide +kernel
theorem dX9_about_96 : decode cX9_about 96 = .ok (.iaload, 1) := by decide +kernel
theorem dX9_about_97 : decode cX9_about 97 = .ok (.ireturn, 1) := by decide +kernel
theorem dX9_about_98 : decode cX9_about 98 = .ok (.aload_n 0, 1) := by decide +kernel
theorem dX9_about_99 : decode cX9_about 99 = .ok (.getfield 76, 3) := by decide +kernel
theorem dX9_about_102 : decode cX9_about 102 = .ok (.iconst 1, 1) := by decide +kernel
theorem dX9_about_103 : decode cX9_about 103 = .ok (.iaload, 1) := by decide +kernel
theorem dX9_about_104 : decode cX9_about 104 = .ok (.ireturn, 1) := by decide +kernel
theorem dX9_about_105 : decode cX9_about 105 = .ok (.aload_n 0, 1) := by decide +kernel
theorem dX9_about_106 : decode cX9_about 106 = .ok (.getfield 76, 3) := by decide +kernel
theorem dX9_about_109 : decode cX9_about 109 = .ok (.bipush 14, 2) := by decide +kernel
theorem dX9_about_111 : decode cX9_about 111 = .ok (.iaload, 1) := by decide +kernel
theorem dX9_about_112 : decode cX9_about 112 = .ok (.ireturn, 1) := by decide +kernel
theorem dX9_about_113 : decode cX9_about 113 = .ok (.aload_n 0, 1) := by decide +kernel
theorem dX9_about_114 : decode cX9_about 114 = .ok (.getfield 76, 3) := by decide +kernel
theorem dX9_about_117 : decode cX9_about 117 = .ok (.bipush 15, 2) := by decide +kernel
theorem dX9_about_119 : decode cX9_about 119 = .ok (.iaload, 1) := by decide +kernel
theorem dX9_about_120 : decode cX9_about 120 = .ok (.ireturn, 1) := by decide +kernel
theorem dX9_about_121 : decode cX9_about 121 = .ok (.aload_n 0, 1) := by decide +kernel
theorem dX9_about_122 : decode cX9_about 122 = .ok (.getfield 368, 3) := by decide +kernel
theorem dX9_about_125 : decode cX9_about 125 = .ok (.ireturn, 1) := by decide +kernel
theorem dX9_about_126 : decode cX9_about 126 = .ok (.aload_n 0, 1) := by decide +kernel
theorem dX9_about_127 : decode cX9_about 127 = .ok (.getfield 371, 3) := by decide +kernel
theorem dX9_about_130 : decode cX9_about 130 = .ok (.ireturn, 1) := by decide +kernel
theorem dX9_about_131 : decode cX9_about 131 = .ok (.aload_n 0, 1) := by decide +kernel
theorem dX9_about_132 : decode cX9_about 132 = .ok (.getfield 374, 3) := by decide +kernel
theorem dX9_about_135 : decode cX9_about 135 = .ok (.ireturn, 1) := by decide +kernel
theorem dX9_about_136 : decode cX9_about 136 = .ok (.aload_n 0, 1) := by decide +kernel
theorem dX9_about_137 : decode cX9_about 137 = .ok (.getfield 488, 3) := by decide +kernel
theorem dX9_about_140 : decode cX9_about 140 = .ok (.ireturn, 1) := by decide +kernel
theorem dX9_about_141 : decode cX9_about 141 = .ok (.aload_n 0, 1) := by decide +kernel
theorem dX9_about_142 : decode cX9_about 142 = .ok (.getfield 236, 3) := by decide +kernel
theorem dX9_about_145 : decode cX9_about 145 = .ok (.ireturn, 1) := by decide +kernel
theorem dX9_about_146 : decode cX9_about 146 = .ok (.aload_n 0, 1) := by decide +kernel
theorem dX9_about_147 : decode cX9_about 147 = .ok (.getfield 27, 3) := by decide +kernel
theorem dX9_about_150 : decode cX9_about 150 = .ok (.aload_n 0, 1) := by decide +kernel
theorem dX9_about_151 : decode cX9_about 151 = .ok (.getfield 239, 3) := by decide +kernel
theorem dX9_about_154 : decode cX9_about 154 = .ok (.iaload, 1) := by decide +kernel
theorem dX9_about_155 : decode cX9_about 155 = .ok (.ireturn, 1) := by decide +kernel
theorem dX9_about_156 : decode cX9_about 156 = .ok (.aload_n 0, 1) := by decide +kernel
theorem dX9_about_157 : decode cX9_about 157 = .ok (.getfield 30, 3) := by decide +kernel
theorem dX9_about_160 : decode cX9_about 160 = .ok (.aload_n 0, 1) := by decide +kernel
theorem dX9_about_161 : decode cX9_about 161 = .ok (.getfield 239, 3) := by decide +kernel
theorem dX9_about_164 : decode cX9_about 164 = .ok (.iaload, 1) := by decide +kernel
theorem dX9_about_165 : decode cX9_about 165 = .ok (.ireturn, 1) := by decide +kernel
theorem dX9_about_166 : decode cX9_about 166 = .ok (.aload_n 0, 1) := by decide +kernel
theorem dX9_about_167 : decode cX9_about 167 = .ok (.getfield 377, 3) := by decide +kernel
theorem dX9_about_170 : decode cX9_about 170 = .ok (.ireturn, 1) := by decide +kernel
theorem dX9_about_171 : decode cX9_about 171 = .ok (.iconst (-1), 1) := by decide +kernel
theorem dX9_about_172 : decode cX9_about 172 = .ok (.ireturn, 1) := by decide +kernel
theorem in_X9_ways_X9 : ∀ w ∈ wsX90, w ∈ wsX9_ways := fun _ h => List.mem_cons_of_mem _ (List.mem_append_right _ h)
theorem in_X9_sure_X9 : ∀ w ∈ wsX90, w ∈ wsX9_sure := fun _ h => List.mem_cons_of_mem _ (List.mem_append_right _ h)
theorem in_X9_mostOf_X9 : ∀ w ∈ wsX90, w ∈ wsX9_mostOf := fun _ h => List.mem_cons_of_mem _ (List.mem_append_right _ h)
theorem in_X9_ask_X9 : ∀ w ∈ wsX90, w ∈ wsX9_ask := fun _ h => List.mem_cons_of_mem _ (List.mem_append_right _ h)
theorem in_X9_image_X9 : ∀ w ∈ wsX90, w ∈ wsX9_image := fun _ h => List.mem_cons_of_mem _ (List.mem_append_right _ h)
theorem in_X9_back_X9 : ∀ w ∈ wsX90, w ∈ wsX9_back := fun _ h => List.mem_cons_of_mem _ (List.mem_append_right _ h)
theorem in_X9_about_X9 : ∀ w ∈ wsX90, w ∈ wsX9_about := fun _ h => List.mem_cons_of_mem _ (List.mem_append_right _ h)
set_option maxHeartbeats 4000000 in
set_option maxRecDepth 100000 in
theorem s_X9_ways_0 (l : Launch) (B0 : Nat) (adK adV : Nat → Nat) (D : va_G) (cy : Nat → ClassId) (ad : Nat → Nat) (fr0 : Nat → va_E) (c_text : Nat → Int32) (m_taped : Int32) (m_size : Int32) (m_faultKind : Int32) (m_faultPlace : Int32) (m_at : Int32) (m_end : Int32) (m_token : Int32) (m_number : Int32) (m_name : Int64) (c_points : Nat → Int32) (c_strands : Nat → Int32) (c_units : Nat → Int32) (c_told : Nat → Int32) (c_ruleFrom : Nat → Int32) (c_ruleTo : Nat → Int32) (c_code : Nat → Int32) (c_eWhat : Nat → Int32) (c_eSign : Nat → Int32) (m_bank : Int32) (m_rb : Int32) (m_codes : Int32) (m_within : Int32) (m_piled : Int32) (m_unitsInRule : Int32) (m_askStrand : Int32) (m_askTied : Int32) (m_thoughtClaim : Int32) (m_thoughtNeed : Int32) (m_thoughtAll : Int32) (c_roundOf : Nat → Int32) (m_acts : Int32) (m_undone : Int32) (m_laid : Int32) (m_firstMove : Int32) (m_seens : Int32) (m_time : Int32) (m_waysNow : Int32) (m_fitting : Int32) (f : Nat → va_E) (hT : TYm ad cy fr0 c_text m_taped m_size m_faultKind m_faultPlace m_at m_end m_token m_number m_name c_points c_strands c_units c_told c_ruleFrom c_ruleTo c_code c_eWhat c_eSign m_bank m_rb m_codes m_within m_piled m_unitsInRule m_askStrand m_askTied m_thoughtClaim m_thoughtNeed m_thoughtAll c_roundOf m_acts m_undone m_laid m_firstMove m_seens m_time m_waysNow m_fitting f) (p1 : Int32) (hCV : CVp c_told c_ruleFrom c_ruleTo c_code m_bank) (sz : Nat) : TtI l yX9_ways wsX9_ways 7 160 [.ref (ad 148), .int p1] B0 adK adV D cy ad f sz (fun (r : Int32) (g : Nat → va_E) => True ∧ (∃ (m_askStrand' : Int32) (m_askTied' : Int32) (c_roundOf' : Nat → Int32) (m_waysNow' : Int32) (m_fitting' : Int32), TYm ad cy fr0 c_text m_taped m_size m_faultKind m_faultPlace m_at m_end m_token m_number m_name c_points c_strands c_units c_told c_ruleFrom c_ruleTo c_code c_eWhat c_eSign m_bank m_rb m_codes m_within m_piled m_unitsInRule m_askStrand' m_askTied' m_thoughtClaim m_thoughtNeed m_thoughtAll c_roundOf' m_acts m_undone m_laid m_firstMove m_seens m_time m_waysNow' m_fitting' g)) := by
  refine TtI.of (cc := cX9_ways) (maxL := 2) (ty := .int) (own := RX9) (by decide) rfl (Nat.le_of_ble_eq_true rfl) rfl ?_
  intro p e s m below meth c A ls hx hb hr hml hts hown hlk hK hE hP hD hS hA hAB hl
  have hl : lv_has ls 2 [(0, .ref (ad 148)), (1, .int p1)] := hl
  refine st0 (fun H locs hP hS => ?_) hP hS
  refine lv_aload_n hx hb dX9_ways_0 rfl (lv_at hl 0 rfl) ?_
  refine lv_iload_n hx hb dX9_ways_1 rfl (lv_at hl 1 rfl) ?_
  obtain ⟨e16, h1, h2, h3, h4, h5, h6, h7, h8, h9, h10, h11, h12, h13, h14, h15⟩ := (show okX9 ad m_taped m_size m_faultKind m_faultPlace m_at m_end m_token m_number m_name m_bank m_rb m_codes m_within m_piled m_unitsInRule m_askStrand m_askTied m_thoughtClaim m_thoughtNeed m_thoughtAll m_acts m_undone m_laid m_firstMove m_seens m_time m_waysNow m_fitting 148 (f 148) from hT.1 148 (by decide))
  refine tVV (As := [.int p1]) (rest := []) (i := 148) ⟨hx, hb, hml, hown, hts⟩ hK hE hP hD hS hA hAB (s_X9_layWays_0 l B0 adK adV D cy ad fr0 c_text m_taped m_size m_faultKind m_faultPlace m_at m_end m_token m_number m_name c_points c_strands c_units c_told c_ruleFrom c_ruleTo c_code c_eWhat c_eSign m_bank m_rb m_codes m_within m_piled m_unitsInRule m_askStrand m_askTied m_thoughtClaim m_thoughtNeed m_thoughtAll c_roundOf m_acts m_undone m_laid m_firstMove m_seens m_time m_waysNow m_fitting f hT p1 hCV _) (cwV 1 hts gX9_ways_X9_layWays rfl rfl rfl (by decide +kernel) ⟨Nat.le_of_ble_eq_true rfl, Nat.le_of_ble_eq_true rfl⟩) (by decide) 9 e16 rfl rfl hl.1 rfl (Nat.le_of_ble_eq_true rfl) dX9_ways_2 ⟨Nat.le_of_ble_eq_true rfl, Nat.le_of_ble_eq_true rfl⟩ (fun f H locs hw hP hD hS => ?_)
  obtain ⟨hrs, x17, x18, y19, x20, x21, hT⟩ := hw
  refine lv_aload_n hx hb dX9_ways_5 rfl (lv_at hl 0 rfl) ?_
  obtain ⟨e37, h22, h23, h24, h25, h26, h27, h28, h29, h30, h31, h32, h33, h34, h35, h36⟩ := (show okX9 ad m_taped m_size m_faultKind m_faultPlace m_at m_end m_token m_number m_name m_bank m_rb m_codes m_within m_piled m_unitsInRule x17 x18 m_thoughtClaim m_thoughtNeed m_thoughtAll m_acts m_undone m_laid m_firstMove m_seens m_time x20 x21 148 (f 148) from hT.1 148 (by decide))
  refine va_get (D := D) (cl := vwCl) (ci := 9) (v := .int x21) (C := RX9) (T := TX9) (N := 64) hx hb hts in_X9_ways_X9 hown hK hP 148 (wl_at (by decide) e37) rfl 61 (by decide) (hts (.fieldLink RX9 494 "EightReasonsModel" "fitting" "I") (List.mem_of_getElem? (i := 1) rfl)) (fun _ h9 => h9) rfl dX9_ways_6 ?_
  exact tI hx hb hr hlk rfl hP hS ⟨trivial, ⟨x17, x18, y19, x20, x21, hT⟩⟩ dX9_ways_9
set_option maxHeartbeats 4000000 in
set_option maxRecDepth 100000 in
theorem s_X9_sure_0 (l : Launch) (B0 : Nat) (adK adV : Nat → Nat) (D : va_G) (cy : Nat → ClassId) (ad : Nat → Nat) (fr0 : Nat → va_E) (c_text : Nat → Int32) (m_taped : Int32) (m_size : Int32) (m_faultKind : Int32) (m_faultPlace : Int32) (m_at : Int32) (m_end : Int32) (m_token : Int32) (m_number : Int32) (m_name : Int64) (c_points : Nat → Int32) (c_strands : Nat → Int32) (c_units : Nat → Int32) (c_told : Nat → Int32) (c_ruleFrom : Nat → Int32) (c_ruleTo : Nat → Int32) (c_code : Nat → Int32) (c_eWhat : Nat → Int32) (c_eSign : Nat → Int32) (m_bank : Int32) (m_rb : Int32) (m_codes : Int32) (m_within : Int32) (m_piled : Int32) (m_unitsInRule : Int32) (m_askStrand : Int32) (m_askTied : Int32) (m_thoughtClaim : Int32) (m_thoughtNeed : Int32) (m_thoughtAll : Int32) (c_roundOf : Nat → Int32) (m_acts : Int32) (m_undone : Int32) (m_laid : Int32) (m_firstMove : Int32) (m_seens : Int32) (m_time : Int32) (m_waysNow : Int32) (m_fitting : Int32) (f : Nat → va_E) (hT : TYm ad cy fr0 c_text m_taped m_size m_faultKind m_faultPlace m_at m_end m_token m_number m_name c_points c_strands c_units c_told c_ruleFrom c_ruleTo c_code c_eWhat c_eSign m_bank m_rb m_codes m_within m_piled m_unitsInRule m_askStrand m_askTied m_thoughtClaim m_thoughtNeed m_thoughtAll c_roundOf m_acts m_undone m_laid m_firstMove m_seens m_time m_waysNow m_fitting f) (p1 : Int32) (p2 : Int32) (hCV : CVp c_told c_ruleFrom c_ruleTo c_code m_bank) (sz : Nat) : TtI l yX9_sure wsX9_sure 7 160 [.ref (ad 148), .int p1, .int p2] B0 adK adV D cy ad f sz (fun (r : Int32) (g : Nat → va_E) => (-2 ≤ r.toInt ∧ r.toInt ≤ 1) ∧ (∃ (m_askStrand' : Int32) (m_askTied' : Int32) (c_roundOf' : Nat → Int32) (m_waysNow' : Int32) (m_fitting' : Int32), TYm ad cy fr0 c_text m_taped m_size m_faultKind m_faultPlace m_at m_end m_token m_number m_name c_points c_strands c_units c_told c_ruleFrom c_ruleTo c_code c_eWhat c_eSign m_bank m_rb m_codes m_within m_piled m_unitsInRule m_askStrand' m_askTied' m_thoughtClaim m_thoughtNeed m_thoughtAll c_roundOf' m_acts m_undone m_laid m_firstMove m_seens m_time m_waysNow' m_fitting' g)) := by
  refine TtI.of (cc := cX9_sure) (maxL := 5) (ty := .int) (own := RX9) (by decide) rfl (Nat.le_of_ble_eq_true rfl) rfl ?_
  intro p e s m below meth c A ls hx hb hr hml hts hown hlk hK hE hP hD hS hA hAB hl
  have hl : lv_has ls 5 [(0, .ref (ad 148)), (1, .int p1), (2, .int p2)] := hl
  refine st0 (fun H locs hP hS => ?_) hP hS
  have j20 : ∀ (N : Nat) (f : Nat → va_E) (H : Heap) (locs : List Loc) (ls : Array Slot) (v20_l4 : Int32) (v20_l3 : Int32) (v20_p_m_askStrand : Int32) (v20_p_m_askTied : Int32) (v20_p_c_roundOf : Nat → Int32) (v20_p_m_waysNow : Int32) (v20_p_m_fitting : Int32), (80 - v20_l4.toInt ≤ (N : Int)) → (0 ≤ v20_l4.toInt ∧ v20_l4.toInt ≤ 79) → (0 ≤ p1.toInt ∧ p1.toInt ≤ 11) → (TYm ad cy fr0 c_text m_taped m_size m_faultKind m_faultPlace m_at m_end m_token m_number m_name c_points c_strands c_units c_told c_ruleFrom c_ruleTo c_code c_eWhat c_eSign m_bank m_rb m_codes m_within m_piled m_unitsInRule v20_p_m_askStrand v20_p_m_askTied m_thoughtClaim m_thoughtNeed m_thoughtAll v20_p_c_roundOf m_acts m_undone m_laid m_firstMove m_seens m_time v20_p_m_waysNow v20_p_m_fitting f) → (va_P D vwCl (wl ad f) H) → (va_D A (wl ad f)) → (va_S A s.heap H locs) → (lv_has ls 5 [(4, .int v20_l4), (3, .int v20_l3), (0, .ref (ad 148)), (1, .int p1), (2, .int p2)]) → W p l e (rmO 7 160 0 0) s m ([.ref (ad 148), .int p1, .int p2] : List Value).toArray below meth c H locs 0 0 (MQ below (va_Qi (fun (r : Int32) (g : Nat → va_E) => (-2 ≤ r.toInt ∧ r.toInt ≤ 1) ∧ (∃ (m_askStrand' : Int32) (m_askTied' : Int32) (c_roundOf' : Nat → Int32) (m_waysNow' : Int32) (m_fitting' : Int32), TYm ad cy fr0 c_text m_taped m_size m_faultKind m_faultPlace m_at m_end m_token m_number m_name c_points c_strands c_units c_told c_ruleFrom c_ruleTo c_code c_eWhat c_eSign m_bank m_rb m_codes m_within m_piled m_unitsInRule m_askStrand' m_askTied' m_thoughtClaim m_thoughtNeed m_thoughtAll c_roundOf' m_acts m_undone m_laid m_firstMove m_seens m_time m_waysNow' m_fitting' g)) (fun g t => PstT D ad g t) A) ([.ref (ad 148), .int p1, .int p2] : List Value).toArray s 0 0 A) (F0 m 20 ls []) := by
    intro N
    induction N with
    | zero => intro f H locs ls v20_l4 v20_l3 v20_p_m_askStrand v20_p_m_askTied v20_p_c_roundOf v20_p_m_waysNow v20_p_m_fitting hN hv20_l4 hv20_l1 hT hP hD hS hl; exact absurd hN (by omega)
    | succ N ih20 =>
      intro f H locs ls v20_l4 v20_l3 v20_p_m_askStrand v20_p_m_askTied v20_p_c_roundOf v20_p_m_waysNow v20_p_m_fitting hN hv20_l4 hv20_l1 hT hP hD hS hl
      have j55 : ∀ (f : Nat → va_E) (H : Heap) (locs : List Loc) (ls : Array Slot) (v55_s1 : Int32), (0 ≤ v20_l4.toInt ∧ v20_l4.toInt ≤ 78) → (0 ≤ p1.toInt ∧ p1.toInt ≤ 11) → (0 ≤ v55_s1.toInt ∧ v55_s1.toInt ≤ 1) → (1 ≤ v20_p_m_waysNow.toInt ∧ v20_p_m_waysNow.toInt ≤ 79) → (TYm ad cy fr0 c_text m_taped m_size m_faultKind m_faultPlace m_at m_end m_token m_number m_name c_points c_strands c_units c_told c_ruleFrom c_ruleTo c_code c_eWhat c_eSign m_bank m_rb m_codes m_within m_piled m_unitsInRule v20_p_m_askStrand v20_p_m_askTied m_thoughtClaim m_thoughtNeed m_thoughtAll v20_p_c_roundOf m_acts m_undone m_laid m_firstMove m_seens m_time v20_p_m_waysNow v20_p_m_fitting f) → (va_P D vwCl (wl ad f) H) → (va_D A (wl ad f)) → (va_S A s.heap H locs) → (lv_has ls 5 [(4, .int v20_l4), (3, .int v20_l3), (0, .ref (ad 148)), (1, .int p1), (2, .int p2)]) → W p l e (rmO 7 160 0 0) s m ([.ref (ad 148), .int p1, .int p2] : List Value).toArray below meth c H locs 0 0 (MQ below (va_Qi (fun (r : Int32) (g : Nat → va_E) => (-2 ≤ r.toInt ∧ r.toInt ≤ 1) ∧ (∃ (m_askStrand' : Int32) (m_askTied' : Int32) (c_roundOf' : Nat → Int32) (m_waysNow' : Int32) (m_fitting' : Int32), TYm ad cy fr0 c_text m_taped m_size m_faultKind m_faultPlace m_at m_end m_token m_number m_name c_points c_strands c_units c_told c_ruleFrom c_ruleTo c_code c_eWhat c_eSign m_bank m_rb m_codes m_within m_piled m_unitsInRule m_askStrand' m_askTied' m_thoughtClaim m_thoughtNeed m_thoughtAll c_roundOf' m_acts m_undone m_laid m_firstMove m_seens m_time m_waysNow' m_fitting' g)) (fun g t => PstT D ad g t) A) ([.ref (ad 148), .int p1, .int p2] : List Value).toArray s 0 0 A) (F0 m 55 ls [.int v55_s1, .int v20_l3]) := by
        intro f H locs ls v55_s1 hv55_l4 hv55_l1 hv55_s1 hv55_p_m_waysNow hT hP hD hS hl
        refine lv_iadd hx hb dX9_sure_55 ?_
        refine lv_topi (fun x1 ex1 => ?_)
        refine lv_istore_n (lv' := [(3, .int x1), (4, .int v20_l4), (0, .ref (ad 148)), (1, .int p1), (2, .int p2)]) hx hb dX9_sure_56 rfl hl (by decide) rfl (fun ls hl => ?_)
        obtain ⟨x2, ex2⟩ : ∃ q : Int32, q = v20_l4 + Int32.ofInt (1) := ⟨_, rfl⟩
        refine lv_iinc (v := x2) (lv' := [(4, .int x2), (3, .int x1), (0, .ref (ad 148)), (1, .int p1), (2, .int p2)]) hx hb dX9_sure_57 hl (k := 1) rfl ex2.symm (by decide) rfl (fun ls hl => ?_)
        have hx2 := r_inc ex2 (by decide) (by omega) (by omega)
        refine lv_goto (tgt := 20) hx hb dX9_sure_60 (by decide) ?_
        exact ih20 f H locs ls x2 x1 v20_p_m_askStrand v20_p_m_askTied v20_p_c_roundOf v20_p_m_waysNow v20_p_m_fitting (by omega) (by omega) (by omega) hT hP hD hS (lv_sub hl [0, 1, 2, 3, 4] rfl)
      refine lv_iload hx hb dX9_sure_20 (lv_at hl 0 rfl) ?_
      refine lv_aload_n hx hb dX9_sure_22 rfl (lv_at hl 2 rfl) ?_
      obtain ⟨e18, h3, h4, h5, h6, h7, h8, h9, h10, h11, h12, h13, h14, h15, h16, h17⟩ := (show okX9 ad m_taped m_size m_faultKind m_faultPlace m_at m_end m_token m_number m_name m_bank m_rb m_codes m_within m_piled m_unitsInRule v20_p_m_askStrand v20_p_m_askTied m_thoughtClaim m_thoughtNeed m_thoughtAll m_acts m_undone m_laid m_firstMove m_seens m_time v20_p_m_waysNow v20_p_m_fitting 148 (f 148) from hT.1 148 (by decide))
      refine va_get (D := D) (cl := vwCl) (ci := 9) (v := .int v20_p_m_waysNow) (C := RX9) (T := TX9) (N := 64) hx hb hts in_X9_sure_X9 hown hK hP 148 (wl_at (by decide) e18) rfl 60 (by decide) (hts (.fieldLink RX9 491 "EightReasonsModel" "waysNow" "I") (List.mem_of_getElem? (i := 1) rfl)) (fun _ h9 => h9) rfl dX9_sure_23 ?_
      refine lv_icmp_ge (tgt := 63) hx hb dX9_sure_26 (by decide) (fun c19 => ?_) (fun c19 => ?_)
      · have kc19 := c_le c19
        refine lv_aload_n hx hb dX9_sure_63 rfl (lv_at hl 2 rfl) ?_
        refine va_get (D := D) (cl := vwCl) (ci := 9) (v := .int v20_p_m_fitting) (C := RX9) (T := TX9) (N := 64) hx hb hts in_X9_sure_X9 hown hK hP 148 (wl_at (by decide) e18) rfl 61 (by decide) (hts (.fieldLink RX9 494 "EightReasonsModel" "fitting" "I") (List.mem_of_getElem? (i := 4) rfl)) (fun _ h9 => h9) rfl dX9_sure_64 ?_
        have ttl_0 := tl_0
        refine lv_if_ne (tgt := 74) hx hb dX9_sure_67 (by decide) (fun c20 => ?_) (fun c20 => ?_)
        · have kc20 := c_ne c20
          refine lv_iload_n hx hb dX9_sure_74 rfl (lv_at hl 1 rfl) ?_
          refine lv_aload_n hx hb dX9_sure_75 rfl (lv_at hl 2 rfl) ?_
          refine va_get (D := D) (cl := vwCl) (ci := 9) (v := .int v20_p_m_fitting) (C := RX9) (T := TX9) (N := 64) hx hb hts in_X9_sure_X9 hown hK hP 148 (wl_at (by decide) e18) rfl 61 (by decide) (hts (.fieldLink RX9 494 "EightReasonsModel" "fitting" "I") (List.mem_of_getElem? (i := 4) rfl)) (fun _ h9 => h9) rfl dX9_sure_76 ?_
          refine lv_icmp_ne (tgt := 86) hx hb dX9_sure_79 (by decide) (fun c21 => ?_) (fun c21 => ?_)
          · have kc21 := c_ne c21
            refine lv_iload_n hx hb dX9_sure_86 rfl (lv_at hl 1 rfl) ?_
            refine lv_if_ne (tgt := 94) hx hb dX9_sure_87 (by decide) (fun c22 => ?_) (fun c22 => ?_)
            · have kc22 := c_ne c22
              refine lv_bipush (v := (-2)) hx hb dX9_sure_94 (by decide) ?_
              have ttl_m2 := tl_m2
              exact tI hx hb hr hlk rfl hP hS ⟨(by omega), ⟨v20_p_m_askStrand, v20_p_m_askTied, v20_p_c_roundOf, v20_p_m_waysNow, v20_p_m_fitting, hT⟩⟩ dX9_sure_96
            · have kc22 := c_eq c22
              refine lv_iconst (v := 0) hx hb dX9_sure_90 (by decide) ?_
              refine lv_goto (tgt := 96) hx hb dX9_sure_91 (by decide) ?_
              exact tI hx hb hr hlk rfl hP hS ⟨(by omega), ⟨v20_p_m_askStrand, v20_p_m_askTied, v20_p_c_roundOf, v20_p_m_waysNow, v20_p_m_fitting, hT⟩⟩ dX9_sure_96
          · have kc21 := c_eq c21
            refine lv_iconst (v := 1) hx hb dX9_sure_82 (by decide) ?_
            refine lv_goto (tgt := 96) hx hb dX9_sure_83 (by decide) ?_
            have ttl_1 := tl_1
            exact tI hx hb hr hlk rfl hP hS ⟨(by omega), ⟨v20_p_m_askStrand, v20_p_m_askTied, v20_p_c_roundOf, v20_p_m_waysNow, v20_p_m_fitting, hT⟩⟩ dX9_sure_96
        · have kc20 := c_eq c20
          refine lv_iconst (v := (-1)) hx hb dX9_sure_70 (by decide) ?_
          refine lv_goto (tgt := 96) hx hb dX9_sure_71 (by decide) ?_
          have ttl_m1 := tl_m1
          exact tI hx hb hr hlk rfl hP hS ⟨(by omega), ⟨v20_p_m_askStrand, v20_p_m_askTied, v20_p_c_roundOf, v20_p_m_waysNow, v20_p_m_fitting, hT⟩⟩ dX9_sure_96
      · have kc19 := c_nle c19
        refine lv_iload_n hx hb dX9_sure_29 rfl (lv_at hl 1 rfl) ?_
        refine lv_aload_n hx hb dX9_sure_30 rfl (lv_at hl 2 rfl) ?_
        refine va_get (D := D) (cl := vwCl) (ci := 9) (v := .ref (ad 182)) (C := RX9) (T := TX9) (N := 64) hx hb hts in_X9_sure_X9 hown hK hP 148 (wl_at (by decide) e18) rfl 57 (by decide) (hts (.fieldLink RX9 121 "EightReasonsModel" "isFit" "[Z") (List.mem_of_getElem? (i := 2) rfl)) (fun _ h9 => h9) rfl dX9_sure_31 ?_
        refine lv_iload hx hb dX9_sure_34 (lv_at hl 0 rfl) ?_
        obtain ⟨g24, e23⟩ := (show okZ cy 79 (f 182) from hT.1 182 (by decide))
        refine va_zald hx hb hK hP 182 3 (wl_at (by decide) e23) rfl (vp_in_iff.mpr ⟨by omega, by omega⟩) dX9_sure_36 ?_
        refine lv_topi (fun x25 ex25 => ?_)
        have ttl_0 := tl_0
        refine lv_if_eq (tgt := 54) hx hb dX9_sure_37 (by decide) (fun c26 => ?_) (fun c26 => ?_)
        · have kc26 := c_eq c26
          refine lv_iconst (v := 0) hx hb dX9_sure_54 (by decide) ?_
          exact j55 f H locs ls (0 : Int32) (by omega) (by omega) (by omega) (by omega) hT hP hD hS (lv_sub hl [0, 1, 2, 3, 4] rfl)
        · have kc26 := c_ne c26
          refine lv_aload_n hx hb dX9_sure_40 rfl (lv_at hl 2 rfl) ?_
          refine va_get (D := D) (cl := vwCl) (ci := 9) (v := .ref (ad 176)) (C := RX9) (T := TX9) (N := 64) hx hb hts in_X9_sure_X9 hown hK hP 148 (wl_at (by decide) e18) rfl 51 (by decide) (hts (.fieldLink RX9 103 "EightReasonsModel" "cutIn" "[I") (List.mem_of_getElem? (i := 3) rfl)) (fun _ h9 => h9) rfl dX9_sure_41 ?_
          refine lv_iload hx hb dX9_sure_44 (lv_at hl 0 rfl) ?_
          obtain ⟨g28, e27⟩ := (show okI cy 79 (f 176) from hT.1 176 (by decide))
          refine va_iald hx hb hK hP 176 0 (wl_at (by decide) e27) rfl (vp_in_iff.mpr ⟨by omega, by omega⟩) dX9_sure_46 ?_
          refine lv_topi (fun x29 ex29 => ?_)
          refine lv_iload_n hx hb dX9_sure_47 rfl (lv_at hl 3 rfl) ?_
          refine lv_ishr hx hb dX9_sure_48 ?_
          refine lv_topi (fun x30 ex30 => ?_)
          refine lv_iconst (v := 1) hx hb dX9_sure_49 (by decide) ?_
          have ttl_1 := tl_1
          refine lv_iand hx hb dX9_sure_50 ?_
          refine lv_topi (fun x31 ex31 => ?_)
          have hx31 := r_andr ex31 (by omega)
          refine lv_goto (tgt := 55) hx hb dX9_sure_51 (by decide) ?_
          exact j55 f H locs ls x31 (by omega) (by omega) (by omega) (by omega) hT hP hD hS (lv_sub hl [0, 1, 2, 3, 4] rfl)
  refine lv_aload_n hx hb dX9_sure_0 rfl (lv_at hl 0 rfl) ?_
  refine lv_iload_n hx hb dX9_sure_1 rfl (lv_at hl 1 rfl) ?_
  obtain ⟨e47, h32, h33, h34, h35, h36, h37, h38, h39, h40, h41, h42, h43, h44, h45, h46⟩ := (show okX9 ad m_taped m_size m_faultKind m_faultPlace m_at m_end m_token m_number m_name m_bank m_rb m_codes m_within m_piled m_unitsInRule m_askStrand m_askTied m_thoughtClaim m_thoughtNeed m_thoughtAll m_acts m_undone m_laid m_firstMove m_seens m_time m_waysNow m_fitting 148 (f 148) from hT.1 148 (by decide))
  refine tVI (As := [.int p1]) (rest := []) (i := 148) ⟨hx, hb, hml, hown, hts⟩ hK hE hP hD hS hA hAB (s_X9_isThread_0 l B0 adK adV D cy ad fr0 c_text m_taped m_size m_faultKind m_faultPlace m_at m_end m_token m_number m_name c_points c_strands c_units c_told c_ruleFrom c_ruleTo c_code c_eWhat c_eSign m_bank m_rb m_codes m_within m_piled m_unitsInRule m_askStrand m_askTied m_thoughtClaim m_thoughtNeed m_thoughtAll c_roundOf m_acts m_undone m_laid m_firstMove m_seens m_time m_waysNow m_fitting f hT p1 _) (cwV 1 hts gX9_sure_X9_isThread rfl rfl rfl (by decide +kernel) ⟨Nat.le_of_ble_eq_true rfl, Nat.le_of_ble_eq_true rfl⟩) (by decide) 9 e47 rfl rfl hl.1 rfl (Nat.le_of_ble_eq_true rfl) dX9_sure_2 ⟨Nat.le_of_ble_eq_true rfl, Nat.le_of_ble_eq_true rfl⟩ (fun r g H locs hw hP hD hS => ?_)
  obtain ⟨hrs, rfl⟩ := hw
  obtain ⟨x48, rfl⟩ : ∃ q, q = r := ⟨_, rfl⟩
  rcases hrs with ⟨rfl, h49, h50⟩ | rfl
  · refine lv_if_ne (tgt := 10) hx hb dX9_sure_5 (by decide) (fun _ => ?_) (fun c => absurd c (by decide))
    refine lv_aload_n hx hb dX9_sure_10 rfl (lv_at hl 0 rfl) ?_
    refine lv_iload_n hx hb dX9_sure_11 rfl (lv_at hl 2 rfl) ?_
    refine tVV (As := [.int p2]) (rest := []) (i := 148) ⟨hx, hb, hml, hown, hts⟩ hK hE hP hD hS hA hAB (s_X9_layWays_0 l B0 adK adV D cy ad fr0 c_text m_taped m_size m_faultKind m_faultPlace m_at m_end m_token m_number m_name c_points c_strands c_units c_told c_ruleFrom c_ruleTo c_code c_eWhat c_eSign m_bank m_rb m_codes m_within m_piled m_unitsInRule m_askStrand m_askTied m_thoughtClaim m_thoughtNeed m_thoughtAll c_roundOf m_acts m_undone m_laid m_firstMove m_seens m_time m_waysNow m_fitting f hT p2 hCV _) (cwV 1 hts gX9_sure_X9_layWays rfl rfl rfl (by decide +kernel) ⟨Nat.le_of_ble_eq_true rfl, Nat.le_of_ble_eq_true rfl⟩) (by decide) 9 e47 rfl rfl hl.1 rfl (Nat.le_of_ble_eq_true rfl) dX9_sure_12 ⟨Nat.le_of_ble_eq_true rfl, Nat.le_of_ble_eq_true rfl⟩ (fun f H locs hw hP hD hS => ?_)
    obtain ⟨hrs, x51, x52, y53, x54, x55, hT⟩ := hw
    refine lv_iconst (v := 0) hx hb dX9_sure_15 (by decide) ?_
    refine lv_istore_n (lv' := [(3, .int 0), (0, .ref (ad 148)), (1, .int p1), (2, .int p2)]) hx hb dX9_sure_16 rfl hl (by decide) rfl (fun ls hl => ?_)
    refine lv_iconst (v := 0) hx hb dX9_sure_17 (by decide) ?_
    refine lv_istore (lv' := [(4, .int 0), (3, .int 0), (0, .ref (ad 148)), (1, .int p1), (2, .int p2)]) hx hb dX9_sure_18 hl (by decide) rfl (fun ls hl => ?_)
    have ttl_0 := tl_0
    exact j20 (Int.toNat (80 - (0 : Int32).toInt)) f H locs ls (0 : Int32) (0 : Int32) x51 x52 y53 x54 x55 (by omega) (by omega) (by omega) hT hP hD hS (lv_sub hl [0, 1, 2, 3, 4] rfl)
  · refine lv_if_ne (tgt := 10) hx hb dX9_sure_5 (by decide) (fun c => absurd (by decide) c) (fun _ => ?_)
    refine lv_iconst (v := (-1)) hx hb dX9_sure_8 (by decide) ?_
    have ttl_m1 := tl_m1
    exact tI hx hb hr hlk rfl hP hS ⟨(by omega), ⟨m_askStrand, m_askTied, c_roundOf, m_waysNow, m_fitting, hT⟩⟩ dX9_sure_9
set_option maxHeartbeats 4000000 in
set_option maxRecDepth 100000 in
theorem s_X9_mostOf_0 (l : Launch) (B0 : Nat) (adK adV : Nat → Nat) (D : va_G) (cy : Nat → ClassId) (ad : Nat → Nat) (fr0 : Nat → va_E) (c_text : Nat → Int32) (m_taped : Int32) (m_size : Int32) (m_faultKind : Int32) (m_faultPlace : Int32) (m_at : Int32) (m_end : Int32) (m_token : Int32) (m_number : Int32) (m_name : Int64) (c_points : Nat → Int32) (c_strands : Nat → Int32) (c_units : Nat → Int32) (c_told : Nat → Int32) (c_ruleFrom : Nat → Int32) (c_ruleTo : Nat → Int32) (c_code : Nat → Int32) (c_eWhat : Nat → Int32) (c_eSign : Nat → Int32) (m_bank : Int32) (m_rb : Int32) (m_codes : Int32) (m_within : Int32) (m_piled : Int32) (m_unitsInRule : Int32) (m_askStrand : Int32) (m_askTied : Int32) (m_thoughtClaim : Int32) (m_thoughtNeed : Int32) (m_thoughtAll : Int32) (c_roundOf : Nat → Int32) (m_acts : Int32) (m_undone : Int32) (m_laid : Int32) (m_firstMove : Int32) (m_seens : Int32) (m_time : Int32) (m_waysNow : Int32) (m_fitting : Int32) (f : Nat → va_E) (hT : TYm ad cy fr0 c_text m_taped m_size m_faultKind m_faultPlace m_at m_end m_token m_number m_name c_points c_strands c_units c_told c_ruleFrom c_ruleTo c_code c_eWhat c_eSign m_bank m_rb m_codes m_within m_piled m_unitsInRule m_askStrand m_askTied m_thoughtClaim m_thoughtNeed m_thoughtAll c_roundOf m_acts m_undone m_laid m_firstMove m_seens m_time m_waysNow m_fitting f) (p1 : Int32) (hp1 : 0 ≤ p1.toInt ∧ p1.toInt ≤ 9) (sz : Nat) : TtI l yX9_mostOf wsX9_mostOf 0 0 [.ref (ad 148), .int p1] B0 adK adV D cy ad f sz (fun (r : Int32) (g : Nat → va_E) => True ∧ (f = g)) := by
  refine TtI.of (cc := cX9_mostOf) (maxL := 4) (ty := .int) (own := RX9) (by decide) rfl (Nat.le_of_ble_eq_true rfl) rfl ?_
  intro p e s m below meth c A ls hx hb hr hml hts hown hlk hK hE hP hD hS hA hAB hl
  have hl : lv_has ls 4 [(0, .ref (ad 148)), (1, .int p1)] := hl
  refine st0 (fun H locs hP hS => ?_) hP hS
  have j4 : ∀ (N : Nat) (H : Heap) (locs : List Loc) (ls : Array Slot) (v4_l3 : Int32) (v4_l2 : Int32), (80 - v4_l3.toInt ≤ (N : Int)) → (0 ≤ v4_l3.toInt ∧ v4_l3.toInt ≤ 79) → (0 ≤ p1.toInt ∧ p1.toInt ≤ 9) → (va_P D vwCl (wl ad f) H) → (va_D A (wl ad f)) → (va_S A s.heap H locs) → (lv_has ls 4 [(3, .int v4_l3), (2, .int v4_l2), (0, .ref (ad 148)), (1, .int p1)]) → W p l e (rmO 0 0 0 0) s m ([.ref (ad 148), .int p1] : List Value).toArray below meth c H locs 0 0 (MQ below (va_Qi (fun (r : Int32) (g : Nat → va_E) => True ∧ (f = g)) (fun g t => PstT D ad g t) A) ([.ref (ad 148), .int p1] : List Value).toArray s 0 0 A) (F0 m 4 ls []) := by
    intro N
    induction N with
    | zero => intro H locs ls v4_l3 v4_l2 hN hv4_l3 hv4_l1 hP hD hS hl; exact absurd hN (by omega)
    | succ N ih4 =>
      intro H locs ls v4_l3 v4_l2 hN hv4_l3 hv4_l1 hP hD hS hl
      have j36 : ∀ (H : Heap) (locs : List Loc) (ls : Array Slot) (v36_s1 : Int32), (0 ≤ v4_l3.toInt ∧ v4_l3.toInt ≤ 78) → (0 ≤ p1.toInt ∧ p1.toInt ≤ 9) → (0 ≤ v36_s1.toInt ∧ v36_s1.toInt ≤ 1) → (1 ≤ m_waysNow.toInt ∧ m_waysNow.toInt ≤ 79) → (va_P D vwCl (wl ad f) H) → (va_D A (wl ad f)) → (va_S A s.heap H locs) → (lv_has ls 4 [(3, .int v4_l3), (2, .int v4_l2), (0, .ref (ad 148)), (1, .int p1)]) → W p l e (rmO 0 0 0 0) s m ([.ref (ad 148), .int p1] : List Value).toArray below meth c H locs 0 0 (MQ below (va_Qi (fun (r : Int32) (g : Nat → va_E) => True ∧ (f = g)) (fun g t => PstT D ad g t) A) ([.ref (ad 148), .int p1] : List Value).toArray s 0 0 A) (F0 m 36 ls [.int v36_s1, .int v4_l2]) := by
        intro H locs ls v36_s1 hv36_l3 hv36_l1 hv36_s1 hv36_p_m_waysNow hP hD hS hl
        refine lv_iadd hx hb dX9_mostOf_36 ?_
        refine lv_topi (fun x1 ex1 => ?_)
        refine lv_istore_n (lv' := [(2, .int x1), (3, .int v4_l3), (0, .ref (ad 148)), (1, .int p1)]) hx hb dX9_mostOf_37 rfl hl (by decide) rfl (fun ls hl => ?_)
        obtain ⟨x2, ex2⟩ : ∃ q : Int32, q = v4_l3 + Int32.ofInt (1) := ⟨_, rfl⟩
        refine lv_iinc (v := x2) (lv' := [(3, .int x2), (2, .int x1), (0, .ref (ad 148)), (1, .int p1)]) hx hb dX9_mostOf_38 hl (k := 1) rfl ex2.symm (by decide) rfl (fun ls hl => ?_)
        have hx2 := r_inc ex2 (by decide) (by omega) (by omega)
        refine lv_goto (tgt := 4) hx hb dX9_mostOf_41 (by decide) ?_
        exact ih4 H locs ls x2 x1 (by omega) (by omega) (by omega) hP hD hS (lv_sub hl [0, 1, 2, 3] rfl)
      refine lv_iload_n hx hb dX9_mostOf_4 rfl (lv_at hl 0 rfl) ?_
      refine lv_aload_n hx hb dX9_mostOf_5 rfl (lv_at hl 2 rfl) ?_
      obtain ⟨e18, h3, h4, h5, h6, h7, h8, h9, h10, h11, h12, h13, h14, h15, h16, h17⟩ := (show okX9 ad m_taped m_size m_faultKind m_faultPlace m_at m_end m_token m_number m_name m_bank m_rb m_codes m_within m_piled m_unitsInRule m_askStrand m_askTied m_thoughtClaim m_thoughtNeed m_thoughtAll m_acts m_undone m_laid m_firstMove m_seens m_time m_waysNow m_fitting 148 (f 148) from hT.1 148 (by decide))
      refine va_get (D := D) (cl := vwCl) (ci := 9) (v := .int m_waysNow) (C := RX9) (T := TX9) (N := 64) hx hb hts in_X9_mostOf_X9 hown hK hP 148 (wl_at (by decide) e18) rfl 60 (by decide) (hts (.fieldLink RX9 491 "EightReasonsModel" "waysNow" "I") (List.mem_of_getElem? (i := 1) rfl)) (fun _ h9 => h9) rfl dX9_mostOf_6 ?_
      refine lv_icmp_ge (tgt := 44) hx hb dX9_mostOf_9 (by decide) (fun c19 => ?_) (fun c19 => ?_)
      · have kc19 := c_le c19
        refine lv_iload_n hx hb dX9_mostOf_44 rfl (lv_at hl 1 rfl) ?_
        refine lv_aload_n hx hb dX9_mostOf_45 rfl (lv_at hl 2 rfl) ?_
        refine va_get (D := D) (cl := vwCl) (ci := 9) (v := .int m_fitting) (C := RX9) (T := TX9) (N := 64) hx hb hts in_X9_mostOf_X9 hown hK hP 148 (wl_at (by decide) e18) rfl 61 (by decide) (hts (.fieldLink RX9 494 "EightReasonsModel" "fitting" "I") (List.mem_of_getElem? (i := 4) rfl)) (fun _ h9 => h9) rfl dX9_mostOf_46 ?_
        refine lv_iload_n hx hb dX9_mostOf_49 rfl (lv_at hl 1 rfl) ?_
        refine lv_isub hx hb dX9_mostOf_50 ?_
        refine lv_topi (fun x20 ex20 => ?_)
        refine lv_icmp_le (tgt := 58) hx hb dX9_mostOf_51 (by decide) (fun c21 => ?_) (fun c21 => ?_)
        · have kc21 := c_le c21
          refine lv_aload_n hx hb dX9_mostOf_58 rfl (lv_at hl 2 rfl) ?_
          refine va_get (D := D) (cl := vwCl) (ci := 9) (v := .int m_fitting) (C := RX9) (T := TX9) (N := 64) hx hb hts in_X9_mostOf_X9 hown hK hP 148 (wl_at (by decide) e18) rfl 61 (by decide) (hts (.fieldLink RX9 494 "EightReasonsModel" "fitting" "I") (List.mem_of_getElem? (i := 4) rfl)) (fun _ h9 => h9) rfl dX9_mostOf_59 ?_
          refine lv_iload_n hx hb dX9_mostOf_62 rfl (lv_at hl 1 rfl) ?_
          refine lv_isub hx hb dX9_mostOf_63 ?_
          refine lv_topi (fun x22 ex22 => ?_)
          exact tI hx hb hr hlk rfl hP hS ⟨trivial, rfl⟩ dX9_mostOf_64
        · have kc21 := c_nle c21
          refine lv_iload_n hx hb dX9_mostOf_54 rfl (lv_at hl 1 rfl) ?_
          refine lv_goto (tgt := 64) hx hb dX9_mostOf_55 (by decide) ?_
          exact tI hx hb hr hlk rfl hP hS ⟨trivial, rfl⟩ dX9_mostOf_64
      · have kc19 := c_nle c19
        refine lv_iload_n hx hb dX9_mostOf_12 rfl (lv_at hl 1 rfl) ?_
        refine lv_aload_n hx hb dX9_mostOf_13 rfl (lv_at hl 2 rfl) ?_
        refine va_get (D := D) (cl := vwCl) (ci := 9) (v := .ref (ad 182)) (C := RX9) (T := TX9) (N := 64) hx hb hts in_X9_mostOf_X9 hown hK hP 148 (wl_at (by decide) e18) rfl 57 (by decide) (hts (.fieldLink RX9 121 "EightReasonsModel" "isFit" "[Z") (List.mem_of_getElem? (i := 2) rfl)) (fun _ h9 => h9) rfl dX9_mostOf_14 ?_
        refine lv_iload_n hx hb dX9_mostOf_17 rfl (lv_at hl 0 rfl) ?_
        obtain ⟨g24, e23⟩ := (show okZ cy 79 (f 182) from hT.1 182 (by decide))
        refine va_zald hx hb hK hP 182 3 (wl_at (by decide) e23) rfl (vp_in_iff.mpr ⟨by omega, by omega⟩) dX9_mostOf_18 ?_
        refine lv_topi (fun x25 ex25 => ?_)
        have ttl_0 := tl_0
        refine lv_if_eq (tgt := 35) hx hb dX9_mostOf_19 (by decide) (fun c26 => ?_) (fun c26 => ?_)
        · have kc26 := c_eq c26
          refine lv_iconst (v := 0) hx hb dX9_mostOf_35 (by decide) ?_
          exact j36 H locs ls (0 : Int32) (by omega) (by omega) (by omega) (by omega) hP hD hS (lv_sub hl [0, 1, 2, 3] rfl)
        · have kc26 := c_ne c26
          refine lv_aload_n hx hb dX9_mostOf_22 rfl (lv_at hl 2 rfl) ?_
          refine va_get (D := D) (cl := vwCl) (ci := 9) (v := .ref (ad 177)) (C := RX9) (T := TX9) (N := 64) hx hb hts in_X9_mostOf_X9 hown hK hP 148 (wl_at (by decide) e18) rfl 52 (by decide) (hts (.fieldLink RX9 106 "EightReasonsModel" "stoodIn" "[I") (List.mem_of_getElem? (i := 3) rfl)) (fun _ h9 => h9) rfl dX9_mostOf_23 ?_
          refine lv_iload_n hx hb dX9_mostOf_26 rfl (lv_at hl 0 rfl) ?_
          obtain ⟨g28, e27⟩ := (show okI cy 79 (f 177) from hT.1 177 (by decide))
          refine va_iald hx hb hK hP 177 0 (wl_at (by decide) e27) rfl (vp_in_iff.mpr ⟨by omega, by omega⟩) dX9_mostOf_27 ?_
          refine lv_topi (fun x29 ex29 => ?_)
          refine lv_iload_n hx hb dX9_mostOf_28 rfl (lv_at hl 3 rfl) ?_
          refine lv_ishr hx hb dX9_mostOf_29 ?_
          refine lv_topi (fun x30 ex30 => ?_)
          refine lv_iconst (v := 1) hx hb dX9_mostOf_30 (by decide) ?_
          have ttl_1 := tl_1
          refine lv_iand hx hb dX9_mostOf_31 ?_
          refine lv_topi (fun x31 ex31 => ?_)
          have hx31 := r_andr ex31 (by omega)
          refine lv_goto (tgt := 36) hx hb dX9_mostOf_32 (by decide) ?_
          exact j36 H locs ls x31 (by omega) (by omega) (by omega) (by omega) hP hD hS (lv_sub hl [0, 1, 2, 3] rfl)
  refine lv_iconst (v := 0) hx hb dX9_mostOf_0 (by decide) ?_
  refine lv_istore_n (lv' := [(2, .int 0), (0, .ref (ad 148)), (1, .int p1)]) hx hb dX9_mostOf_1 rfl hl (by decide) rfl (fun ls hl => ?_)
  refine lv_iconst (v := 0) hx hb dX9_mostOf_2 (by decide) ?_
  refine lv_istore_n (lv' := [(3, .int 0), (2, .int 0), (0, .ref (ad 148)), (1, .int p1)]) hx hb dX9_mostOf_3 rfl hl (by decide) rfl (fun ls hl => ?_)
  have ttl_0 := tl_0
  exact j4 (Int.toNat (80 - (0 : Int32).toInt)) H locs ls (0 : Int32) (0 : Int32) (by omega) (by omega) (by omega) hP hD hS (lv_sub hl [0, 1, 2, 3] rfl)
set_option maxHeartbeats 4000000 in
set_option maxRecDepth 100000 in
theorem s_X9_ask_0 (l : Launch) (B0 : Nat) (adK adV : Nat → Nat) (D : va_G) (cy : Nat → ClassId) (ad : Nat → Nat) (fr0 : Nat → va_E) (c_text : Nat → Int32) (m_taped : Int32) (m_size : Int32) (m_faultKind : Int32) (m_faultPlace : Int32) (m_at : Int32) (m_end : Int32) (m_token : Int32) (m_number : Int32) (m_name : Int64) (c_points : Nat → Int32) (c_strands : Nat → Int32) (c_units : Nat → Int32) (c_told : Nat → Int32) (c_ruleFrom : Nat → Int32) (c_ruleTo : Nat → Int32) (c_code : Nat → Int32) (c_eWhat : Nat → Int32) (c_eSign : Nat → Int32) (m_bank : Int32) (m_rb : Int32) (m_codes : Int32) (m_within : Int32) (m_piled : Int32) (m_unitsInRule : Int32) (m_askStrand : Int32) (m_askTied : Int32) (m_thoughtClaim : Int32) (m_thoughtNeed : Int32) (m_thoughtAll : Int32) (c_roundOf : Nat → Int32) (m_acts : Int32) (m_undone : Int32) (m_laid : Int32) (m_firstMove : Int32) (m_seens : Int32) (m_time : Int32) (m_waysNow : Int32) (m_fitting : Int32) (f : Nat → va_E) (hT : TYm ad cy fr0 c_text m_taped m_size m_faultKind m_faultPlace m_at m_end m_token m_number m_name c_points c_strands c_units c_told c_ruleFrom c_ruleTo c_code c_eWhat c_eSign m_bank m_rb m_codes m_within m_piled m_unitsInRule m_askStrand m_askTied m_thoughtClaim m_thoughtNeed m_thoughtAll c_roundOf m_acts m_undone m_laid m_firstMove m_seens m_time m_waysNow m_fitting f) (p1 : Int32) (p2 : Int32) (hCV : CVp c_told c_ruleFrom c_ruleTo c_code m_bank) (sz : Nat) : TtI l yX9_ask wsX9_ask 7 160 [.ref (ad 148), .int p1, .int p2] B0 adK adV D cy ad f sz (fun (r : Int32) (g : Nat → va_E) => True ∧ (∃ (m_askStrand' : Int32) (m_askTied' : Int32) (c_roundOf' : Nat → Int32) (m_waysNow' : Int32) (m_fitting' : Int32), TYm ad cy fr0 c_text m_taped m_size m_faultKind m_faultPlace m_at m_end m_token m_number m_name c_points c_strands c_units c_told c_ruleFrom c_ruleTo c_code c_eWhat c_eSign m_bank m_rb m_codes m_within m_piled m_unitsInRule m_askStrand' m_askTied' m_thoughtClaim m_thoughtNeed m_thoughtAll c_roundOf' m_acts m_undone m_laid m_firstMove m_seens m_time m_waysNow' m_fitting' g)) := by
  refine TtI.of (cc := cX9_ask) (maxL := 5) (ty := .int) (own := RX9) (by decide) rfl (Nat.le_of_ble_eq_true rfl) rfl ?_
  intro p e s m below meth c A ls hx hb hr hml hts hown hlk hK hE hP hD hS hA hAB hl
  have hl : lv_has ls 5 [(0, .ref (ad 148)), (1, .int p1), (2, .int p2)] := hl
  refine st0 (fun H locs hP hS => ?_) hP hS
  have j77 : ∀ (f : Nat → va_E) (H : Heap) (locs : List Loc) (ls : Array Slot) (v77_l4 : Int32) (v77_l3 : Int32) (v77_p_m_askStrand : Int32) (v77_p_m_askTied : Int32) (v77_p_c_roundOf : Nat → Int32) (v77_p_m_waysNow : Int32) (v77_p_m_fitting : Int32), (0 ≤ v77_l4.toInt ∧ v77_l4.toInt ≤ 10) → (-1 ≤ v77_l3.toInt ∧ v77_l3.toInt ≤ 9) → (0 ≤ p1.toInt ∧ p1.toInt ≤ 1) → (TYm ad cy fr0 c_text m_taped m_size m_faultKind m_faultPlace m_at m_end m_token m_number m_name c_points c_strands c_units c_told c_ruleFrom c_ruleTo c_code c_eWhat c_eSign m_bank m_rb m_codes m_within m_piled m_unitsInRule v77_p_m_askStrand v77_p_m_askTied m_thoughtClaim m_thoughtNeed m_thoughtAll v77_p_c_roundOf m_acts m_undone m_laid m_firstMove m_seens m_time v77_p_m_waysNow v77_p_m_fitting f) → (va_P D vwCl (wl ad f) H) → (va_D A (wl ad f)) → (va_S A s.heap H locs) → (lv_has ls 5 [(4, .int v77_l4), (3, .int v77_l3), (0, .ref (ad 148)), (1, .int p1), (2, .int p2)]) → W p l e (rmO 7 160 0 0) s m ([.ref (ad 148), .int p1, .int p2] : List Value).toArray below meth c H locs 0 0 (MQ below (va_Qi (fun (r : Int32) (g : Nat → va_E) => True ∧ (∃ (m_askStrand' : Int32) (m_askTied' : Int32) (c_roundOf' : Nat → Int32) (m_waysNow' : Int32) (m_fitting' : Int32), TYm ad cy fr0 c_text m_taped m_size m_faultKind m_faultPlace m_at m_end m_token m_number m_name c_points c_strands c_units c_told c_ruleFrom c_ruleTo c_code c_eWhat c_eSign m_bank m_rb m_codes m_within m_piled m_unitsInRule m_askStrand' m_askTied' m_thoughtClaim m_thoughtNeed m_thoughtAll c_roundOf' m_acts m_undone m_laid m_firstMove m_seens m_time m_waysNow' m_fitting' g)) (fun g t => PstT D ad g t) A) ([.ref (ad 148), .int p1, .int p2] : List Value).toArray s 0 0 A) (F0 m 77 ls []) := by
    intro f H locs ls v77_l4 v77_l3 v77_p_m_askStrand v77_p_m_askTied v77_p_c_roundOf v77_p_m_waysNow v77_p_m_fitting hv77_l4 hv77_l3 hv77_l1 hT hP hD hS hl
    refine lv_iconst (v := (-1)) hx hb dX9_ask_77 (by decide) ?_
    refine lv_goto (tgt := 94) hx hb dX9_ask_78 (by decide) ?_
    have ttl_m1 := tl_m1
    exact tI hx hb hr hlk rfl hP hS ⟨trivial, ⟨v77_p_m_askStrand, v77_p_m_askTied, v77_p_c_roundOf, v77_p_m_waysNow, v77_p_m_fitting, hT⟩⟩ dX9_ask_94
  have j21 : ∀ (N : Nat) (f : Nat → va_E) (H : Heap) (locs : List Loc) (ls : Array Slot) (v21_l4 : Int32) (v21_l3 : Int32) (v21_p_m_askStrand : Int32) (v21_p_m_askTied : Int32) (v21_p_c_roundOf : Nat → Int32) (v21_p_m_waysNow : Int32) (v21_p_m_fitting : Int32), (11 - v21_l4.toInt ≤ (N : Int)) → (0 ≤ v21_l4.toInt ∧ v21_l4.toInt ≤ 10) → (-1 ≤ v21_l3.toInt ∧ v21_l3.toInt ≤ 9) → (0 ≤ p1.toInt ∧ p1.toInt ≤ 1) → (TYm ad cy fr0 c_text m_taped m_size m_faultKind m_faultPlace m_at m_end m_token m_number m_name c_points c_strands c_units c_told c_ruleFrom c_ruleTo c_code c_eWhat c_eSign m_bank m_rb m_codes m_within m_piled m_unitsInRule v21_p_m_askStrand v21_p_m_askTied m_thoughtClaim m_thoughtNeed m_thoughtAll v21_p_c_roundOf m_acts m_undone m_laid m_firstMove m_seens m_time v21_p_m_waysNow v21_p_m_fitting f) → (va_P D vwCl (wl ad f) H) → (va_D A (wl ad f)) → (va_S A s.heap H locs) → (lv_has ls 5 [(4, .int v21_l4), (3, .int v21_l3), (0, .ref (ad 148)), (1, .int p1), (2, .int p2)]) → W p l e (rmO 7 160 0 0) s m ([.ref (ad 148), .int p1, .int p2] : List Value).toArray below meth c H locs 0 0 (MQ below (va_Qi (fun (r : Int32) (g : Nat → va_E) => True ∧ (∃ (m_askStrand' : Int32) (m_askTied' : Int32) (c_roundOf' : Nat → Int32) (m_waysNow' : Int32) (m_fitting' : Int32), TYm ad cy fr0 c_text m_taped m_size m_faultKind m_faultPlace m_at m_end m_token m_number m_name c_points c_strands c_units c_told c_ruleFrom c_ruleTo c_code c_eWhat c_eSign m_bank m_rb m_codes m_within m_piled m_unitsInRule m_askStrand' m_askTied' m_thoughtClaim m_thoughtNeed m_thoughtAll c_roundOf' m_acts m_undone m_laid m_firstMove m_seens m_time m_waysNow' m_fitting' g)) (fun g t => PstT D ad g t) A) ([.ref (ad 148), .int p1, .int p2] : List Value).toArray s 0 0 A) (F0 m 21 ls []) := by
    intro N
    induction N with
    | zero => intro f H locs ls v21_l4 v21_l3 v21_p_m_askStrand v21_p_m_askTied v21_p_c_roundOf v21_p_m_waysNow v21_p_m_fitting hN hv21_l4 hv21_l3 hv21_l1 hT hP hD hS hl; exact absurd hN (by omega)
    | succ N ih21 =>
      intro f H locs ls v21_l4 v21_l3 v21_p_m_askStrand v21_p_m_askTied v21_p_c_roundOf v21_p_m_waysNow v21_p_m_fitting hN hv21_l4 hv21_l3 hv21_l1 hT hP hD hS hl
      have j60 : ∀ (f : Nat → va_E) (H : Heap) (locs : List Loc) (ls : Array Slot) (v60_l3 : Int32), (0 ≤ v21_l4.toInt ∧ v21_l4.toInt ≤ 9) → (-1 ≤ v60_l3.toInt ∧ v60_l3.toInt ≤ 9) → (0 ≤ p1.toInt ∧ p1.toInt ≤ 1) → (TYm ad cy fr0 c_text m_taped m_size m_faultKind m_faultPlace m_at m_end m_token m_number m_name c_points c_strands c_units c_told c_ruleFrom c_ruleTo c_code c_eWhat c_eSign m_bank m_rb m_codes m_within m_piled m_unitsInRule v21_p_m_askStrand v21_p_m_askTied m_thoughtClaim m_thoughtNeed m_thoughtAll v21_p_c_roundOf m_acts m_undone m_laid m_firstMove m_seens m_time v21_p_m_waysNow v21_p_m_fitting f) → (va_P D vwCl (wl ad f) H) → (va_D A (wl ad f)) → (va_S A s.heap H locs) → (lv_has ls 5 [(4, .int v21_l4), (3, .int v60_l3), (0, .ref (ad 148)), (1, .int p1), (2, .int p2)]) → W p l e (rmO 7 160 0 0) s m ([.ref (ad 148), .int p1, .int p2] : List Value).toArray below meth c H locs 0 0 (MQ below (va_Qi (fun (r : Int32) (g : Nat → va_E) => True ∧ (∃ (m_askStrand' : Int32) (m_askTied' : Int32) (c_roundOf' : Nat → Int32) (m_waysNow' : Int32) (m_fitting' : Int32), TYm ad cy fr0 c_text m_taped m_size m_faultKind m_faultPlace m_at m_end m_token m_number m_name c_points c_strands c_units c_told c_ruleFrom c_ruleTo c_code c_eWhat c_eSign m_bank m_rb m_codes m_within m_piled m_unitsInRule m_askStrand' m_askTied' m_thoughtClaim m_thoughtNeed m_thoughtAll c_roundOf' m_acts m_undone m_laid m_firstMove m_seens m_time m_waysNow' m_fitting' g)) (fun g t => PstT D ad g t) A) ([.ref (ad 148), .int p1, .int p2] : List Value).toArray s 0 0 A) (F0 m 60 ls []) := by
        intro f H locs ls v60_l3 hv60_l4 hv60_l3 hv60_l1 hT hP hD hS hl
        obtain ⟨x1, ex1⟩ : ∃ q : Int32, q = v21_l4 + Int32.ofInt (1) := ⟨_, rfl⟩
        refine lv_iinc (v := x1) (lv' := [(4, .int x1), (3, .int v60_l3), (0, .ref (ad 148)), (1, .int p1), (2, .int p2)]) hx hb dX9_ask_60 hl (k := 0) rfl ex1.symm (by decide) rfl (fun ls hl => ?_)
        have hx1 := r_inc ex1 (by decide) (by omega) (by omega)
        refine lv_goto (tgt := 21) hx hb dX9_ask_63 (by decide) ?_
        exact ih21 f H locs ls x1 v60_l3 v21_p_m_askStrand v21_p_m_askTied v21_p_c_roundOf v21_p_m_waysNow v21_p_m_fitting (by omega) (by omega) (by omega) (by omega) hT hP hD hS (lv_sub hl [0, 1, 2, 3, 4] rfl)
      have j57 : ∀ (f : Nat → va_E) (H : Heap) (locs : List Loc) (ls : Array Slot), (0 ≤ v21_l4.toInt ∧ v21_l4.toInt ≤ 9) → (-1 ≤ v21_l3.toInt ∧ v21_l3.toInt ≤ 9) → (0 ≤ p1.toInt ∧ p1.toInt ≤ 1) → (TYm ad cy fr0 c_text m_taped m_size m_faultKind m_faultPlace m_at m_end m_token m_number m_name c_points c_strands c_units c_told c_ruleFrom c_ruleTo c_code c_eWhat c_eSign m_bank m_rb m_codes m_within m_piled m_unitsInRule v21_p_m_askStrand v21_p_m_askTied m_thoughtClaim m_thoughtNeed m_thoughtAll v21_p_c_roundOf m_acts m_undone m_laid m_firstMove m_seens m_time v21_p_m_waysNow v21_p_m_fitting f) → (va_P D vwCl (wl ad f) H) → (va_D A (wl ad f)) → (va_S A s.heap H locs) → (lv_has ls 5 [(4, .int v21_l4), (3, .int v21_l3), (0, .ref (ad 148)), (1, .int p1), (2, .int p2)]) → W p l e (rmO 7 160 0 0) s m ([.ref (ad 148), .int p1, .int p2] : List Value).toArray below meth c H locs 0 0 (MQ below (va_Qi (fun (r : Int32) (g : Nat → va_E) => True ∧ (∃ (m_askStrand' : Int32) (m_askTied' : Int32) (c_roundOf' : Nat → Int32) (m_waysNow' : Int32) (m_fitting' : Int32), TYm ad cy fr0 c_text m_taped m_size m_faultKind m_faultPlace m_at m_end m_token m_number m_name c_points c_strands c_units c_told c_ruleFrom c_ruleTo c_code c_eWhat c_eSign m_bank m_rb m_codes m_within m_piled m_unitsInRule m_askStrand' m_askTied' m_thoughtClaim m_thoughtNeed m_thoughtAll c_roundOf' m_acts m_undone m_laid m_firstMove m_seens m_time m_waysNow' m_fitting' g)) (fun g t => PstT D ad g t) A) ([.ref (ad 148), .int p1, .int p2] : List Value).toArray s 0 0 A) (F0 m 57 ls []) := by
        intro f H locs ls hv57_l4 hv57_l3 hv57_l1 hT hP hD hS hl
        refine lv_iload hx hb dX9_ask_57 (lv_at hl 0 rfl) ?_
        refine lv_istore_n (lv' := [(3, .int v21_l4), (4, .int v21_l4), (0, .ref (ad 148)), (1, .int p1), (2, .int p2)]) hx hb dX9_ask_59 rfl hl (by decide) rfl (fun ls hl => ?_)
        exact j60 f H locs ls v21_l4 (by omega) (by omega) (by omega) hT hP hD hS (lv_sub hl [1, 0, 2, 3, 4] rfl)
      refine lv_iload hx hb dX9_ask_21 (lv_at hl 0 rfl) ?_
      refine lv_aload_n hx hb dX9_ask_23 rfl (lv_at hl 2 rfl) ?_
      obtain ⟨e17, h2, h3, h4, h5, h6, h7, h8, h9, h10, h11, h12, h13, h14, h15, h16⟩ := (show okX9 ad m_taped m_size m_faultKind m_faultPlace m_at m_end m_token m_number m_name m_bank m_rb m_codes m_within m_piled m_unitsInRule v21_p_m_askStrand v21_p_m_askTied m_thoughtClaim m_thoughtNeed m_thoughtAll m_acts m_undone m_laid m_firstMove m_seens m_time v21_p_m_waysNow v21_p_m_fitting 148 (f 148) from hT.1 148 (by decide))
      refine tVI (As := []) (rest := [.int v21_l4]) (i := 148) ⟨hx, hb, hml, hown, hts⟩ hK hE hP hD hS hA hAB (s_X9_many_0 l B0 adK adV D cy ad fr0 c_text m_taped m_size m_faultKind m_faultPlace m_at m_end m_token m_number m_name c_points c_strands c_units c_told c_ruleFrom c_ruleTo c_code c_eWhat c_eSign m_bank m_rb m_codes m_within m_piled m_unitsInRule v21_p_m_askStrand v21_p_m_askTied m_thoughtClaim m_thoughtNeed m_thoughtAll v21_p_c_roundOf m_acts m_undone m_laid m_firstMove m_seens m_time v21_p_m_waysNow v21_p_m_fitting f hT _) (cwV 0 hts gX9_ask_X9_many rfl rfl rfl (by decide +kernel) ⟨Nat.le_of_ble_eq_true rfl, Nat.le_of_ble_eq_true rfl⟩) (by decide) 9 e17 rfl rfl hl.1 rfl (Nat.le_of_ble_eq_true rfl) dX9_ask_24 ⟨Nat.le_of_ble_eq_true rfl, Nat.le_of_ble_eq_true rfl⟩ (fun r g H locs hw hP hD hS => ?_)
      obtain ⟨hrs, rfl⟩ := hw
      obtain ⟨x18, rfl⟩ : ∃ q, q = r := ⟨_, rfl⟩
      have h19 := hrs
      refine lv_icmp_ge (tgt := 66) hx hb dX9_ask_27 (by decide) (fun c20 => ?_) (fun c20 => ?_)
      · have kc20 := c_le c20
        refine lv_iload_n hx hb dX9_ask_66 rfl (lv_at hl 1 rfl) ?_
        have ttl_0 := tl_0
        refine lv_if_lt (tgt := 77) hx hb dX9_ask_67 (by decide) (fun c21 => ?_) (fun c21 => ?_)
        · have kc21 := c_lt c21
          exact j77 f H locs ls v21_l4 v21_l3 v21_p_m_askStrand v21_p_m_askTied v21_p_c_roundOf v21_p_m_waysNow v21_p_m_fitting (by omega) (by omega) (by omega) hT hP hD hS (lv_sub hl [0, 1, 2, 3, 4] rfl)
        · have kc21 := c_nlt c21
          refine lv_aload_n hx hb dX9_ask_70 rfl (lv_at hl 2 rfl) ?_
          refine va_get (D := D) (cl := vwCl) (ci := 9) (v := .int v21_p_m_fitting) (C := RX9) (T := TX9) (N := 64) hx hb hts in_X9_ask_X9 hown hK hP 148 (wl_at (by decide) e17) rfl 61 (by decide) (hts (.fieldLink RX9 494 "EightReasonsModel" "fitting" "I") (List.mem_of_getElem? (i := 1) rfl)) (fun _ h9 => h9) rfl dX9_ask_71 ?_
          refine lv_if_ne (tgt := 81) hx hb dX9_ask_74 (by decide) (fun c22 => ?_) (fun c22 => ?_)
          · have kc22 := c_ne c22
            refine lv_iload_n hx hb dX9_ask_81 rfl (lv_at hl 3 rfl) ?_
            refine lv_if_ne (tgt := 89) hx hb dX9_ask_82 (by decide) (fun c23 => ?_) (fun c23 => ?_)
            · have kc23 := c_ne c23
              refine lv_aload_n hx hb dX9_ask_89 rfl (lv_at hl 2 rfl) ?_
              refine lv_iload_n hx hb dX9_ask_90 rfl (lv_at hl 1 rfl) ?_
              refine tVI (As := [.int v21_l3]) (rest := []) (i := 148) ⟨hx, hb, hml, hown, hts⟩ hK hE hP hD hS hA hAB (s_X9_mostOf_0 l B0 adK adV D cy ad fr0 c_text m_taped m_size m_faultKind m_faultPlace m_at m_end m_token m_number m_name c_points c_strands c_units c_told c_ruleFrom c_ruleTo c_code c_eWhat c_eSign m_bank m_rb m_codes m_within m_piled m_unitsInRule v21_p_m_askStrand v21_p_m_askTied m_thoughtClaim m_thoughtNeed m_thoughtAll v21_p_c_roundOf m_acts m_undone m_laid m_firstMove m_seens m_time v21_p_m_waysNow v21_p_m_fitting f hT v21_l3 (by omega) _) (cwV 1 hts gX9_ask_X9_mostOf rfl rfl rfl (by decide +kernel) ⟨Nat.le_of_ble_eq_true rfl, Nat.le_of_ble_eq_true rfl⟩) (by decide) 9 e17 rfl rfl hl.1 rfl (Nat.le_of_ble_eq_true rfl) dX9_ask_91 ⟨Nat.le_of_ble_eq_true rfl, Nat.le_of_ble_eq_true rfl⟩ (fun r g H locs hw hP hD hS => ?_)
              obtain ⟨hrs, rfl⟩ := hw
              obtain ⟨x24, rfl⟩ : ∃ q, q = r := ⟨_, rfl⟩
              have h25 := hrs
              exact tI hx hb hr hlk rfl hP hS ⟨trivial, ⟨v21_p_m_askStrand, v21_p_m_askTied, v21_p_c_roundOf, v21_p_m_waysNow, v21_p_m_fitting, hT⟩⟩ dX9_ask_94
            · have kc23 := c_eq c23
              refine lv_iload_n hx hb dX9_ask_85 rfl (lv_at hl 1 rfl) ?_
              refine lv_goto (tgt := 94) hx hb dX9_ask_86 (by decide) ?_
              exact tI hx hb hr hlk rfl hP hS ⟨trivial, ⟨v21_p_m_askStrand, v21_p_m_askTied, v21_p_c_roundOf, v21_p_m_waysNow, v21_p_m_fitting, hT⟩⟩ dX9_ask_94
          · have kc22 := c_eq c22
            exact j77 f H locs ls v21_l4 v21_l3 v21_p_m_askStrand v21_p_m_askTied v21_p_c_roundOf v21_p_m_waysNow v21_p_m_fitting (by omega) (by omega) (by omega) hT hP hD hS (lv_sub hl [0, 1, 2, 3, 4] rfl)
      · have kc20 := c_nle c20
        refine lv_aload_n hx hb dX9_ask_30 rfl (lv_at hl 2 rfl) ?_
        refine lv_iload hx hb dX9_ask_31 (lv_at hl 0 rfl) ?_
        refine tVI (As := [.int v21_l4]) (rest := []) (i := 148) ⟨hx, hb, hml, hown, hts⟩ hK hE hP hD hS hA hAB (s_X9_isClaim_0 l B0 adK adV D cy ad fr0 c_text m_taped m_size m_faultKind m_faultPlace m_at m_end m_token m_number m_name c_points c_strands c_units c_told c_ruleFrom c_ruleTo c_code c_eWhat c_eSign m_bank m_rb m_codes m_within m_piled m_unitsInRule v21_p_m_askStrand v21_p_m_askTied m_thoughtClaim m_thoughtNeed m_thoughtAll v21_p_c_roundOf m_acts m_undone m_laid m_firstMove m_seens m_time v21_p_m_waysNow v21_p_m_fitting f hT v21_l4 _) (cwV 1 hts gX9_ask_X9_isClaim rfl rfl rfl (by decide +kernel) ⟨Nat.le_of_ble_eq_true rfl, Nat.le_of_ble_eq_true rfl⟩) (by decide) 9 e17 rfl rfl hl.1 rfl (Nat.le_of_ble_eq_true rfl) dX9_ask_33 ⟨Nat.le_of_ble_eq_true rfl, Nat.le_of_ble_eq_true rfl⟩ (fun r g H locs hw hP hD hS => ?_)
        obtain ⟨hrs, rfl⟩ := hw
        obtain ⟨x26, rfl⟩ : ∃ q, q = r := ⟨_, rfl⟩
        rcases hrs with ⟨rfl, h27, h28⟩ | rfl
        · refine lv_if_eq (tgt := 60) hx hb dX9_ask_36 (by decide) (fun c => absurd c (by decide)) (fun _ => ?_)
          refine lv_iload_n hx hb dX9_ask_39 rfl (lv_at hl 1 rfl) ?_
          have ttl_0 := tl_0
          refine lv_if_lt (tgt := 57) hx hb dX9_ask_40 (by decide) (fun c29 => ?_) (fun c29 => ?_)
          · have kc29 := c_lt c29
            exact j57 f H locs ls (by omega) (by omega) (by omega) hT hP hD hS (lv_sub hl [0, 1, 2, 3, 4] rfl)
          · have kc29 := c_nlt c29
            refine lv_aload_n hx hb dX9_ask_43 rfl (lv_at hl 2 rfl) ?_
            refine lv_iload hx hb dX9_ask_44 (lv_at hl 0 rfl) ?_
            refine tVI (As := [.int v21_l4]) (rest := []) (i := 148) ⟨hx, hb, hml, hown, hts⟩ hK hE hP hD hS hA hAB (s_X9_mostOf_0 l B0 adK adV D cy ad fr0 c_text m_taped m_size m_faultKind m_faultPlace m_at m_end m_token m_number m_name c_points c_strands c_units c_told c_ruleFrom c_ruleTo c_code c_eWhat c_eSign m_bank m_rb m_codes m_within m_piled m_unitsInRule v21_p_m_askStrand v21_p_m_askTied m_thoughtClaim m_thoughtNeed m_thoughtAll v21_p_c_roundOf m_acts m_undone m_laid m_firstMove m_seens m_time v21_p_m_waysNow v21_p_m_fitting f hT v21_l4 (by omega) _) (cwV 1 hts gX9_ask_X9_mostOf rfl rfl rfl (by decide +kernel) ⟨Nat.le_of_ble_eq_true rfl, Nat.le_of_ble_eq_true rfl⟩) (by decide) 9 e17 rfl rfl hl.1 rfl (Nat.le_of_ble_eq_true rfl) dX9_ask_46 ⟨Nat.le_of_ble_eq_true rfl, Nat.le_of_ble_eq_true rfl⟩ (fun r g H locs hw hP hD hS => ?_)
            obtain ⟨hrs, rfl⟩ := hw
            obtain ⟨x30, rfl⟩ : ∃ q, q = r := ⟨_, rfl⟩
            have h31 := hrs
            refine lv_aload_n hx hb dX9_ask_49 rfl (lv_at hl 2 rfl) ?_
            refine lv_iload_n hx hb dX9_ask_50 rfl (lv_at hl 1 rfl) ?_
            refine tVI (As := [.int v21_l3]) (rest := [.int x30]) (i := 148) ⟨hx, hb, hml, hown, hts⟩ hK hE hP hD hS hA hAB (s_X9_mostOf_0 l B0 adK adV D cy ad fr0 c_text m_taped m_size m_faultKind m_faultPlace m_at m_end m_token m_number m_name c_points c_strands c_units c_told c_ruleFrom c_ruleTo c_code c_eWhat c_eSign m_bank m_rb m_codes m_within m_piled m_unitsInRule v21_p_m_askStrand v21_p_m_askTied m_thoughtClaim m_thoughtNeed m_thoughtAll v21_p_c_roundOf m_acts m_undone m_laid m_firstMove m_seens m_time v21_p_m_waysNow v21_p_m_fitting f hT v21_l3 (by omega) _) (cwV 1 hts gX9_ask_X9_mostOf rfl rfl rfl (by decide +kernel) ⟨Nat.le_of_ble_eq_true rfl, Nat.le_of_ble_eq_true rfl⟩) (by decide) 9 e17 rfl rfl hl.1 rfl (Nat.le_of_ble_eq_true rfl) dX9_ask_51 ⟨Nat.le_of_ble_eq_true rfl, Nat.le_of_ble_eq_true rfl⟩ (fun r g H locs hw hP hD hS => ?_)
            obtain ⟨hrs, rfl⟩ := hw
            obtain ⟨x32, rfl⟩ : ∃ q, q = r := ⟨_, rfl⟩
            have h33 := hrs
            refine lv_icmp_ge (tgt := 60) hx hb dX9_ask_54 (by decide) (fun c34 => ?_) (fun c34 => ?_)
            · have kc34 := c_le c34
              exact j60 f H locs ls v21_l3 (by omega) (by omega) (by omega) hT hP hD hS (lv_sub hl [0, 1, 2, 3, 4] rfl)
            · have kc34 := c_nle c34
              exact j57 f H locs ls (by omega) (by omega) (by omega) hT hP hD hS (lv_sub hl [0, 1, 2, 3, 4] rfl)
        · refine lv_if_eq (tgt := 60) hx hb dX9_ask_36 (by decide) (fun _ => ?_) (fun c => absurd (by decide) c)
          exact j60 f H locs ls v21_l3 (by omega) (by omega) (by omega) hT hP hD hS (lv_sub hl [0, 1, 2, 3, 4] rfl)
  refine lv_iload_n hx hb dX9_ask_0 rfl (lv_at hl 1 rfl) ?_
  refine lv_iconst (v := 0) hx hb dX9_ask_1 (by decide) ?_
  refine lv_iconst (v := 1) hx hb dX9_ask_2 (by decide) ?_
  have ttl_0 := tl_0
  have ttl_1 := tl_1
  refine tSI (As := [.int p1, .int 0, .int 1]) (rest := []) ⟨hx, hb, hml, hown, hts⟩ hK hE hP hD hS hA hAB (s_X9_isIn_0 l B0 adK adV D cy ad f p1 (0 : Int32) (by omega) (1 : Int32) (by omega) _) (va_cwS 3 hts gX9_ask_X9_isIn rfl rfl rfl (by decide +kernel) ⟨Nat.le_of_ble_eq_true rfl, Nat.le_of_ble_eq_true rfl⟩) rfl hl.1 rfl (Nat.le_of_ble_eq_true rfl) dX9_ask_3 ⟨Nat.le_of_ble_eq_true rfl, Nat.le_of_ble_eq_true rfl⟩ (fun r g H locs hw hP hD hS => ?_)
  obtain ⟨hrs, rfl⟩ := hw
  obtain ⟨x35, rfl⟩ : ∃ q, q = r := ⟨_, rfl⟩
  rcases hrs with ⟨rfl, h36, h37⟩ | rfl
  · refine lv_if_ne (tgt := 11) hx hb dX9_ask_6 (by decide) (fun _ => ?_) (fun c => absurd c (by decide))
    refine lv_aload_n hx hb dX9_ask_11 rfl (lv_at hl 0 rfl) ?_
    refine lv_iload_n hx hb dX9_ask_12 rfl (lv_at hl 2 rfl) ?_
    obtain ⟨e53, h38, h39, h40, h41, h42, h43, h44, h45, h46, h47, h48, h49, h50, h51, h52⟩ := (show okX9 ad m_taped m_size m_faultKind m_faultPlace m_at m_end m_token m_number m_name m_bank m_rb m_codes m_within m_piled m_unitsInRule m_askStrand m_askTied m_thoughtClaim m_thoughtNeed m_thoughtAll m_acts m_undone m_laid m_firstMove m_seens m_time m_waysNow m_fitting 148 (f 148) from hT.1 148 (by decide))
    refine tVV (As := [.int p2]) (rest := []) (i := 148) ⟨hx, hb, hml, hown, hts⟩ hK hE hP hD hS hA hAB (s_X9_layWays_0 l B0 adK adV D cy ad fr0 c_text m_taped m_size m_faultKind m_faultPlace m_at m_end m_token m_number m_name c_points c_strands c_units c_told c_ruleFrom c_ruleTo c_code c_eWhat c_eSign m_bank m_rb m_codes m_within m_piled m_unitsInRule m_askStrand m_askTied m_thoughtClaim m_thoughtNeed m_thoughtAll c_roundOf m_acts m_undone m_laid m_firstMove m_seens m_time m_waysNow m_fitting f hT p2 hCV _) (cwV 1 hts gX9_ask_X9_layWays rfl rfl rfl (by decide +kernel) ⟨Nat.le_of_ble_eq_true rfl, Nat.le_of_ble_eq_true rfl⟩) (by decide) 9 e53 rfl rfl hl.1 rfl (Nat.le_of_ble_eq_true rfl) dX9_ask_13 ⟨Nat.le_of_ble_eq_true rfl, Nat.le_of_ble_eq_true rfl⟩ (fun f H locs hw hP hD hS => ?_)
    obtain ⟨hrs, x54, x55, y56, x57, x58, hT⟩ := hw
    refine lv_iconst (v := (-1)) hx hb dX9_ask_16 (by decide) ?_
    refine lv_istore_n (lv' := [(3, .int (-1)), (0, .ref (ad 148)), (1, .int p1), (2, .int p2)]) hx hb dX9_ask_17 rfl hl (by decide) rfl (fun ls hl => ?_)
    refine lv_iconst (v := 0) hx hb dX9_ask_18 (by decide) ?_
    refine lv_istore (lv' := [(4, .int 0), (3, .int (-1)), (0, .ref (ad 148)), (1, .int p1), (2, .int p2)]) hx hb dX9_ask_19 hl (by decide) rfl (fun ls hl => ?_)
    have ttl_m1 := tl_m1
    exact j21 (Int.toNat (11 - (0 : Int32).toInt)) f H locs ls (0 : Int32) ((-1) : Int32) x54 x55 y56 x57 x58 (by omega) (by omega) (by omega) (by omega) hT hP hD hS (lv_sub hl [0, 1, 2, 3, 4] rfl)
  · refine lv_if_ne (tgt := 11) hx hb dX9_ask_6 (by decide) (fun c => absurd (by decide) c) (fun _ => ?_)
    refine lv_iconst (v := (-1)) hx hb dX9_ask_9 (by decide) ?_
    have ttl_m1 := tl_m1
    exact tI hx hb hr hlk rfl hP hS ⟨trivial, ⟨m_askStrand, m_askTied, c_roundOf, m_waysNow, m_fitting, hT⟩⟩ dX9_ask_10
set_option maxHeartbeats 4000000 in
set_option maxRecDepth 100000 in
theorem s_X9_image_0 (l : Launch) (B0 : Nat) (adK adV : Nat → Nat) (D : va_G) (cy : Nat → ClassId) (ad : Nat → Nat) (fr0 : Nat → va_E) (c_text : Nat → Int32) (m_taped : Int32) (m_size : Int32) (m_faultKind : Int32) (m_faultPlace : Int32) (m_at : Int32) (m_end : Int32) (m_token : Int32) (m_number : Int32) (m_name : Int64) (c_points : Nat → Int32) (c_strands : Nat → Int32) (c_units : Nat → Int32) (c_told : Nat → Int32) (c_ruleFrom : Nat → Int32) (c_ruleTo : Nat → Int32) (c_code : Nat → Int32) (c_eWhat : Nat → Int32) (c_eSign : Nat → Int32) (m_bank : Int32) (m_rb : Int32) (m_codes : Int32) (m_within : Int32) (m_piled : Int32) (m_unitsInRule : Int32) (m_askStrand : Int32) (m_askTied : Int32) (m_thoughtClaim : Int32) (m_thoughtNeed : Int32) (m_thoughtAll : Int32) (c_roundOf : Nat → Int32) (m_acts : Int32) (m_undone : Int32) (m_laid : Int32) (m_firstMove : Int32) (m_seens : Int32) (m_time : Int32) (m_waysNow : Int32) (m_fitting : Int32) (f : Nat → va_E) (hT : TYm ad cy fr0 c_text m_taped m_size m_faultKind m_faultPlace m_at m_end m_token m_number m_name c_points c_strands c_units c_told c_ruleFrom c_ruleTo c_code c_eWhat c_eSign m_bank m_rb m_codes m_within m_piled m_unitsInRule m_askStrand m_askTied m_thoughtClaim m_thoughtNeed m_thoughtAll c_roundOf m_acts m_undone m_laid m_firstMove m_seens m_time m_waysNow m_fitting f) (p1 : Int32) (sz : Nat) : TtI l yX9_image wsX9_image 1 22 [.ref (ad 148), .int p1] B0 adK adV D cy ad f sz (fun (r : Int32) (g : Nat → va_E) => True ∧ (TYm ad cy fr0 c_text m_taped m_size m_faultKind m_faultPlace m_at m_end m_token m_number m_name c_points c_strands c_units c_told c_ruleFrom c_ruleTo c_code c_eWhat c_eSign m_bank m_rb m_codes m_within m_piled m_unitsInRule m_askStrand m_askTied m_thoughtClaim m_thoughtNeed m_thoughtAll c_roundOf m_acts m_undone m_laid m_firstMove m_seens m_time m_waysNow m_fitting g)) := by
  refine TtI.of (cc := cX9_image) (maxL := 3) (ty := .int) (own := RX9) (by decide) rfl (Nat.le_of_ble_eq_true rfl) rfl ?_
  intro p e s m below meth c A ls hx hb hr hml hts hown hlk hK hE hP hD hS hA hAB hl
  have hl : lv_has ls 3 [(0, .ref (ad 148)), (1, .int p1)] := hl
  refine st0 (fun H locs hP hS => ?_) hP hS
  have j13 : ∀ (N : Nat) (f : Nat → va_E) (H : Heap) (locs : List Loc) (ls : Array Slot) (v13_l2 : Int32), (20 - v13_l2.toInt ≤ (N : Int)) → (0 ≤ v13_l2.toInt ∧ v13_l2.toInt ≤ 19) → (0 ≤ p1.toInt ∧ p1.toInt ≤ 2) → (TYm ad cy fr0 c_text m_taped m_size m_faultKind m_faultPlace m_at m_end m_token m_number m_name c_points c_strands c_units c_told c_ruleFrom c_ruleTo c_code c_eWhat c_eSign m_bank m_rb m_codes m_within m_piled m_unitsInRule m_askStrand m_askTied m_thoughtClaim m_thoughtNeed m_thoughtAll c_roundOf m_acts m_undone m_laid m_firstMove m_seens m_time m_waysNow m_fitting f) → (va_P D vwCl (wl ad f) H) → (va_D A (wl ad f)) → (va_S A s.heap H locs) → (lv_has ls 3 [(2, .int v13_l2), (0, .ref (ad 148)), (1, .int p1)]) → W p l e (rmO 1 22 0 0) s m ([.ref (ad 148), .int p1] : List Value).toArray below meth c H locs 0 0 (MQ below (va_Qi (fun (r : Int32) (g : Nat → va_E) => True ∧ (TYm ad cy fr0 c_text m_taped m_size m_faultKind m_faultPlace m_at m_end m_token m_number m_name c_points c_strands c_units c_told c_ruleFrom c_ruleTo c_code c_eWhat c_eSign m_bank m_rb m_codes m_within m_piled m_unitsInRule m_askStrand m_askTied m_thoughtClaim m_thoughtNeed m_thoughtAll c_roundOf m_acts m_undone m_laid m_firstMove m_seens m_time m_waysNow m_fitting g)) (fun g t => PstT D ad g t) A) ([.ref (ad 148), .int p1] : List Value).toArray s 0 0 A) (F0 m 13 ls []) := by
    intro N
    induction N with
    | zero => intro f H locs ls v13_l2 hN hv13_l2 hv13_l1 hT hP hD hS hl; exact absurd hN (by omega)
    | succ N ih13 =>
      intro f H locs ls v13_l2 hN hv13_l2 hv13_l1 hT hP hD hS hl
      refine lv_iload_n hx hb dX9_image_13 rfl (lv_at hl 0 rfl) ?_
      refine lv_bipush (v := 16) hx hb dX9_image_14 (by decide) ?_
      have ttl_16 := tl_16
      refine lv_icmp_ge (tgt := 42) hx hb dX9_image_16 (by decide) (fun c1 => ?_) (fun c1 => ?_)
      · have kc1 := c_le c1
        refine lv_aload_n hx hb dX9_image_42 rfl (lv_at hl 1 rfl) ?_
        obtain ⟨e17, h2, h3, h4, h5, h6, h7, h8, h9, h10, h11, h12, h13, h14, h15, h16⟩ := (show okX9 ad m_taped m_size m_faultKind m_faultPlace m_at m_end m_token m_number m_name m_bank m_rb m_codes m_within m_piled m_unitsInRule m_askStrand m_askTied m_thoughtClaim m_thoughtNeed m_thoughtAll m_acts m_undone m_laid m_firstMove m_seens m_time m_waysNow m_fitting 148 (f 148) from hT.1 148 (by decide))
        refine va_get (D := D) (cl := vwCl) (ci := 9) (v := .ref (ad 184)) (C := RX9) (T := TX9) (N := 64) hx hb hts in_X9_image_X9 hown hK hP 148 (wl_at (by decide) e17) rfl 63 (by decide) (hts (.fieldLink RX9 128 "EightReasonsModel" "isBoxed" "[Z") (List.mem_of_getElem? (i := 3) rfl)) (fun _ h9 => h9) rfl dX9_image_43 ?_
        refine lv_iload_n hx hb dX9_image_46 rfl (lv_at hl 2 rfl) ?_
        refine lv_iconst (v := 1) hx hb dX9_image_47 (by decide) ?_
        obtain ⟨g19, e18⟩ := (show okZ cy 3 (f 184) from hT.1 184 (by decide))
        have ttl_1 := tl_1
        refine va_zast hx hb hK hP hD hS 184 3 (wl_at (by decide) e18) rfl (vp_in_iff.mpr ⟨by omega, by omega⟩) dX9_image_48 (fun H locs hP hD hS => ?_)
        obtain ⟨f, hT, hP, hD, e20, hj21⟩ := stU (by decide) (TYm.up hT (by decide) (show OKm ad cy c_text m_taped m_size m_faultKind m_faultPlace m_at m_end m_token m_number m_name c_points c_strands c_units c_told c_ruleFrom c_ruleTo c_code c_eWhat c_eSign m_bank m_rb m_codes m_within m_piled m_unitsInRule m_askStrand m_askTied m_thoughtClaim m_thoughtNeed m_thoughtAll c_roundOf m_acts m_undone m_laid m_firstMove m_seens m_time m_waysNow m_fitting 184 _ from (show okZ cy 3 _ from ⟨_, rfl⟩))) hP hD
        have e22 := (hj21 148 (by decide)).trans e17
        refine lv_aload_n hx hb dX9_image_49 rfl (lv_at hl 1 rfl) ?_
        refine va_get (D := D) (cl := vwCl) (ci := 9) (v := .ref (ad 169)) (C := RX9) (T := TX9) (N := 64) hx hb hts in_X9_image_X9 hown hK hP 148 (wl_at (by decide) e22) rfl 37 (by decide) (hts (.fieldLink RX9 76 "EightReasonsModel" "all" "[I") (List.mem_of_getElem? (i := 2) rfl)) (fun _ h9 => h9) rfl dX9_image_50 ?_
        refine lv_bipush (v := 14) hx hb dX9_image_53 (by decide) ?_
        obtain ⟨g25, e23, h24⟩ := (show okIr cy 16 (0) (4095) 16 1 (f 169) from hT.1 169 (by decide))
        have ttl_14 := tl_14
        refine va_iald hx hb hK hP 169 0 (wl_at (by decide) e23) rfl (vin (by decide)) dX9_image_55 ?_
        refine lv_topi (fun x26 ex26 => ?_)
        exact tI hx hb hr hlk rfl hP hS ⟨trivial, hT⟩ dX9_image_56
      · have kc1 := c_nle c1
        refine lv_aload_n hx hb dX9_image_19 rfl (lv_at hl 1 rfl) ?_
        obtain ⟨e42, h27, h28, h29, h30, h31, h32, h33, h34, h35, h36, h37, h38, h39, h40, h41⟩ := (show okX9 ad m_taped m_size m_faultKind m_faultPlace m_at m_end m_token m_number m_name m_bank m_rb m_codes m_within m_piled m_unitsInRule m_askStrand m_askTied m_thoughtClaim m_thoughtNeed m_thoughtAll m_acts m_undone m_laid m_firstMove m_seens m_time m_waysNow m_fitting 148 (f 148) from hT.1 148 (by decide))
        refine va_get (D := D) (cl := vwCl) (ci := 9) (v := .ref (ad 183)) (C := RX9) (T := TX9) (N := 64) hx hb hts in_X9_image_X9 hown hK hP 148 (wl_at (by decide) e42) rfl 62 (by decide) (hts (.fieldLink RX9 125 "EightReasonsModel" "boxAll" "[I") (List.mem_of_getElem? (i := 1) rfl)) (fun _ h9 => h9) rfl dX9_image_20 ?_
        refine lv_bipush (v := 16) hx hb dX9_image_23 (by decide) ?_
        refine lv_iload_n hx hb dX9_image_25 rfl (lv_at hl 2 rfl) ?_
        refine lv_imul hx hb dX9_image_26 ?_
        refine lv_topi (fun x43 ex43 => ?_)
        have hx43 := r_mull ex43 tl_16 (by omega) (by omega)
        refine lv_iload_n hx hb dX9_image_27 rfl (lv_at hl 0 rfl) ?_
        refine lv_iadd hx hb dX9_image_28 ?_
        refine lv_topi (fun x44 ex44 => ?_)
        have hx44 := r_add ex44 (by omega) (by omega)
        refine lv_aload_n hx hb dX9_image_29 rfl (lv_at hl 1 rfl) ?_
        refine va_get (D := D) (cl := vwCl) (ci := 9) (v := .ref (ad 169)) (C := RX9) (T := TX9) (N := 64) hx hb hts in_X9_image_X9 hown hK hP 148 (wl_at (by decide) e42) rfl 37 (by decide) (hts (.fieldLink RX9 76 "EightReasonsModel" "all" "[I") (List.mem_of_getElem? (i := 2) rfl)) (fun _ h9 => h9) rfl dX9_image_30 ?_
        refine lv_iload_n hx hb dX9_image_33 rfl (lv_at hl 0 rfl) ?_
        obtain ⟨g47, e45, h46⟩ := (show okIr cy 16 (0) (4095) 16 1 (f 169) from hT.1 169 (by decide))
        have hc48 := clampZ (x := v13_l2) (by omega)
        refine va_iald hx hb hK hP 169 0 (wl_at (by decide) e45) rfl (vp_in_iff.mpr ⟨by omega, by omega⟩) dX9_image_34 ?_
        refine lv_topi (fun x49 ex49 => ?_)
        have hx49 := r_elc (h46 _) ex49
        obtain ⟨g52, e50, h51⟩ := (show okIr cy 48 (0) (4095) 16 1 (f 183) from hT.1 183 (by decide))
        refine va_iast hx hb hK hP hD hS 183 0 (wl_at (by decide) e50) rfl (vp_in_iff.mpr ⟨by omega, by omega⟩) dX9_image_35 (fun H locs hP hD hS => ?_)
        have hc53 := clampZ (x := x44) (by omega)
        obtain ⟨f, hT, hP, hD, e54, hj55⟩ := stU (by decide) (TYm.up hT (by decide) (show OKm ad cy c_text m_taped m_size m_faultKind m_faultPlace m_at m_end m_token m_number m_name c_points c_strands c_units c_told c_ruleFrom c_ruleTo c_code c_eWhat c_eSign m_bank m_rb m_codes m_within m_piled m_unitsInRule m_askStrand m_askTied m_thoughtClaim m_thoughtNeed m_thoughtAll c_roundOf m_acts m_undone m_laid m_firstMove m_seens m_time m_waysNow m_fitting 183 _ from (show okIr cy 48 (0) (4095) 16 1 _ from ⟨_, rfl, upd_r h51 (fun q => by omega)⟩))) hP hD
        have e56 := (hj55 148 (by decide)).trans e42
        have e57 := (hj55 169 (by decide)).trans e45
        obtain ⟨x58, ex58⟩ : ∃ q : Int32, q = v13_l2 + Int32.ofInt (1) := ⟨_, rfl⟩
        refine lv_iinc (v := x58) (lv' := [(2, .int x58), (0, .ref (ad 148)), (1, .int p1)]) hx hb dX9_image_36 hl (k := 0) rfl ex58.symm (by decide) rfl (fun ls hl => ?_)
        have hx58 := r_inc ex58 (by decide) (by omega) (by omega)
        refine lv_goto (tgt := 13) hx hb dX9_image_39 (by decide) ?_
        exact ih13 f H locs ls x58 (by omega) (by omega) (by omega) hT hP hD hS (lv_sub hl [0, 1, 2] rfl)
  refine lv_iload_n hx hb dX9_image_0 rfl (lv_at hl 1 rfl) ?_
  refine lv_iconst (v := 0) hx hb dX9_image_1 (by decide) ?_
  refine lv_iconst (v := 2) hx hb dX9_image_2 (by decide) ?_
  have ttl_0 := tl_0
  have ttl_2 := tl_2
  refine tSI (As := [.int p1, .int 0, .int 2]) (rest := []) ⟨hx, hb, hml, hown, hts⟩ hK hE hP hD hS hA hAB (s_X9_isIn_0 l B0 adK adV D cy ad f p1 (0 : Int32) (by omega) (2 : Int32) (by omega) _) (va_cwS 3 hts gX9_image_X9_isIn rfl rfl rfl (by decide +kernel) ⟨Nat.le_of_ble_eq_true rfl, Nat.le_of_ble_eq_true rfl⟩) rfl hl.1 rfl (Nat.le_of_ble_eq_true rfl) dX9_image_3 ⟨Nat.le_of_ble_eq_true rfl, Nat.le_of_ble_eq_true rfl⟩ (fun r g H locs hw hP hD hS => ?_)
  obtain ⟨hrs, rfl⟩ := hw
  obtain ⟨x59, rfl⟩ : ∃ q, q = r := ⟨_, rfl⟩
  rcases hrs with ⟨rfl, h60, h61⟩ | rfl
  · refine lv_if_ne (tgt := 11) hx hb dX9_image_6 (by decide) (fun _ => ?_) (fun c => absurd c (by decide))
    refine lv_iconst (v := 0) hx hb dX9_image_11 (by decide) ?_
    refine lv_istore_n (lv' := [(2, .int 0), (0, .ref (ad 148)), (1, .int p1)]) hx hb dX9_image_12 rfl hl (by decide) rfl (fun ls hl => ?_)
    exact j13 (Int.toNat (20 - (0 : Int32).toInt)) f H locs ls (0 : Int32) (by omega) (by omega) (by omega) hT hP hD hS (lv_sub hl [0, 1, 2] rfl)
  · refine lv_if_ne (tgt := 11) hx hb dX9_image_6 (by decide) (fun c => absurd (by decide) c) (fun _ => ?_)
    refine lv_iconst (v := (-1)) hx hb dX9_image_9 (by decide) ?_
    have ttl_m1 := tl_m1
    exact tI hx hb hr hlk rfl hP hS ⟨trivial, hT⟩ dX9_image_10
set_option maxHeartbeats 4000000 in
set_option maxRecDepth 100000 in
theorem s_X9_back_0 (l : Launch) (B0 : Nat) (adK adV : Nat → Nat) (D : va_G) (cy : Nat → ClassId) (ad : Nat → Nat) (fr0 : Nat → va_E) (c_text : Nat → Int32) (m_taped : Int32) (m_size : Int32) (m_faultKind : Int32) (m_faultPlace : Int32) (m_at : Int32) (m_end : Int32) (m_token : Int32) (m_number : Int32) (m_name : Int64) (c_points : Nat → Int32) (c_strands : Nat → Int32) (c_units : Nat → Int32) (c_told : Nat → Int32) (c_ruleFrom : Nat → Int32) (c_ruleTo : Nat → Int32) (c_code : Nat → Int32) (c_eWhat : Nat → Int32) (c_eSign : Nat → Int32) (m_bank : Int32) (m_rb : Int32) (m_codes : Int32) (m_within : Int32) (m_piled : Int32) (m_unitsInRule : Int32) (m_askStrand : Int32) (m_askTied : Int32) (m_thoughtClaim : Int32) (m_thoughtNeed : Int32) (m_thoughtAll : Int32) (c_roundOf : Nat → Int32) (m_acts : Int32) (m_undone : Int32) (m_laid : Int32) (m_firstMove : Int32) (m_seens : Int32) (m_time : Int32) (m_waysNow : Int32) (m_fitting : Int32) (f : Nat → va_E) (hT : TYm ad cy fr0 c_text m_taped m_size m_faultKind m_faultPlace m_at m_end m_token m_number m_name c_points c_strands c_units c_told c_ruleFrom c_ruleTo c_code c_eWhat c_eSign m_bank m_rb m_codes m_within m_piled m_unitsInRule m_askStrand m_askTied m_thoughtClaim m_thoughtNeed m_thoughtAll c_roundOf m_acts m_undone m_laid m_firstMove m_seens m_time m_waysNow m_fitting f) (p1 : Int32) (hh0 : m_acts.toInt + m_undone.toInt ≤ 40 ∧ 0 ≤ m_undone.toInt) (sz : Nat) : TtI l yX9_back wsX9_back 1 22 [.ref (ad 148), .int p1] B0 adK adV D cy ad f sz (fun (r : Int32) (g : Nat → va_E) => True ∧ (∃ (m_acts' : Int32) (m_undone' : Int32), TYm ad cy fr0 c_text m_taped m_size m_faultKind m_faultPlace m_at m_end m_token m_number m_name c_points c_strands c_units c_told c_ruleFrom c_ruleTo c_code c_eWhat c_eSign m_bank m_rb m_codes m_within m_piled m_unitsInRule m_askStrand m_askTied m_thoughtClaim m_thoughtNeed m_thoughtAll c_roundOf m_acts' m_undone' m_laid m_firstMove m_seens m_time m_waysNow m_fitting g ∧ (m_acts'.toInt + m_undone'.toInt ≤ 40 ∧ 0 ≤ m_undone'.toInt))) := by
  refine TtI.of (cc := cX9_back) (maxL := 3) (ty := .int) (own := RX9) (by decide) rfl (Nat.le_of_ble_eq_true rfl) rfl ?_
  intro p e s m below meth c A ls hx hb hr hml hts hown hlk hK hE hP hD hS hA hAB hl
  have hl : lv_has ls 3 [(0, .ref (ad 148)), (1, .int p1)] := hl
  refine st0 (fun H locs hP hS => ?_) hP hS
  have j22 : ∀ (N : Nat) (f : Nat → va_E) (H : Heap) (locs : List Loc) (ls : Array Slot) (v22_l2 : Int32), (20 - v22_l2.toInt ≤ (N : Int)) → (0 ≤ v22_l2.toInt ∧ v22_l2.toInt ≤ 19) → (0 ≤ p1.toInt ∧ p1.toInt ≤ 2) → (TYm ad cy fr0 c_text m_taped m_size m_faultKind m_faultPlace m_at m_end m_token m_number m_name c_points c_strands c_units c_told c_ruleFrom c_ruleTo c_code c_eWhat c_eSign m_bank m_rb m_codes m_within m_piled m_unitsInRule m_askStrand m_askTied m_thoughtClaim m_thoughtNeed m_thoughtAll c_roundOf m_acts m_undone m_laid m_firstMove m_seens m_time m_waysNow m_fitting f) → (va_P D vwCl (wl ad f) H) → (va_D A (wl ad f)) → (va_S A s.heap H locs) → (lv_has ls 3 [(2, .int v22_l2), (0, .ref (ad 148)), (1, .int p1)]) → W p l e (rmO 1 22 0 0) s m ([.ref (ad 148), .int p1] : List Value).toArray below meth c H locs 0 0 (MQ below (va_Qi (fun (r : Int32) (g : Nat → va_E) => True ∧ (∃ (m_acts' : Int32) (m_undone' : Int32), TYm ad cy fr0 c_text m_taped m_size m_faultKind m_faultPlace m_at m_end m_token m_number m_name c_points c_strands c_units c_told c_ruleFrom c_ruleTo c_code c_eWhat c_eSign m_bank m_rb m_codes m_within m_piled m_unitsInRule m_askStrand m_askTied m_thoughtClaim m_thoughtNeed m_thoughtAll c_roundOf m_acts' m_undone' m_laid m_firstMove m_seens m_time m_waysNow m_fitting g ∧ (m_acts'.toInt + m_undone'.toInt ≤ 40 ∧ 0 ≤ m_undone'.toInt))) (fun g t => PstT D ad g t) A) ([.ref (ad 148), .int p1] : List Value).toArray s 0 0 A) (F0 m 22 ls []) := by
    intro N
    induction N with
    | zero => intro f H locs ls v22_l2 hN hv22_l2 hv22_l1 hT hP hD hS hl; exact absurd hN (by omega)
    | succ N ih22 =>
      intro f H locs ls v22_l2 hN hv22_l2 hv22_l1 hT hP hD hS hl
      refine lv_iload_n hx hb dX9_back_22 rfl (lv_at hl 0 rfl) ?_
      refine lv_bipush (v := 16) hx hb dX9_back_23 (by decide) ?_
      have ttl_16 := tl_16
      refine lv_icmp_ge (tgt := 51) hx hb dX9_back_25 (by decide) (fun c1 => ?_) (fun c1 => ?_)
      · have kc1 := c_le c1
        refine lv_aload_n hx hb dX9_back_51 rfl (lv_at hl 1 rfl) ?_
        refine lv_iconst (v := 0) hx hb dX9_back_52 (by decide) ?_
        obtain ⟨e17, h2, h3, h4, h5, h6, h7, h8, h9, h10, h11, h12, h13, h14, h15, h16⟩ := (show okX9 ad m_taped m_size m_faultKind m_faultPlace m_at m_end m_token m_number m_name m_bank m_rb m_codes m_within m_piled m_unitsInRule m_askStrand m_askTied m_thoughtClaim m_thoughtNeed m_thoughtAll m_acts m_undone m_laid m_firstMove m_seens m_time m_waysNow m_fitting 148 (f 148) from hT.1 148 (by decide))
        refine va_put (D := D) (cl := vwCl) (ci := 9) (v := .int 0) (ty := tyX9 45) (C := RX9) (T := TX9) (N := 64) hx hb hts in_X9_back_X9 tyX9 tyX9_ok nmX9 hown hK hP hD hS 148 (wl_at (by decide) e17) rfl 45 (by decide) (hts (.fieldLink RX9 368 "EightReasonsModel" "acts" "I") (List.mem_of_getElem? (i := 4) rfl)) (fun _ h9 => h9) rfl (tyX9_ok 45 (by decide)) rfl rfl (Nat.le_of_ble_eq_true rfl) dX9_back_53 (fun H locs hP hD hS => ?_)
        have ttl_0 := tl_0
        obtain ⟨f, hT, hP, hD, e18, hj19⟩ := stU (by decide) (TYm.p148 hT (show OKm ad cy c_text m_taped m_size m_faultKind m_faultPlace m_at m_end m_token m_number m_name c_points c_strands c_units c_told c_ruleFrom c_ruleTo c_code c_eWhat c_eSign m_bank m_rb m_codes m_within m_piled m_unitsInRule m_askStrand m_askTied m_thoughtClaim m_thoughtNeed m_thoughtAll c_roundOf 0 m_undone m_laid m_firstMove m_seens m_time m_waysNow m_fitting 148 _ from (show okX9 ad m_taped m_size m_faultKind m_faultPlace m_at m_end m_token m_number m_name m_bank m_rb m_codes m_within m_piled m_unitsInRule m_askStrand m_askTied m_thoughtClaim m_thoughtNeed m_thoughtAll 0 m_undone m_laid m_firstMove m_seens m_time m_waysNow m_fitting 148 _ from ⟨rfl, by omega, by omega, by omega, by omega, by omega, by omega, by omega, by omega, by omega, by omega, by omega, by omega, by omega, by omega, by omega⟩))) hP hD
        refine lv_aload_n hx hb dX9_back_56 rfl (lv_at hl 1 rfl) ?_
        refine lv_iconst (v := 0) hx hb dX9_back_57 (by decide) ?_
        refine va_put (D := D) (cl := vwCl) (ci := 9) (v := .int 0) (ty := tyX9 46) (C := RX9) (T := TX9) (N := 64) hx hb hts in_X9_back_X9 tyX9 tyX9_ok nmX9 hown hK hP hD hS 148 (wl_at (by decide) e18) rfl 46 (by decide) (hts (.fieldLink RX9 371 "EightReasonsModel" "undone" "I") (List.mem_of_getElem? (i := 5) rfl)) (fun _ h9 => h9) rfl (tyX9_ok 46 (by decide)) rfl rfl (Nat.le_of_ble_eq_true rfl) dX9_back_58 (fun H locs hP hD hS => ?_)
        obtain ⟨f, hT, hP, hD, e20, hj21⟩ := stU (by decide) (TYm.p148 hT (show OKm ad cy c_text m_taped m_size m_faultKind m_faultPlace m_at m_end m_token m_number m_name c_points c_strands c_units c_told c_ruleFrom c_ruleTo c_code c_eWhat c_eSign m_bank m_rb m_codes m_within m_piled m_unitsInRule m_askStrand m_askTied m_thoughtClaim m_thoughtNeed m_thoughtAll c_roundOf 0 0 m_laid m_firstMove m_seens m_time m_waysNow m_fitting 148 _ from (show okX9 ad m_taped m_size m_faultKind m_faultPlace m_at m_end m_token m_number m_name m_bank m_rb m_codes m_within m_piled m_unitsInRule m_askStrand m_askTied m_thoughtClaim m_thoughtNeed m_thoughtAll 0 0 m_laid m_firstMove m_seens m_time m_waysNow m_fitting 148 _ from ⟨rfl, by omega, by omega, by omega, by omega, by omega, by omega, by omega, by omega, by omega, by omega, by omega, by omega, by omega, by omega, by omega⟩))) hP hD
        refine lv_aload_n hx hb dX9_back_61 rfl (lv_at hl 1 rfl) ?_
        refine va_get (D := D) (cl := vwCl) (ci := 9) (v := .ref (ad 169)) (C := RX9) (T := TX9) (N := 64) hx hb hts in_X9_back_X9 hown hK hP 148 (wl_at (by decide) e20) rfl 37 (by decide) (hts (.fieldLink RX9 76 "EightReasonsModel" "all" "[I") (List.mem_of_getElem? (i := 2) rfl)) (fun _ h9 => h9) rfl dX9_back_62 ?_
        refine lv_bipush (v := 14) hx hb dX9_back_65 (by decide) ?_
        obtain ⟨g24, e22, h23⟩ := (show okIr cy 16 (0) (4095) 16 1 (f 169) from hT.1 169 (by decide))
        have ttl_14 := tl_14
        refine va_iald hx hb hK hP 169 0 (wl_at (by decide) e22) rfl (vin (by decide)) dX9_back_67 ?_
        refine lv_topi (fun x25 ex25 => ?_)
        exact tI hx hb hr hlk rfl hP hS ⟨trivial, ⟨(0 : Int32), (0 : Int32), hT, by omega⟩⟩ dX9_back_68
      · have kc1 := c_nle c1
        refine lv_aload_n hx hb dX9_back_28 rfl (lv_at hl 1 rfl) ?_
        obtain ⟨e41, h26, h27, h28, h29, h30, h31, h32, h33, h34, h35, h36, h37, h38, h39, h40⟩ := (show okX9 ad m_taped m_size m_faultKind m_faultPlace m_at m_end m_token m_number m_name m_bank m_rb m_codes m_within m_piled m_unitsInRule m_askStrand m_askTied m_thoughtClaim m_thoughtNeed m_thoughtAll m_acts m_undone m_laid m_firstMove m_seens m_time m_waysNow m_fitting 148 (f 148) from hT.1 148 (by decide))
        refine va_get (D := D) (cl := vwCl) (ci := 9) (v := .ref (ad 169)) (C := RX9) (T := TX9) (N := 64) hx hb hts in_X9_back_X9 hown hK hP 148 (wl_at (by decide) e41) rfl 37 (by decide) (hts (.fieldLink RX9 76 "EightReasonsModel" "all" "[I") (List.mem_of_getElem? (i := 2) rfl)) (fun _ h9 => h9) rfl dX9_back_29 ?_
        refine lv_iload_n hx hb dX9_back_32 rfl (lv_at hl 0 rfl) ?_
        refine lv_aload_n hx hb dX9_back_33 rfl (lv_at hl 1 rfl) ?_
        refine va_get (D := D) (cl := vwCl) (ci := 9) (v := .ref (ad 183)) (C := RX9) (T := TX9) (N := 64) hx hb hts in_X9_back_X9 hown hK hP 148 (wl_at (by decide) e41) rfl 62 (by decide) (hts (.fieldLink RX9 125 "EightReasonsModel" "boxAll" "[I") (List.mem_of_getElem? (i := 3) rfl)) (fun _ h9 => h9) rfl dX9_back_34 ?_
        refine lv_bipush (v := 16) hx hb dX9_back_37 (by decide) ?_
        refine lv_iload_n hx hb dX9_back_39 rfl (lv_at hl 2 rfl) ?_
        refine lv_imul hx hb dX9_back_40 ?_
        refine lv_topi (fun x42 ex42 => ?_)
        have hx42 := r_mull ex42 tl_16 (by omega) (by omega)
        refine lv_iload_n hx hb dX9_back_41 rfl (lv_at hl 0 rfl) ?_
        refine lv_iadd hx hb dX9_back_42 ?_
        refine lv_topi (fun x43 ex43 => ?_)
        have hx43 := r_add ex43 (by omega) (by omega)
        obtain ⟨g46, e44, h45⟩ := (show okIr cy 48 (0) (4095) 16 1 (f 183) from hT.1 183 (by decide))
        have hc47 := clampZ (x := x43) (by omega)
        refine va_iald hx hb hK hP 183 0 (wl_at (by decide) e44) rfl (vp_in_iff.mpr ⟨by omega, by omega⟩) dX9_back_43 ?_
        refine lv_topi (fun x48 ex48 => ?_)
        have hx48 := r_elc (h45 _) ex48
        obtain ⟨g51, e49, h50⟩ := (show okIr cy 16 (0) (4095) 16 1 (f 169) from hT.1 169 (by decide))
        refine va_iast hx hb hK hP hD hS 169 0 (wl_at (by decide) e49) rfl (vp_in_iff.mpr ⟨by omega, by omega⟩) dX9_back_44 (fun H locs hP hD hS => ?_)
        have hc52 := clampZ (x := v22_l2) (by omega)
        obtain ⟨f, hT, hP, hD, e53, hj54⟩ := stU (by decide) (TYm.up hT (by decide) (show OKm ad cy c_text m_taped m_size m_faultKind m_faultPlace m_at m_end m_token m_number m_name c_points c_strands c_units c_told c_ruleFrom c_ruleTo c_code c_eWhat c_eSign m_bank m_rb m_codes m_within m_piled m_unitsInRule m_askStrand m_askTied m_thoughtClaim m_thoughtNeed m_thoughtAll c_roundOf m_acts m_undone m_laid m_firstMove m_seens m_time m_waysNow m_fitting 169 _ from (show okIr cy 16 (0) (4095) 16 1 _ from ⟨_, rfl, upd_r h50 (fun q => by omega)⟩))) hP hD
        have e55 := (hj54 148 (by decide)).trans e41
        have e56 := (hj54 183 (by decide)).trans e44
        obtain ⟨x57, ex57⟩ : ∃ q : Int32, q = v22_l2 + Int32.ofInt (1) := ⟨_, rfl⟩
        refine lv_iinc (v := x57) (lv' := [(2, .int x57), (0, .ref (ad 148)), (1, .int p1)]) hx hb dX9_back_45 hl (k := 0) rfl ex57.symm (by decide) rfl (fun ls hl => ?_)
        have hx57 := r_inc ex57 (by decide) (by omega) (by omega)
        refine lv_goto (tgt := 22) hx hb dX9_back_48 (by decide) ?_
        exact ih22 f H locs ls x57 (by omega) (by omega) (by omega) hT hP hD hS (lv_sub hl [0, 1, 2] rfl)
  refine lv_iload_n hx hb dX9_back_0 rfl (lv_at hl 1 rfl) ?_
  refine lv_iconst (v := 0) hx hb dX9_back_1 (by decide) ?_
  refine lv_iconst (v := 2) hx hb dX9_back_2 (by decide) ?_
  have ttl_0 := tl_0
  have ttl_2 := tl_2
  refine tSI (As := [.int p1, .int 0, .int 2]) (rest := []) ⟨hx, hb, hml, hown, hts⟩ hK hE hP hD hS hA hAB (s_X9_isIn_0 l B0 adK adV D cy ad f p1 (0 : Int32) (by omega) (2 : Int32) (by omega) _) (va_cwS 3 hts gX9_back_X9_isIn rfl rfl rfl (by decide +kernel) ⟨Nat.le_of_ble_eq_true rfl, Nat.le_of_ble_eq_true rfl⟩) rfl hl.1 rfl (Nat.le_of_ble_eq_true rfl) dX9_back_3 ⟨Nat.le_of_ble_eq_true rfl, Nat.le_of_ble_eq_true rfl⟩ (fun r g H locs hw hP hD hS => ?_)
  obtain ⟨hrs, rfl⟩ := hw
  obtain ⟨x58, rfl⟩ : ∃ q, q = r := ⟨_, rfl⟩
  rcases hrs with ⟨rfl, h59, h60⟩ | rfl
  · refine lv_if_eq (tgt := 18) hx hb dX9_back_6 (by decide) (fun c => absurd c (by decide)) (fun _ => ?_)
    refine lv_aload_n hx hb dX9_back_9 rfl (lv_at hl 0 rfl) ?_
    obtain ⟨e76, h61, h62, h63, h64, h65, h66, h67, h68, h69, h70, h71, h72, h73, h74, h75⟩ := (show okX9 ad m_taped m_size m_faultKind m_faultPlace m_at m_end m_token m_number m_name m_bank m_rb m_codes m_within m_piled m_unitsInRule m_askStrand m_askTied m_thoughtClaim m_thoughtNeed m_thoughtAll m_acts m_undone m_laid m_firstMove m_seens m_time m_waysNow m_fitting 148 (f 148) from hT.1 148 (by decide))
    refine va_get (D := D) (cl := vwCl) (ci := 9) (v := .ref (ad 184)) (C := RX9) (T := TX9) (N := 64) hx hb hts in_X9_back_X9 hown hK hP 148 (wl_at (by decide) e76) rfl 63 (by decide) (hts (.fieldLink RX9 128 "EightReasonsModel" "isBoxed" "[Z") (List.mem_of_getElem? (i := 1) rfl)) (fun _ h9 => h9) rfl dX9_back_10 ?_
    refine lv_iload_n hx hb dX9_back_13 rfl (lv_at hl 1 rfl) ?_
    obtain ⟨g78, e77⟩ := (show okZ cy 3 (f 184) from hT.1 184 (by decide))
    refine va_zald hx hb hK hP 184 3 (wl_at (by decide) e77) rfl (vp_in_iff.mpr ⟨by omega, by omega⟩) dX9_back_14 ?_
    refine lv_topi (fun x79 ex79 => ?_)
    refine lv_if_ne (tgt := 20) hx hb dX9_back_15 (by decide) (fun c80 => ?_) (fun c80 => ?_)
    · have kc80 := c_ne c80
      refine lv_iconst (v := 0) hx hb dX9_back_20 (by decide) ?_
      refine lv_istore_n (lv' := [(2, .int 0), (0, .ref (ad 148)), (1, .int p1)]) hx hb dX9_back_21 rfl hl (by decide) rfl (fun ls hl => ?_)
      exact j22 (Int.toNat (20 - (0 : Int32).toInt)) f H locs ls (0 : Int32) (by omega) (by omega) (by omega) hT hP hD hS (lv_sub hl [0, 1, 2] rfl)
    · have kc80 := c_eq c80
      refine lv_iconst (v := (-1)) hx hb dX9_back_18 (by decide) ?_
      have ttl_m1 := tl_m1
      exact tI hx hb hr hlk rfl hP hS ⟨trivial, ⟨m_acts, m_undone, hT, by omega⟩⟩ dX9_back_19
  · refine lv_if_eq (tgt := 18) hx hb dX9_back_6 (by decide) (fun _ => ?_) (fun c => absurd (by decide) c)
    refine lv_iconst (v := (-1)) hx hb dX9_back_18 (by decide) ?_
    have ttl_m1 := tl_m1
    exact tI hx hb hr hlk rfl hP hS ⟨trivial, ⟨m_acts, m_undone, hT, by omega⟩⟩ dX9_back_19
set_option maxHeartbeats 4000000 in
set_option maxRecDepth 100000 in
theorem s_X9_about_0 (l : Launch) (B0 : Nat) (adK adV : Nat → Nat) (D : va_G) (cy : Nat → ClassId) (ad : Nat → Nat) (fr0 : Nat → va_E) (c_text : Nat → Int32) (m_taped : Int32) (m_size : Int32) (m_faultKind : Int32) (m_faultPlace : Int32) (m_at : Int32) (m_end : Int32) (m_token : Int32) (m_number : Int32) (m_name : Int64) (c_points : Nat → Int32) (c_strands : Nat → Int32) (c_units : Nat → Int32) (c_told : Nat → Int32) (c_ruleFrom : Nat → Int32) (c_ruleTo : Nat → Int32) (c_code : Nat → Int32) (c_eWhat : Nat → Int32) (c_eSign : Nat → Int32) (m_bank : Int32) (m_rb : Int32) (m_codes : Int32) (m_within : Int32) (m_piled : Int32) (m_unitsInRule : Int32) (m_askStrand : Int32) (m_askTied : Int32) (m_thoughtClaim : Int32) (m_thoughtNeed : Int32) (m_thoughtAll : Int32) (c_roundOf : Nat → Int32) (m_acts : Int32) (m_undone : Int32) (m_laid : Int32) (m_firstMove : Int32) (m_seens : Int32) (m_time : Int32) (m_waysNow : Int32) (m_fitting : Int32) (f : Nat → va_E) (hT : TYm ad cy fr0 c_text m_taped m_size m_faultKind m_faultPlace m_at m_end m_token m_number m_name c_points c_strands c_units c_told c_ruleFrom c_ruleTo c_code c_eWhat c_eSign m_bank m_rb m_codes m_within m_piled m_unitsInRule m_askStrand m_askTied m_thoughtClaim m_thoughtNeed m_thoughtAll c_roundOf m_acts m_undone m_laid m_firstMove m_seens m_time m_waysNow m_fitting f) (p1 : Int32) (sz : Nat) : TtI l yX9_about wsX9_about 4 86 [.ref (ad 148), .int p1] B0 adK adV D cy ad f sz (fun (r : Int32) (g : Nat → va_E) => True ∧ (f = g)) := by
  refine TtI.of (cc := cX9_about) (maxL := 2) (ty := .int) (own := RX9) (by decide) rfl (Nat.le_of_ble_eq_true rfl) rfl ?_
  intro p e s m below meth c A ls hx hb hr hml hts hown hlk hK hE hP hD hS hA hAB hl
  have hl : lv_has ls 2 [(0, .ref (ad 148)), (1, .int p1)] := hl
  refine st0 (fun H locs hP hS => ?_) hP hS
  refine lv_iload_n hx hb dX9_about_0 rfl (lv_at hl 1 rfl) ?_
  rcases sw_0_14 p1 with c1 | c1 | c1 | c1 | c1 | c1 | c1 | c1 | c1 | c1 | c1 | c1 | c1 | c1 | c1 | c1
  · refine lv_tableOut (tgt := 171) hx hb dX9_about_1 c1 (by decide) ?_
    refine lv_iconst (v := (-1)) hx hb dX9_about_171 (by decide) ?_
    have ttl_m1 := tl_m1
    exact tI hx hb hr hlk rfl hP hS ⟨trivial, rfl⟩ dX9_about_172
  · have kc1 := (c_eq c1).trans tl_0
    refine lv_tableIn (off := 75) (tgt := 76) hx hb dX9_about_1 (by rw [kc1]; decide) (by rw [kc1]; decide) (by rw [kc1]; decide) (by decide) ?_
    refine lv_aload_n hx hb dX9_about_76 rfl (lv_at hl 0 rfl) ?_
    obtain ⟨e17, h2, h3, h4, h5, h6, h7, h8, h9, h10, h11, h12, h13, h14, h15, h16⟩ := (show okX9 ad m_taped m_size m_faultKind m_faultPlace m_at m_end m_token m_number m_name m_bank m_rb m_codes m_within m_piled m_unitsInRule m_askStrand m_askTied m_thoughtClaim m_thoughtNeed m_thoughtAll m_acts m_undone m_laid m_firstMove m_seens m_time m_waysNow m_fitting 148 (f 148) from hT.1 148 (by decide))
    refine tVI (As := []) (rest := []) (i := 148) ⟨hx, hb, hml, hown, hts⟩ hK hE hP hD hS hA hAB (s_X9_many_0 l B0 adK adV D cy ad fr0 c_text m_taped m_size m_faultKind m_faultPlace m_at m_end m_token m_number m_name c_points c_strands c_units c_told c_ruleFrom c_ruleTo c_code c_eWhat c_eSign m_bank m_rb m_codes m_within m_piled m_unitsInRule m_askStrand m_askTied m_thoughtClaim m_thoughtNeed m_thoughtAll c_roundOf m_acts m_undone m_laid m_firstMove m_seens m_time m_waysNow m_fitting f hT _) (cwV 0 hts gX9_about_X9_many rfl rfl rfl (by decide +kernel) ⟨Nat.le_of_ble_eq_true rfl, Nat.le_of_ble_eq_true rfl⟩) (by decide) 9 e17 rfl rfl hl.1 rfl (Nat.le_of_ble_eq_true rfl) dX9_about_77 ⟨Nat.le_of_ble_eq_true rfl, Nat.le_of_ble_eq_true rfl⟩ (fun r g H locs hw hP hD hS => ?_)
    obtain ⟨hrs, rfl⟩ := hw
    obtain ⟨x18, rfl⟩ : ∃ q, q = r := ⟨_, rfl⟩
    have h19 := hrs
    exact tI hx hb hr hlk rfl hP hS ⟨trivial, rfl⟩ dX9_about_80
  · have kc1 := (c_eq c1).trans tl_1
    refine lv_tableIn (off := 80) (tgt := 81) hx hb dX9_about_1 (by rw [kc1]; decide) (by rw [kc1]; decide) (by rw [kc1]; decide) (by decide) ?_
    refine lv_aload_n hx hb dX9_about_81 rfl (lv_at hl 0 rfl) ?_
    obtain ⟨e35, h20, h21, h22, h23, h24, h25, h26, h27, h28, h29, h30, h31, h32, h33, h34⟩ := (show okX9 ad m_taped m_size m_faultKind m_faultPlace m_at m_end m_token m_number m_name m_bank m_rb m_codes m_within m_piled m_unitsInRule m_askStrand m_askTied m_thoughtClaim m_thoughtNeed m_thoughtAll m_acts m_undone m_laid m_firstMove m_seens m_time m_waysNow m_fitting 148 (f 148) from hT.1 148 (by decide))
    refine tVI (As := []) (rest := []) (i := 148) ⟨hx, hb, hml, hown, hts⟩ hK hE hP hD hS hA hAB (s_X9_threads_0 l B0 adK adV D cy ad fr0 c_text m_taped m_size m_faultKind m_faultPlace m_at m_end m_token m_number m_name c_points c_strands c_units c_told c_ruleFrom c_ruleTo c_code c_eWhat c_eSign m_bank m_rb m_codes m_within m_piled m_unitsInRule m_askStrand m_askTied m_thoughtClaim m_thoughtNeed m_thoughtAll c_roundOf m_acts m_undone m_laid m_firstMove m_seens m_time m_waysNow m_fitting f hT _) (cwV 0 hts gX9_about_X9_threads rfl rfl rfl (by decide +kernel) ⟨Nat.le_of_ble_eq_true rfl, Nat.le_of_ble_eq_true rfl⟩) (by decide) 9 e35 rfl rfl hl.1 rfl (Nat.le_of_ble_eq_true rfl) dX9_about_82 ⟨Nat.le_of_ble_eq_true rfl, Nat.le_of_ble_eq_true rfl⟩ (fun r g H locs hw hP hD hS => ?_)
    obtain ⟨hrs, rfl⟩ := hw
    obtain ⟨x36, rfl⟩ : ∃ q, q = r := ⟨_, rfl⟩
    have h37 := hrs
    exact tI hx hb hr hlk rfl hP hS ⟨trivial, rfl⟩ dX9_about_85
  · have kc1 := (c_eq c1).trans tl_2
    refine lv_tableIn (off := 85) (tgt := 86) hx hb dX9_about_1 (by rw [kc1]; decide) (by rw [kc1]; decide) (by rw [kc1]; decide) (by decide) ?_
    refine lv_aload_n hx hb dX9_about_86 rfl (lv_at hl 0 rfl) ?_
    obtain ⟨e53, h38, h39, h40, h41, h42, h43, h44, h45, h46, h47, h48, h49, h50, h51, h52⟩ := (show okX9 ad m_taped m_size m_faultKind m_faultPlace m_at m_end m_token m_number m_name m_bank m_rb m_codes m_within m_piled m_unitsInRule m_askStrand m_askTied m_thoughtClaim m_thoughtNeed m_thoughtAll m_acts m_undone m_laid m_firstMove m_seens m_time m_waysNow m_fitting 148 (f 148) from hT.1 148 (by decide))
    refine tVI (As := []) (rest := []) (i := 148) ⟨hx, hb, hml, hown, hts⟩ hK hE hP hD hS hA hAB (s_X9_facts_0 l B0 adK adV D cy ad fr0 c_text m_taped m_size m_faultKind m_faultPlace m_at m_end m_token m_number m_name c_points c_strands c_units c_told c_ruleFrom c_ruleTo c_code c_eWhat c_eSign m_bank m_rb m_codes m_within m_piled m_unitsInRule m_askStrand m_askTied m_thoughtClaim m_thoughtNeed m_thoughtAll c_roundOf m_acts m_undone m_laid m_firstMove m_seens m_time m_waysNow m_fitting f hT _) (cwV 0 hts gX9_about_X9_facts rfl rfl rfl (by decide +kernel) ⟨Nat.le_of_ble_eq_true rfl, Nat.le_of_ble_eq_true rfl⟩) (by decide) 9 e53 rfl rfl hl.1 rfl (Nat.le_of_ble_eq_true rfl) dX9_about_87 ⟨Nat.le_of_ble_eq_true rfl, Nat.le_of_ble_eq_true rfl⟩ (fun r g H locs hw hP hD hS => ?_)
    obtain ⟨hrs, rfl⟩ := hw
    obtain ⟨x54, rfl⟩ : ∃ q, q = r := ⟨_, rfl⟩
    have h55 := hrs
    exact tI hx hb hr hlk rfl hP hS ⟨trivial, rfl⟩ dX9_about_90
  · have kc1 := (c_eq c1).trans tl_3
    refine lv_tableIn (off := 90) (tgt := 91) hx hb dX9_about_1 (by rw [kc1]; decide) (by rw [kc1]; decide) (by rw [kc1]; decide) (by decide) ?_
    refine lv_aload_n hx hb dX9_about_91 rfl (lv_at hl 0 rfl) ?_
    obtain ⟨e71, h56, h57, h58, h59, h60, h61, h62, h63, h64, h65, h66, h67, h68, h69, h70⟩ := (show okX9 ad m_taped m_size m_faultKind m_faultPlace m_at m_end m_token m_number m_name m_bank m_rb m_codes m_within m_piled m_unitsInRule m_askStrand m_askTied m_thoughtClaim m_thoughtNeed m_thoughtAll m_acts m_undone m_laid m_firstMove m_seens m_time m_waysNow m_fitting 148 (f 148) from hT.1 148 (by decide))
    refine va_get (D := D) (cl := vwCl) (ci := 9) (v := .ref (ad 169)) (C := RX9) (T := TX9) (N := 64) hx hb hts in_X9_about_X9 hown hK hP 148 (wl_at (by decide) e71) rfl 37 (by decide) (hts (.fieldLink RX9 76 "EightReasonsModel" "all" "[I") (List.mem_of_getElem? (i := 1) rfl)) (fun _ h9 => h9) rfl dX9_about_92 ?_
    refine lv_iconst (v := 0) hx hb dX9_about_95 (by decide) ?_
    obtain ⟨g74, e72, h73⟩ := (show okIr cy 16 (0) (4095) 16 1 (f 169) from hT.1 169 (by decide))
    have ttl_0 := tl_0
    refine va_iald hx hb hK hP 169 0 (wl_at (by decide) e72) rfl (vin (by decide)) dX9_about_96 ?_
    refine lv_topi (fun x75 ex75 => ?_)
    exact tI hx hb hr hlk rfl hP hS ⟨trivial, rfl⟩ dX9_about_97
  · have kc1 := (c_eq c1).trans tl_4
    refine lv_tableIn (off := 97) (tgt := 98) hx hb dX9_about_1 (by rw [kc1]; decide) (by rw [kc1]; decide) (by rw [kc1]; decide) (by decide) ?_
    refine lv_aload_n hx hb dX9_about_98 rfl (lv_at hl 0 rfl) ?_
    obtain ⟨e91, h76, h77, h78, h79, h80, h81, h82, h83, h84, h85, h86, h87, h88, h89, h90⟩ := (show okX9 ad m_taped m_size m_faultKind m_faultPlace m_at m_end m_token m_number m_name m_bank m_rb m_codes m_within m_piled m_unitsInRule m_askStrand m_askTied m_thoughtClaim m_thoughtNeed m_thoughtAll m_acts m_undone m_laid m_firstMove m_seens m_time m_waysNow m_fitting 148 (f 148) from hT.1 148 (by decide))
    refine va_get (D := D) (cl := vwCl) (ci := 9) (v := .ref (ad 169)) (C := RX9) (T := TX9) (N := 64) hx hb hts in_X9_about_X9 hown hK hP 148 (wl_at (by decide) e91) rfl 37 (by decide) (hts (.fieldLink RX9 76 "EightReasonsModel" "all" "[I") (List.mem_of_getElem? (i := 1) rfl)) (fun _ h9 => h9) rfl dX9_about_99 ?_
    refine lv_iconst (v := 1) hx hb dX9_about_102 (by decide) ?_
    obtain ⟨g94, e92, h93⟩ := (show okIr cy 16 (0) (4095) 16 1 (f 169) from hT.1 169 (by decide))
    have ttl_1 := tl_1
    refine va_iald hx hb hK hP 169 0 (wl_at (by decide) e92) rfl (vin (by decide)) dX9_about_103 ?_
    refine lv_topi (fun x95 ex95 => ?_)
    have hx95 := r_el (h93 _ (by decide)) ex95
    exact tI hx hb hr hlk rfl hP hS ⟨trivial, rfl⟩ dX9_about_104
  · have kc1 := (c_eq c1).trans tl_5
    refine lv_tableIn (off := 104) (tgt := 105) hx hb dX9_about_1 (by rw [kc1]; decide) (by rw [kc1]; decide) (by rw [kc1]; decide) (by decide) ?_
    refine lv_aload_n hx hb dX9_about_105 rfl (lv_at hl 0 rfl) ?_
    obtain ⟨e111, h96, h97, h98, h99, h100, h101, h102, h103, h104, h105, h106, h107, h108, h109, h110⟩ := (show okX9 ad m_taped m_size m_faultKind m_faultPlace m_at m_end m_token m_number m_name m_bank m_rb m_codes m_within m_piled m_unitsInRule m_askStrand m_askTied m_thoughtClaim m_thoughtNeed m_thoughtAll m_acts m_undone m_laid m_firstMove m_seens m_time m_waysNow m_fitting 148 (f 148) from hT.1 148 (by decide))
    refine va_get (D := D) (cl := vwCl) (ci := 9) (v := .ref (ad 169)) (C := RX9) (T := TX9) (N := 64) hx hb hts in_X9_about_X9 hown hK hP 148 (wl_at (by decide) e111) rfl 37 (by decide) (hts (.fieldLink RX9 76 "EightReasonsModel" "all" "[I") (List.mem_of_getElem? (i := 1) rfl)) (fun _ h9 => h9) rfl dX9_about_106 ?_
    refine lv_bipush (v := 14) hx hb dX9_about_109 (by decide) ?_
    obtain ⟨g114, e112, h113⟩ := (show okIr cy 16 (0) (4095) 16 1 (f 169) from hT.1 169 (by decide))
    have ttl_14 := tl_14
    refine va_iald hx hb hK hP 169 0 (wl_at (by decide) e112) rfl (vin (by decide)) dX9_about_111 ?_
    refine lv_topi (fun x115 ex115 => ?_)
    exact tI hx hb hr hlk rfl hP hS ⟨trivial, rfl⟩ dX9_about_112
  · have kc1 := (c_eq c1).trans tl_6
    refine lv_tableIn (off := 112) (tgt := 113) hx hb dX9_about_1 (by rw [kc1]; decide) (by rw [kc1]; decide) (by rw [kc1]; decide) (by decide) ?_
    refine lv_aload_n hx hb dX9_about_113 rfl (lv_at hl 0 rfl) ?_
    obtain ⟨e131, h116, h117, h118, h119, h120, h121, h122, h123, h124, h125, h126, h127, h128, h129, h130⟩ := (show okX9 ad m_taped m_size m_faultKind m_faultPlace m_at m_end m_token m_number m_name m_bank m_rb m_codes m_within m_piled m_unitsInRule m_askStrand m_askTied m_thoughtClaim m_thoughtNeed m_thoughtAll m_acts m_undone m_laid m_firstMove m_seens m_time m_waysNow m_fitting 148 (f 148) from hT.1 148 (by decide))
    refine va_get (D := D) (cl := vwCl) (ci := 9) (v := .ref (ad 169)) (C := RX9) (T := TX9) (N := 64) hx hb hts in_X9_about_X9 hown hK hP 148 (wl_at (by decide) e131) rfl 37 (by decide) (hts (.fieldLink RX9 76 "EightReasonsModel" "all" "[I") (List.mem_of_getElem? (i := 1) rfl)) (fun _ h9 => h9) rfl dX9_about_114 ?_
    refine lv_bipush (v := 15) hx hb dX9_about_117 (by decide) ?_
    obtain ⟨g134, e132, h133⟩ := (show okIr cy 16 (0) (4095) 16 1 (f 169) from hT.1 169 (by decide))
    have ttl_15 := tl_15
    refine va_iald hx hb hK hP 169 0 (wl_at (by decide) e132) rfl (vin (by decide)) dX9_about_119 ?_
    refine lv_topi (fun x135 ex135 => ?_)
    exact tI hx hb hr hlk rfl hP hS ⟨trivial, rfl⟩ dX9_about_120
  · have kc1 := (c_eq c1).trans tl_7
    refine lv_tableIn (off := 120) (tgt := 121) hx hb dX9_about_1 (by rw [kc1]; decide) (by rw [kc1]; decide) (by rw [kc1]; decide) (by decide) ?_
    refine lv_aload_n hx hb dX9_about_121 rfl (lv_at hl 0 rfl) ?_
    obtain ⟨e151, h136, h137, h138, h139, h140, h141, h142, h143, h144, h145, h146, h147, h148, h149, h150⟩ := (show okX9 ad m_taped m_size m_faultKind m_faultPlace m_at m_end m_token m_number m_name m_bank m_rb m_codes m_within m_piled m_unitsInRule m_askStrand m_askTied m_thoughtClaim m_thoughtNeed m_thoughtAll m_acts m_undone m_laid m_firstMove m_seens m_time m_waysNow m_fitting 148 (f 148) from hT.1 148 (by decide))
    refine va_get (D := D) (cl := vwCl) (ci := 9) (v := .int m_acts) (C := RX9) (T := TX9) (N := 64) hx hb hts in_X9_about_X9 hown hK hP 148 (wl_at (by decide) e151) rfl 45 (by decide) (hts (.fieldLink RX9 368 "EightReasonsModel" "acts" "I") (List.mem_of_getElem? (i := 2) rfl)) (fun _ h9 => h9) rfl dX9_about_122 ?_
    exact tI hx hb hr hlk rfl hP hS ⟨trivial, rfl⟩ dX9_about_125
  · have kc1 := (c_eq c1).trans tl_8
    refine lv_tableIn (off := 125) (tgt := 126) hx hb dX9_about_1 (by rw [kc1]; decide) (by rw [kc1]; decide) (by rw [kc1]; decide) (by decide) ?_
    refine lv_aload_n hx hb dX9_about_126 rfl (lv_at hl 0 rfl) ?_
    obtain ⟨e167, h152, h153, h154, h155, h156, h157, h158, h159, h160, h161, h162, h163, h164, h165, h166⟩ := (show okX9 ad m_taped m_size m_faultKind m_faultPlace m_at m_end m_token m_number m_name m_bank m_rb m_codes m_within m_piled m_unitsInRule m_askStrand m_askTied m_thoughtClaim m_thoughtNeed m_thoughtAll m_acts m_undone m_laid m_firstMove m_seens m_time m_waysNow m_fitting 148 (f 148) from hT.1 148 (by decide))
    refine va_get (D := D) (cl := vwCl) (ci := 9) (v := .int m_undone) (C := RX9) (T := TX9) (N := 64) hx hb hts in_X9_about_X9 hown hK hP 148 (wl_at (by decide) e167) rfl 46 (by decide) (hts (.fieldLink RX9 371 "EightReasonsModel" "undone" "I") (List.mem_of_getElem? (i := 3) rfl)) (fun _ h9 => h9) rfl dX9_about_127 ?_
    exact tI hx hb hr hlk rfl hP hS ⟨trivial, rfl⟩ dX9_about_130
  · have kc1 := (c_eq c1).trans tl_9
    refine lv_tableIn (off := 130) (tgt := 131) hx hb dX9_about_1 (by rw [kc1]; decide) (by rw [kc1]; decide) (by rw [kc1]; decide) (by decide) ?_
    refine lv_aload_n hx hb dX9_about_131 rfl (lv_at hl 0 rfl) ?_
    obtain ⟨e183, h168, h169, h170, h171, h172, h173, h174, h175, h176, h177, h178, h179, h180, h181, h182⟩ := (show okX9 ad m_taped m_size m_faultKind m_faultPlace m_at m_end m_token m_number m_name m_bank m_rb m_codes m_within m_piled m_unitsInRule m_askStrand m_askTied m_thoughtClaim m_thoughtNeed m_thoughtAll m_acts m_undone m_laid m_firstMove m_seens m_time m_waysNow m_fitting 148 (f 148) from hT.1 148 (by decide))
    refine va_get (D := D) (cl := vwCl) (ci := 9) (v := .int m_seens) (C := RX9) (T := TX9) (N := 64) hx hb hts in_X9_about_X9 hown hK hP 148 (wl_at (by decide) e183) rfl 58 (by decide) (hts (.fieldLink RX9 374 "EightReasonsModel" "seens" "I") (List.mem_of_getElem? (i := 4) rfl)) (fun _ h9 => h9) rfl dX9_about_132 ?_
    exact tI hx hb hr hlk rfl hP hS ⟨trivial, rfl⟩ dX9_about_135
  · have kc1 := (c_eq c1).trans tl_10
    refine lv_tableIn (off := 135) (tgt := 136) hx hb dX9_about_1 (by rw [kc1]; decide) (by rw [kc1]; decide) (by rw [kc1]; decide) (by decide) ?_
    refine lv_aload_n hx hb dX9_about_136 rfl (lv_at hl 0 rfl) ?_
    obtain ⟨e199, h184, h185, h186, h187, h188, h189, h190, h191, h192, h193, h194, h195, h196, h197, h198⟩ := (show okX9 ad m_taped m_size m_faultKind m_faultPlace m_at m_end m_token m_number m_name m_bank m_rb m_codes m_within m_piled m_unitsInRule m_askStrand m_askTied m_thoughtClaim m_thoughtNeed m_thoughtAll m_acts m_undone m_laid m_firstMove m_seens m_time m_waysNow m_fitting 148 (f 148) from hT.1 148 (by decide))
    refine va_get (D := D) (cl := vwCl) (ci := 9) (v := .int m_time) (C := RX9) (T := TX9) (N := 64) hx hb hts in_X9_about_X9 hown hK hP 148 (wl_at (by decide) e199) rfl 59 (by decide) (hts (.fieldLink RX9 488 "EightReasonsModel" "time" "I") (List.mem_of_getElem? (i := 5) rfl)) (fun _ h9 => h9) rfl dX9_about_137 ?_
    exact tI hx hb hr hlk rfl hP hS ⟨trivial, rfl⟩ dX9_about_140
  · have kc1 := (c_eq c1).trans tl_11
    refine lv_tableIn (off := 140) (tgt := 141) hx hb dX9_about_1 (by rw [kc1]; decide) (by rw [kc1]; decide) (by rw [kc1]; decide) (by decide) ?_
    refine lv_aload_n hx hb dX9_about_141 rfl (lv_at hl 0 rfl) ?_
    obtain ⟨e215, h200, h201, h202, h203, h204, h205, h206, h207, h208, h209, h210, h211, h212, h213, h214⟩ := (show okX9 ad m_taped m_size m_faultKind m_faultPlace m_at m_end m_token m_number m_name m_bank m_rb m_codes m_within m_piled m_unitsInRule m_askStrand m_askTied m_thoughtClaim m_thoughtNeed m_thoughtAll m_acts m_undone m_laid m_firstMove m_seens m_time m_waysNow m_fitting 148 (f 148) from hT.1 148 (by decide))
    refine va_get (D := D) (cl := vwCl) (ci := 9) (v := .int m_taped) (C := RX9) (T := TX9) (N := 64) hx hb hts in_X9_about_X9 hown hK hP 148 (wl_at (by decide) e215) rfl 2 (by decide) (hts (.fieldLink RX9 236 "EightReasonsModel" "taped" "I") (List.mem_of_getElem? (i := 6) rfl)) (fun _ h9 => h9) rfl dX9_about_142 ?_
    exact tI hx hb hr hlk rfl hP hS ⟨trivial, rfl⟩ dX9_about_145
  · have kc1 := (c_eq c1).trans tl_12
    refine lv_tableIn (off := 145) (tgt := 146) hx hb dX9_about_1 (by rw [kc1]; decide) (by rw [kc1]; decide) (by rw [kc1]; decide) (by decide) ?_
    refine lv_aload_n hx hb dX9_about_146 rfl (lv_at hl 0 rfl) ?_
    obtain ⟨e231, h216, h217, h218, h219, h220, h221, h222, h223, h224, h225, h226, h227, h228, h229, h230⟩ := (show okX9 ad m_taped m_size m_faultKind m_faultPlace m_at m_end m_token m_number m_name m_bank m_rb m_codes m_within m_piled m_unitsInRule m_askStrand m_askTied m_thoughtClaim m_thoughtNeed m_thoughtAll m_acts m_undone m_laid m_firstMove m_seens m_time m_waysNow m_fitting 148 (f 148) from hT.1 148 (by decide))
    refine va_get (D := D) (cl := vwCl) (ci := 9) (v := .ref (ad 153)) (C := RX9) (T := TX9) (N := 64) hx hb hts in_X9_about_X9 hown hK hP 148 (wl_at (by decide) e231) rfl 13 (by decide) (hts (.fieldLink RX9 27 "EightReasonsModel" "units" "[I") (List.mem_of_getElem? (i := 7) rfl)) (fun _ h9 => h9) rfl dX9_about_147 ?_
    refine lv_aload_n hx hb dX9_about_150 rfl (lv_at hl 0 rfl) ?_
    refine va_get (D := D) (cl := vwCl) (ci := 9) (v := .int m_bank) (C := RX9) (T := TX9) (N := 64) hx hb hts in_X9_about_X9 hown hK hP 148 (wl_at (by decide) e231) rfl 29 (by decide) (hts (.fieldLink RX9 239 "EightReasonsModel" "bank" "I") (List.mem_of_getElem? (i := 8) rfl)) (fun _ h9 => h9) rfl dX9_about_151 ?_
    have e232 : f 153 = _ := (show okIp cy 2 c_units (f 153) from hT.1 153 (by decide))
    refine va_iald hx hb hK hP 153 0 (wl_at (by decide) e232) rfl (vp_in_iff.mpr ⟨by omega, by omega⟩) dX9_about_154 ?_
    refine lv_topi (fun x233 ex233 => ?_)
    have kx233 := congrArg Int32.toInt ex233
    exact tI hx hb hr hlk rfl hP hS ⟨trivial, rfl⟩ dX9_about_155
  · have kc1 := (c_eq c1).trans tl_13
    refine lv_tableIn (off := 155) (tgt := 156) hx hb dX9_about_1 (by rw [kc1]; decide) (by rw [kc1]; decide) (by rw [kc1]; decide) (by decide) ?_
    refine lv_aload_n hx hb dX9_about_156 rfl (lv_at hl 0 rfl) ?_
    obtain ⟨e249, h234, h235, h236, h237, h238, h239, h240, h241, h242, h243, h244, h245, h246, h247, h248⟩ := (show okX9 ad m_taped m_size m_faultKind m_faultPlace m_at m_end m_token m_number m_name m_bank m_rb m_codes m_within m_piled m_unitsInRule m_askStrand m_askTied m_thoughtClaim m_thoughtNeed m_thoughtAll m_acts m_undone m_laid m_firstMove m_seens m_time m_waysNow m_fitting 148 (f 148) from hT.1 148 (by decide))
    refine va_get (D := D) (cl := vwCl) (ci := 9) (v := .ref (ad 154)) (C := RX9) (T := TX9) (N := 64) hx hb hts in_X9_about_X9 hown hK hP 148 (wl_at (by decide) e249) rfl 14 (by decide) (hts (.fieldLink RX9 30 "EightReasonsModel" "fray" "[I") (List.mem_of_getElem? (i := 9) rfl)) (fun _ h9 => h9) rfl dX9_about_157 ?_
    refine lv_aload_n hx hb dX9_about_160 rfl (lv_at hl 0 rfl) ?_
    refine va_get (D := D) (cl := vwCl) (ci := 9) (v := .int m_bank) (C := RX9) (T := TX9) (N := 64) hx hb hts in_X9_about_X9 hown hK hP 148 (wl_at (by decide) e249) rfl 29 (by decide) (hts (.fieldLink RX9 239 "EightReasonsModel" "bank" "I") (List.mem_of_getElem? (i := 8) rfl)) (fun _ h9 => h9) rfl dX9_about_161 ?_
    obtain ⟨g251, e250⟩ := (show okI cy 2 (f 154) from hT.1 154 (by decide))
    refine va_iald hx hb hK hP 154 0 (wl_at (by decide) e250) rfl (vp_in_iff.mpr ⟨by omega, by omega⟩) dX9_about_164 ?_
    refine lv_topi (fun x252 ex252 => ?_)
    exact tI hx hb hr hlk rfl hP hS ⟨trivial, rfl⟩ dX9_about_165
  · have kc1 := (c_eq c1).trans tl_14
    refine lv_tableIn (off := 165) (tgt := 166) hx hb dX9_about_1 (by rw [kc1]; decide) (by rw [kc1]; decide) (by rw [kc1]; decide) (by decide) ?_
    refine lv_aload_n hx hb dX9_about_166 rfl (lv_at hl 0 rfl) ?_
    obtain ⟨e268, h253, h254, h255, h256, h257, h258, h259, h260, h261, h262, h263, h264, h265, h266, h267⟩ := (show okX9 ad m_taped m_size m_faultKind m_faultPlace m_at m_end m_token m_number m_name m_bank m_rb m_codes m_within m_piled m_unitsInRule m_askStrand m_askTied m_thoughtClaim m_thoughtNeed m_thoughtAll m_acts m_undone m_laid m_firstMove m_seens m_time m_waysNow m_fitting 148 (f 148) from hT.1 148 (by decide))
    refine va_get (D := D) (cl := vwCl) (ci := 9) (v := .int m_laid) (C := RX9) (T := TX9) (N := 64) hx hb hts in_X9_about_X9 hown hK hP 148 (wl_at (by decide) e268) rfl 48 (by decide) (hts (.fieldLink RX9 377 "EightReasonsModel" "laid" "I") (List.mem_of_getElem? (i := 10) rfl)) (fun _ h9 => h9) rfl dX9_about_167 ?_
    exact tI hx hb hr hlk rfl hP hS ⟨trivial, rfl⟩ dX9_about_170
