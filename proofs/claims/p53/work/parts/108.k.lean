set_option maxRecDepth 20000 in
theorem ggX2_beyond_X5_isClaim : GoodIn wsX2_beyond wsX5_isClaim := goodIn_r _ [8, 9, 10, 11, 12, 7, 13, 14, 15, 16, 17, 28, 29, 30, 31, 32, 33, 34, 35, 36, 37, 38, 39] rfl rfl
set_option maxRecDepth 20000 in
theorem gX2_beyond_X5_isClaim : GoodIn wsX2_beyond (wsV RX2 64 RX5 yX5_isClaim wsX5_isClaim) := goodIn_app (goodIn_of _ (by decide +kernel)) ggX2_beyond_X5_isClaim
theorem dX2_beyond_0 : decode cX2_beyond 0 = .ok (.aload_n 0, 1) := by decide +kernel
theorem dX2_beyond_1 : decode cX2_beyond 1 = .ok (.getfield 24, 3) := by decide +kernel
theorem dX2_beyond_4 : decode cX2_beyond 4 = .ok (.iload_n 1, 1) := by decide +kernel
theorem dX2_beyond_5 : decode cX2_beyond 5 = .ok (.invokevirtual 64, 3) := by decide +kernel
theorem dX2_beyond_8 : decode cX2_beyond 8 = .ok (.ifCond .eq 19, 3) := by decide +kernel
theorem dX2_beyond_11 : decode cX2_beyond 11 = .ok (.aload_n 0, 1) := by decide +kernel
theorem dX2_beyond_12 : decode cX2_beyond 12 = .ok (.getfield 15, 3) := by decide +kernel
theorem dX2_beyond_15 : decode cX2_beyond 15 = .ok (.iload_n 1, 1) := by decide +kernel
theorem dX2_beyond_16 : decode cX2_beyond 16 = .ok (.iaload, 1) := by decide +kernel
theorem dX2_beyond_17 : decode cX2_beyond 17 = .ok (.aload_n 0, 1) := by decide +kernel
theorem dX2_beyond_18 : decode cX2_beyond 18 = .ok (.getfield 31, 3) := by decide +kernel
theorem dX2_beyond_21 : decode cX2_beyond 21 = .ok (.iload_n 1, 1) := by decide +kernel
theorem dX2_beyond_22 : decode cX2_beyond 22 = .ok (.iaload, 1) := by decide +kernel
theorem dX2_beyond_23 : decode cX2_beyond 23 = .ok (.isub, 1) := by decide +kernel
theorem dX2_beyond_24 : decode cX2_beyond 24 = .ok (.goto 4, 3) := by decide +kernel
theorem dX2_beyond_27 : decode cX2_beyond 27 = .ok (.iconst 0, 1) := by decide +kernel
theorem dX2_beyond_28 : decode cX2_beyond 28 = .ok (.ireturn, 1) := by decide +kernel
set_option maxRecDepth 20000 in
theorem ggX2_bearsItself_X2_clearSums : GoodIn wsX2_bearsItself wsX2_clearSums := goodIn_r _ [5, 6, 25, 26, 27, 28, 29, 30, 31, 32, 33, 34] rfl rfl
set_option maxRecDepth 20000 in
theorem gX2_bearsItself_X2_clearSums : GoodIn wsX2_bearsItself (wsV RX2 122 RX2 yX2_clearSums wsX2_clearSums) := goodIn_app (goodIn_of _ (by decide +kernel)) ggX2_bearsItself_X2_clearSums
set_option maxRecDepth 20000 in
theorem ggX2_bearsItself_X2_addFrom : GoodIn wsX2_bearsItself wsX2_addFrom := goodIn_r _ [10, 11, 12, 13, 6, 14, 15, 16, 17, 18, 25, 26, 27, 28, 29, 30, 31, 32, 33, 34, 35, 36, 37, 38, 39, 40, 41, 42, 43, 44, 45, 46] rfl rfl
set_option maxRecDepth 20000 in
theorem gX2_bearsItself_X2_addFrom : GoodIn wsX2_bearsItself (wsV RX2 129 RX2 yX2_addFrom wsX2_addFrom) := goodIn_app (goodIn_of _ (by decide +kernel)) ggX2_bearsItself_X2_addFrom
set_option maxRecDepth 20000 in
theorem ggX2_bearsItself_X2_enough : GoodIn wsX2_bearsItself wsX2_enough := goodIn_r _ [22, 11, 23, 6, 24, 16, 17, 18, 25, 26, 27, 28, 29, 30, 31, 32, 33, 34, 35, 36, 37, 38, 39, 40, 41, 42, 43, 44, 45, 46] rfl rfl
set_option maxRecDepth 20000 in
theorem gX2_bearsItself_X2_enough : GoodIn wsX2_bearsItself (wsV RX2 136 RX2 yX2_enough wsX2_enough) := goodIn_app (goodIn_of _ (by decide +kernel)) ggX2_bearsItself_X2_enough
theorem dX2_bearsItself_0 : decode cX2_bearsItself 0 = .ok (.aload_n 0, 1) := by decide +kernel
theorem dX2_bearsItself_1 : decode cX2_bearsItself 1 = .ok (.invokevirtual 122, 3) := by decide +kernel
theorem dX2_bearsItself_4 : decode cX2_bearsItself 4 = .ok (.aload_n 0, 1) := by decide +kernel
theorem dX2_bearsItself_5 : decode cX2_bearsItself 5 = .ok (.iload_n 1, 1) := by decide +kernel
theorem dX2_bearsItself_6 : decode cX2_bearsItself 6 = .ok (.invokevirtual 129, 3) := by decide +kernel
theorem dX2_bearsItself_9 : decode cX2_bearsItself 9 = .ok (.aload_n 0, 1) := by decide +kernel
theorem dX2_bearsItself_10 : decode cX2_bearsItself 10 = .ok (.iload_n 1, 1) := by decide +kernel
theorem dX2_bearsItself_11 : decode cX2_bearsItself 11 = .ok (.invokevirtual 136, 3) := by decide +kernel
theorem dX2_bearsItself_14 : decode cX2_bearsItself 14 = .ok (.iload_n 1, 1) := by decide +kernel
theorem dX2_bearsItself_15 : decode cX2_bearsItself 15 = .ok (.if_icmp .ne 7, 3) := by decide +kernel
theorem dX2_bearsItself_18 : decode cX2_bearsItself 18 = .ok (.iconst 1, 1) := by decide +kernel
theorem dX2_bearsItself_19 : decode cX2_bearsItself 19 = .ok (.goto 4, 3) := by decide +kernel
theorem dX2_bearsItself_22 : decode cX2_bearsItself 22 = .ok (.iconst 0, 1) := by decide +kernel
theorem dX2_bearsItself_23 : decode cX2_bearsItself 23 = .ok (.ireturn, 1) := by decide +kernel
set_option maxRecDepth 20000 in
theorem ggX8_will_X8_isZeroOrOne : GoodIn wsX8_will wsX8_isZeroOrOne := goodIn_r _ [9] rfl rfl
set_option maxRecDepth 20000 in
theorem gX8_will_X8_isZeroOrOne : GoodIn wsX8_will (va_wsS RX8 234 yX8_isZeroOrOne wsX8_isZeroOrOne) := goodIn_app (goodIn_of _ (by decide +kernel)) ggX8_will_X8_isZeroOrOne
set_option maxRecDepth 20000 in
theorem ggX8_will_X8_now : GoodIn wsX8_will wsX8_now := goodIn_r _ [13, 14, 15, 16, 17, 18, 19, 20, 21, 146, 147, 148, 149, 150, 151, 152, 153, 154, 155, 156, 157, 158, 164, 165, 166, 167] rfl rfl
set_option maxRecDepth 20000 in
theorem gX8_will_X8_now : GoodIn wsX8_will (wsV RX8 88 RX8 yX8_now wsX8_now) := goodIn_app (goodIn_of _ (by decide +kernel)) ggX8_will_X8_now
set_option maxRecDepth 20000 in
theorem ggX8_will_X4_copy : GoodIn wsX8_will wsX4_copy := goodIn_r _ [26, 27, 28, 29, 30, 31, 32, 33, 34, 35, 159, 160, 161, 162, 163] rfl rfl
set_option maxRecDepth 20000 in
theorem gX8_will_X4_copy : GoodIn wsX8_will (wsV RX8 216 RX4 yX4_copy wsX4_copy) := goodIn_app (goodIn_of _ (by decide +kernel)) ggX8_will_X4_copy
set_option maxRecDepth 20000 in
theorem ggX8_will_X4_pass : GoodIn wsX8_will wsX4_pass := goodIn_r _ [39, 34, 40, 32, 27, 35, 41, 42, 8, 43, 159, 160, 161, 162, 163, 168, 169, 170, 171, 172, 173, 174, 175, 176, 177, 178, 179] rfl rfl
set_option maxRecDepth 20000 in
theorem gX8_will_X4_pass : GoodIn wsX8_will (wsV RX8 206 RX4 yX4_pass wsX4_pass) := goodIn_app (goodIn_of _ (by decide +kernel)) ggX8_will_X4_pass
set_option maxRecDepth 20000 in
theorem ggX8_will_X2_take : GoodIn wsX8_will wsX2_take := goodIn_r _ [48, 49, 50, 51, 52, 53, 54, 55, 56, 57, 29, 30, 31, 58, 59, 60, 180, 181, 182, 183, 184, 185, 186, 187, 188, 189, 168, 169, 170, 171, 172, 173, 174, 175, 176, 177, 178, 179, 159, 160, 161, 162, 163] rfl rfl
set_option maxRecDepth 20000 in
theorem gX8_will_X2_take : GoodIn wsX8_will (wsV RX8 237 RX2 yX2_take wsX2_take) := goodIn_app (goodIn_of _ (by decide +kernel)) ggX8_will_X2_take
set_option maxRecDepth 20000 in
theorem ggX8_will_X2_standing : GoodIn wsX8_will wsX2_standing := goodIn_r _ [64, 52, 49, 65, 66, 67, 47, 68, 69, 56, 70, 42, 8, 43, 71, 72, 73, 74, 75, 76, 77, 78, 79, 80, 81, 60, 59, 54, 82, 83, 84, 85, 86, 87, 88, 89, 90, 91, 92, 93, 94, 95, 96, 97, 98, 99, 100, 101, 102, 103, 104, 105, 106, 107, 108, 109, 110, 111, 112, 113, 114, 115, 116, 117, 118, 119, 120, 121, 122, 123, 124, 125, 126, 127, 128, 129, 130, 131, 132, 133, 134, 135, 136, 137, 138, 139, 140, 141, 142, 143, 144, 145, 180, 181, 182, 183, 184, 185, 186, 187, 188, 189, 168, 169, 170, 171, 172, 173, 174, 175, 176, 177, 178, 179, 190, 191, 192, 193, 194, 195] rfl rfl
set_option maxRecDepth 20000 in
theorem gX8_will_X2_standing : GoodIn wsX8_will (wsV RX8 231 RX2 yX2_standing wsX2_standing) := goodIn_app (goodIn_of _ (by decide +kernel)) ggX8_will_X2_standing
theorem dX8_will_0 : decode cX8_will 0 = .ok (.iload_n 1, 1) := by decide +kernel
theorem dX8_will_1 : decode cX8_will 1 = .ok (.ifCond .lt 16, 3) := by decide +kernel
theorem dX8_will_4 : decode cX8_will 4 = .ok (.iload_n 1, 1) := by decide +kernel
theorem dX8_will_5 : decode cX8_will 5 = .ok (.bipush 60, 2) := by decide +kernel
theorem dX8_will_7 : decode cX8_will 7 = .ok (.if_icmp .gt 10, 3) := by decide +kernel
theorem dX8_will_10 : decode cX8_will 10 = .ok (.iload_n 2, 1) := by decide +kernel
theorem dX8_will_11 : decode cX8_will 11 = .ok (.invokestatic 234, 3) := by decide +kernel
theorem dX8_will_14 : decode cX8_will 14 = .ok (.ifCond .ne 5, 3) := by decide +kernel
theorem dX8_will_17 : decode cX8_will 17 = .ok (.iconst (-1), 1) := by decide +kernel
theorem dX8_will_18 : decode cX8_will 18 = .ok (.ireturn, 1) := by decide +kernel
theorem dX8_will_19 : decode cX8_will 19 = .ok (.aload_n 0, 1) := by decide +kernel
theorem dX8_will_20 : decode cX8_will 20 = .ok (.getfield 33, 3) := by decide +kernel
theorem dX8_will_23 : decode cX8_will 23 = .ok (.aload_n 0, 1) := by decide +kernel
theorem dX8_will_24 : decode cX8_will 24 = .ok (.invokevirtual 88, 3) := by decide +kernel
theorem dX8_will_27 : decode cX8_will 27 = .ok (.invokevirtual 216, 3) := by decide +kernel
theorem dX8_will_30 : decode cX8_will 30 = .ok (.iconst 0, 1) := by decide +kernel
theorem dX8_will_31 : decode cX8_will 31 = .ok (.istore_n 3, 1) := by decide +kernel
theorem dX8_will_32 : decode cX8_will 32 = .ok (.iload_n 3, 1) := by decide +kernel
theorem dX8_will_33 : decode cX8_will 33 = .ok (.iload_n 1, 1) := by decide +kernel
theorem dX8_will_34 : decode cX8_will 34 = .ok (.if_icmp .ge 42, 3) := by decide +kernel
theorem dX8_will_37 : decode cX8_will 37 = .ok (.iload_n 2, 1) := by decide +kernel
theorem dX8_will_38 : decode cX8_will 38 = .ok (.iconst 1, 1) := by decide +kernel
theorem dX8_will_39 : decode cX8_will 39 = .ok (.if_icmp .ne 18, 3) := by decide +kernel
theorem dX8_will_42 : decode cX8_will 42 = .ok (.aload_n 0, 1) := by decide +kernel
theorem dX8_will_43 : decode cX8_will 43 = .ok (.getfield 33, 3) := by decide +kernel
theorem dX8_will_46 : decode cX8_will 46 = .ok (.aload_n 0, 1) := by decide +kernel
theorem dX8_will_47 : decode cX8_will 47 = .ok (.getfield 19, 3) := by decide +kernel
theorem dX8_will_50 : decode cX8_will 50 = .ok (.invokevirtual 206, 3) := by decide +kernel
theorem dX8_will_53 : decode cX8_will 53 = .ok (.pop, 1) := by decide +kernel
theorem dX8_will_54 : decode cX8_will 54 = .ok (.goto 16, 3) := by decide +kernel
theorem dX8_will_57 : decode cX8_will 57 = .ok (.aload_n 0, 1) := by decide +kernel
theorem dX8_will_58 : decode cX8_will 58 = .ok (.getfield 33, 3) := by decide +kernel
theorem dX8_will_61 : decode cX8_will 61 = .ok (.dup, 1) := by decide +kernel
theorem dX8_will_62 : decode cX8_will 62 = .ok (.getfield 160, 3) := by decide +kernel
theorem dX8_will_65 : decode cX8_will 65 = .ok (.iconst 1, 1) := by decide +kernel
theorem dX8_will_66 : decode cX8_will 66 = .ok (.iadd, 1) := by decide +kernel
theorem dX8_will_67 : decode cX8_will 67 = .ok (.putfield 160, 3) := by decide +kernel
theorem dX8_will_70 : decode cX8_will 70 = .ok (.iinc 3 1, 3) := by decide +kernel
theorem dX8_will_73 : decode cX8_will 73 = .ok (.goto (-41), 3) := by decide +kernel
theorem dX8_will_76 : decode cX8_will 76 = .ok (.aload_n 0, 1) := by decide +kernel
theorem dX8_will_77 : decode cX8_will 77 = .ok (.getfield 44, 3) := by decide +kernel
theorem dX8_will_80 : decode cX8_will 80 = .ok (.aload_n 0, 1) := by decide +kernel
theorem dX8_will_81 : decode cX8_will 81 = .ok (.getfield 19, 3) := by decide +kernel
theorem dX8_will_84 : decode cX8_will 84 = .ok (.aload_n 0, 1) := by decide +kernel
theorem dX8_will_85 : decode cX8_will 85 = .ok (.getfield 33, 3) := by decide +kernel
theorem dX8_will_88 : decode cX8_will 88 = .ok (.invokevirtual 237, 3) := by decide +kernel
theorem dX8_will_91 : decode cX8_will 91 = .ok (.aload_n 0, 1) := by decide +kernel
theorem dX8_will_92 : decode cX8_will 92 = .ok (.getfield 44, 3) := by decide +kernel
theorem dX8_will_95 : decode cX8_will 95 = .ok (.aload_n 0, 1) := by decide +kernel
theorem dX8_will_96 : decode cX8_will 96 = .ok (.getfield 33, 3) := by decide +kernel
theorem dX8_will_99 : decode cX8_will 99 = .ok (.getfield 145, 3) := by decide +kernel
theorem dX8_will_102 : decode cX8_will 102 = .ok (.invokevirtual 231, 3) := by decide +kernel
theorem dX8_will_105 : decode cX8_will 105 = .ok (.ireturn, 1) := by decide +kernel
set_option maxRecDepth 20000 in
theorem ggX8_topple_X5_isClaim : GoodIn wsX8_topple wsX5_isClaim := goodIn_r _ [7, 8, 9, 10, 11, 6, 12, 13, 14, 15, 16, 166, 167, 168, 169, 170, 171, 172, 173, 174, 175, 176, 177] rfl rfl
set_option maxRecDepth 20000 in
theorem gX8_topple_X5_isClaim : GoodIn wsX8_topple (wsV RX8 244 RX5 yX5_isClaim wsX5_isClaim) := goodIn_app (goodIn_of _ (by decide +kernel)) ggX8_topple_X5_isClaim
set_option maxRecDepth 20000 in
theorem ggX8_topple_X8_isZeroOrOne : GoodIn wsX8_topple wsX8_isZeroOrOne := goodIn_r _ [19] rfl rfl
set_option maxRecDepth 20000 in
theorem gX8_topple_X8_isZeroOrOne : GoodIn wsX8_topple (va_wsS RX8 234 yX8_isZeroOrOne wsX8_isZeroOrOne) := goodIn_app (goodIn_of _ (by decide +kernel)) ggX8_topple_X8_isZeroOrOne
set_option maxRecDepth 20000 in
theorem ggX8_topple_X8_look : GoodIn wsX8_topple wsX8_look := goodIn_r _ [23, 24, 1, 25, 26, 27, 15, 28, 29, 30, 31, 32, 33, 34, 35, 36, 37, 38, 39, 40, 41, 42, 43, 44, 45, 46, 47, 48, 49, 50, 51, 52, 53, 54, 55, 56, 148, 149, 150, 151, 152, 153, 154, 155, 156, 157, 158, 159, 160, 178, 179, 180, 181, 182, 183, 184, 185, 186, 187, 188, 189, 190, 191, 166, 167, 168, 169, 170, 171, 172, 173, 174, 175, 176, 177, 161, 162, 163, 164, 165] rfl rfl
set_option maxRecDepth 20000 in
theorem gX8_topple_X8_look : GoodIn wsX8_topple (wsV RX8 148 RX8 yX8_look wsX8_look) := goodIn_app (goodIn_of _ (by decide +kernel)) ggX8_topple_X8_look
set_option maxRecDepth 20000 in
theorem ggX8_topple_X8_now : GoodIn wsX8_topple wsX8_now := goodIn_r _ [28, 29, 30, 31, 32, 33, 34, 35, 36, 148, 149, 150, 151, 152, 153, 154, 155, 156, 157, 158, 159, 160, 178, 179, 180, 181] rfl rfl
set_option maxRecDepth 20000 in
theorem gX8_topple_X8_now : GoodIn wsX8_topple (wsV RX8 88 RX8 yX8_now wsX8_now) := goodIn_app (goodIn_of _ (by decide +kernel)) ggX8_topple_X8_now
set_option maxRecDepth 20000 in
theorem ggX8_topple_X8_fewest : GoodIn wsX8_topple wsX8_fewest := goodIn_r _ [60, 24, 61, 62, 63, 64, 65, 66, 67, 68, 69, 70, 40, 71, 45, 42, 72, 73, 74, 75, 76, 49, 77, 14, 15, 16, 78, 79, 80, 81, 82, 83, 84, 85, 86, 87, 88, 56, 55, 47, 89, 90, 91, 92, 93, 94, 95, 96, 97, 98, 99, 100, 101, 102, 103, 104, 105, 106, 107, 108, 109, 110, 111, 112, 113, 114, 115, 116, 117, 118, 119, 120, 121, 122, 123, 124, 125, 126, 127, 128, 129, 130, 131, 132, 133, 134, 135, 136, 137, 138, 6, 139, 13, 8, 140, 141, 142, 143, 144, 148, 149, 150, 151, 152, 153, 154, 155, 156, 157, 158, 159, 160, 182, 183, 184, 185, 186, 187, 188, 189, 190, 191, 166, 167, 168, 169, 170, 171, 172, 173, 174, 175, 176, 177, 192, 193, 194, 195, 196, 197] rfl rfl
set_option maxRecDepth 20000 in
theorem gX8_topple_X8_fewest : GoodIn wsX8_topple (wsV RX8 263 RX8 yX8_fewest wsX8_fewest) := goodIn_app (goodIn_of _ (by decide +kernel)) ggX8_topple_X8_fewest
set_option maxRecDepth 20000 in
theorem ggX8_topple_X8_sizeOrSet : GoodIn wsX8_topple wsX8_sizeOrSet := goodIn_r _ [147, 61, 62, 63, 64, 65, 66, 67] rfl rfl
set_option maxRecDepth 20000 in
theorem gX8_topple_X8_sizeOrSet : GoodIn wsX8_topple (va_wsS RX8 267 yX8_sizeOrSet wsX8_sizeOrSet) := goodIn_app (goodIn_of _ (by decide +kernel)) ggX8_topple_X8_sizeOrSet
theorem dX8_topple_0 : decode cX8_topple 0 = .ok (.aload_n 0, 1) := by decide +kernel
theorem dX8_topple_1 : decode cX8_topple 1 = .ok (.getfield 19, 3) := by decide +kernel
theorem dX8_topple_4 : decode cX8_topple 4 = .ok (.iload_n 1, 1) := by decide +kernel
theorem dX8_topple_5 : decode cX8_topple 5 = .ok (.invokevirtual 244, 3) := by decide +kernel
theorem dX8_topple_8 : decode cX8_topple 8 = .ok (.ifCond .eq 10, 3) := by decide +kernel
theorem dX8_topple_11 : decode cX8_topple 11 = .ok (.iload_n 2, 1) := by decide +kernel
theorem dX8_topple_12 : decode cX8_topple 12 = .ok (.invokestatic 234, 3) := by decide +kernel
theorem dX8_topple_15 : decode cX8_topple 15 = .ok (.ifCond .ne 5, 3) := by decide +kernel
theorem dX8_topple_18 : decode cX8_topple 18 = .ok (.iconst (-1), 1) := by decide +kernel
theorem dX8_topple_19 : decode cX8_topple 19 = .ok (.ireturn, 1) := by decide +kernel
theorem dX8_topple_20 : decode cX8_topple 20 = .ok (.aload_n 0, 1) := by decide +kernel
theorem dX8_topple_21 : decode cX8_topple 21 = .ok (.invokevirtual 148, 3) := by decide +kernel
theorem dX8_topple_24 : decode cX8_topple 24 = .ok (.aload_n 0, 1) := by decide +kernel
theorem dX8_topple_25 : decode cX8_topple 25 = .ok (.iload_n 1, 1) := by decide +kernel
theorem dX8_topple_26 : decode cX8_topple 26 = .ok (.aload_n 0, 1) := by decide +kernel
theorem dX8_topple_27 : decode cX8_topple 27 = .ok (.invokevirtual 88, 3) := by decide +kernel
theorem dX8_topple_30 : decode cX8_topple 30 = .ok (.getfield 145, 3) := by decide +kernel
theorem dX8_topple_33 : decode cX8_topple 33 = .ok (.aload_n 0, 1) := by decide +kernel
theorem dX8_topple_34 : decode cX8_topple 34 = .ok (.invokevirtual 88, 3) := by decide +kernel
theorem dX8_topple_37 : decode cX8_topple 37 = .ok (.getfield 145, 3) := by decide +kernel
theorem dX8_topple_40 : decode cX8_topple 40 = .ok (.iconst 0, 1) := by decide +kernel
theorem dX8_topple_41 : decode cX8_topple 41 = .ok (.invokevirtual 263, 3) := by decide +kernel
theorem dX8_topple_44 : decode cX8_topple 44 = .ok (.iload_n 2, 1) := by decide +kernel
theorem dX8_topple_45 : decode cX8_topple 45 = .ok (.invokestatic 267, 3) := by decide +kernel
theorem dX8_topple_48 : decode cX8_topple 48 = .ok (.ireturn, 1) := by decide +kernel
set_option maxRecDepth 20000 in
theorem ggX8_prop_X8_isZeroOrOne : GoodIn wsX8_prop wsX8_isZeroOrOne := goodIn_r _ [4] rfl rfl
set_option maxRecDepth 20000 in
theorem gX8_prop_X8_isZeroOrOne : GoodIn wsX8_prop (va_wsS RX8 234 yX8_isZeroOrOne wsX8_isZeroOrOne) := goodIn_app (goodIn_of _ (by decide +kernel)) ggX8_prop_X8_isZeroOrOne
set_option maxRecDepth 20000 in
theorem ggX8_prop_X8_leastProp : GoodIn wsX8_prop wsX8_leastProp := goodIn_r _ [8, 9, 10, 11, 12, 13, 3, 14, 15, 16, 17, 18, 19, 20, 21, 22, 23, 24, 25, 26, 27, 28, 29, 30, 31, 32, 33, 34, 35, 36, 37, 38, 39, 40, 41, 42, 43, 44, 45, 46, 47, 48, 49, 50, 51, 52, 53, 54, 55, 56, 57, 58, 59, 60, 61, 62, 63, 64, 65, 66, 67, 68, 69, 70, 71, 72, 73, 74, 75, 76, 77, 78, 79, 80, 81, 82, 83, 84, 85, 86, 87, 88, 89, 90, 91, 92, 93, 94, 95, 96, 97, 98, 99, 100, 101, 102, 103, 104, 105, 106, 107, 108, 109, 110, 111, 112, 113, 114, 115, 116, 117, 118, 119, 120, 121, 122, 123, 124, 125, 126, 127, 128, 129, 130, 131, 132, 133, 134, 135, 136, 137, 138, 139, 140, 141, 142, 143, 144, 145, 146, 147, 148, 149, 150, 151, 152, 156, 157, 158, 159, 160, 161, 162, 163, 164, 165, 166, 167, 168, 169, 170, 171, 172, 173, 174, 175, 176, 177, 178, 179, 180, 181, 182, 183, 184, 185, 186, 187, 188, 189, 190, 191, 192, 193, 194, 195, 196, 197, 198, 199, 200, 201, 202, 203, 204, 205] rfl rfl
set_option maxRecDepth 20000 in
theorem gX8_prop_X8_leastProp : GoodIn wsX8_prop (wsV RX8 271 RX8 yX8_leastProp wsX8_leastProp) := goodIn_app (goodIn_of _ (by decide +kernel)) ggX8_prop_X8_leastProp
set_option maxRecDepth 20000 in
theorem ggX8_prop_X8_sizeOrSet : GoodIn wsX8_prop wsX8_sizeOrSet := goodIn_r _ [155, 152, 94, 95, 96, 97, 98, 99] rfl rfl
set_option maxRecDepth 20000 in
theorem gX8_prop_X8_sizeOrSet : GoodIn wsX8_prop (va_wsS RX8 267 yX8_sizeOrSet wsX8_sizeOrSet) := goodIn_app (goodIn_of _ (by decide +kernel)) ggX8_prop_X8_sizeOrSet
theorem dX8_prop_0 : decode cX8_prop 0 = .ok (.iload_n 2, 1) := by decide +kernel
theorem dX8_prop_1 : decode cX8_prop 1 = .ok (.invokestatic 234, 3) := by decide +kernel
theorem dX8_prop_4 : decode cX8_prop 4 = .ok (.ifCond .eq 15, 3) := by decide +kernel
theorem dX8_prop_7 : decode cX8_prop 7 = .ok (.aload_n 0, 1) := by decide +kernel
theorem dX8_prop_8 : decode cX8_prop 8 = .ok (.iload_n 1, 1) := by decide +kernel
theorem dX8_prop_9 : decode cX8_prop 9 = .ok (.invokevirtual 271, 3) := by decide +kernel
theorem dX8_prop_12 : decode cX8_prop 12 = .ok (.iload_n 2, 1) := by decide +kernel
theorem dX8_prop_13 : decode cX8_prop 13 = .ok (.invokestatic 267, 3) := by decide +kernel
theorem dX8_prop_16 : decode cX8_prop 16 = .ok (.goto 4, 3) := by decide +kernel
theorem dX8_prop_19 : decode cX8_prop 19 = .ok (.iconst (-1), 1) := by decide +kernel
theorem dX8_prop_20 : decode cX8_prop 20 = .ok (.ireturn, 1) := by decide +kernel
set_option maxRecDepth 20000 in
theorem ggX8_leastProp_X8_look : GoodIn wsX8_leastProp wsX8_look := goodIn_r _ [7, 8, 1, 9, 10, 11, 6, 12, 13, 14, 15, 16, 17, 18, 19, 20, 21, 22, 23, 24, 25, 26, 27, 28, 29, 30, 31, 32, 33, 34, 35, 36, 37, 38, 39, 40, 146, 147, 148, 149, 150, 151, 152, 153, 154, 155, 156, 157, 158, 164, 165, 166, 167, 168, 169, 170, 171, 172, 173, 174, 175, 176, 177, 178, 179, 180, 181, 182, 183, 184, 185, 186, 187, 188, 189, 159, 160, 161, 162, 163] rfl rfl
set_option maxRecDepth 20000 in
theorem gX8_leastProp_X8_look : GoodIn wsX8_leastProp (wsV RX8 148 RX8 yX8_look wsX8_look) := goodIn_app (goodIn_of _ (by decide +kernel)) ggX8_leastProp_X8_look
set_option maxRecDepth 20000 in
theorem ggX8_leastProp_X5_isClaim : GoodIn wsX8_leastProp wsX5_isClaim := goodIn_r _ [45, 46, 47, 48, 49, 44, 50, 51, 52, 6, 53, 178, 179, 180, 181, 182, 183, 184, 185, 186, 187, 188, 189] rfl rfl
set_option maxRecDepth 20000 in
theorem gX8_leastProp_X5_isClaim : GoodIn wsX8_leastProp (wsV RX8 244 RX5 yX5_isClaim wsX5_isClaim) := goodIn_app (goodIn_of _ (by decide +kernel)) ggX8_leastProp_X5_isClaim
set_option maxRecDepth 20000 in
theorem ggX8_leastProp_X8_now : GoodIn wsX8_leastProp wsX8_now := goodIn_r _ [12, 13, 14, 15, 16, 17, 18, 19, 20, 146, 147, 148, 149, 150, 151, 152, 153, 154, 155, 156, 157, 158, 164, 165, 166, 167] rfl rfl
set_option maxRecDepth 20000 in
theorem gX8_leastProp_X8_now : GoodIn wsX8_leastProp (wsV RX8 88 RX8 yX8_now wsX8_now) := goodIn_app (goodIn_of _ (by decide +kernel)) ggX8_leastProp_X8_now
set_option maxRecDepth 20000 in
theorem ggX8_leastProp_X8_isUp : GoodIn wsX8_leastProp wsX8_isUp := goodIn_r _ [57, 8, 58, 59, 60, 24, 61, 29, 26, 62, 63, 64, 65, 66, 33, 67, 52, 6, 53, 68, 69, 70, 71, 72, 73, 74, 75, 76, 77, 78, 40, 39, 31, 79, 80, 81, 82, 83, 84, 85, 86, 87, 88, 89, 90, 91, 92, 93, 94, 95, 96, 97, 98, 99, 100, 101, 102, 103, 104, 105, 106, 107, 108, 109, 110, 111, 112, 113, 114, 115, 116, 117, 118, 119, 120, 121, 122, 123, 124, 125, 126, 127, 128, 129, 130, 131, 132, 133, 134, 44, 135, 51, 46, 136, 137, 138, 139, 140, 146, 147, 148, 149, 150, 151, 152, 153, 154, 155, 156, 157, 158, 168, 169, 170, 171, 172, 173, 174, 175, 176, 177, 178, 179, 180, 181, 182, 183, 184, 185, 186, 187, 188, 189, 190, 191, 192, 193, 194, 195] rfl rfl
set_option maxRecDepth 20000 in
theorem gX8_leastProp_X8_isUp : GoodIn wsX8_leastProp (wsV RX8 260 RX8 yX8_isUp wsX8_isUp) := goodIn_app (goodIn_of _ (by decide +kernel)) ggX8_leastProp_X8_isUp
set_option maxRecDepth 20000 in
theorem ggX8_leastProp_X8_fewest : GoodIn wsX8_leastProp wsX8_fewest := goodIn_r _ [144, 8, 145, 87, 88, 89, 90, 91, 92, 58, 59, 60, 24, 61, 29, 26, 62, 63, 64, 65, 66, 33, 67, 52, 6, 53, 68, 69, 70, 71, 72, 73, 74, 75, 76, 77, 78, 40, 39, 31, 79, 80, 81, 82, 83, 84, 85, 86, 93, 94, 95, 96, 97, 98, 99, 100, 101, 102, 103, 104, 105, 106, 107, 108, 109, 110, 111, 112, 113, 114, 115, 116, 117, 118, 119, 120, 121, 122, 123, 124, 125, 126, 127, 128, 129, 130, 131, 132, 133, 134, 44, 135, 51, 46, 136, 137, 138, 139, 140, 146, 147, 148, 149, 150, 151, 152, 153, 154, 155, 156, 157, 158, 168, 169, 170, 171, 172, 173, 174, 175, 176, 177, 178, 179, 180, 181, 182, 183, 184, 185, 186, 187, 188, 189, 190, 191, 192, 193, 194, 195] rfl rfl
set_option maxRecDepth 20000 in
theorem gX8_leastProp_X8_fewest : GoodIn wsX8_leastProp (wsV RX8 263 RX8 yX8_fewest wsX8_fewest) := goodIn_app (goodIn_of _ (by decide +kernel)) ggX8_leastProp_X8_fewest
theorem dX8_leastProp_0 : decode cX8_leastProp 0 = .ok (.aload_n 0, 1) := by decide +kernel
theorem dX8_leastProp_1 : decode cX8_leastProp 1 = .ok (.invokevirtual 148, 3) := by decide +kernel
theorem dX8_leastProp_4 : decode cX8_leastProp 4 = .ok (.aload_n 0, 1) := by decide +kernel
theorem dX8_leastProp_5 : decode cX8_leastProp 5 = .ok (.getfield 19, 3) := by decide +kernel
theorem dX8_leastProp_8 : decode cX8_leastProp 8 = .ok (.iload_n 1, 1) := by decide +kernel
theorem dX8_leastProp_9 : decode cX8_leastProp 9 = .ok (.invokevirtual 244, 3) := by decide +kernel
theorem dX8_leastProp_12 : decode cX8_leastProp 12 = .ok (.ifCond .eq 18, 3) := by decide +kernel
theorem dX8_leastProp_15 : decode cX8_leastProp 15 = .ok (.aload_n 0, 1) := by decide +kernel
theorem dX8_leastProp_16 : decode cX8_leastProp 16 = .ok (.iload_n 1, 1) := by decide +kernel
theorem dX8_leastProp_17 : decode cX8_leastProp 17 = .ok (.aload_n 0, 1) := by decide +kernel
theorem dX8_leastProp_18 : decode cX8_leastProp 18 = .ok (.invokevirtual 88, 3) := by decide +kernel
theorem dX8_leastProp_21 : decode cX8_leastProp 21 = .ok (.getfield 145, 3) := by decide +kernel
theorem dX8_leastProp_24 : decode cX8_leastProp 24 = .ok (.invokevirtual 260, 3) := by decide +kernel
theorem dX8_leastProp_27 : decode cX8_leastProp 27 = .ok (.ifCond .ne 5, 3) := by decide +kernel
theorem dX8_leastProp_30 : decode cX8_leastProp 30 = .ok (.iconst (-1), 1) := by decide +kernel
theorem dX8_leastProp_31 : decode cX8_leastProp 31 = .ok (.ireturn, 1) := by decide +kernel
theorem dX8_leastProp_32 : decode cX8_leastProp 32 = .ok (.aload_n 0, 1) := by decide +kernel
theorem dX8_leastProp_33 : decode cX8_leastProp 33 = .ok (.iload_n 1, 1) := by decide +kernel
theorem dX8_leastProp_34 : decode cX8_leastProp 34 = .ok (.aload_n 0, 1) := by decide +kernel
theorem dX8_leastProp_35 : decode cX8_leastProp 35 = .ok (.invokevirtual 88, 3) := by decide +kernel
theorem dX8_leastProp_38 : decode cX8_leastProp 38 = .ok (.getfield 145, 3) := by decide +kernel
theorem dX8_leastProp_41 : decode cX8_leastProp 41 = .ok (.iconst 0, 1) := by decide +kernel
theorem dX8_leastProp_42 : decode cX8_leastProp 42 = .ok (.iconst 1, 1) := by decide +kernel
theorem dX8_leastProp_43 : decode cX8_leastProp 43 = .ok (.invokevirtual 263, 3) := by decide +kernel
theorem dX8_leastProp_46 : decode cX8_leastProp 46 = .ok (.ireturn, 1) := by decide +kernel
set_option maxRecDepth 20000 in
theorem ggX8_fewest_J6_bitCount_0f7a4 : GoodIn wsX8_fewest wsJ6_bitCount_0f7a4 := goodIn_r _ [5, 6, 7, 8] rfl rfl
set_option maxRecDepth 20000 in
theorem gX8_fewest_J6_bitCount_0f7a4 : GoodIn wsX8_fewest (va_wsS RX8 274 yJ6_bitCount_0f7a4 wsJ6_bitCount_0f7a4) := goodIn_app (goodIn_of _ (by decide +kernel)) ggX8_fewest_J6_bitCount_0f7a4
set_option maxRecDepth 20000 in
theorem ggX8_fewest_X2_standing : GoodIn wsX8_fewest wsX2_standing := goodIn_r _ [13, 14, 15, 16, 17, 18, 12, 19, 20, 21, 22, 23, 24, 25, 26, 27, 28, 29, 30, 31, 32, 33, 34, 35, 36, 37, 38, 39, 40, 41, 42, 43, 44, 45, 46, 47, 3, 4, 5, 6, 7, 8, 48, 49, 50, 51, 52, 53, 54, 55, 56, 57, 58, 59, 60, 61, 62, 63, 64, 65, 66, 67, 68, 69, 70, 71, 72, 73, 74, 75, 76, 77, 78, 79, 80, 81, 82, 83, 84, 85, 86, 87, 88, 89, 90, 91, 92, 93, 94, 95, 96, 97, 112, 113, 114, 115, 116, 117, 118, 119, 120, 121, 122, 123, 124, 125, 126, 127, 128, 129, 130, 131, 132, 133, 134, 135, 136, 137, 138, 139] rfl rfl
set_option maxRecDepth 20000 in
theorem gX8_fewest_X2_standing : GoodIn wsX8_fewest (wsV RX8 231 RX2 yX2_standing wsX2_standing) := goodIn_app (goodIn_of _ (by decide +kernel)) ggX8_fewest_X2_standing
set_option maxRecDepth 20000 in
theorem ggX8_fewest_X8_has : GoodIn wsX8_fewest wsX8_has := goodIn_r _ [25] rfl rfl
set_option maxRecDepth 20000 in
theorem gX8_fewest_X8_has : GoodIn wsX8_fewest (va_wsS RX8 220 yX8_has wsX8_has) := goodIn_app (goodIn_of _ (by decide +kernel)) ggX8_fewest_X8_has
theorem dX8_fewest_0 : decode cX8_fewest 0 = .ok (.iconst (-1), 1) := by decide +kernel
theorem dX8_fewest_1 : decode cX8_fewest 1 = .ok (.istore 5, 2) := by decide +kernel
theorem dX8_fewest_3 : decode cX8_fewest 3 = .ok (.bipush 13, 2) := by decide +kernel
theorem dX8_fewest_5 : decode cX8_fewest 5 = .ok (.istore 6, 2) := by decide +kernel
theorem dX8_fewest_7 : decode cX8_fewest 7 = .ok (.iconst 0, 1) := by decide +kernel
theorem dX8_fewest_8 : decode cX8_fewest 8 = .ok (.istore 7, 2) := by decide +kernel
theorem dX8_fewest_10 : decode cX8_fewest 10 = .ok (.iload 7, 2) := by decide +kernel
theorem dX8_fewest_12 : decode cX8_fewest 12 = .ok (.iload_n 2, 1) := by decide +kernel
theorem dX8_fewest_13 : decode cX8_fewest 13 = .ok (.if_icmp .gt 59, 3) := by decide +kernel
theorem dX8_fewest_16 : decode cX8_fewest 16 = .ok (.iload 7, 2) := by decide +kernel
theorem dX8_fewest_18 : decode cX8_fewest 18 = .ok (.iload_n 2, 1) := by decide +kernel
theorem dX8_fewest_19 : decode cX8_fewest 19 = .ok (.iconst (-1), 1) := by decide +kernel
theorem dX8_fewest_20 : decode cX8_fewest 20 = .ok (.ixor, 1) := by decide +kernel
theorem dX8_fewest_21 : decode cX8_fewest 21 = .ok (.iand, 1) := by decide +kernel
theorem dX8_fewest_22 : decode cX8_fewest 22 = .ok (.ifCond .ne 44, 3) := by decide +kernel
theorem dX8_fewest_25 : decode cX8_fewest 25 = .ok (.iload 7, 2) := by decide +kernel
theorem dX8_fewest_27 : decode cX8_fewest 27 = .ok (.invokestatic 274, 3) := by decide +kernel
theorem dX8_fewest_30 : decode cX8_fewest 30 = .ok (.iload 6, 2) := by decide +kernel
theorem dX8_fewest_32 : decode cX8_fewest 32 = .ok (.if_icmp .ge 34, 3) := by decide +kernel
theorem dX8_fewest_35 : decode cX8_fewest 35 = .ok (.aload_n 0, 1) := by decide +kernel
theorem dX8_fewest_36 : decode cX8_fewest 36 = .ok (.getfield 44, 3) := by decide +kernel
theorem dX8_fewest_39 : decode cX8_fewest 39 = .ok (.iload_n 3, 1) := by decide +kernel
theorem dX8_fewest_40 : decode cX8_fewest 40 = .ok (.iload 7, 2) := by decide +kernel
theorem dX8_fewest_42 : decode cX8_fewest 42 = .ok (.ixor, 1) := by decide +kernel
theorem dX8_fewest_43 : decode cX8_fewest 43 = .ok (.invokevirtual 231, 3) := by decide +kernel
theorem dX8_fewest_46 : decode cX8_fewest 46 = .ok (.iload_n 1, 1) := by decide +kernel
theorem dX8_fewest_47 : decode cX8_fewest 47 = .ok (.invokestatic 220, 3) := by decide +kernel
theorem dX8_fewest_50 : decode cX8_fewest 50 = .ok (.iload 4, 2) := by decide +kernel
theorem dX8_fewest_52 : decode cX8_fewest 52 = .ok (.if_icmp .ne 14, 3) := by decide +kernel
theorem dX8_fewest_55 : decode cX8_fewest 55 = .ok (.iload 7, 2) := by decide +kernel
theorem dX8_fewest_57 : decode cX8_fewest 57 = .ok (.istore 5, 2) := by decide +kernel
theorem dX8_fewest_59 : decode cX8_fewest 59 = .ok (.iload 7, 2) := by decide +kernel
theorem dX8_fewest_61 : decode cX8_fewest 61 = .ok (.invokestatic 274, 3) := by decide +kernel
theorem dX8_fewest_64 : decode cX8_fewest 64 = .ok (.istore 6, 2) := by decide +kernel
theorem dX8_fewest_66 : decode cX8_fewest 66 = .ok (.iinc 7 1, 3) := by decide +kernel
theorem dX8_fewest_69 : decode cX8_fewest 69 = .ok (.goto (-59), 3) := by decide +kernel
theorem dX8_fewest_72 : decode cX8_fewest 72 = .ok (.iload 5, 2) := by decide +kernel
theorem dX8_fewest_74 : decode cX8_fewest 74 = .ok (.ireturn, 1) := by decide +kernel
set_option maxRecDepth 20000 in
theorem ggX8_sizeOrSet_J6_bitCount_0f7a4 : GoodIn wsX8_sizeOrSet wsJ6_bitCount_0f7a4 := goodIn_r _ [4, 5, 6, 7] rfl rfl
set_option maxRecDepth 20000 in
theorem gX8_sizeOrSet_J6_bitCount_0f7a4 : GoodIn wsX8_sizeOrSet (va_wsS RX8 274 yJ6_bitCount_0f7a4 wsJ6_bitCount_0f7a4) := goodIn_app (goodIn_of _ (by decide +kernel)) ggX8_sizeOrSet_J6_bitCount_0f7a4
theorem dX8_sizeOrSet_0 : decode cX8_sizeOrSet 0 = .ok (.iload_n 1, 1) := by decide +kernel
theorem dX8_sizeOrSet_1 : decode cX8_sizeOrSet 1 = .ok (.ifCond .ne 15, 3) := by decide +kernel
theorem dX8_sizeOrSet_4 : decode cX8_sizeOrSet 4 = .ok (.iload_n 0, 1) := by decide +kernel
theorem dX8_sizeOrSet_5 : decode cX8_sizeOrSet 5 = .ok (.iconst (-1), 1) := by decide +kernel
theorem dX8_sizeOrSet_6 : decode cX8_sizeOrSet 6 = .ok (.if_icmp .eq 10, 3) := by decide +kernel
theorem dX8_sizeOrSet_9 : decode cX8_sizeOrSet 9 = .ok (.iload_n 0, 1) := by decide +kernel
theorem dX8_sizeOrSet_10 : decode cX8_sizeOrSet 10 = .ok (.invokestatic 274, 3) := by decide +kernel
theorem dX8_sizeOrSet_13 : decode cX8_sizeOrSet 13 = .ok (.goto 4, 3) := by decide +kernel
theorem dX8_sizeOrSet_16 : decode cX8_sizeOrSet 16 = .ok (.iload_n 0, 1) := by decide +kernel
theorem dX8_sizeOrSet_17 : decode cX8_sizeOrSet 17 = .ok (.ireturn, 1) := by decide +kernel
set_option maxRecDepth 20000 in
theorem ggX8_pivots_X5_isClaim : GoodIn wsX8_pivots wsX5_isClaim := goodIn_r _ [8, 9, 10, 11, 12, 7, 13, 14, 15, 16, 17, 160, 161, 162, 163, 164, 165, 166, 167, 168, 169, 170, 171] rfl rfl
set_option maxRecDepth 20000 in
theorem gX8_pivots_X5_isClaim : GoodIn wsX8_pivots (wsV RX8 244 RX5 yX5_isClaim wsX5_isClaim) := goodIn_app (goodIn_of _ (by decide +kernel)) ggX8_pivots_X5_isClaim
set_option maxRecDepth 20000 in
theorem ggX8_pivots_X8_look : GoodIn wsX8_pivots wsX8_look := goodIn_r _ [21, 22, 1, 23, 24, 25, 16, 26, 27, 28, 29, 30, 31, 32, 33, 34, 35, 36, 37, 38, 39, 40, 41, 42, 43, 44, 45, 46, 47, 48, 49, 50, 51, 52, 53, 54, 142, 143, 144, 145, 146, 147, 148, 149, 150, 151, 152, 153, 154, 172, 173, 174, 175, 176, 177, 178, 179, 180, 181, 182, 183, 184, 185, 160, 161, 162, 163, 164, 165, 166, 167, 168, 169, 170, 171, 155, 156, 157, 158, 159] rfl rfl
set_option maxRecDepth 20000 in
theorem gX8_pivots_X8_look : GoodIn wsX8_pivots (wsV RX8 148 RX8 yX8_look wsX8_look) := goodIn_app (goodIn_of _ (by decide +kernel)) ggX8_pivots_X8_look
set_option maxRecDepth 20000 in
theorem ggX8_pivots_X8_now : GoodIn wsX8_pivots wsX8_now := goodIn_r _ [26, 27, 28, 29, 30, 31, 32, 33, 34, 142, 143, 144, 145, 146, 147, 148, 149, 150, 151, 152, 153, 154, 172, 173, 174, 175] rfl rfl
set_option maxRecDepth 20000 in
theorem gX8_pivots_X8_now : GoodIn wsX8_pivots (wsV RX8 88 RX8 yX8_now wsX8_now) := goodIn_app (goodIn_of _ (by decide +kernel)) ggX8_pivots_X8_now
set_option maxRecDepth 20000 in
theorem ggX8_pivots_X8_isUp : GoodIn wsX8_pivots wsX8_isUp := goodIn_r _ [58, 22, 59, 60, 61, 38, 62, 43, 40, 63, 64, 65, 66, 67, 47, 68, 15, 16, 17, 69, 70, 71, 72, 73, 74, 75, 76, 77, 78, 79, 54, 53, 45, 80, 81, 82, 83, 84, 85, 86, 87, 88, 89, 90, 91, 92, 93, 94, 95, 96, 97, 98, 99, 100, 101, 102, 103, 104, 105, 106, 107, 108, 109, 110, 111, 112, 113, 114, 115, 116, 117, 118, 119, 120, 121, 122, 123, 124, 125, 126, 127, 128, 129, 130, 131, 132, 133, 134, 135, 7, 136, 14, 9, 137, 138, 139, 140, 141, 142, 143, 144, 145, 146, 147, 148, 149, 150, 151, 152, 153, 154, 176, 177, 178, 179, 180, 181, 182, 183, 184, 185, 160, 161, 162, 163, 164, 165, 166, 167, 168, 169, 170, 171, 186, 187, 188, 189, 190, 191] rfl rfl
set_option maxRecDepth 20000 in
theorem gX8_pivots_X8_isUp : GoodIn wsX8_pivots (wsV RX8 260 RX8 yX8_isUp wsX8_isUp) := goodIn_app (goodIn_of _ (by decide +kernel)) ggX8_pivots_X8_isUp
set_option maxRecDepth 20000 in
theorem ggX8_pivots_X8_has : GoodIn wsX8_pivots wsX8_has := goodIn_r _ [17] rfl rfl
set_option maxRecDepth 20000 in
theorem gX8_pivots_X8_has : GoodIn wsX8_pivots (va_wsS RX8 220 yX8_has wsX8_has) := goodIn_app (goodIn_of _ (by decide +kernel)) ggX8_pivots_X8_has
theorem dX8_pivots_0 : decode cX8_pivots 0 = .ok (.aload_n 0, 1) := by decide +kernel
theorem dX8_pivots_1 : decode cX8_pivots 1 = .ok (.getfield 19, 3) := by decide +kernel
theorem dX8_pivots_4 : decode cX8_pivots 4 = .ok (.iload_n 1, 1) := by decide +kernel
theorem dX8_pivots_5 : decode cX8_pivots 5 = .ok (.invokevirtual 244, 3) := by decide +kernel
theorem dX8_pivots_8 : decode cX8_pivots 8 = .ok (.ifCond .ne 5, 3) := by decide +kernel
theorem dX8_pivots_11 : decode cX8_pivots 11 = .ok (.iconst (-1), 1) := by decide +kernel
theorem dX8_pivots_12 : decode cX8_pivots 12 = .ok (.ireturn, 1) := by decide +kernel
theorem dX8_pivots_13 : decode cX8_pivots 13 = .ok (.aload_n 0, 1) := by decide +kernel
theorem dX8_pivots_14 : decode cX8_pivots 14 = .ok (.invokevirtual 148, 3) := by decide +kernel
theorem dX8_pivots_17 : decode cX8_pivots 17 = .ok (.aload_n 0, 1) := by decide +kernel
theorem dX8_pivots_18 : decode cX8_pivots 18 = .ok (.invokevirtual 88, 3) := by decide +kernel
theorem dX8_pivots_21 : decode cX8_pivots 21 = .ok (.getfield 145, 3) := by decide +kernel
theorem dX8_pivots_24 : decode cX8_pivots 24 = .ok (.istore_n 2, 1) := by decide +kernel
theorem dX8_pivots_25 : decode cX8_pivots 25 = .ok (.aload_n 0, 1) := by decide +kernel
theorem dX8_pivots_26 : decode cX8_pivots 26 = .ok (.iload_n 1, 1) := by decide +kernel
theorem dX8_pivots_27 : decode cX8_pivots 27 = .ok (.iload_n 2, 1) := by decide +kernel
theorem dX8_pivots_28 : decode cX8_pivots 28 = .ok (.invokevirtual 260, 3) := by decide +kernel
theorem dX8_pivots_31 : decode cX8_pivots 31 = .ok (.ifCond .ne 5, 3) := by decide +kernel
theorem dX8_pivots_34 : decode cX8_pivots 34 = .ok (.iconst 0, 1) := by decide +kernel
theorem dX8_pivots_35 : decode cX8_pivots 35 = .ok (.ireturn, 1) := by decide +kernel
theorem dX8_pivots_36 : decode cX8_pivots 36 = .ok (.iconst 0, 1) := by decide +kernel
theorem dX8_pivots_37 : decode cX8_pivots 37 = .ok (.istore_n 3, 1) := by decide +kernel
theorem dX8_pivots_38 : decode cX8_pivots 38 = .ok (.iconst 0, 1) := by decide +kernel
theorem dX8_pivots_39 : decode cX8_pivots 39 = .ok (.istore 4, 2) := by decide +kernel
theorem dX8_pivots_41 : decode cX8_pivots 41 = .ok (.iload 4, 2) := by decide +kernel
theorem dX8_pivots_43 : decode cX8_pivots 43 = .ok (.aload_n 0, 1) := by decide +kernel
theorem dX8_pivots_44 : decode cX8_pivots 44 = .ok (.getfield 19, 3) := by decide +kernel
theorem dX8_pivots_47 : decode cX8_pivots 47 = .ok (.getfield 157, 3) := by decide +kernel
theorem dX8_pivots_50 : decode cX8_pivots 50 = .ok (.if_icmp .ge 39, 3) := by decide +kernel
theorem dX8_pivots_53 : decode cX8_pivots 53 = .ok (.iload_n 2, 1) := by decide +kernel
theorem dX8_pivots_54 : decode cX8_pivots 54 = .ok (.iload 4, 2) := by decide +kernel
theorem dX8_pivots_56 : decode cX8_pivots 56 = .ok (.invokestatic 220, 3) := by decide +kernel
theorem dX8_pivots_59 : decode cX8_pivots 59 = .ok (.ifCond .eq 24, 3) := by decide +kernel
theorem dX8_pivots_62 : decode cX8_pivots 62 = .ok (.aload_n 0, 1) := by decide +kernel
theorem dX8_pivots_63 : decode cX8_pivots 63 = .ok (.iload_n 1, 1) := by decide +kernel
theorem dX8_pivots_64 : decode cX8_pivots 64 = .ok (.iload_n 2, 1) := by decide +kernel
theorem dX8_pivots_65 : decode cX8_pivots 65 = .ok (.iconst 1, 1) := by decide +kernel
theorem dX8_pivots_66 : decode cX8_pivots 66 = .ok (.iload 4, 2) := by decide +kernel
theorem dX8_pivots_68 : decode cX8_pivots 68 = .ok (.ishl, 1) := by decide +kernel
theorem dX8_pivots_69 : decode cX8_pivots 69 = .ok (.ixor, 1) := by decide +kernel
theorem dX8_pivots_70 : decode cX8_pivots 70 = .ok (.invokevirtual 260, 3) := by decide +kernel
theorem dX8_pivots_73 : decode cX8_pivots 73 = .ok (.ifCond .ne 10, 3) := by decide +kernel
theorem dX8_pivots_76 : decode cX8_pivots 76 = .ok (.iload_n 3, 1) := by decide +kernel
theorem dX8_pivots_77 : decode cX8_pivots 77 = .ok (.iconst 1, 1) := by decide +kernel
theorem dX8_pivots_78 : decode cX8_pivots 78 = .ok (.iload 4, 2) := by decide +kernel
theorem dX8_pivots_80 : decode cX8_pivots 80 = .ok (.ishl, 1) := by decide +kernel
theorem dX8_pivots_81 : decode cX8_pivots 81 = .ok (.ior, 1) := by decide +kernel
theorem dX8_pivots_82 : decode cX8_pivots 82 = .ok (.istore_n 3, 1) := by decide +kernel
theorem dX8_pivots_83 : decode cX8_pivots 83 = .ok (.iinc 4 1, 3) := by decide +kernel
theorem dX8_pivots_86 : decode cX8_pivots 86 = .ok (.goto (-45), 3) := by decide +kernel
theorem dX8_pivots_89 : decode cX8_pivots 89 = .ok (.iload_n 3, 1) := by decide +kernel
theorem dX8_pivots_90 : decode cX8_pivots 90 = .ok (.ireturn, 1) := by decide +kernel
set_option maxRecDepth 20000 in
theorem ggX8_power_X5_isClaim : GoodIn wsX8_power wsX5_isClaim := goodIn_r _ [7, 8, 9, 10, 11, 6, 12, 13, 14, 15, 16, 168, 169, 170, 171, 172, 173, 174, 175, 176, 177, 178, 179] rfl rfl
set_option maxRecDepth 20000 in
theorem gX8_power_X5_isClaim : GoodIn wsX8_power (wsV RX8 244 RX5 yX5_isClaim wsX5_isClaim) := goodIn_app (goodIn_of _ (by decide +kernel)) ggX8_power_X5_isClaim
set_option maxRecDepth 20000 in
theorem ggX8_power_X8_isTied : GoodIn wsX8_power wsX8_isTied := goodIn_r _ [20, 1, 2, 21, 22, 23, 6, 24, 25, 26, 27, 28, 15, 29, 30, 31, 32, 33, 34, 35, 36, 37, 38, 14, 16, 150, 151, 152, 153, 154, 155, 156, 157, 158, 159, 160, 161, 162, 163, 164, 165, 166, 167, 168, 169, 170, 171, 172, 173, 174, 175, 176, 177, 178, 179, 180, 181, 182, 183] rfl rfl
set_option maxRecDepth 20000 in
theorem gX8_power_X8_isTied : GoodIn wsX8_power (wsV RX8 190 RX8 yX8_isTied wsX8_isTied) := goodIn_app (goodIn_of _ (by decide +kernel)) ggX8_power_X8_isTied
set_option maxRecDepth 20000 in
theorem ggX8_power_X8_look : GoodIn wsX8_power wsX8_look := goodIn_r _ [42, 43, 1, 26, 27, 28, 15, 29, 30, 31, 32, 33, 34, 35, 36, 37, 44, 45, 46, 47, 48, 49, 50, 51, 52, 53, 54, 55, 56, 57, 58, 59, 60, 61, 62, 63, 150, 151, 152, 153, 154, 155, 156, 157, 158, 159, 160, 161, 162, 180, 181, 182, 183, 184, 185, 186, 187, 188, 189, 190, 191, 192, 193, 168, 169, 170, 171, 172, 173, 174, 175, 176, 177, 178, 179, 163, 164, 165, 166, 167] rfl rfl
set_option maxRecDepth 20000 in
theorem gX8_power_X8_look : GoodIn wsX8_power (wsV RX8 148 RX8 yX8_look wsX8_look) := goodIn_app (goodIn_of _ (by decide +kernel)) ggX8_power_X8_look
set_option maxRecDepth 20000 in
theorem ggX8_power_X8_now : GoodIn wsX8_power wsX8_now := goodIn_r _ [29, 30, 31, 32, 33, 34, 35, 36, 37, 150, 151, 152, 153, 154, 155, 156, 157, 158, 159, 160, 161, 162, 180, 181, 182, 183] rfl rfl
set_option maxRecDepth 20000 in
theorem gX8_power_X8_now : GoodIn wsX8_power (wsV RX8 88 RX8 yX8_now wsX8_now) := goodIn_app (goodIn_of _ (by decide +kernel)) ggX8_power_X8_now
set_option maxRecDepth 20000 in
theorem ggX8_power_X8_has : GoodIn wsX8_power wsX8_has := goodIn_r _ [16] rfl rfl
set_option maxRecDepth 20000 in
theorem gX8_power_X8_has : GoodIn wsX8_power (va_wsS RX8 220 yX8_has wsX8_has) := goodIn_app (goodIn_of _ (by decide +kernel)) ggX8_power_X8_has
set_option maxRecDepth 20000 in
theorem ggX8_power_X8_isUp : GoodIn wsX8_power wsX8_isUp := goodIn_r _ [67, 43, 68, 69, 70, 47, 71, 52, 49, 72, 73, 74, 75, 76, 56, 77, 14, 15, 16, 78, 79, 80, 81, 82, 83, 84, 85, 86, 87, 88, 63, 62, 54, 89, 90, 91, 92, 93, 94, 95, 96, 97, 98, 99, 100, 101, 102, 103, 104, 105, 106, 107, 108, 109, 110, 111, 112, 113, 114, 115, 116, 117, 118, 119, 120, 121, 122, 123, 124, 125, 126, 127, 128, 129, 130, 131, 132, 133, 134, 135, 136, 137, 138, 139, 140, 141, 142, 143, 144, 6, 145, 13, 8, 146, 147, 148, 149, 38, 150, 151, 152, 153, 154, 155, 156, 157, 158, 159, 160, 161, 162, 184, 185, 186, 187, 188, 189, 190, 191, 192, 193, 168, 169, 170, 171, 172, 173, 174, 175, 176, 177, 178, 179, 194, 195, 196, 197, 198, 199] rfl rfl
set_option maxRecDepth 20000 in
theorem gX8_power_X8_isUp : GoodIn wsX8_power (wsV RX8 260 RX8 yX8_isUp wsX8_isUp) := goodIn_app (goodIn_of _ (by decide +kernel)) ggX8_power_X8_isUp
theorem dX8_power_0 : decode cX8_power 0 = .ok (.aload_n 0, 1) := by decide +kernel
theorem dX8_power_1 : decode cX8_power 1 = .ok (.getfield 19, 3) := by decide +kernel
theorem dX8_power_4 : decode cX8_power 4 = .ok (.iload_n 1, 1) := by decide +kernel
theorem dX8_power_5 : decode cX8_power 5 = .ok (.invokevirtual 244, 3) := by decide +kernel
theorem dX8_power_8 : decode cX8_power 8 = .ok (.ifCond .eq 11, 3) := by decide +kernel
theorem dX8_power_11 : decode cX8_power 11 = .ok (.aload_n 0, 1) := by decide +kernel
theorem dX8_power_12 : decode cX8_power 12 = .ok (.iload_n 2, 1) := by decide +kernel
theorem dX8_power_13 : decode cX8_power 13 = .ok (.invokevirtual 190, 3) := by decide +kernel
theorem dX8_power_16 : decode cX8_power 16 = .ok (.ifCond .ne 5, 3) := by decide +kernel
theorem dX8_power_19 : decode cX8_power 19 = .ok (.iconst (-1), 1) := by decide +kernel
theorem dX8_power_20 : decode cX8_power 20 = .ok (.ireturn, 1) := by decide +kernel
theorem dX8_power_21 : decode cX8_power 21 = .ok (.aload_n 0, 1) := by decide +kernel
theorem dX8_power_22 : decode cX8_power 22 = .ok (.invokevirtual 148, 3) := by decide +kernel
theorem dX8_power_25 : decode cX8_power 25 = .ok (.aload_n 0, 1) := by decide +kernel
theorem dX8_power_26 : decode cX8_power 26 = .ok (.invokevirtual 88, 3) := by decide +kernel
theorem dX8_power_29 : decode cX8_power 29 = .ok (.getfield 145, 3) := by decide +kernel
theorem dX8_power_32 : decode cX8_power 32 = .ok (.istore_n 3, 1) := by decide +kernel
theorem dX8_power_33 : decode cX8_power 33 = .ok (.iconst 0, 1) := by decide +kernel
theorem dX8_power_34 : decode cX8_power 34 = .ok (.istore 4, 2) := by decide +kernel
theorem dX8_power_36 : decode cX8_power 36 = .ok (.iconst 0, 1) := by decide +kernel
theorem dX8_power_37 : decode cX8_power 37 = .ok (.istore 5, 2) := by decide +kernel
theorem dX8_power_39 : decode cX8_power 39 = .ok (.iload 5, 2) := by decide +kernel
theorem dX8_power_41 : decode cX8_power 41 = .ok (.iload_n 3, 1) := by decide +kernel
theorem dX8_power_42 : decode cX8_power 42 = .ok (.if_icmp .gt 54, 3) := by decide +kernel
theorem dX8_power_45 : decode cX8_power 45 = .ok (.iload 5, 2) := by decide +kernel
theorem dX8_power_47 : decode cX8_power 47 = .ok (.iload_n 3, 1) := by decide +kernel
theorem dX8_power_48 : decode cX8_power 48 = .ok (.iconst (-1), 1) := by decide +kernel
theorem dX8_power_49 : decode cX8_power 49 = .ok (.ixor, 1) := by decide +kernel
theorem dX8_power_50 : decode cX8_power 50 = .ok (.iand, 1) := by decide +kernel
theorem dX8_power_51 : decode cX8_power 51 = .ok (.ifCond .ne 39, 3) := by decide +kernel
theorem dX8_power_54 : decode cX8_power 54 = .ok (.iload 5, 2) := by decide +kernel
theorem dX8_power_56 : decode cX8_power 56 = .ok (.iload_n 2, 1) := by decide +kernel
theorem dX8_power_57 : decode cX8_power 57 = .ok (.invokestatic 220, 3) := by decide +kernel
theorem dX8_power_60 : decode cX8_power 60 = .ok (.ifCond .eq 30, 3) := by decide +kernel
theorem dX8_power_63 : decode cX8_power 63 = .ok (.aload_n 0, 1) := by decide +kernel
theorem dX8_power_64 : decode cX8_power 64 = .ok (.iload_n 1, 1) := by decide +kernel
theorem dX8_power_65 : decode cX8_power 65 = .ok (.iload 5, 2) := by decide +kernel
theorem dX8_power_67 : decode cX8_power 67 = .ok (.invokevirtual 260, 3) := by decide +kernel
theorem dX8_power_70 : decode cX8_power 70 = .ok (.ifCond .eq 20, 3) := by decide +kernel
theorem dX8_power_73 : decode cX8_power 73 = .ok (.aload_n 0, 1) := by decide +kernel
theorem dX8_power_74 : decode cX8_power 74 = .ok (.iload_n 1, 1) := by decide +kernel
theorem dX8_power_75 : decode cX8_power 75 = .ok (.iload 5, 2) := by decide +kernel
theorem dX8_power_77 : decode cX8_power 77 = .ok (.iconst 1, 1) := by decide +kernel
theorem dX8_power_78 : decode cX8_power 78 = .ok (.iload_n 2, 1) := by decide +kernel
theorem dX8_power_79 : decode cX8_power 79 = .ok (.ishl, 1) := by decide +kernel
theorem dX8_power_80 : decode cX8_power 80 = .ok (.ixor, 1) := by decide +kernel
theorem dX8_power_81 : decode cX8_power 81 = .ok (.invokevirtual 260, 3) := by decide +kernel
theorem dX8_power_84 : decode cX8_power 84 = .ok (.ifCond .ne 6, 3) := by decide +kernel
theorem dX8_power_87 : decode cX8_power 87 = .ok (.iinc 4 1, 3) := by decide +kernel
theorem dX8_power_90 : decode cX8_power 90 = .ok (.iinc 5 1, 3) := by decide +kernel
theorem dX8_power_93 : decode cX8_power 93 = .ok (.goto (-54), 3) := by decide +kernel
theorem dX8_power_96 : decode cX8_power 96 = .ok (.iload 4, 2) := by decide +kernel
theorem dX8_power_98 : decode cX8_power 98 = .ok (.ireturn, 1) := by decide +kernel
set_option maxRecDepth 20000 in
theorem ggX8_lack_X5_isClaim : GoodIn wsX8_lack wsX5_isClaim := goodIn_r _ [11, 12, 13, 14, 15, 10, 16, 17, 18, 19, 20, 159, 160, 161, 162, 163, 164, 165, 166, 167, 168, 169, 170] rfl rfl
set_option maxRecDepth 20000 in
theorem gX8_lack_X5_isClaim : GoodIn wsX8_lack (wsV RX8 244 RX5 yX5_isClaim wsX5_isClaim) := goodIn_app (goodIn_of _ (by decide +kernel)) ggX8_lack_X5_isClaim
set_option maxRecDepth 20000 in
theorem ggX8_lack_X8_standingNow : GoodIn wsX8_lack wsX8_standingNow := goodIn_r _ [24, 2, 25, 26, 27, 28, 19, 29, 1, 30, 31, 32, 33, 34, 35, 36, 37, 38, 39, 40, 41, 42, 43, 44, 45, 46, 47, 48, 49, 50, 51, 52, 53, 54, 55, 56, 57, 58, 59, 60, 61, 62, 63, 64, 65, 66, 67, 68, 69, 70, 71, 18, 20, 72, 73, 74, 75, 76, 77, 78, 79, 80, 81, 82, 83, 84, 5, 85, 86, 4, 6, 87, 88, 89, 90, 91, 92, 93, 94, 95, 96, 97, 98, 99, 100, 101, 102, 103, 104, 105, 106, 107, 108, 109, 110, 111, 112, 113, 114, 115, 116, 117, 118, 119, 120, 121, 122, 123, 124, 125, 126, 127, 128, 129, 130, 131, 132, 133, 134, 135, 10, 136, 17, 12, 137, 138, 139, 140, 146, 147, 148, 149, 150, 151, 152, 153, 154, 155, 156, 157, 158, 171, 172, 173, 174, 175, 176, 177, 178, 179, 180, 181, 182, 183, 184, 185, 186, 187, 188, 189, 159, 160, 161, 162, 163, 164, 165, 166, 167, 168, 169, 170, 190, 191, 192, 193, 194, 195] rfl rfl
set_option maxRecDepth 20000 in
theorem gX8_lack_X8_standingNow : GoodIn wsX8_lack (wsV RX8 224 RX8 yX8_standingNow wsX8_standingNow) := goodIn_app (goodIn_of _ (by decide +kernel)) ggX8_lack_X8_standingNow
set_option maxRecDepth 20000 in
theorem ggX8_lack_X2_beyond : GoodIn wsX8_lack wsX2_beyond := goodIn_r _ [144, 47, 122, 60, 145, 8, 9, 10, 11, 12, 13, 14, 15, 16, 17, 18, 19, 20, 180, 181, 182, 183, 184, 185, 186, 187, 188, 189, 159, 160, 161, 162, 163, 164, 165, 166, 167, 168, 169, 170] rfl rfl
set_option maxRecDepth 20000 in
theorem gX8_lack_X2_beyond : GoodIn wsX8_lack (wsV RX8 279 RX2 yX2_beyond wsX2_beyond) := goodIn_app (goodIn_of _ (by decide +kernel)) ggX8_lack_X2_beyond
theorem dX8_lack_0 : decode cX8_lack 0 = .ok (.aload_n 0, 1) := by decide +kernel
theorem dX8_lack_1 : decode cX8_lack 1 = .ok (.getfield 19, 3) := by decide +kernel
theorem dX8_lack_4 : decode cX8_lack 4 = .ok (.iload_n 1, 1) := by decide +kernel
theorem dX8_lack_5 : decode cX8_lack 5 = .ok (.invokevirtual 244, 3) := by decide +kernel
theorem dX8_lack_8 : decode cX8_lack 8 = .ok (.ifCond .ne 5, 3) := by decide +kernel
theorem dX8_lack_11 : decode cX8_lack 11 = .ok (.iconst (-1), 1) := by decide +kernel
theorem dX8_lack_12 : decode cX8_lack 12 = .ok (.ireturn, 1) := by decide +kernel
theorem dX8_lack_13 : decode cX8_lack 13 = .ok (.aload_n 0, 1) := by decide +kernel
theorem dX8_lack_14 : decode cX8_lack 14 = .ok (.invokevirtual 224, 3) := by decide +kernel
theorem dX8_lack_17 : decode cX8_lack 17 = .ok (.pop, 1) := by decide +kernel
theorem dX8_lack_18 : decode cX8_lack 18 = .ok (.iconst 0, 1) := by decide +kernel
theorem dX8_lack_19 : decode cX8_lack 19 = .ok (.aload_n 0, 1) := by decide +kernel
theorem dX8_lack_20 : decode cX8_lack 20 = .ok (.getfield 44, 3) := by decide +kernel
theorem dX8_lack_23 : decode cX8_lack 23 = .ok (.iload_n 1, 1) := by decide +kernel
theorem dX8_lack_24 : decode cX8_lack 24 = .ok (.invokevirtual 279, 3) := by decide +kernel
theorem dX8_lack_27 : decode cX8_lack 27 = .ok (.ineg, 1) := by decide +kernel
theorem dX8_lack_28 : decode cX8_lack 28 = .ok (.invokestatic 282, 3) := by decide +kernel
theorem dX8_lack_31 : decode cX8_lack 31 = .ok (.ireturn, 1) := by decide +kernel
set_option maxRecDepth 20000 in
theorem ggX8_rank_X5_isPoint : GoodIn wsX8_rank wsX5_isPoint := goodIn_r _ [8, 9, 161, 162, 163, 164, 165, 166, 167, 168, 169, 170, 171, 172] rfl rfl
set_option maxRecDepth 20000 in
theorem gX8_rank_X5_isPoint : GoodIn wsX8_rank (wsV RX8 114 RX5 yX5_isPoint wsX5_isPoint) := goodIn_app (goodIn_of _ (by decide +kernel)) ggX8_rank_X5_isPoint
set_option maxRecDepth 20000 in
theorem ggX8_rank_X8_standingNow : GoodIn wsX8_rank wsX8_standingNow := goodIn_r _ [14, 2, 15, 16, 17, 18, 13, 19, 1, 20, 21, 22, 23, 24, 25, 26, 27, 28, 29, 30, 31, 32, 33, 34, 35, 36, 37, 38, 39, 40, 41, 42, 43, 44, 45, 46, 47, 48, 49, 50, 51, 52, 53, 54, 55, 56, 57, 58, 59, 60, 61, 62, 63, 64, 65, 66, 67, 68, 69, 70, 71, 72, 73, 74, 75, 76, 77, 78, 79, 80, 81, 82, 83, 84, 85, 86, 87, 88, 89, 90, 91, 92, 93, 94, 95, 96, 97, 98, 99, 100, 101, 102, 103, 104, 105, 106, 107, 108, 109, 110, 111, 112, 113, 114, 115, 116, 117, 118, 119, 120, 121, 122, 123, 124, 125, 126, 127, 128, 129, 130, 7, 131, 9, 132, 133, 134, 135, 136, 138, 139, 140, 141, 142, 143, 144, 145, 146, 147, 148, 149, 150, 173, 174, 175, 176, 177, 178, 179, 180, 181, 151, 152, 153, 154, 155, 156, 157, 158, 159, 160, 161, 162, 163, 164, 165, 166, 167, 168, 169, 170, 171, 172, 182, 183, 184, 185, 186, 187] rfl rfl
set_option maxRecDepth 20000 in
theorem gX8_rank_X8_standingNow : GoodIn wsX8_rank (wsV RX8 224 RX8 yX8_standingNow wsX8_standingNow) := goodIn_app (goodIn_of _ (by decide +kernel)) ggX8_rank_X8_standingNow
set_option maxRecDepth 20000 in
theorem ggX8_rank_X8_has : GoodIn wsX8_rank wsX8_has := goodIn_r _ [63] rfl rfl
set_option maxRecDepth 20000 in
theorem gX8_rank_X8_has : GoodIn wsX8_rank (va_wsS RX8 220 yX8_has wsX8_has) := goodIn_app (goodIn_of _ (by decide +kernel)) ggX8_rank_X8_has
theorem dX8_rank_0 : decode cX8_rank 0 = .ok (.aload_n 0, 1) := by decide +kernel
theorem dX8_rank_1 : decode cX8_rank 1 = .ok (.getfield 19, 3) := by decide +kernel
theorem dX8_rank_4 : decode cX8_rank 4 = .ok (.iload_n 1, 1) := by decide +kernel
theorem dX8_rank_5 : decode cX8_rank 5 = .ok (.invokevirtual 114, 3) := by decide +kernel
theorem dX8_rank_8 : decode cX8_rank 8 = .ok (.ifCond .eq 26, 3) := by decide +kernel
theorem dX8_rank_11 : decode cX8_rank 11 = .ok (.aload_n 0, 1) := by decide +kernel
theorem dX8_rank_12 : decode cX8_rank 12 = .ok (.invokevirtual 224, 3) := by decide +kernel
theorem dX8_rank_15 : decode cX8_rank 15 = .ok (.iload_n 1, 1) := by decide +kernel
theorem dX8_rank_16 : decode cX8_rank 16 = .ok (.invokestatic 220, 3) := by decide +kernel
theorem dX8_rank_19 : decode cX8_rank 19 = .ok (.ifCond .eq 15, 3) := by decide +kernel
theorem dX8_rank_22 : decode cX8_rank 22 = .ok (.aload_n 0, 1) := by decide +kernel
theorem dX8_rank_23 : decode cX8_rank 23 = .ok (.getfield 44, 3) := by decide +kernel
theorem dX8_rank_26 : decode cX8_rank 26 = .ok (.getfield 287, 3) := by decide +kernel
theorem dX8_rank_29 : decode cX8_rank 29 = .ok (.iload_n 1, 1) := by decide +kernel
theorem dX8_rank_30 : decode cX8_rank 30 = .ok (.iaload, 1) := by decide +kernel
theorem dX8_rank_31 : decode cX8_rank 31 = .ok (.goto 4, 3) := by decide +kernel
theorem dX8_rank_34 : decode cX8_rank 34 = .ok (.iconst (-1), 1) := by decide +kernel
theorem dX8_rank_35 : decode cX8_rank 35 = .ok (.ireturn, 1) := by decide +kernel
set_option maxRecDepth 20000 in
theorem ggX8_ring_X8_isZeroOrOne : GoodIn wsX8_ring wsX8_isZeroOrOne := goodIn_r _ [7] rfl rfl
set_option maxRecDepth 20000 in
theorem gX8_ring_X8_isZeroOrOne : GoodIn wsX8_ring (va_wsS RX8 234 yX8_isZeroOrOne wsX8_isZeroOrOne) := goodIn_app (goodIn_of _ (by decide +kernel)) ggX8_ring_X8_isZeroOrOne
set_option maxRecDepth 20000 in
theorem ggX8_ring_X8_look : GoodIn wsX8_ring wsX8_look := goodIn_r _ [11, 1, 3, 12, 13, 14, 6, 15, 16, 17, 18, 19, 20, 21, 22, 23, 24, 25, 26, 27, 28, 29, 30, 31, 32, 33, 34, 35, 36, 37, 38, 39, 40, 41, 42, 43, 130, 131, 132, 133, 134, 135, 136, 137, 138, 139, 140, 141, 142, 148, 149, 150, 151, 152, 153, 154, 155, 156, 157, 158, 159, 160, 161, 162, 163, 164, 165, 166, 167, 168, 169, 170, 171, 172, 173, 143, 144, 145, 146, 147] rfl rfl
set_option maxRecDepth 20000 in
theorem gX8_ring_X8_look : GoodIn wsX8_ring (wsV RX8 148 RX8 yX8_look wsX8_look) := goodIn_app (goodIn_of _ (by decide +kernel)) ggX8_ring_X8_look
set_option maxRecDepth 20000 in
theorem ggX8_ring_X8_now : GoodIn wsX8_ring wsX8_now := goodIn_r _ [15, 16, 17, 18, 19, 20, 21, 22, 23, 130, 131, 132, 133, 134, 135, 136, 137, 138, 139, 140, 141, 142, 148, 149, 150, 151] rfl rfl
set_option maxRecDepth 20000 in
theorem gX8_ring_X8_now : GoodIn wsX8_ring (wsV RX8 88 RX8 yX8_now wsX8_now) := goodIn_app (goodIn_of _ (by decide +kernel)) ggX8_ring_X8_now
set_option maxRecDepth 20000 in
theorem ggX8_ring_X2_weigh : GoodIn wsX8_ring wsX2_weigh := goodIn_r _ [47, 29, 48, 36, 49, 50, 6, 51, 52, 53, 54, 27, 55, 56, 57, 58, 59, 60, 61, 62, 43, 42, 34, 63, 64, 65, 66, 67, 68, 69, 70, 71, 72, 73, 74, 75, 76, 77, 78, 79, 80, 81, 82, 83, 84, 85, 86, 87, 88, 89, 90, 91, 92, 93, 94, 95, 96, 97, 98, 99, 100, 152, 153, 154, 155, 156, 157, 158, 159, 160, 161, 162, 163, 164, 165, 166, 167, 168, 169, 170, 171, 172, 173, 174, 175, 176, 177, 178, 179] rfl rfl
set_option maxRecDepth 20000 in
theorem gX8_ring_X2_weigh : GoodIn wsX8_ring (wsV RX8 151 RX2 yX2_weigh wsX2_weigh) := goodIn_app (goodIn_of _ (by decide +kernel)) ggX8_ring_X2_weigh
set_option maxRecDepth 20000 in
theorem ggX8_ring_X5_claims : GoodIn wsX8_ring wsX5_claims := goodIn_r _ [105, 106, 107, 162, 163, 164, 165, 166, 167, 168, 169, 170, 171, 172, 173] rfl rfl
set_option maxRecDepth 20000 in
theorem gX8_ring_X5_claims : GoodIn wsX8_ring (wsV RX8 290 RX5 yX5_claims wsX5_claims) := goodIn_app (goodIn_of _ (by decide +kernel)) ggX8_ring_X5_claims
set_option maxRecDepth 20000 in
theorem ggX8_ring_J6_bitCount_0f7a4 : GoodIn wsX8_ring wsJ6_bitCount_0f7a4 := goodIn_r _ [73, 74, 75, 76] rfl rfl
set_option maxRecDepth 20000 in
theorem gX8_ring_J6_bitCount_0f7a4 : GoodIn wsX8_ring (va_wsS RX8 274 yJ6_bitCount_0f7a4 wsJ6_bitCount_0f7a4) := goodIn_app (goodIn_of _ (by decide +kernel)) ggX8_ring_J6_bitCount_0f7a4
set_option maxRecDepth 20000 in
theorem ggX8_ring_X2_bearsItself : GoodIn wsX8_ring wsX2_bearsItself := goodIn_r _ [112, 113, 114, 115, 27, 116, 117, 118, 119, 120, 121, 29, 48, 61, 58, 49, 50, 6, 51, 122, 123, 124, 125, 126, 42, 152, 153, 154, 155, 156, 157, 158, 159, 160, 161, 162, 163, 164, 165, 166, 167, 168, 169, 170, 171, 172, 173] rfl rfl
set_option maxRecDepth 20000 in
theorem gX8_ring_X2_bearsItself : GoodIn wsX8_ring (wsV RX8 293 RX2 yX2_bearsItself wsX2_bearsItself) := goodIn_app (goodIn_of _ (by decide +kernel)) ggX8_ring_X2_bearsItself
set_option maxRecDepth 20000 in
theorem ggX8_ring_X8_sizeOrSet : GoodIn wsX8_ring wsX8_sizeOrSet := goodIn_r _ [129, 108, 71, 72, 73, 74, 75, 76] rfl rfl
set_option maxRecDepth 20000 in
theorem gX8_ring_X8_sizeOrSet : GoodIn wsX8_ring (va_wsS RX8 267 yX8_sizeOrSet wsX8_sizeOrSet) := goodIn_app (goodIn_of _ (by decide +kernel)) ggX8_ring_X8_sizeOrSet
theorem dX8_ring_0 : decode cX8_ring 0 = .ok (.iload_n 1, 1) := by decide +kernel
theorem dX8_ring_1 : decode cX8_ring 1 = .ok (.invokestatic 234, 3) := by decide +kernel
theorem dX8_ring_4 : decode cX8_ring 4 = .ok (.ifCond .ne 5, 3) := by decide +kernel
theorem dX8_ring_7 : decode cX8_ring 7 = .ok (.iconst (-1), 1) := by decide +kernel
theorem dX8_ring_8 : decode cX8_ring 8 = .ok (.ireturn, 1) := by decide +kernel
theorem dX8_ring_9 : decode cX8_ring 9 = .ok (.aload_n 0, 1) := by decide +kernel
theorem dX8_ring_10 : decode cX8_ring 10 = .ok (.invokevirtual 148, 3) := by decide +kernel
theorem dX8_ring_13 : decode cX8_ring 13 = .ok (.aload_n 0, 1) := by decide +kernel
theorem dX8_ring_14 : decode cX8_ring 14 = .ok (.getfield 44, 3) := by decide +kernel
theorem dX8_ring_17 : decode cX8_ring 17 = .ok (.aload_n 0, 1) := by decide +kernel
theorem dX8_ring_18 : decode cX8_ring 18 = .ok (.invokevirtual 88, 3) := by decide +kernel
theorem dX8_ring_21 : decode cX8_ring 21 = .ok (.getfield 145, 3) := by decide +kernel
theorem dX8_ring_24 : decode cX8_ring 24 = .ok (.invokevirtual 151, 3) := by decide +kernel
theorem dX8_ring_27 : decode cX8_ring 27 = .ok (.aload_n 0, 1) := by decide +kernel
theorem dX8_ring_28 : decode cX8_ring 28 = .ok (.getfield 19, 3) := by decide +kernel
theorem dX8_ring_31 : decode cX8_ring 31 = .ok (.invokevirtual 290, 3) := by decide +kernel
theorem dX8_ring_34 : decode cX8_ring 34 = .ok (.istore_n 2, 1) := by decide +kernel
theorem dX8_ring_35 : decode cX8_ring 35 = .ok (.iconst (-1), 1) := by decide +kernel
theorem dX8_ring_36 : decode cX8_ring 36 = .ok (.istore_n 3, 1) := by decide +kernel
theorem dX8_ring_37 : decode cX8_ring 37 = .ok (.bipush 11, 2) := by decide +kernel
theorem dX8_ring_39 : decode cX8_ring 39 = .ok (.istore 4, 2) := by decide +kernel
theorem dX8_ring_41 : decode cX8_ring 41 = .ok (.iconst 1, 1) := by decide +kernel
theorem dX8_ring_42 : decode cX8_ring 42 = .ok (.istore 5, 2) := by decide +kernel
theorem dX8_ring_44 : decode cX8_ring 44 = .ok (.iload 5, 2) := by decide +kernel
theorem dX8_ring_46 : decode cX8_ring 46 = .ok (.iload_n 2, 1) := by decide +kernel
theorem dX8_ring_47 : decode cX8_ring 47 = .ok (.if_icmp .gt 50, 3) := by decide +kernel
theorem dX8_ring_50 : decode cX8_ring 50 = .ok (.iload 5, 2) := by decide +kernel
theorem dX8_ring_52 : decode cX8_ring 52 = .ok (.iload_n 2, 1) := by decide +kernel
theorem dX8_ring_53 : decode cX8_ring 53 = .ok (.iconst (-1), 1) := by decide +kernel
theorem dX8_ring_54 : decode cX8_ring 54 = .ok (.ixor, 1) := by decide +kernel
theorem dX8_ring_55 : decode cX8_ring 55 = .ok (.iand, 1) := by decide +kernel
theorem dX8_ring_56 : decode cX8_ring 56 = .ok (.ifCond .ne 35, 3) := by decide +kernel
theorem dX8_ring_59 : decode cX8_ring 59 = .ok (.iload 5, 2) := by decide +kernel
theorem dX8_ring_61 : decode cX8_ring 61 = .ok (.invokestatic 274, 3) := by decide +kernel
theorem dX8_ring_64 : decode cX8_ring 64 = .ok (.iload 4, 2) := by decide +kernel
theorem dX8_ring_66 : decode cX8_ring 66 = .ok (.if_icmp .ge 25, 3) := by decide +kernel
theorem dX8_ring_69 : decode cX8_ring 69 = .ok (.aload_n 0, 1) := by decide +kernel
theorem dX8_ring_70 : decode cX8_ring 70 = .ok (.getfield 44, 3) := by decide +kernel
theorem dX8_ring_73 : decode cX8_ring 73 = .ok (.iload 5, 2) := by decide +kernel
theorem dX8_ring_75 : decode cX8_ring 75 = .ok (.invokevirtual 293, 3) := by decide +kernel
theorem dX8_ring_78 : decode cX8_ring 78 = .ok (.ifCond .eq 13, 3) := by decide +kernel
theorem dX8_ring_81 : decode cX8_ring 81 = .ok (.iload 5, 2) := by decide +kernel
theorem dX8_ring_83 : decode cX8_ring 83 = .ok (.istore_n 3, 1) := by decide +kernel
theorem dX8_ring_84 : decode cX8_ring 84 = .ok (.iload 5, 2) := by decide +kernel
theorem dX8_ring_86 : decode cX8_ring 86 = .ok (.invokestatic 274, 3) := by decide +kernel
theorem dX8_ring_89 : decode cX8_ring 89 = .ok (.istore 4, 2) := by decide +kernel
theorem dX8_ring_91 : decode cX8_ring 91 = .ok (.iinc 5 1, 3) := by decide +kernel
theorem dX8_ring_94 : decode cX8_ring 94 = .ok (.goto (-50), 3) := by decide +kernel
theorem dX8_ring_97 : decode cX8_ring 97 = .ok (.iload_n 3, 1) := by decide +kernel
theorem dX8_ring_98 : decode cX8_ring 98 = .ok (.iload_n 1, 1) := by decide +kernel
theorem dX8_ring_99 : decode cX8_ring 99 = .ok (.invokestatic 267, 3) := by decide +kernel
theorem dX8_ring_102 : decode cX8_ring 102 = .ok (.ireturn, 1) := by decide +kernel
theorem dX8_moved_0 : decode cX8_moved 0 = .ok (.iload_n 1, 1) := by decide +kernel
theorem dX8_moved_1 : decode cX8_moved 1 = .ok (.iconst (-1), 1) := by decide +kernel
theorem dX8_moved_2 : decode cX8_moved 2 = .ok (.if_icmp .ne 7, 3) := by decide +kernel
theorem dX8_moved_5 : decode cX8_moved 5 = .ok (.iload_n 0, 1) := by decide +kernel
theorem dX8_moved_6 : decode cX8_moved 6 = .ok (.goto 8, 3) := by decide +kernel
theorem dX8_moved_9 : decode cX8_moved 9 = .ok (.iload_n 0, 1) := by decide +kernel
theorem dX8_moved_10 : decode cX8_moved 10 = .ok (.iconst 1, 1) := by decide +kernel
theorem dX8_moved_11 : decode cX8_moved 11 = .ok (.iload_n 1, 1) := by decide +kernel
theorem dX8_moved_12 : decode cX8_moved 12 = .ok (.ishl, 1) := by decide +kernel
theorem dX8_moved_13 : decode cX8_moved 13 = .ok (.ixor, 1) := by decide +kernel
theorem dX8_moved_14 : decode cX8_moved 14 = .ok (.ireturn, 1) := by decide +kernel
set_option maxRecDepth 20000 in
theorem ggX8_endsUp_X8_isUp : GoodIn wsX8_endsUp wsX8_isUp := goodIn_r _ [7, 8, 9, 10, 11, 12, 13, 14, 15, 16, 17, 18, 19, 20, 21, 22, 23, 6, 24, 25, 26, 27, 28, 29, 30, 31, 32, 33, 34, 35, 36, 37, 38, 39, 40, 41, 42, 43, 44, 45, 46, 47, 48, 49, 50, 51, 52, 53, 54, 55, 56, 57, 58, 59, 60, 61, 62, 63, 64, 65, 66, 67, 68, 69, 70, 71, 72, 73, 74, 75, 76, 77, 78, 79, 80, 81, 82, 83, 84, 85, 86, 87, 88, 89, 90, 91, 92, 93, 94, 95, 96, 97, 98, 99, 100, 101, 102, 103, 110, 111, 112, 113, 114, 115, 116, 117, 118, 119, 120, 121, 122, 135, 136, 137, 138, 139, 140, 141, 142, 143, 144, 123, 124, 125, 126, 127, 128, 129, 130, 131, 132, 133, 134, 145, 146, 147, 148, 149, 150] rfl rfl
set_option maxRecDepth 20000 in
theorem gX8_endsUp_X8_isUp : GoodIn wsX8_endsUp (wsV RX8 260 RX8 yX8_isUp wsX8_isUp) := goodIn_app (goodIn_of _ (by decide +kernel)) ggX8_endsUp_X8_isUp
theorem dX8_endsUp_0 : decode cX8_endsUp 0 = .ok (.iload_n 3, 1) := by decide +kernel
theorem dX8_endsUp_1 : decode cX8_endsUp 1 = .ok (.ifCond .gt 10, 3) := by decide +kernel
theorem dX8_endsUp_4 : decode cX8_endsUp 4 = .ok (.aload_n 0, 1) := by decide +kernel
theorem dX8_endsUp_5 : decode cX8_endsUp 5 = .ok (.iload_n 1, 1) := by decide +kernel
theorem dX8_endsUp_6 : decode cX8_endsUp 6 = .ok (.iload_n 2, 1) := by decide +kernel
theorem dX8_endsUp_7 : decode cX8_endsUp 7 = .ok (.invokevirtual 260, 3) := by decide +kernel
theorem dX8_endsUp_10 : decode cX8_endsUp 10 = .ok (.ireturn, 1) := by decide +kernel
theorem dX8_isZeroOrOne_0 : decode cX8_isZeroOrOne 0 = .ok (.iload_n 0, 1) := by decide +kernel
theorem dX8_isZeroOrOne_1 : decode cX8_isZeroOrOne 1 = .ok (.ifCond .eq 8, 3) := by decide +kernel
theorem dX8_isZeroOrOne_4 : decode cX8_isZeroOrOne 4 = .ok (.iload_n 0, 1) := by decide +kernel
theorem dX8_isZeroOrOne_5 : decode cX8_isZeroOrOne 5 = .ok (.iconst 1, 1) := by decide +kernel
theorem dX8_isZeroOrOne_6 : decode cX8_isZeroOrOne 6 = .ok (.if_icmp .ne 7, 3) := by decide +kernel
theorem dX8_isZeroOrOne_9 : decode cX8_isZeroOrOne 9 = .ok (.iconst 1, 1) := by decide +kernel
theorem dX8_isZeroOrOne_10 : decode cX8_isZeroOrOne 10 = .ok (.goto 4, 3) := by decide +kernel
theorem dX8_isZeroOrOne_13 : decode cX8_isZeroOrOne 13 = .ok (.iconst 0, 1) := by decide +kernel
theorem dX8_isZeroOrOne_14 : decode cX8_isZeroOrOne 14 = .ok (.ireturn, 1) := by decide +kernel
set_option maxRecDepth 20000 in
theorem ggX8_isUp_X2_standing : GoodIn wsX8_isUp wsX2_standing := goodIn_r _ [6, 7, 8, 9, 10, 11, 5, 12, 13, 14, 15, 16, 17, 18, 19, 20, 21, 22, 23, 24, 25, 26, 27, 28, 29, 30, 31, 32, 33, 34, 35, 36, 37, 38, 39, 40, 41, 42, 43, 44, 45, 46, 47, 48, 49, 50, 51, 52, 53, 54, 55, 56, 57, 58, 59, 60, 61, 62, 63, 64, 65, 66, 67, 68, 69, 70, 71, 72, 73, 74, 75, 76, 77, 78, 79, 80, 81, 82, 83, 84, 85, 86, 87, 88, 89, 90, 91, 92, 93, 94, 95, 96, 111, 112, 113, 114, 115, 116, 117, 118, 119, 120, 121, 122, 123, 124, 125, 126, 127, 128, 129, 130, 131, 132, 133, 134, 135, 136, 137, 138] rfl rfl
set_option maxRecDepth 20000 in
theorem gX8_isUp_X2_standing : GoodIn wsX8_isUp (wsV RX8 231 RX2 yX2_standing wsX2_standing) := goodIn_app (goodIn_of _ (by decide +kernel)) ggX8_isUp_X2_standing
set_option maxRecDepth 20000 in
theorem ggX8_isUp_X8_has : GoodIn wsX8_isUp wsX8_has := goodIn_r _ [18] rfl rfl
set_option maxRecDepth 20000 in
theorem gX8_isUp_X8_has : GoodIn wsX8_isUp (va_wsS RX8 220 yX8_has wsX8_has) := goodIn_app (goodIn_of _ (by decide +kernel)) ggX8_isUp_X8_has
theorem dX8_isUp_0 : decode cX8_isUp 0 = .ok (.aload_n 0, 1) := by decide +kernel
theorem dX8_isUp_1 : decode cX8_isUp 1 = .ok (.getfield 44, 3) := by decide +kernel
theorem dX8_isUp_4 : decode cX8_isUp 4 = .ok (.iload_n 2, 1) := by decide +kernel
theorem dX8_isUp_5 : decode cX8_isUp 5 = .ok (.invokevirtual 231, 3) := by decide +kernel
theorem dX8_isUp_8 : decode cX8_isUp 8 = .ok (.iload_n 1, 1) := by decide +kernel
theorem dX8_isUp_9 : decode cX8_isUp 9 = .ok (.invokestatic 220, 3) := by decide +kernel
theorem dX8_isUp_12 : decode cX8_isUp 12 = .ok (.ireturn, 1) := by decide +kernel
theorem in_X8_will_X8 : ∀ w ∈ wsX80, w ∈ wsX8_will := fun _ h => List.mem_cons_of_mem _ (List.mem_append_left _ (List.mem_append_left _ (List.mem_append_left _ (List.mem_append_left _ (List.mem_append_left _ (List.mem_append_right _ h))))))
theorem in_X8_will_X4 : ∀ w ∈ wsX40, w ∈ wsX8_will := fun _ h => List.mem_cons_of_mem _ (List.mem_append_left _ (List.mem_append_left _ (List.mem_append_left _ (List.mem_append_left _ (List.mem_append_right _ h)))))
theorem in_X8_fewest_X8 : ∀ w ∈ wsX80, w ∈ wsX8_fewest := fun _ h => List.mem_cons_of_mem _ (List.mem_append_left _ (List.mem_append_left _ (List.mem_append_left _ (List.mem_append_right _ h))))
theorem in_X8_topple_X8 : ∀ w ∈ wsX80, w ∈ wsX8_topple := fun _ h => List.mem_cons_of_mem _ (List.mem_append_left _ (List.mem_append_left _ (List.mem_append_left _ (List.mem_append_left _ (List.mem_append_left _ (List.mem_append_right _ h))))))
theorem in_X8_topple_X4 : ∀ w ∈ wsX40, w ∈ wsX8_topple := fun _ h => List.mem_cons_of_mem _ (List.mem_append_left _ (List.mem_append_left _ (List.mem_append_left _ (List.mem_append_left _ (List.mem_append_right _ h)))))
theorem in_X8_isUp_X8 : ∀ w ∈ wsX80, w ∈ wsX8_isUp := fun _ h => List.mem_cons_of_mem _ (List.mem_append_left _ (List.mem_append_left _ (List.mem_append_left _ (List.mem_append_right _ h))))
theorem in_X8_leastProp_X8 : ∀ w ∈ wsX80, w ∈ wsX8_leastProp := fun _ h => List.mem_cons_of_mem _ (List.mem_append_left _ (List.mem_append_left _ (List.mem_append_left _ (List.mem_append_left _ (List.mem_append_left _ (List.mem_append_right _ h))))))
theorem in_X8_leastProp_X4 : ∀ w ∈ wsX40, w ∈ wsX8_leastProp := fun _ h => List.mem_cons_of_mem _ (List.mem_append_left _ (List.mem_append_left _ (List.mem_append_left _ (List.mem_append_left _ (List.mem_append_right _ h)))))
theorem in_X8_pivots_X8 : ∀ w ∈ wsX80, w ∈ wsX8_pivots := fun _ h => List.mem_cons_of_mem _ (List.mem_append_left _ (List.mem_append_left _ (List.mem_append_left _ (List.mem_append_left _ (List.mem_append_left _ (List.mem_append_right _ h))))))
theorem in_X8_pivots_X5 : ∀ w ∈ wsX50, w ∈ wsX8_pivots := fun _ h => List.mem_cons_of_mem _ (List.mem_append_left _ (List.mem_append_left _ (List.mem_append_left _ (List.mem_append_right _ h))))
theorem in_X8_pivots_X4 : ∀ w ∈ wsX40, w ∈ wsX8_pivots := fun _ h => List.mem_cons_of_mem _ (List.mem_append_left _ (List.mem_append_left _ (List.mem_append_left _ (List.mem_append_left _ (List.mem_append_right _ h)))))
theorem in_X8_power_X8 : ∀ w ∈ wsX80, w ∈ wsX8_power := fun _ h => List.mem_cons_of_mem _ (List.mem_append_left _ (List.mem_append_left _ (List.mem_append_left _ (List.mem_append_left _ (List.mem_append_left _ (List.mem_append_right _ h))))))
theorem in_X8_power_X4 : ∀ w ∈ wsX40, w ∈ wsX8_power := fun _ h => List.mem_cons_of_mem _ (List.mem_append_left _ (List.mem_append_left _ (List.mem_append_left _ (List.mem_append_left _ (List.mem_append_right _ h)))))
theorem in_X2_beyond_X2 : ∀ w ∈ wsX20, w ∈ wsX2_beyond := fun _ h => List.mem_cons_of_mem _ (List.mem_append_left _ (List.mem_append_right _ h))
theorem in_X8_lack_X8 : ∀ w ∈ wsX80, w ∈ wsX8_lack := fun _ h => List.mem_cons_of_mem _ (List.mem_append_left _ (List.mem_append_left _ (List.mem_append_left _ (List.mem_append_left _ (List.mem_append_left _ (List.mem_append_right _ h))))))
theorem in_X8_rank_X8 : ∀ w ∈ wsX80, w ∈ wsX8_rank := fun _ h => List.mem_cons_of_mem _ (List.mem_append_left _ (List.mem_append_left _ (List.mem_append_left _ (List.mem_append_left _ (List.mem_append_left _ (List.mem_append_right _ h))))))
theorem in_X8_rank_X2 : ∀ w ∈ wsX20, w ∈ wsX8_rank := fun _ h => List.mem_cons_of_mem _ (List.mem_append_left _ (List.mem_append_left _ (List.mem_append_left _ (List.mem_append_left _ (List.mem_append_right _ h)))))
theorem in_X8_ring_X8 : ∀ w ∈ wsX80, w ∈ wsX8_ring := fun _ h => List.mem_cons_of_mem _ (List.mem_append_left _ (List.mem_append_left _ (List.mem_append_left _ (List.mem_append_left _ (List.mem_append_left _ (List.mem_append_right _ h))))))
theorem in_X8_ring_X4 : ∀ w ∈ wsX40, w ∈ wsX8_ring := fun _ h => List.mem_cons_of_mem _ (List.mem_append_left _ (List.mem_append_left _ (List.mem_append_left _ (List.mem_append_left _ (List.mem_append_right _ h)))))
set_option maxHeartbeats 4000000 in
set_option maxRecDepth 100000 in
theorem s_X2_take_1 (l : Launch) (B0 : Nat) (adK adV : Nat → Nat) (D : va_G) (cy : Nat → ClassId) (ad : Nat → Nat) (fr0 : Nat → va_E) (tx : Int32) (rby : Int32) (rnx : Int32) (f : Nat → va_E) (hT : TYx ad cy fr0 tx rby rnx f) (q1 : Nat) (hq1 : isSuit q1) (sz : Nat) : TtV l yX2_take wsX2_take 1 60 [.ref (ad 10), .ref (ad q1), .ref (ad 7)] B0 adK adV D cy ad f sz (fun (g : Nat → va_E) => True ∧ (TYx ad cy fr0 tx rby rnx g)) := by
  refine TtV.of (cc := cX2_take) (maxL := 3) (own := RX2) (by decide) rfl (Nat.le_of_ble_eq_true rfl) rfl ?_
  intro p e s m below meth c A ls hx hb hr hml hts hown hlk hK hE hP hD hS hA hAB hl
  have hl : lv_has ls 3 [(0, .ref (ad 10)), (1, .ref (ad q1)), (2, .ref (ad 7))] := hl
  refine st0 (fun H locs hP hS => ?_) hP hS
  refine lv_aload_n hx hb dX2_take_0 rfl (lv_at hl 0 rfl) ?_
  refine lv_aload_n hx hb dX2_take_1 rfl (lv_at hl 1 rfl) ?_
  obtain ⟨x1, t2, x4, x5, e6, h3⟩ := (show okX2 ad 10 (f 10) from hT.1 10 (by decide))
  refine va_put (D := D) (cl := vwCl) (ci := 2) (v := .ref (ad q1)) (ty := tyX2 4) (C := RX2) (T := TX2) (N := 10) hx hb hts in_X2_take_X2 tyX2 tyX2_ok nmX2 hown hK hP hD hS 10 (wl_at (by decide) e6) rfl 4 (by decide) (hts (.fieldLink RX2 24 "EightReasons$Loom" "suit" "LEightReasons$Suit;") (List.mem_of_getElem? (i := 1) rfl)) (fun _ h9 => h9) rfl (tyX2_ok 4 (by decide)) rfl rfl (Nat.le_of_ble_eq_true rfl) dX2_take_2 (fun H locs hP hD hS => ?_)
  obtain ⟨f, hT, hP, hD, e7, hj8⟩ := stU (by decide) (TYx.up hT (by decide) (show OKx ad cy tx rby rnx 10 _ from (show okX2 ad 10 _ from ⟨x1, q1, x4, x5, rfl, hq1⟩))) hP hD
  refine lv_aload_n hx hb dX2_take_5 rfl (lv_at hl 0 rfl) ?_
  refine lv_aload_n hx hb dX2_take_6 rfl (lv_at hl 1 rfl) ?_
  obtain ⟨x9, x11, x12, x14, x15, e16, h10, h13⟩ := (ty_suit hT hq1)
  refine va_get (D := D) (cl := vwCl) (ci := 5) (v := .int x11) (C := RX5) (T := TX5) (N := 12) hx hb hts in_X2_take_X5 hown hK hP q1 (wl_at (x_lt (x_suit0 hq1)) e16) rfl 1 (by decide) (hts (.fieldLink RX2 37 "EightReasons$Suit" "facts" "I") (List.mem_of_getElem? (i := 2) rfl)) (fun _ h9 => h9) rfl dX2_take_7 ?_
  refine lv_aload_n hx hb dX2_take_10 rfl (lv_at hl 2 rfl) ?_
  obtain ⟨x17, x19, x20, x21, e22, h18⟩ := (show okX4 ad 7 (f 7) from hT.1 7 (by decide))
  refine va_get (D := D) (cl := vwCl) (ci := 4) (v := .int x19) (C := RX4) (T := TX4) (N := 5) hx hb hts in_X2_take_X4 hown hK hP 7 (wl_at (by decide) e22) rfl 2 (by decide) (hts (.fieldLink RX2 41 "EightReasons$State" "struck" "I") (List.mem_of_getElem? (i := 3) rfl)) (fun _ h9 => h9) rfl dX2_take_11 ?_
  refine lv_iconst (v := (-1)) hx hb dX2_take_14 (by decide) ?_
  refine lv_ixor hx hb dX2_take_15 ?_
  refine lv_topi (fun x23 ex23 => ?_)
  refine lv_iand hx hb dX2_take_16 ?_
  refine lv_topi (fun x24 ex24 => ?_)
  refine va_put (D := D) (cl := vwCl) (ci := 2) (v := .int x24) (ty := tyX2 0) (C := RX2) (T := TX2) (N := 10) hx hb hts in_X2_take_X2 tyX2 tyX2_ok nmX2 hown hK hP hD hS 10 (wl_at (by decide) e7) rfl 0 (by decide) (hts (.fieldLink RX2 46 "EightReasons$Loom" "proved" "I") (List.mem_of_getElem? (i := 4) rfl)) (fun _ h9 => h9) rfl (tyX2_ok 0 (by decide)) rfl rfl (Nat.le_of_ble_eq_true rfl) dX2_take_17 (fun H locs hP hD hS => ?_)
  obtain ⟨f, hT, hP, hD, e25, hj26⟩ := stU (by decide) (TYx.up hT (by decide) (show OKx ad cy tx rby rnx 10 _ from (show okX2 ad 10 _ from ⟨x24, q1, x4, x5, rfl, hq1⟩))) hP hD
  have e27 := (hj26 7 (by decide)).trans e22
  refine lv_aload_n hx hb dX2_take_20 rfl (lv_at hl 0 rfl) ?_
  refine lv_aload_n hx hb dX2_take_21 rfl (lv_at hl 2 rfl) ?_
  refine va_get (D := D) (cl := vwCl) (ci := 4) (v := .int x20) (C := RX4) (T := TX4) (N := 5) hx hb hts in_X2_take_X4 hown hK hP 7 (wl_at (by decide) e27) rfl 3 (by decide) (hts (.fieldLink RX2 49 "EightReasons$State" "day" "I") (List.mem_of_getElem? (i := 5) rfl)) (fun _ h9 => h9) rfl dX2_take_22 ?_
  refine va_put (D := D) (cl := vwCl) (ci := 2) (v := .int x20) (ty := tyX2 5) (C := RX2) (T := TX2) (N := 10) hx hb hts in_X2_take_X2 tyX2 tyX2_ok nmX2 hown hK hP hD hS 10 (wl_at (by decide) e25) rfl 5 (by decide) (hts (.fieldLink RX2 52 "EightReasons$Loom" "day" "I") (List.mem_of_getElem? (i := 6) rfl)) (fun _ h9 => h9) rfl (tyX2_ok 5 (by decide)) rfl rfl (Nat.le_of_ble_eq_true rfl) dX2_take_25 (fun H locs hP hD hS => ?_)
  obtain ⟨f, hT, hP, hD, e28, hj29⟩ := stU (by decide) (TYx.up hT (by decide) (show OKx ad cy tx rby rnx 10 _ from (show okX2 ad 10 _ from ⟨x24, q1, x20, x5, rfl, hq1⟩))) hP hD
  have e30 := (hj29 7 (by decide)).trans e27
  refine lv_aload_n hx hb dX2_take_28 rfl (lv_at hl 2 rfl) ?_
  refine va_get (D := D) (cl := vwCl) (ci := 4) (v := .ref (ad 8)) (C := RX4) (T := TX4) (N := 5) hx hb hts in_X2_take_X4 hown hK hP 7 (wl_at (by decide) e30) rfl 0 (by decide) (hts (.fieldLink RX2 53 "EightReasons$State" "strong" "[I") (List.mem_of_getElem? (i := 7) rfl)) (fun _ h9 => h9) rfl dX2_take_29 ?_
  refine lv_iconst (v := 0) hx hb dX2_take_32 (by decide) ?_
  refine lv_aload_n hx hb dX2_take_33 rfl (lv_at hl 0 rfl) ?_
  refine va_get (D := D) (cl := vwCl) (ci := 2) (v := .ref (ad 14)) (C := RX2) (T := TX2) (N := 10) hx hb hts in_X2_take_X2 hown hK hP 10 (wl_at (by decide) e28) rfl 6 (by decide) (hts (.fieldLink RX2 28 "EightReasons$Loom" "strong" "[I") (List.mem_of_getElem? (i := 8) rfl)) (fun _ h9 => h9) rfl dX2_take_34 ?_
  refine lv_iconst (v := 0) hx hb dX2_take_37 (by decide) ?_
  refine lv_bipush (v := 12) hx hb dX2_take_38 (by decide) ?_
  obtain ⟨g32, e31⟩ := (show okI cy 12 (f 8) from hT.1 8 (by decide))
  obtain ⟨g34, e33⟩ := (show okI cy 12 (f 14) from hT.1 14 (by decide))
  refine va_copyi hx hb (hml.trans hl.1.symm) hown (hts (.methodLink RX2 54 arraycopyName) (List.mem_of_getElem? (i := 9) rfl)) (hts (.native arraycopyName) (List.mem_of_getElem? (i := 10) rfl)) (hts (.static arraycopyName) (List.mem_of_getElem? (i := 11) rfl)) (hts (.initialized "java/lang/System") (List.mem_of_getElem? (i := 12) rfl)) hK hP hD hS 8 14 0 0 (ty := .int) (wl_at (by decide) e31) (wl_at (by decide) e33) rfl rfl rfl (by decide) (by decide) (by decide) (by decide) (by decide) (fun _ _ => rfl) (Nat.le_of_ble_eq_true rfl) (Nat.le_of_ble_eq_true rfl) dX2_take_40 (fun H locs hP hD hS => ?_)
  obtain ⟨f, hT, hP, hD, e35, hj36⟩ := stU (by decide) (TYx.up hT (by decide) (show OKx ad cy tx rby rnx 14 _ from (show okI cy 12 _ from ⟨_, rfl⟩))) hP hD
  have e37 := (hj36 7 (by decide)).trans e30
  have e38 := (hj36 10 (by decide)).trans e28
  have e39 := (hj36 8 (by decide)).trans e31
  refine lv_aload_n hx hb dX2_take_43 rfl (lv_at hl 1 rfl) ?_
  obtain ⟨x40, x42, x43, x45, x46, e47, h41, h44⟩ := (ty_suit hT hq1)
  refine va_get (D := D) (cl := vwCl) (ci := 5) (v := .ref (ad (q1 + 1))) (C := RX5) (T := TX5) (N := 12) hx hb hts in_X2_take_X5 hown hK hP q1 (wl_at (x_lt (x_suit0 hq1)) e47) rfl 5 (by decide) (hts (.fieldLink RX2 60 "EightReasons$Suit" "needs" "[I") (List.mem_of_getElem? (i := 13) rfl)) (fun _ h9 => h9) rfl dX2_take_44 ?_
  refine lv_iconst (v := 0) hx hb dX2_take_47 (by decide) ?_
  refine lv_aload_n hx hb dX2_take_48 rfl (lv_at hl 0 rfl) ?_
  refine va_get (D := D) (cl := vwCl) (ci := 2) (v := .ref (ad 15)) (C := RX2) (T := TX2) (N := 10) hx hb hts in_X2_take_X2 hown hK hP 10 (wl_at (by decide) e38) rfl 7 (by decide) (hts (.fieldLink RX2 31 "EightReasons$Loom" "needs" "[I") (List.mem_of_getElem? (i := 14) rfl)) (fun _ h9 => h9) rfl dX2_take_49 ?_
  refine lv_iconst (v := 0) hx hb dX2_take_52 (by decide) ?_
  refine lv_bipush (v := 10) hx hb dX2_take_53 (by decide) ?_
  obtain ⟨g49, e48⟩ := (ty_suit1 hT hq1)
  obtain ⟨g51, e50⟩ := (show okI cy 10 (f 15) from hT.1 15 (by decide))
  refine va_copyi hx hb (hml.trans hl.1.symm) hown (hts (.methodLink RX2 54 arraycopyName) (List.mem_of_getElem? (i := 9) rfl)) (hts (.native arraycopyName) (List.mem_of_getElem? (i := 10) rfl)) (hts (.static arraycopyName) (List.mem_of_getElem? (i := 11) rfl)) (hts (.initialized "java/lang/System") (List.mem_of_getElem? (i := 12) rfl)) hK hP hD hS (q1 + 1) 15 0 0 (ty := .int) (wl_at (x_lt (x_suit hq1 (by decide))) e48) (wl_at (by decide) e50) rfl rfl rfl (by decide) (by decide) (by decide) (by decide) (by decide) (fun _ _ => rfl) (Nat.le_of_ble_eq_true rfl) (Nat.le_of_ble_eq_true rfl) dX2_take_55 (fun H locs hP hD hS => ?_)
  obtain ⟨f, hT, hP, hD, e52, hj53⟩ := stU (by decide) (TYx.up hT (by decide) (show OKx ad cy tx rby rnx 15 _ from (show okI cy 10 _ from ⟨_, rfl⟩))) hP hD
  have e54 := (hj53 7 (by decide)).trans e37
  have e55 := (hj53 10 (by decide)).trans e38
  have e56 := (hj53 8 (by decide)).trans e39
  refine lv_aload_n hx hb dX2_take_58 rfl (lv_at hl 0 rfl) ?_
  refine lv_dup hx hb dX2_take_59 rfl ?_
  refine va_get (D := D) (cl := vwCl) (ci := 2) (v := .int x5) (C := RX2) (T := TX2) (N := 10) hx hb hts in_X2_take_X2 hown hK hP 10 (wl_at (by decide) e55) rfl 9 (by decide) (hts (.fieldLink RX2 61 "EightReasons$Loom" "era" "I") (List.mem_of_getElem? (i := 15) rfl)) (fun _ h9 => h9) rfl dX2_take_60 ?_
  refine lv_iconst (v := 1) hx hb dX2_take_63 (by decide) ?_
  refine lv_iadd hx hb dX2_take_64 ?_
  refine lv_topi (fun x57 ex57 => ?_)
  refine va_put (D := D) (cl := vwCl) (ci := 2) (v := .int x57) (ty := tyX2 9) (C := RX2) (T := TX2) (N := 10) hx hb hts in_X2_take_X2 tyX2 tyX2_ok nmX2 hown hK hP hD hS 10 (wl_at (by decide) e55) rfl 9 (by decide) (hts (.fieldLink RX2 61 "EightReasons$Loom" "era" "I") (List.mem_of_getElem? (i := 15) rfl)) (fun _ h9 => h9) rfl (tyX2_ok 9 (by decide)) rfl rfl (Nat.le_of_ble_eq_true rfl) dX2_take_65 (fun H locs hP hD hS => ?_)
  obtain ⟨f, hT, hP, hD, e58, hj59⟩ := stU (by decide) (TYx.up hT (by decide) (show OKx ad cy tx rby rnx 10 _ from (show okX2 ad 10 _ from ⟨x24, q1, x20, x57, rfl, hq1⟩))) hP hD
  have e60 := (hj59 7 (by decide)).trans e54
  have e61 := (hj59 8 (by decide)).trans e56
  exact tV hx hb hr hlk hP hS ⟨trivial, hT⟩ dX2_take_68
set_option maxHeartbeats 4000000 in
set_option maxRecDepth 100000 in
theorem s_X4_copy_1 (l : Launch) (B0 : Nat) (adK adV : Nat → Nat) (D : va_G) (cy : Nat → ClassId) (ad : Nat → Nat) (fr0 : Nat → va_E) (tx : Int32) (rby : Int32) (rnx : Int32) (f : Nat → va_E) (hT : TYx ad cy fr0 tx rby rnx f) (q1 : Nat) (hq1 : isState q1) (sz : Nat) : TtV l yX4_copy wsX4_copy 1 60 [.ref (ad 7), .ref (ad q1)] B0 adK adV D cy ad f sz (fun (g : Nat → va_E) => True ∧ (TYx ad cy fr0 tx rby rnx g)) := by
  refine TtV.of (cc := cX4_copy) (maxL := 2) (own := RX4) (by decide) rfl (Nat.le_of_ble_eq_true rfl) rfl ?_
  intro p e s m below meth c A ls hx hb hr hml hts hown hlk hK hE hP hD hS hA hAB hl
  have hl : lv_has ls 2 [(0, .ref (ad 7)), (1, .ref (ad q1))] := hl
  refine st0 (fun H locs hP hS => ?_) hP hS
  refine lv_aload_n hx hb dX4_copy_0 rfl (lv_at hl 1 rfl) ?_
  obtain ⟨x1, x3, x4, x5, e6, h2⟩ := (ty_state hT hq1)
  refine va_get (D := D) (cl := vwCl) (ci := 4) (v := .ref (ad (q1 + 1))) (C := RX4) (T := TX4) (N := 5) hx hb hts in_X4_copy_X4 hown hK hP q1 (wl_at (x_lt (x_state0 hq1)) e6) rfl 0 (by decide) (hts (.fieldLink RX4 9 "EightReasons$State" "strong" "[I") (List.mem_of_getElem? (i := 1) rfl)) (fun _ h9 => h9) rfl dX4_copy_1 ?_
  refine lv_iconst (v := 0) hx hb dX4_copy_4 (by decide) ?_
  refine lv_aload_n hx hb dX4_copy_5 rfl (lv_at hl 0 rfl) ?_
  obtain ⟨x7, x9, x10, x11, e12, h8⟩ := (show okX4 ad 7 (f 7) from hT.1 7 (by decide))
  refine va_get (D := D) (cl := vwCl) (ci := 4) (v := .ref (ad 8)) (C := RX4) (T := TX4) (N := 5) hx hb hts in_X4_copy_X4 hown hK hP 7 (wl_at (by decide) e12) rfl 0 (by decide) (hts (.fieldLink RX4 9 "EightReasons$State" "strong" "[I") (List.mem_of_getElem? (i := 1) rfl)) (fun _ h9 => h9) rfl dX4_copy_6 ?_
  refine lv_iconst (v := 0) hx hb dX4_copy_9 (by decide) ?_
  refine lv_bipush (v := 12) hx hb dX4_copy_10 (by decide) ?_
  obtain ⟨g14, e13⟩ := (ty_strow hT hq1)
  obtain ⟨g16, e15⟩ := (show okI cy 12 (f 8) from hT.1 8 (by decide))
  refine va_copyi hx hb (hml.trans hl.1.symm) hown (hts (.methodLink RX4 18 arraycopyName) (List.mem_of_getElem? (i := 2) rfl)) (hts (.native arraycopyName) (List.mem_of_getElem? (i := 3) rfl)) (hts (.static arraycopyName) (List.mem_of_getElem? (i := 4) rfl)) (hts (.initialized "java/lang/System") (List.mem_of_getElem? (i := 5) rfl)) hK hP hD hS (q1 + 1) 8 0 0 (ty := .int) (wl_at (x_lt (x_state hq1 (by decide))) e13) (wl_at (by decide) e15) rfl rfl rfl (by decide) (by decide) (by decide) (by decide) (by decide) (fun _ _ => rfl) (Nat.le_of_ble_eq_true rfl) (Nat.le_of_ble_eq_true rfl) dX4_copy_12 (fun H locs hP hD hS => ?_)
  obtain ⟨f, hT, hP, hD, e17, hj18⟩ := stU (by decide) (TYx.up hT (by decide) (show OKx ad cy tx rby rnx 8 _ from (show okI cy 12 _ from ⟨_, rfl⟩))) hP hD
  have e19 := (hj18 7 (by decide)).trans e12
  refine lv_aload_n hx hb dX4_copy_15 rfl (lv_at hl 0 rfl) ?_
  refine lv_aload_n hx hb dX4_copy_16 rfl (lv_at hl 1 rfl) ?_
  obtain ⟨x20, x22, x23, x24, e25, h21⟩ := (ty_state hT hq1)
  refine va_get (D := D) (cl := vwCl) (ci := 4) (v := .int x20) (C := RX4) (T := TX4) (N := 5) hx hb hts in_X4_copy_X4 hown hK hP q1 (wl_at (x_lt (x_state0 hq1)) e25) rfl 1 (by decide) (hts (.fieldLink RX4 28 "EightReasons$State" "tied" "I") (List.mem_of_getElem? (i := 6) rfl)) (fun _ h9 => h9) rfl dX4_copy_17 ?_
  refine va_put (D := D) (cl := vwCl) (ci := 4) (v := .int x20) (ty := tyX4 1) (C := RX4) (T := TX4) (N := 5) hx hb hts in_X4_copy_X4 tyX4 tyX4_ok nmX4 hown hK hP hD hS 7 (wl_at (by decide) e19) rfl 1 (by decide) (hts (.fieldLink RX4 28 "EightReasons$State" "tied" "I") (List.mem_of_getElem? (i := 6) rfl)) (fun _ h9 => h9) rfl (tyX4_ok 1 (by decide)) rfl rfl (Nat.le_of_ble_eq_true rfl) dX4_copy_20 (fun H locs hP hD hS => ?_)
  obtain ⟨f, hT, hP, hD, e26, hj27⟩ := stU (by decide) (TYx.up hT (by decide) (show OKx ad cy tx rby rnx 7 _ from (show okX4 ad 7 _ from ⟨x20, x9, x10, x11, rfl, by omega⟩))) hP hD
  refine lv_aload_n hx hb dX4_copy_23 rfl (lv_at hl 0 rfl) ?_
  refine lv_aload_n hx hb dX4_copy_24 rfl (lv_at hl 1 rfl) ?_
  obtain ⟨x28, x30, x31, x32, e33, h29⟩ := (ty_state hT hq1)
  refine va_get (D := D) (cl := vwCl) (ci := 4) (v := .int x30) (C := RX4) (T := TX4) (N := 5) hx hb hts in_X4_copy_X4 hown hK hP q1 (wl_at (x_lt (x_state0 hq1)) e33) rfl 2 (by decide) (hts (.fieldLink RX4 32 "EightReasons$State" "struck" "I") (List.mem_of_getElem? (i := 7) rfl)) (fun _ h9 => h9) rfl dX4_copy_25 ?_
  refine va_put (D := D) (cl := vwCl) (ci := 4) (v := .int x30) (ty := tyX4 2) (C := RX4) (T := TX4) (N := 5) hx hb hts in_X4_copy_X4 tyX4 tyX4_ok nmX4 hown hK hP hD hS 7 (wl_at (by decide) e26) rfl 2 (by decide) (hts (.fieldLink RX4 32 "EightReasons$State" "struck" "I") (List.mem_of_getElem? (i := 7) rfl)) (fun _ h9 => h9) rfl (tyX4_ok 2 (by decide)) rfl rfl (Nat.le_of_ble_eq_true rfl) dX4_copy_28 (fun H locs hP hD hS => ?_)
  obtain ⟨f, hT, hP, hD, e34, hj35⟩ := stU (by decide) (TYx.up hT (by decide) (show OKx ad cy tx rby rnx 7 _ from (show okX4 ad 7 _ from ⟨x20, x30, x10, x11, rfl, by omega⟩))) hP hD
  refine lv_aload_n hx hb dX4_copy_31 rfl (lv_at hl 0 rfl) ?_
  refine lv_aload_n hx hb dX4_copy_32 rfl (lv_at hl 1 rfl) ?_
  obtain ⟨x36, x38, x39, x40, e41, h37⟩ := (ty_state hT hq1)
  refine va_get (D := D) (cl := vwCl) (ci := 4) (v := .int x39) (C := RX4) (T := TX4) (N := 5) hx hb hts in_X4_copy_X4 hown hK hP q1 (wl_at (x_lt (x_state0 hq1)) e41) rfl 3 (by decide) (hts (.fieldLink RX4 35 "EightReasons$State" "day" "I") (List.mem_of_getElem? (i := 8) rfl)) (fun _ h9 => h9) rfl dX4_copy_33 ?_
  refine va_put (D := D) (cl := vwCl) (ci := 4) (v := .int x39) (ty := tyX4 3) (C := RX4) (T := TX4) (N := 5) hx hb hts in_X4_copy_X4 tyX4 tyX4_ok nmX4 hown hK hP hD hS 7 (wl_at (by decide) e34) rfl 3 (by decide) (hts (.fieldLink RX4 35 "EightReasons$State" "day" "I") (List.mem_of_getElem? (i := 8) rfl)) (fun _ h9 => h9) rfl (tyX4_ok 3 (by decide)) rfl rfl (Nat.le_of_ble_eq_true rfl) dX4_copy_36 (fun H locs hP hD hS => ?_)
  obtain ⟨f, hT, hP, hD, e42, hj43⟩ := stU (by decide) (TYx.up hT (by decide) (show OKx ad cy tx rby rnx 7 _ from (show okX4 ad 7 _ from ⟨x20, x30, x39, x11, rfl, by omega⟩))) hP hD
  refine lv_aload_n hx hb dX4_copy_39 rfl (lv_at hl 0 rfl) ?_
  refine lv_aload_n hx hb dX4_copy_40 rfl (lv_at hl 1 rfl) ?_
  obtain ⟨x44, x46, x47, x48, e49, h45⟩ := (ty_state hT hq1)
  refine va_get (D := D) (cl := vwCl) (ci := 4) (v := .int x48) (C := RX4) (T := TX4) (N := 5) hx hb hts in_X4_copy_X4 hown hK hP q1 (wl_at (x_lt (x_state0 hq1)) e49) rfl 4 (by decide) (hts (.fieldLink RX4 41 "EightReasons$State" "seed" "I") (List.mem_of_getElem? (i := 9) rfl)) (fun _ h9 => h9) rfl dX4_copy_41 ?_
  refine va_put (D := D) (cl := vwCl) (ci := 4) (v := .int x48) (ty := tyX4 4) (C := RX4) (T := TX4) (N := 5) hx hb hts in_X4_copy_X4 tyX4 tyX4_ok nmX4 hown hK hP hD hS 7 (wl_at (by decide) e42) rfl 4 (by decide) (hts (.fieldLink RX4 41 "EightReasons$State" "seed" "I") (List.mem_of_getElem? (i := 9) rfl)) (fun _ h9 => h9) rfl (tyX4_ok 4 (by decide)) rfl rfl (Nat.le_of_ble_eq_true rfl) dX4_copy_44 (fun H locs hP hD hS => ?_)
  obtain ⟨f, hT, hP, hD, e50, hj51⟩ := stU (by decide) (TYx.up hT (by decide) (show OKx ad cy tx rby rnx 7 _ from (show okX4 ad 7 _ from ⟨x20, x30, x39, x48, rfl, by omega⟩))) hP hD
  exact tV hx hb hr hlk hP hS ⟨trivial, hT⟩ dX4_copy_47
set_option maxHeartbeats 4000000 in
set_option maxRecDepth 100000 in
theorem s_X4_pass_1 (l : Launch) (B0 : Nat) (adK adV : Nat → Nat) (D : va_G) (cy : Nat → ClassId) (ad : Nat → Nat) (fr0 : Nat → va_E) (tx : Int32) (rby : Int32) (rnx : Int32) (f : Nat → va_E) (hT : TYx ad cy fr0 tx rby rnx f) (q1 : Nat) (hq1 : isSuit q1) (sz : Nat) : TtI l yX4_pass wsX4_pass 1 21 [.ref (ad 7), .ref (ad q1)] B0 adK adV D cy ad f sz (fun (r : Int32) (g : Nat → va_E) => (0 ≤ r.toInt ∧ r.toInt ≤ 4095) ∧ (TYx ad cy fr0 tx rby rnx g)) := by
  refine TtI.of (cc := cX4_pass) (maxL := 4) (ty := .int) (own := RX4) (by decide) rfl (Nat.le_of_ble_eq_true rfl) rfl ?_
  intro p e s m below meth c A ls hx hb hr hml hts hown hlk hK hE hP hD hS hA hAB hl
  have hl : lv_has ls 4 [(0, .ref (ad 7)), (1, .ref (ad q1))] := hl
  refine st0 (fun H locs hP hS => ?_) hP hS
  have j14 : ∀ (N : Nat) (f : Nat → va_E) (H : Heap) (locs : List Loc) (ls : Array Slot) (v14_l3 : Int32) (v14_l2 : Int32), (13 - v14_l3.toInt ≤ (N : Int)) → (0 ≤ v14_l3.toInt ∧ v14_l3.toInt ≤ 12) → (0 ≤ v14_l2.toInt ∧ v14_l2.toInt ≤ 4095) → (TYx ad cy fr0 tx rby rnx f) → (va_P D vwCl (wl ad f) H) → (va_D A (wl ad f)) → (va_S A s.heap H locs) → (lv_has ls 4 [(3, .int v14_l3), (2, .int v14_l2), (0, .ref (ad 7)), (1, .ref (ad q1))]) → W p l e (rmO 1 21 0 0) s m ([.ref (ad 7), .ref (ad q1)] : List Value).toArray below meth c H locs 0 0 (MQ below (va_Qi (fun (r : Int32) (g : Nat → va_E) => (0 ≤ r.toInt ∧ r.toInt ≤ 4095) ∧ (TYx ad cy fr0 tx rby rnx g)) (fun g t => PstT D ad g t) A) ([.ref (ad 7), .ref (ad q1)] : List Value).toArray s 0 0 A) (F0 m 14 ls []) := by
    intro N
    induction N with
    | zero => intro f H locs ls v14_l3 v14_l2 hN hv14_l3 hv14_l2 hT hP hD hS hl; exact absurd hN (by omega)
    | succ N ih14 =>
      intro f H locs ls v14_l3 v14_l2 hN hv14_l3 hv14_l2 hT hP hD hS hl
      have j91 : ∀ (f : Nat → va_E) (H : Heap) (locs : List Loc) (ls : Array Slot) (v91_l2 : Int32), (0 ≤ v14_l3.toInt ∧ v14_l3.toInt ≤ 11) → (0 ≤ v91_l2.toInt ∧ v91_l2.toInt ≤ 4095) → (TYx ad cy fr0 tx rby rnx f) → (va_P D vwCl (wl ad f) H) → (va_D A (wl ad f)) → (va_S A s.heap H locs) → (lv_has ls 4 [(3, .int v14_l3), (2, .int v91_l2), (0, .ref (ad 7)), (1, .ref (ad q1))]) → W p l e (rmO 1 21 0 0) s m ([.ref (ad 7), .ref (ad q1)] : List Value).toArray below meth c H locs 0 0 (MQ below (va_Qi (fun (r : Int32) (g : Nat → va_E) => (0 ≤ r.toInt ∧ r.toInt ≤ 4095) ∧ (TYx ad cy fr0 tx rby rnx g)) (fun g t => PstT D ad g t) A) ([.ref (ad 7), .ref (ad q1)] : List Value).toArray s 0 0 A) (F0 m 91 ls []) := by
        intro f H locs ls v91_l2 hv91_l3 hv91_l2 hT hP hD hS hl
        obtain ⟨x1, ex1⟩ : ∃ q : Int32, q = v14_l3 + Int32.ofInt (1) := ⟨_, rfl⟩
        refine lv_iinc (v := x1) (lv' := [(3, .int x1), (2, .int v91_l2), (0, .ref (ad 7)), (1, .ref (ad q1))]) hx hb dX4_pass_91 hl (k := 0) rfl ex1.symm (by decide) rfl (fun ls hl => ?_)
        have hx1 := r_inc ex1 (by decide) (by omega) (by omega)
        refine lv_goto (tgt := 14) hx hb dX4_pass_94 (by decide) ?_
        exact ih14 f H locs ls x1 v91_l2 (by omega) (by omega) (by omega) hT hP hD hS (lv_sub hl [0, 1, 2, 3] rfl)
      refine lv_iload_n hx hb dX4_pass_14 rfl (lv_at hl 0 rfl) ?_
      refine lv_aload_n hx hb dX4_pass_15 rfl (lv_at hl 3 rfl) ?_
      obtain ⟨x2, x4, x5, x7, x8, e9, h3, h6⟩ := (ty_suit hT hq1)
      refine va_get (D := D) (cl := vwCl) (ci := 5) (v := .int x5) (C := RX5) (T := TX5) (N := 12) hx hb hts in_X4_pass_X5 hown hK hP q1 (wl_at (x_lt (x_suit0 hq1)) e9) rfl 2 (by decide) (hts (.fieldLink RX4 44 "EightReasons$Suit" "strands" "I") (List.mem_of_getElem? (i := 2) rfl)) (fun _ h9 => h9) rfl dX4_pass_16 ?_
      refine lv_icmp_ge (tgt := 97) hx hb dX4_pass_19 (by decide) (fun c10 => ?_) (fun c10 => ?_)
      · have kc10 := c_le c10
        refine lv_iload_n hx hb dX4_pass_97 rfl (lv_at hl 1 rfl) ?_
        exact tI hx hb hr hlk rfl hP hS ⟨(by omega), hT⟩ dX4_pass_98
      · have kc10 := c_nle c10
        refine lv_aload_n hx hb dX4_pass_22 rfl (lv_at hl 2 rfl) ?_
        obtain ⟨x11, x13, x14, x15, e16, h12⟩ := (show okX4 ad 7 (f 7) from hT.1 7 (by decide))
        refine va_get (D := D) (cl := vwCl) (ci := 4) (v := .int x11) (C := RX4) (T := TX4) (N := 5) hx hb hts in_X4_pass_X4 hown hK hP 7 (wl_at (by decide) e16) rfl 1 (by decide) (hts (.fieldLink RX4 28 "EightReasons$State" "tied" "I") (List.mem_of_getElem? (i := 3) rfl)) (fun _ h9 => h9) rfl dX4_pass_23 ?_
        refine lv_iload_n hx hb dX4_pass_26 rfl (lv_at hl 0 rfl) ?_
        refine tNI (As := [.int x11, .int v14_l3]) (rest := []) (host := RX8) ⟨hx, hb, hml, hown, hts⟩ hK hE hP hD hS hA hAB (s_X8_has_0 l B0 adK adV D cy ad f x11 v14_l3 _) ⟨va_cnB 2 hts gX4_pass_X8_has_n47 rfl rfl rfl (hE.2.1 _ (List.mem_of_getElem? (i := 10) rfl)) (hts (.initialized RX8) (List.mem_of_getElem? (i := 8) rfl)) (by decide +kernel) ⟨Nat.le_of_ble_eq_true rfl, Nat.le_of_ble_eq_true rfl⟩, (hts (.static yX8_has) (List.mem_of_getElem? (i := 7) rfl)), trivial⟩ rfl hl.1 rfl (Nat.le_of_ble_eq_true rfl) dX4_pass_27 ⟨Nat.le_of_ble_eq_true rfl, Nat.le_of_ble_eq_true rfl⟩ (fun r g H locs hw hP hD hS => ?_)
        obtain ⟨hrs, rfl⟩ := hw
        obtain ⟨x17, rfl⟩ : ∃ q, q = r := ⟨_, rfl⟩
        rcases hrs with rfl | rfl
        · refine lv_if_eq (tgt := 91) hx hb dX4_pass_30 (by decide) (fun c => absurd c (by decide)) (fun _ => ?_)
          refine lv_aload_n hx hb dX4_pass_33 rfl (lv_at hl 2 rfl) ?_
          refine va_get (D := D) (cl := vwCl) (ci := 4) (v := .ref (ad 8)) (C := RX4) (T := TX4) (N := 5) hx hb hts in_X4_pass_X4 hown hK hP 7 (wl_at (by decide) e16) rfl 0 (by decide) (hts (.fieldLink RX4 9 "EightReasons$State" "strong" "[I") (List.mem_of_getElem? (i := 4) rfl)) (fun _ h9 => h9) rfl dX4_pass_34 ?_
          refine lv_iload_n hx hb dX4_pass_37 rfl (lv_at hl 0 rfl) ?_
          obtain ⟨g19, e18⟩ := (show okI cy 12 (f 8) from hT.1 8 (by decide))
          refine va_iald hx hb hK hP 8 0 (wl_at (by decide) e18) rfl (vp_in_iff.mpr ⟨by omega, by omega⟩) dX4_pass_38 ?_
          refine lv_topi (fun x20 ex20 => ?_)
          have ttl_0 := tl_0
          refine lv_if_le (tgt := 91) hx hb dX4_pass_39 (by decide) (fun c21 => ?_) (fun c21 => ?_)
          · have kc21 := c_le c21
            exact j91 f H locs ls v14_l2 (by omega) (by omega) hT hP hD hS (lv_sub hl [0, 1, 2, 3] rfl)
          · have kc21 := c_nle c21
            refine lv_aload_n hx hb dX4_pass_42 rfl (lv_at hl 2 rfl) ?_
            refine lv_aload_n hx hb dX4_pass_43 rfl (lv_at hl 2 rfl) ?_
            refine va_get (D := D) (cl := vwCl) (ci := 4) (v := .int x15) (C := RX4) (T := TX4) (N := 5) hx hb hts in_X4_pass_X4 hown hK hP 7 (wl_at (by decide) e16) rfl 4 (by decide) (hts (.fieldLink RX4 41 "EightReasons$State" "seed" "I") (List.mem_of_getElem? (i := 5) rfl)) (fun _ h9 => h9) rfl dX4_pass_44 ?_
            refine lv_sipush (v := 137) hx hb dX4_pass_47 (by decide) ?_
            refine lv_imul hx hb dX4_pass_50 ?_
            refine lv_topi (fun x22 ex22 => ?_)
            refine lv_bipush (v := 71) hx hb dX4_pass_51 (by decide) ?_
            refine lv_iadd hx hb dX4_pass_53 ?_
            refine lv_topi (fun x23 ex23 => ?_)
            refine lv_sipush (v := 1000) hx hb dX4_pass_54 (by decide) ?_
            refine lv_irem hx hb dX4_pass_57 (by decide) ?_
            refine lv_topi (fun x24 ex24 => ?_)
            have hx24 := r_rem2 ex24 tl_1000 (by decide)
            refine va_put (D := D) (cl := vwCl) (ci := 4) (v := .int x24) (ty := tyX4 4) (C := RX4) (T := TX4) (N := 5) hx hb hts in_X4_pass_X4 tyX4 tyX4_ok nmX4 hown hK hP hD hS 7 (wl_at (by decide) e16) rfl 4 (by decide) (hts (.fieldLink RX4 41 "EightReasons$State" "seed" "I") (List.mem_of_getElem? (i := 5) rfl)) (fun _ h9 => h9) rfl (tyX4_ok 4 (by decide)) rfl rfl (Nat.le_of_ble_eq_true rfl) dX4_pass_58 (fun H locs hP hD hS => ?_)
            obtain ⟨f, hT, hP, hD, e25, hj26⟩ := stU (by decide) (TYx.up hT (by decide) (show OKx ad cy tx rby rnx 7 _ from (show okX4 ad 7 _ from ⟨x11, x13, x14, x24, rfl, by omega⟩))) hP hD
            have e27 := (hj26 8 (by decide)).trans e18
            refine lv_aload_n hx hb dX4_pass_61 rfl (lv_at hl 2 rfl) ?_
            refine va_get (D := D) (cl := vwCl) (ci := 4) (v := .int x24) (C := RX4) (T := TX4) (N := 5) hx hb hts in_X4_pass_X4 hown hK hP 7 (wl_at (by decide) e25) rfl 4 (by decide) (hts (.fieldLink RX4 41 "EightReasons$State" "seed" "I") (List.mem_of_getElem? (i := 5) rfl)) (fun _ h9 => h9) rfl dX4_pass_62 ?_
            refine lv_bipush (v := 100) hx hb dX4_pass_65 (by decide) ?_
            refine lv_irem hx hb dX4_pass_67 (by decide) ?_
            refine lv_topi (fun x28 ex28 => ?_)
            have hx28 := r_rem2 ex28 tl_100 (by decide)
            refine lv_aload_n hx hb dX4_pass_68 rfl (lv_at hl 3 rfl) ?_
            obtain ⟨x29, x31, x32, x34, x35, e36, h30, h33⟩ := (ty_suit hT hq1)
            refine va_get (D := D) (cl := vwCl) (ci := 5) (v := .int x34) (C := RX5) (T := TX5) (N := 12) hx hb hts in_X4_pass_X5 hown hK hP q1 (wl_at (x_lt (x_suit0 hq1)) e36) rfl 3 (by decide) (hts (.fieldLink RX4 51 "EightReasons$Suit" "fray" "I") (List.mem_of_getElem? (i := 6) rfl)) (fun _ h9 => h9) rfl dX4_pass_69 ?_
            refine lv_icmp_ge (tgt := 91) hx hb dX4_pass_72 (by decide) (fun c37 => ?_) (fun c37 => ?_)
            · have kc37 := c_le c37
              exact j91 f H locs ls v14_l2 (by omega) (by omega) hT hP hD hS (lv_sub hl [0, 1, 2, 3] rfl)
            · have kc37 := c_nle c37
              refine lv_aload_n hx hb dX4_pass_75 rfl (lv_at hl 2 rfl) ?_
              refine va_get (D := D) (cl := vwCl) (ci := 4) (v := .ref (ad 8)) (C := RX4) (T := TX4) (N := 5) hx hb hts in_X4_pass_X4 hown hK hP 7 (wl_at (by decide) e25) rfl 0 (by decide) (hts (.fieldLink RX4 9 "EightReasons$State" "strong" "[I") (List.mem_of_getElem? (i := 4) rfl)) (fun _ h9 => h9) rfl dX4_pass_76 ?_
              refine lv_iload_n hx hb dX4_pass_79 rfl (lv_at hl 0 rfl) ?_
              refine lv_dup2_11 hx hb dX4_pass_80 rfl rfl ?_
              refine va_iald hx hb hK hP 8 0 (wl_at (by decide) e27) rfl (vp_in_iff.mpr ⟨by omega, by omega⟩) dX4_pass_81 ?_
              refine lv_topi (fun x38 ex38 => ?_)
              refine lv_iconst (v := 1) hx hb dX4_pass_82 (by decide) ?_
              refine lv_isub hx hb dX4_pass_83 ?_
              refine lv_topi (fun x39 ex39 => ?_)
              refine va_iast hx hb hK hP hD hS 8 0 (wl_at (by decide) e27) rfl (vp_in_iff.mpr ⟨by omega, by omega⟩) dX4_pass_84 (fun H locs hP hD hS => ?_)
              obtain ⟨f, hT, hP, hD, e40, hj41⟩ := stU (by decide) (TYx.up hT (by decide) (show OKx ad cy tx rby rnx 8 _ from (show okI cy 12 _ from ⟨_, rfl⟩))) hP hD
              have e42 := (hj41 7 (by decide)).trans e25
              refine lv_iload_n hx hb dX4_pass_85 rfl (lv_at hl 1 rfl) ?_
              refine lv_iconst (v := 1) hx hb dX4_pass_86 (by decide) ?_
              refine lv_iload_n hx hb dX4_pass_87 rfl (lv_at hl 0 rfl) ?_
              refine lv_ishl hx hb dX4_pass_88 ?_
              refine lv_topi (fun x43 ex43 => ?_)
              have hx43 := r_shl (K := 11) (M := 2048) ex43 (by decide) (by decide) (by omega) (by omega)
              refine lv_ior hx hb dX4_pass_89 ?_
              refine lv_topi (fun x44 ex44 => ?_)
              have hx44 := r_or (k := 12) (K := 4096) ex44 (by decide) (by decide) (by omega) (by omega) (by omega) (by omega)
              refine lv_istore_n (lv' := [(2, .int x44), (3, .int v14_l3), (0, .ref (ad 7)), (1, .ref (ad q1))]) hx hb dX4_pass_90 rfl hl (by decide) rfl (fun ls hl => ?_)
              exact j91 f H locs ls x44 (by omega) (by omega) hT hP hD hS (lv_sub hl [1, 0, 2, 3] rfl)
        · refine lv_if_eq (tgt := 91) hx hb dX4_pass_30 (by decide) (fun _ => ?_) (fun c => absurd (by decide) c)
          exact j91 f H locs ls v14_l2 (by omega) (by omega) hT hP hD hS (lv_sub hl [0, 1, 2, 3] rfl)
  refine lv_iconst (v := 0) hx hb dX4_pass_0 (by decide) ?_
  refine lv_istore_n (lv' := [(2, .int 0), (0, .ref (ad 7)), (1, .ref (ad q1))]) hx hb dX4_pass_1 rfl hl (by decide) rfl (fun ls hl => ?_)
  refine lv_aload_n hx hb dX4_pass_2 rfl (lv_at hl 1 rfl) ?_
  refine lv_dup hx hb dX4_pass_3 rfl ?_
  obtain ⟨x45, x47, x48, x49, e50, h46⟩ := (show okX4 ad 7 (f 7) from hT.1 7 (by decide))
  refine va_get (D := D) (cl := vwCl) (ci := 4) (v := .int x48) (C := RX4) (T := TX4) (N := 5) hx hb hts in_X4_pass_X4 hown hK hP 7 (wl_at (by decide) e50) rfl 3 (by decide) (hts (.fieldLink RX4 35 "EightReasons$State" "day" "I") (List.mem_of_getElem? (i := 1) rfl)) (fun _ h9 => h9) rfl dX4_pass_4 ?_
  refine lv_iconst (v := 1) hx hb dX4_pass_7 (by decide) ?_
  refine lv_iadd hx hb dX4_pass_8 ?_
  refine lv_topi (fun x51 ex51 => ?_)
  refine va_put (D := D) (cl := vwCl) (ci := 4) (v := .int x51) (ty := tyX4 3) (C := RX4) (T := TX4) (N := 5) hx hb hts in_X4_pass_X4 tyX4 tyX4_ok nmX4 hown hK hP hD hS 7 (wl_at (by decide) e50) rfl 3 (by decide) (hts (.fieldLink RX4 35 "EightReasons$State" "day" "I") (List.mem_of_getElem? (i := 1) rfl)) (fun _ h9 => h9) rfl (tyX4_ok 3 (by decide)) rfl rfl (Nat.le_of_ble_eq_true rfl) dX4_pass_9 (fun H locs hP hD hS => ?_)
  obtain ⟨f, hT, hP, hD, e52, hj53⟩ := stU (by decide) (TYx.up hT (by decide) (show OKx ad cy tx rby rnx 7 _ from (show okX4 ad 7 _ from ⟨x45, x47, x51, x49, rfl, by omega⟩))) hP hD
  refine lv_iconst (v := 0) hx hb dX4_pass_12 (by decide) ?_
  refine lv_istore_n (lv' := [(3, .int 0), (2, .int 0), (0, .ref (ad 7)), (1, .ref (ad q1))]) hx hb dX4_pass_13 rfl hl (by decide) rfl (fun ls hl => ?_)
  have ttl_0 := tl_0
  exact j14 (Int.toNat (13 - (0 : Int32).toInt)) f H locs ls (0 : Int32) (0 : Int32) (by omega) (by omega) (by omega) hT hP hD hS (lv_sub hl [0, 1, 2, 3] rfl)
set_option maxHeartbeats 4000000 in
set_option maxRecDepth 100000 in
theorem s_X8_isZeroOrOne_0 (l : Launch) (B0 : Nat) (adK adV : Nat → Nat) (D : va_G) (cy : Nat → ClassId) (ad : Nat → Nat) (f : Nat → va_E) (p0 : Int32) (sz : Nat) : TtI l yX8_isZeroOrOne wsX8_isZeroOrOne 0 0 [.int p0] B0 adK adV D cy ad f sz (fun (r : Int32) (g : Nat → va_E) => ((r = 1 ∧ 0 ≤ p0.toInt ∧ p0.toInt ≤ 1) ∨ (r = 0)) ∧ (f = g)) := by
  refine TtI.of (cc := cX8_isZeroOrOne) (maxL := 1) (ty := .boolean) (own := RX8) (by decide) rfl (Nat.le_of_ble_eq_true rfl) rfl ?_
  intro p e s m below meth c A ls hx hb hr hml hts hown hlk hK hE hP hD hS hA hAB hl
  have hl : lv_has ls 1 [(0, .int p0)] := hl
  refine st0 (fun H locs hP hS => ?_) hP hS
  have j9 : ∀ (H : Heap) (locs : List Loc) (ls : Array Slot), (0 ≤ p0.toInt ∧ p0.toInt ≤ 1) → (va_P D vwCl (wl ad f) H) → (va_D A (wl ad f)) → (va_S A s.heap H locs) → (lv_has ls 1 [(0, .int p0)]) → W p l e (rmO 0 0 0 0) s m ([.int p0] : List Value).toArray below meth c H locs 0 0 (MQ below (va_Qi (fun (r : Int32) (g : Nat → va_E) => ((r = 1 ∧ 0 ≤ p0.toInt ∧ p0.toInt ≤ 1) ∨ (r = 0)) ∧ (f = g)) (fun g t => PstT D ad g t) A) ([.int p0] : List Value).toArray s 0 0 A) (F0 m 9 ls []) := by
    intro H locs ls hv9_l0 hP hD hS hl
    refine lv_iconst (v := 1) hx hb dX8_isZeroOrOne_9 (by decide) ?_
    refine lv_goto (tgt := 14) hx hb dX8_isZeroOrOne_10 (by decide) ?_
    have ttl_1 := tl_1
    exact tI hx hb hr hlk rfl hP hS ⟨(Or.inl ⟨rfl, by omega, by omega⟩), rfl⟩ dX8_isZeroOrOne_14
  refine lv_iload_n hx hb dX8_isZeroOrOne_0 rfl (lv_at hl 0 rfl) ?_
  have ttl_0 := tl_0
  refine lv_if_eq (tgt := 9) hx hb dX8_isZeroOrOne_1 (by decide) (fun c1 => ?_) (fun c1 => ?_)
  · have kc1 := c_eq c1
    exact j9 H locs ls (by omega) hP hD hS (lv_sub hl [0] rfl)
  · have kc1 := c_ne c1
    refine lv_iload_n hx hb dX8_isZeroOrOne_4 rfl (lv_at hl 0 rfl) ?_
    refine lv_iconst (v := 1) hx hb dX8_isZeroOrOne_5 (by decide) ?_
    have ttl_1 := tl_1
    refine lv_icmp_ne (tgt := 13) hx hb dX8_isZeroOrOne_6 (by decide) (fun c2 => ?_) (fun c2 => ?_)
    · have kc2 := c_ne c2
      refine lv_iconst (v := 0) hx hb dX8_isZeroOrOne_13 (by decide) ?_
      exact tI hx hb hr hlk rfl hP hS ⟨(Or.inr rfl), rfl⟩ dX8_isZeroOrOne_14
    · have kc2 := c_eq c2
      exact j9 H locs ls (by omega) hP hD hS (lv_sub hl [0] rfl)
set_option maxHeartbeats 4000000 in
set_option maxRecDepth 100000 in
theorem s_X8_will_0 (l : Launch) (B0 : Nat) (adK adV : Nat → Nat) (D : va_G) (cy : Nat → ClassId) (ad : Nat → Nat) (fr0 : Nat → va_E) (tx : Int32) (rby : Int32) (rnx : Int32) (f : Nat → va_E) (hT : TYx ad cy fr0 tx rby rnx f) (p1 : Int32) (p2 : Int32) (sz : Nat) : TtI l yX8_will wsX8_will 5 124 [.ref (ad 0), .int p1, .int p2] B0 adK adV D cy ad f sz (fun (r : Int32) (g : Nat → va_E) => True ∧ (TYx ad cy fr0 tx rby rnx g)) := by
  refine TtI.of (cc := cX8_will) (maxL := 4) (ty := .int) (own := RX8) (by decide) rfl (Nat.le_of_ble_eq_true rfl) rfl ?_
  intro p e s m below meth c A ls hx hb hr hml hts hown hlk hK hE hP hD hS hA hAB hl
  have hl : lv_has ls 4 [(0, .ref (ad 0)), (1, .int p1), (2, .int p2)] := hl
  refine st0 (fun H locs hP hS => ?_) hP hS
  have j32 : ∀ (N : Nat) (f : Nat → va_E) (H : Heap) (locs : List Loc) (ls : Array Slot) (v32_l3 : Int32), (64 - v32_l3.toInt ≤ (N : Int)) → (0 ≤ v32_l3.toInt ∧ v32_l3.toInt ≤ 63) → (0 ≤ p1.toInt ∧ p1.toInt ≤ 60) → (0 ≤ p2.toInt ∧ p2.toInt ≤ 1) → (TYx ad cy fr0 tx rby rnx f) → (va_P D vwCl (wl ad f) H) → (va_D A (wl ad f)) → (va_S A s.heap H locs) → (lv_has ls 4 [(3, .int v32_l3), (0, .ref (ad 0)), (1, .int p1), (2, .int p2)]) → W p l e (rmO 5 124 0 0) s m ([.ref (ad 0), .int p1, .int p2] : List Value).toArray below meth c H locs 0 0 (MQ below (va_Qi (fun (r : Int32) (g : Nat → va_E) => True ∧ (TYx ad cy fr0 tx rby rnx g)) (fun g t => PstT D ad g t) A) ([.ref (ad 0), .int p1, .int p2] : List Value).toArray s 0 0 A) (F0 m 32 ls []) := by
    intro N
    induction N with
    | zero => intro f H locs ls v32_l3 hN hv32_l3 hv32_l1 hv32_l2 hT hP hD hS hl; exact absurd hN (by omega)
    | succ N ih32 =>
      intro f H locs ls v32_l3 hN hv32_l3 hv32_l1 hv32_l2 hT hP hD hS hl
      have j70 : ∀ (f : Nat → va_E) (H : Heap) (locs : List Loc) (ls : Array Slot), (0 ≤ v32_l3.toInt ∧ v32_l3.toInt ≤ 59) → (1 ≤ p1.toInt ∧ p1.toInt ≤ 60) → (0 ≤ p2.toInt ∧ p2.toInt ≤ 1) → (TYx ad cy fr0 tx rby rnx f) → (va_P D vwCl (wl ad f) H) → (va_D A (wl ad f)) → (va_S A s.heap H locs) → (lv_has ls 4 [(3, .int v32_l3), (0, .ref (ad 0)), (1, .int p1), (2, .int p2)]) → W p l e (rmO 5 124 0 0) s m ([.ref (ad 0), .int p1, .int p2] : List Value).toArray below meth c H locs 0 0 (MQ below (va_Qi (fun (r : Int32) (g : Nat → va_E) => True ∧ (TYx ad cy fr0 tx rby rnx g)) (fun g t => PstT D ad g t) A) ([.ref (ad 0), .int p1, .int p2] : List Value).toArray s 0 0 A) (F0 m 70 ls []) := by
        intro f H locs ls hv70_l3 hv70_l1 hv70_l2 hT hP hD hS hl
        obtain ⟨x1, ex1⟩ : ∃ q : Int32, q = v32_l3 + Int32.ofInt (1) := ⟨_, rfl⟩
        refine lv_iinc (v := x1) (lv' := [(3, .int x1), (0, .ref (ad 0)), (1, .int p1), (2, .int p2)]) hx hb dX8_will_70 hl (k := 0) rfl ex1.symm (by decide) rfl (fun ls hl => ?_)
        have hx1 := r_inc ex1 (by decide) (by omega) (by omega)
        refine lv_goto (tgt := 32) hx hb dX8_will_73 (by decide) ?_
        exact ih32 f H locs ls x1 (by omega) (by omega) (by omega) (by omega) hT hP hD hS (lv_sub hl [0, 1, 2, 3] rfl)
      refine lv_iload_n hx hb dX8_will_32 rfl (lv_at hl 0 rfl) ?_
      refine lv_iload_n hx hb dX8_will_33 rfl (lv_at hl 2 rfl) ?_
      refine lv_icmp_ge (tgt := 76) hx hb dX8_will_34 (by decide) (fun c2 => ?_) (fun c2 => ?_)
      · have kc2 := c_le c2
        refine lv_aload_n hx hb dX8_will_76 rfl (lv_at hl 1 rfl) ?_
        obtain ⟨t3, x5, x6, e8, h4, h7⟩ := (show okX8 ad tx 0 (f 0) from hT.1 0 (by decide))
        refine va_get (D := D) (cl := vwCl) (ci := 8) (v := .ref (ad 10)) (C := RX8) (T := TX8) (N := 13) hx hb hts in_X8_will_X8 hown hK hP 0 (wl_at (by decide) e8) rfl 6 (by decide) (hts (.fieldLink RX8 44 "EightReasons" "loom" "LEightReasons$Loom;") (List.mem_of_getElem? (i := 4) rfl)) (fun _ h9 => h9) rfl dX8_will_77 ?_
        refine lv_aload_n hx hb dX8_will_80 rfl (lv_at hl 1 rfl) ?_
        refine va_get (D := D) (cl := vwCl) (ci := 8) (v := .ref (ad t3)) (C := RX8) (T := TX8) (N := 13) hx hb hts in_X8_will_X8 hown hK hP 0 (wl_at (by decide) e8) rfl 1 (by decide) (hts (.fieldLink RX8 19 "EightReasons" "told" "LEightReasons$Suit;") (List.mem_of_getElem? (i := 2) rfl)) (fun _ h9 => h9) rfl dX8_will_81 ?_
        refine lv_aload_n hx hb dX8_will_84 rfl (lv_at hl 1 rfl) ?_
        refine va_get (D := D) (cl := vwCl) (ci := 8) (v := .ref (ad 7)) (C := RX8) (T := TX8) (N := 13) hx hb hts in_X8_will_X8 hown hK hP 0 (wl_at (by decide) e8) rfl 3 (by decide) (hts (.fieldLink RX8 33 "EightReasons" "trial" "LEightReasons$State;") (List.mem_of_getElem? (i := 1) rfl)) (fun _ h9 => h9) rfl dX8_will_85 ?_
        obtain ⟨x9, t10, x12, x13, e14, h11⟩ := (show okX2 ad 10 (f 10) from hT.1 10 (by decide))
        refine tVV (As := [.ref (ad t3), .ref (ad 7)]) (rest := []) (i := 10) ⟨hx, hb, hml, hown, hts⟩ hK hE hP hD hS hA hAB (s_X2_take_1 l B0 adK adV D cy ad fr0 tx rby rnx f hT t3 h4 _) (cwV 2 hts gX8_will_X2_take rfl rfl rfl (by decide +kernel) ⟨Nat.le_of_ble_eq_true rfl, Nat.le_of_ble_eq_true rfl⟩) (by decide) 2 e14 rfl rfl hl.1 rfl (Nat.le_of_ble_eq_true rfl) dX8_will_88 ⟨Nat.le_of_ble_eq_true rfl, Nat.le_of_ble_eq_true rfl⟩ (fun f H locs hw hP hD hS => ?_)
        obtain ⟨hrs, hT⟩ := hw
        refine lv_aload_n hx hb dX8_will_91 rfl (lv_at hl 1 rfl) ?_
        obtain ⟨t15, x17, x18, e20, h16, h19⟩ := (show okX8 ad tx 0 (f 0) from hT.1 0 (by decide))
        refine va_get (D := D) (cl := vwCl) (ci := 8) (v := .ref (ad 10)) (C := RX8) (T := TX8) (N := 13) hx hb hts in_X8_will_X8 hown hK hP 0 (wl_at (by decide) e20) rfl 6 (by decide) (hts (.fieldLink RX8 44 "EightReasons" "loom" "LEightReasons$Loom;") (List.mem_of_getElem? (i := 4) rfl)) (fun _ h9 => h9) rfl dX8_will_92 ?_
        refine lv_aload_n hx hb dX8_will_95 rfl (lv_at hl 1 rfl) ?_
        refine va_get (D := D) (cl := vwCl) (ci := 8) (v := .ref (ad 7)) (C := RX8) (T := TX8) (N := 13) hx hb hts in_X8_will_X8 hown hK hP 0 (wl_at (by decide) e20) rfl 3 (by decide) (hts (.fieldLink RX8 33 "EightReasons" "trial" "LEightReasons$State;") (List.mem_of_getElem? (i := 1) rfl)) (fun _ h9 => h9) rfl dX8_will_96 ?_
        obtain ⟨x21, x23, x24, x25, e26, h22⟩ := (show okX4 ad 7 (f 7) from hT.1 7 (by decide))
        refine va_get (D := D) (cl := vwCl) (ci := 4) (v := .int x21) (C := RX4) (T := TX4) (N := 5) hx hb hts in_X8_will_X4 hown hK hP 7 (wl_at (by decide) e26) rfl 1 (by decide) (hts (.fieldLink RX8 145 "EightReasons$State" "tied" "I") (List.mem_of_getElem? (i := 5) rfl)) (fun _ h9 => h9) rfl dX8_will_99 ?_
        obtain ⟨x27, t28, x30, x31, e32, h29⟩ := (show okX2 ad 10 (f 10) from hT.1 10 (by decide))
        refine tVI (As := [.int x21]) (rest := []) (i := 10) ⟨hx, hb, hml, hown, hts⟩ hK hE hP hD hS hA hAB (s_X2_standing_0 l B0 adK adV D cy ad fr0 tx rby rnx f hT x21 _) (cwV 1 hts gX8_will_X2_standing rfl rfl rfl (by decide +kernel) ⟨Nat.le_of_ble_eq_true rfl, Nat.le_of_ble_eq_true rfl⟩) (by decide) 2 e32 rfl rfl hl.1 rfl (Nat.le_of_ble_eq_true rfl) dX8_will_102 ⟨Nat.le_of_ble_eq_true rfl, Nat.le_of_ble_eq_true rfl⟩ (fun r f H locs hw hP hD hS => ?_)
        obtain ⟨hrs, hT⟩ := hw
        obtain ⟨x33, rfl⟩ : ∃ q, q = r := ⟨_, rfl⟩
        have h34 := hrs
        exact tI hx hb hr hlk rfl hP hS ⟨trivial, hT⟩ dX8_will_105
      · have kc2 := c_nle c2
        refine lv_iload_n hx hb dX8_will_37 rfl (lv_at hl 3 rfl) ?_
        refine lv_iconst (v := 1) hx hb dX8_will_38 (by decide) ?_
        have ttl_1 := tl_1
        refine lv_icmp_ne (tgt := 57) hx hb dX8_will_39 (by decide) (fun c35 => ?_) (fun c35 => ?_)
        · have kc35 := c_ne c35
          refine lv_aload_n hx hb dX8_will_57 rfl (lv_at hl 1 rfl) ?_
          obtain ⟨t36, x38, x39, e41, h37, h40⟩ := (show okX8 ad tx 0 (f 0) from hT.1 0 (by decide))
          refine va_get (D := D) (cl := vwCl) (ci := 8) (v := .ref (ad 7)) (C := RX8) (T := TX8) (N := 13) hx hb hts in_X8_will_X8 hown hK hP 0 (wl_at (by decide) e41) rfl 3 (by decide) (hts (.fieldLink RX8 33 "EightReasons" "trial" "LEightReasons$State;") (List.mem_of_getElem? (i := 1) rfl)) (fun _ h9 => h9) rfl dX8_will_58 ?_
          refine lv_dup hx hb dX8_will_61 rfl ?_
          obtain ⟨x42, x44, x45, x46, e47, h43⟩ := (show okX4 ad 7 (f 7) from hT.1 7 (by decide))
          refine va_get (D := D) (cl := vwCl) (ci := 4) (v := .int x45) (C := RX4) (T := TX4) (N := 5) hx hb hts in_X8_will_X4 hown hK hP 7 (wl_at (by decide) e47) rfl 3 (by decide) (hts (.fieldLink RX8 160 "EightReasons$State" "day" "I") (List.mem_of_getElem? (i := 3) rfl)) (fun _ h9 => h9) rfl dX8_will_62 ?_
          refine lv_iconst (v := 1) hx hb dX8_will_65 (by decide) ?_
          refine lv_iadd hx hb dX8_will_66 ?_
          refine lv_topi (fun x48 ex48 => ?_)
          refine va_put (D := D) (cl := vwCl) (ci := 4) (v := .int x48) (ty := tyX4 3) (C := RX4) (T := TX4) (N := 5) hx hb hts in_X8_will_X4 tyX4 tyX4_ok nmX4 hown hK hP hD hS 7 (wl_at (by decide) e47) rfl 3 (by decide) (hts (.fieldLink RX8 160 "EightReasons$State" "day" "I") (List.mem_of_getElem? (i := 3) rfl)) (fun _ h9 => h9) rfl (tyX4_ok 3 (by decide)) rfl rfl (Nat.le_of_ble_eq_true rfl) dX8_will_67 (fun H locs hP hD hS => ?_)
          obtain ⟨f, hT, hP, hD, e49, hj50⟩ := stU (by decide) (TYx.up hT (by decide) (show OKx ad cy tx rby rnx 7 _ from (show okX4 ad 7 _ from ⟨x42, x44, x48, x46, rfl, by omega⟩))) hP hD
          have e51 := (hj50 0 (by decide)).trans e41
          exact j70 f H locs ls (by omega) (by omega) (by omega) hT hP hD hS (lv_sub hl [0, 1, 2, 3] rfl)
        · have kc35 := c_eq c35
          refine lv_aload_n hx hb dX8_will_42 rfl (lv_at hl 1 rfl) ?_
          obtain ⟨t52, x54, x55, e57, h53, h56⟩ := (show okX8 ad tx 0 (f 0) from hT.1 0 (by decide))
          refine va_get (D := D) (cl := vwCl) (ci := 8) (v := .ref (ad 7)) (C := RX8) (T := TX8) (N := 13) hx hb hts in_X8_will_X8 hown hK hP 0 (wl_at (by decide) e57) rfl 3 (by decide) (hts (.fieldLink RX8 33 "EightReasons" "trial" "LEightReasons$State;") (List.mem_of_getElem? (i := 1) rfl)) (fun _ h9 => h9) rfl dX8_will_43 ?_
          refine lv_aload_n hx hb dX8_will_46 rfl (lv_at hl 1 rfl) ?_
          refine va_get (D := D) (cl := vwCl) (ci := 8) (v := .ref (ad t52)) (C := RX8) (T := TX8) (N := 13) hx hb hts in_X8_will_X8 hown hK hP 0 (wl_at (by decide) e57) rfl 1 (by decide) (hts (.fieldLink RX8 19 "EightReasons" "told" "LEightReasons$Suit;") (List.mem_of_getElem? (i := 2) rfl)) (fun _ h9 => h9) rfl dX8_will_47 ?_
          obtain ⟨x58, x60, x61, x62, e63, h59⟩ := (show okX4 ad 7 (f 7) from hT.1 7 (by decide))
          refine tVI (As := [.ref (ad t52)]) (rest := []) (i := 7) ⟨hx, hb, hml, hown, hts⟩ hK hE hP hD hS hA hAB (s_X4_pass_1 l B0 adK adV D cy ad fr0 tx rby rnx f hT t52 h53 _) (cwV 1 hts gX8_will_X4_pass rfl rfl rfl (by decide +kernel) ⟨Nat.le_of_ble_eq_true rfl, Nat.le_of_ble_eq_true rfl⟩) (by decide) 4 e63 rfl rfl hl.1 rfl (Nat.le_of_ble_eq_true rfl) dX8_will_50 ⟨Nat.le_of_ble_eq_true rfl, Nat.le_of_ble_eq_true rfl⟩ (fun r f H locs hw hP hD hS => ?_)
          obtain ⟨hrs, hT⟩ := hw
          obtain ⟨x64, rfl⟩ : ∃ q, q = r := ⟨_, rfl⟩
          have h65 := hrs
          refine lv_pop hx hb dX8_will_53 rfl ?_
          refine lv_goto (tgt := 70) hx hb dX8_will_54 (by decide) ?_
          exact j70 f H locs ls (by omega) (by omega) (by omega) hT hP hD hS (lv_sub hl [0, 1, 2, 3] rfl)
  refine lv_iload_n hx hb dX8_will_0 rfl (lv_at hl 1 rfl) ?_
  have ttl_0 := tl_0
  refine lv_if_lt (tgt := 17) hx hb dX8_will_1 (by decide) (fun c66 => ?_) (fun c66 => ?_)
  · have kc66 := c_lt c66
    refine lv_iconst (v := (-1)) hx hb dX8_will_17 (by decide) ?_
    have ttl_m1 := tl_m1
    exact tI hx hb hr hlk rfl hP hS ⟨trivial, hT⟩ dX8_will_18
  · have kc66 := c_nlt c66
    refine lv_iload_n hx hb dX8_will_4 rfl (lv_at hl 1 rfl) ?_
    refine lv_bipush (v := 60) hx hb dX8_will_5 (by decide) ?_
    have ttl_60 := tl_60
    refine lv_icmp_gt (tgt := 17) hx hb dX8_will_7 (by decide) (fun c67 => ?_) (fun c67 => ?_)
    · have kc67 := c_lt c67
      refine lv_iconst (v := (-1)) hx hb dX8_will_17 (by decide) ?_
      have ttl_m1 := tl_m1
      exact tI hx hb hr hlk rfl hP hS ⟨trivial, hT⟩ dX8_will_18
    · have kc67 := c_nlt c67
      refine lv_iload_n hx hb dX8_will_10 rfl (lv_at hl 2 rfl) ?_
      refine tSI (As := [.int p2]) (rest := []) ⟨hx, hb, hml, hown, hts⟩ hK hE hP hD hS hA hAB (s_X8_isZeroOrOne_0 l B0 adK adV D cy ad f p2 _) (va_cwS 1 hts gX8_will_X8_isZeroOrOne rfl rfl rfl (by decide +kernel) ⟨Nat.le_of_ble_eq_true rfl, Nat.le_of_ble_eq_true rfl⟩) rfl hl.1 rfl (Nat.le_of_ble_eq_true rfl) dX8_will_11 ⟨Nat.le_of_ble_eq_true rfl, Nat.le_of_ble_eq_true rfl⟩ (fun r g H locs hw hP hD hS => ?_)
      obtain ⟨hrs, rfl⟩ := hw
      obtain ⟨x68, rfl⟩ : ∃ q, q = r := ⟨_, rfl⟩
      rcases hrs with ⟨rfl, h69, h70⟩ | rfl
      · refine lv_if_ne (tgt := 19) hx hb dX8_will_14 (by decide) (fun _ => ?_) (fun c => absurd c (by decide))
        refine lv_aload_n hx hb dX8_will_19 rfl (lv_at hl 0 rfl) ?_
        obtain ⟨t71, x73, x74, e76, h72, h75⟩ := (show okX8 ad tx 0 (f 0) from hT.1 0 (by decide))
        refine va_get (D := D) (cl := vwCl) (ci := 8) (v := .ref (ad 7)) (C := RX8) (T := TX8) (N := 13) hx hb hts in_X8_will_X8 hown hK hP 0 (wl_at (by decide) e76) rfl 3 (by decide) (hts (.fieldLink RX8 33 "EightReasons" "trial" "LEightReasons$State;") (List.mem_of_getElem? (i := 1) rfl)) (fun _ h9 => h9) rfl dX8_will_20 ?_
        refine lv_aload_n hx hb dX8_will_23 rfl (lv_at hl 0 rfl) ?_
        refine tVR (As := []) (rest := [.ref (ad 7)]) (i := 0) ⟨hx, hb, hml, hown, hts⟩ hK hE hP hD hS hA hAB (s_X8_now_0 l B0 adK adV D cy ad fr0 tx rby rnx f hT _) (cwV 0 hts gX8_will_X8_now rfl rfl rfl (by decide +kernel) ⟨Nat.le_of_ble_eq_true rfl, Nat.le_of_ble_eq_true rfl⟩) (by decide) 8 e76 rfl rfl hl.1 rfl (Nat.le_of_ble_eq_true rfl) dX8_will_24 ⟨Nat.le_of_ble_eq_true rfl, Nat.le_of_ble_eq_true rfl⟩ (fun ra g H locs hw hra hP hD hS => ?_)
        obtain ⟨hrs, rfl⟩ := hw
        obtain ⟨t77, h78, rfl⟩ := hra
        obtain ⟨x79, x81, x82, x83, e84, h80⟩ := (show okX4 ad 7 (f 7) from hT.1 7 (by decide))
        refine tVV (As := [.ref (ad t77)]) (rest := []) (i := 7) ⟨hx, hb, hml, hown, hts⟩ hK hE hP hD hS hA hAB (s_X4_copy_1 l B0 adK adV D cy ad fr0 tx rby rnx f hT t77 h78 _) (cwV 1 hts gX8_will_X4_copy rfl rfl rfl (by decide +kernel) ⟨Nat.le_of_ble_eq_true rfl, Nat.le_of_ble_eq_true rfl⟩) (by decide) 4 e84 rfl rfl hl.1 rfl (Nat.le_of_ble_eq_true rfl) dX8_will_27 ⟨Nat.le_of_ble_eq_true rfl, Nat.le_of_ble_eq_true rfl⟩ (fun f H locs hw hP hD hS => ?_)
        obtain ⟨hrs, hT⟩ := hw
        refine lv_iconst (v := 0) hx hb dX8_will_30 (by decide) ?_
        refine lv_istore_n (lv' := [(3, .int 0), (0, .ref (ad 0)), (1, .int p1), (2, .int p2)]) hx hb dX8_will_31 rfl hl (by decide) rfl (fun ls hl => ?_)
        exact j32 (Int.toNat (64 - (0 : Int32).toInt)) f H locs ls (0 : Int32) (by omega) (by omega) (by omega) (by omega) hT hP hD hS (lv_sub hl [0, 1, 2, 3] rfl)
      · refine lv_if_ne (tgt := 19) hx hb dX8_will_14 (by decide) (fun c => absurd (by decide) c) (fun _ => ?_)
        refine lv_iconst (v := (-1)) hx hb dX8_will_17 (by decide) ?_
        have ttl_m1 := tl_m1
        exact tI hx hb hr hlk rfl hP hS ⟨trivial, hT⟩ dX8_will_18
set_option maxHeartbeats 4000000 in
set_option maxRecDepth 100000 in
theorem s_X8_fewest_0 (l : Launch) (B0 : Nat) (adK adV : Nat → Nat) (D : va_G) (cy : Nat → ClassId) (ad : Nat → Nat) (fr0 : Nat → va_E) (tx : Int32) (rby : Int32) (rnx : Int32) (f : Nat → va_E) (hT : TYx ad cy fr0 tx rby rnx f) (p1 : Int32) (hp1 : 0 ≤ p1.toInt ∧ p1.toInt ≤ 9) (p2 : Int32) (hp2 : 0 ≤ p2.toInt ∧ p2.toInt ≤ 4095) (p3 : Int32) (hp3 : 0 ≤ p3.toInt ∧ p3.toInt ≤ 4095) (p4 : Int32) (hp4 : 0 ≤ p4.toInt ∧ p4.toInt ≤ 1) (sz : Nat) : TtI l yX8_fewest wsX8_fewest 5 124 [.ref (ad 0), .int p1, .int p2, .int p3, .int p4] B0 adK adV D cy ad f sz (fun (r : Int32) (g : Nat → va_E) => (-1 ≤ r.toInt ∧ r.toInt ≤ 4095) ∧ (TYx ad cy fr0 tx rby rnx g)) := by
  refine TtI.of (cc := cX8_fewest) (maxL := 8) (ty := .int) (own := RX8) (by decide) rfl (Nat.le_of_ble_eq_true rfl) rfl ?_
  intro p e s m below meth c A ls hx hb hr hml hts hown hlk hK hE hP hD hS hA hAB hl
  have hl : lv_has ls 8 [(0, .ref (ad 0)), (1, .int p1), (2, .int p2), (3, .int p3), (4, .int p4)] := hl
  refine st0 (fun H locs hP hS => ?_) hP hS
  have j10 : ∀ (N : Nat) (f : Nat → va_E) (H : Heap) (locs : List Loc) (ls : Array Slot) (v10_l7 : Int32) (v10_l6 : Int32) (v10_l5 : Int32), (4097 - v10_l7.toInt ≤ (N : Int)) → (0 ≤ v10_l7.toInt ∧ v10_l7.toInt ≤ 4096) → (0 ≤ v10_l6.toInt ∧ v10_l6.toInt ≤ 63) → (-1 ≤ v10_l5.toInt ∧ v10_l5.toInt ≤ 4095) → (0 ≤ p1.toInt ∧ p1.toInt ≤ 9) → (0 ≤ p2.toInt ∧ p2.toInt ≤ 4095) → (0 ≤ p3.toInt ∧ p3.toInt ≤ 4095) → (0 ≤ p4.toInt ∧ p4.toInt ≤ 1) → (TYx ad cy fr0 tx rby rnx f) → (va_P D vwCl (wl ad f) H) → (va_D A (wl ad f)) → (va_S A s.heap H locs) → (lv_has ls 8 [(7, .int v10_l7), (6, .int v10_l6), (5, .int v10_l5), (0, .ref (ad 0)), (1, .int p1), (2, .int p2), (3, .int p3), (4, .int p4)]) → W p l e (rmO 5 124 0 0) s m ([.ref (ad 0), .int p1, .int p2, .int p3, .int p4] : List Value).toArray below meth c H locs 0 0 (MQ below (va_Qi (fun (r : Int32) (g : Nat → va_E) => (-1 ≤ r.toInt ∧ r.toInt ≤ 4095) ∧ (TYx ad cy fr0 tx rby rnx g)) (fun g t => PstT D ad g t) A) ([.ref (ad 0), .int p1, .int p2, .int p3, .int p4] : List Value).toArray s 0 0 A) (F0 m 10 ls []) := by
    intro N
    induction N with
    | zero => intro f H locs ls v10_l7 v10_l6 v10_l5 hN hv10_l7 hv10_l6 hv10_l5 hv10_l1 hv10_l2 hv10_l3 hv10_l4 hT hP hD hS hl; exact absurd hN (by omega)
    | succ N ih10 =>
      intro f H locs ls v10_l7 v10_l6 v10_l5 hN hv10_l7 hv10_l6 hv10_l5 hv10_l1 hv10_l2 hv10_l3 hv10_l4 hT hP hD hS hl
      have j66 : ∀ (f : Nat → va_E) (H : Heap) (locs : List Loc) (ls : Array Slot) (v66_l6 : Int32) (v66_l5 : Int32), (0 ≤ v10_l7.toInt ∧ v10_l7.toInt ≤ 4095) → (0 ≤ v66_l6.toInt ∧ v66_l6.toInt ≤ 63) → (-1 ≤ v66_l5.toInt ∧ v66_l5.toInt ≤ 4095) → (0 ≤ p1.toInt ∧ p1.toInt ≤ 9) → (0 ≤ p2.toInt ∧ p2.toInt ≤ 4095) → (0 ≤ p3.toInt ∧ p3.toInt ≤ 4095) → (0 ≤ p4.toInt ∧ p4.toInt ≤ 1) → (TYx ad cy fr0 tx rby rnx f) → (va_P D vwCl (wl ad f) H) → (va_D A (wl ad f)) → (va_S A s.heap H locs) → (lv_has ls 8 [(7, .int v10_l7), (6, .int v66_l6), (5, .int v66_l5), (0, .ref (ad 0)), (1, .int p1), (2, .int p2), (3, .int p3), (4, .int p4)]) → W p l e (rmO 5 124 0 0) s m ([.ref (ad 0), .int p1, .int p2, .int p3, .int p4] : List Value).toArray below meth c H locs 0 0 (MQ below (va_Qi (fun (r : Int32) (g : Nat → va_E) => (-1 ≤ r.toInt ∧ r.toInt ≤ 4095) ∧ (TYx ad cy fr0 tx rby rnx g)) (fun g t => PstT D ad g t) A) ([.ref (ad 0), .int p1, .int p2, .int p3, .int p4] : List Value).toArray s 0 0 A) (F0 m 66 ls []) := by
        intro f H locs ls v66_l6 v66_l5 hv66_l7 hv66_l6 hv66_l5 hv66_l1 hv66_l2 hv66_l3 hv66_l4 hT hP hD hS hl
        obtain ⟨x1, ex1⟩ : ∃ q : Int32, q = v10_l7 + Int32.ofInt (1) := ⟨_, rfl⟩
        refine lv_iinc (v := x1) (lv' := [(7, .int x1), (6, .int v66_l6), (5, .int v66_l5), (0, .ref (ad 0)), (1, .int p1), (2, .int p2), (3, .int p3), (4, .int p4)]) hx hb dX8_fewest_66 hl (k := 0) rfl ex1.symm (by decide) rfl (fun ls hl => ?_)
        have hx1 := r_inc ex1 (by decide) (by omega) (by omega)
        refine lv_goto (tgt := 10) hx hb dX8_fewest_69 (by decide) ?_
        exact ih10 f H locs ls x1 v66_l6 v66_l5 (by omega) (by omega) (by omega) (by omega) (by omega) (by omega) (by omega) (by omega) hT hP hD hS (lv_sub hl [0, 1, 2, 3, 4, 5, 6, 7] rfl)
      refine lv_iload hx hb dX8_fewest_10 (lv_at hl 0 rfl) ?_
      refine lv_iload_n hx hb dX8_fewest_12 rfl (lv_at hl 5 rfl) ?_
      refine lv_icmp_gt (tgt := 72) hx hb dX8_fewest_13 (by decide) (fun c2 => ?_) (fun c2 => ?_)
      · have kc2 := c_lt c2
        refine lv_iload hx hb dX8_fewest_72 (lv_at hl 2 rfl) ?_
        exact tI hx hb hr hlk rfl hP hS ⟨(by omega), hT⟩ dX8_fewest_74
      · have kc2 := c_nlt c2
        refine lv_iload hx hb dX8_fewest_16 (lv_at hl 0 rfl) ?_
        refine lv_iload_n hx hb dX8_fewest_18 rfl (lv_at hl 5 rfl) ?_
        refine lv_iconst (v := (-1)) hx hb dX8_fewest_19 (by decide) ?_
        refine lv_ixor hx hb dX8_fewest_20 ?_
        refine lv_topi (fun x3 ex3 => ?_)
        refine lv_iand hx hb dX8_fewest_21 ?_
        refine lv_topi (fun x4 ex4 => ?_)
        have hx4 := r_andl ex4 (by omega)
        have ttl_0 := tl_0
        refine lv_if_ne (tgt := 66) hx hb dX8_fewest_22 (by decide) (fun c5 => ?_) (fun c5 => ?_)
        · have kc5 := c_ne c5
          exact j66 f H locs ls v10_l6 v10_l5 (by omega) (by omega) (by omega) (by omega) (by omega) (by omega) (by omega) hT hP hD hS (lv_sub hl [0, 1, 2, 3, 4, 5, 6, 7] rfl)
        · have kc5 := c_eq c5
          refine lv_iload hx hb dX8_fewest_25 (lv_at hl 0 rfl) ?_
          refine tSI (As := [.int v10_l7]) (rest := []) ⟨hx, hb, hml, hown, hts⟩ hK hE hP hD hS hA hAB (s_J6_bitCount_0f7a4_0 l B0 adK adV D cy ad f v10_l7 _) (va_cwS 1 hts gX8_fewest_J6_bitCount_0f7a4 rfl rfl rfl (by decide +kernel) ⟨Nat.le_of_ble_eq_true rfl, Nat.le_of_ble_eq_true rfl⟩) rfl hl.1 rfl (Nat.le_of_ble_eq_true rfl) dX8_fewest_27 ⟨Nat.le_of_ble_eq_true rfl, Nat.le_of_ble_eq_true rfl⟩ (fun r g H locs hw hP hD hS => ?_)
          obtain ⟨hrs, rfl⟩ := hw
          obtain ⟨x6, rfl⟩ : ∃ q, q = r := ⟨_, rfl⟩
          have h7 := hrs
          refine lv_iload hx hb dX8_fewest_30 (lv_at hl 1 rfl) ?_
          refine lv_icmp_ge (tgt := 66) hx hb dX8_fewest_32 (by decide) (fun c8 => ?_) (fun c8 => ?_)
          · have kc8 := c_le c8
            exact j66 f H locs ls v10_l6 v10_l5 (by omega) (by omega) (by omega) (by omega) (by omega) (by omega) (by omega) hT hP hD hS (lv_sub hl [0, 1, 2, 3, 4, 5, 6, 7] rfl)
          · have kc8 := c_nle c8
            refine lv_aload_n hx hb dX8_fewest_35 rfl (lv_at hl 3 rfl) ?_
            obtain ⟨t9, x11, x12, e14, h10, h13⟩ := (show okX8 ad tx 0 (f 0) from hT.1 0 (by decide))
            refine va_get (D := D) (cl := vwCl) (ci := 8) (v := .ref (ad 10)) (C := RX8) (T := TX8) (N := 13) hx hb hts in_X8_fewest_X8 hown hK hP 0 (wl_at (by decide) e14) rfl 6 (by decide) (hts (.fieldLink RX8 44 "EightReasons" "loom" "LEightReasons$Loom;") (List.mem_of_getElem? (i := 1) rfl)) (fun _ h9 => h9) rfl dX8_fewest_36 ?_
            refine lv_iload_n hx hb dX8_fewest_39 rfl (lv_at hl 6 rfl) ?_
            refine lv_iload hx hb dX8_fewest_40 (lv_at hl 0 rfl) ?_
            refine lv_ixor hx hb dX8_fewest_42 ?_
            refine lv_topi (fun x15 ex15 => ?_)
            have hx15 := r_xor (k := 12) (K := 4096) ex15 (by decide) (by decide) (by omega) (by omega) (by omega) (by omega)
            obtain ⟨x16, t17, x19, x20, e21, h18⟩ := (show okX2 ad 10 (f 10) from hT.1 10 (by decide))
            refine tVI (As := [.int x15]) (rest := []) (i := 10) ⟨hx, hb, hml, hown, hts⟩ hK hE hP hD hS hA hAB (s_X2_standing_0 l B0 adK adV D cy ad fr0 tx rby rnx f hT x15 _) (cwV 1 hts gX8_fewest_X2_standing rfl rfl rfl (by decide +kernel) ⟨Nat.le_of_ble_eq_true rfl, Nat.le_of_ble_eq_true rfl⟩) (by decide) 2 e21 rfl rfl hl.1 rfl (Nat.le_of_ble_eq_true rfl) dX8_fewest_43 ⟨Nat.le_of_ble_eq_true rfl, Nat.le_of_ble_eq_true rfl⟩ (fun r f H locs hw hP hD hS => ?_)
            obtain ⟨hrs, hT⟩ := hw
            obtain ⟨x22, rfl⟩ : ∃ q, q = r := ⟨_, rfl⟩
            have h23 := hrs
            refine lv_iload_n hx hb dX8_fewest_46 rfl (lv_at hl 4 rfl) ?_
            refine tSI (As := [.int x22, .int p1]) (rest := []) ⟨hx, hb, hml, hown, hts⟩ hK hE hP hD hS hA hAB (s_X8_has_0 l B0 adK adV D cy ad f x22 p1 _) (va_cwS 2 hts gX8_fewest_X8_has rfl rfl rfl (by decide +kernel) ⟨Nat.le_of_ble_eq_true rfl, Nat.le_of_ble_eq_true rfl⟩) rfl hl.1 rfl (Nat.le_of_ble_eq_true rfl) dX8_fewest_47 ⟨Nat.le_of_ble_eq_true rfl, Nat.le_of_ble_eq_true rfl⟩ (fun r g H locs hw hP hD hS => ?_)
            obtain ⟨hrs, rfl⟩ := hw
            obtain ⟨x24, rfl⟩ : ∃ q, q = r := ⟨_, rfl⟩
            rcases hrs with rfl | rfl
            · refine lv_iload hx hb dX8_fewest_50 (lv_at hl 7 rfl) ?_
              have ttl_1 := tl_1
              refine lv_icmp_ne (tgt := 66) hx hb dX8_fewest_52 (by decide) (fun c25 => ?_) (fun c25 => ?_)
              · have kc25 := c_ne c25
                exact j66 f H locs ls v10_l6 v10_l5 (by omega) (by omega) (by omega) (by omega) (by omega) (by omega) (by omega) hT hP hD hS (lv_sub hl [0, 1, 2, 3, 4, 5, 6, 7] rfl)
              · have kc25 := c_eq c25
                refine lv_iload hx hb dX8_fewest_55 (lv_at hl 0 rfl) ?_
                refine lv_istore (lv' := [(5, .int v10_l7), (7, .int v10_l7), (6, .int v10_l6), (0, .ref (ad 0)), (1, .int p1), (2, .int p2), (3, .int p3), (4, .int p4)]) hx hb dX8_fewest_57 hl (by decide) rfl (fun ls hl => ?_)
                refine lv_iload hx hb dX8_fewest_59 (lv_at hl 1 rfl) ?_
                refine tSI (As := [.int v10_l7]) (rest := []) ⟨hx, hb, hml, hown, hts⟩ hK hE hP hD hS hA hAB (s_J6_bitCount_0f7a4_0 l B0 adK adV D cy ad f v10_l7 _) (va_cwS 1 hts gX8_fewest_J6_bitCount_0f7a4 rfl rfl rfl (by decide +kernel) ⟨Nat.le_of_ble_eq_true rfl, Nat.le_of_ble_eq_true rfl⟩) rfl hl.1 rfl (Nat.le_of_ble_eq_true rfl) dX8_fewest_61 ⟨Nat.le_of_ble_eq_true rfl, Nat.le_of_ble_eq_true rfl⟩ (fun r g H locs hw hP hD hS => ?_)
                obtain ⟨hrs, rfl⟩ := hw
                obtain ⟨x26, rfl⟩ : ∃ q, q = r := ⟨_, rfl⟩
                have h27 := hrs
                refine lv_istore (lv' := [(6, .int x26), (5, .int v10_l7), (7, .int v10_l7), (0, .ref (ad 0)), (1, .int p1), (2, .int p2), (3, .int p3), (4, .int p4)]) hx hb dX8_fewest_64 hl (by decide) rfl (fun ls hl => ?_)
                exact j66 f H locs ls x26 v10_l7 (by omega) (by omega) (by omega) (by omega) (by omega) (by omega) (by omega) hT hP hD hS (lv_sub hl [2, 0, 1, 3, 4, 5, 6, 7] rfl)
            · refine lv_iload hx hb dX8_fewest_50 (lv_at hl 7 rfl) ?_
              refine lv_icmp_ne (tgt := 66) hx hb dX8_fewest_52 (by decide) (fun c28 => ?_) (fun c28 => ?_)
              · have kc28 := c_ne c28
                exact j66 f H locs ls v10_l6 v10_l5 (by omega) (by omega) (by omega) (by omega) (by omega) (by omega) (by omega) hT hP hD hS (lv_sub hl [0, 1, 2, 3, 4, 5, 6, 7] rfl)
              · have kc28 := c_eq c28
                refine lv_iload hx hb dX8_fewest_55 (lv_at hl 0 rfl) ?_
                refine lv_istore (lv' := [(5, .int v10_l7), (7, .int v10_l7), (6, .int v10_l6), (0, .ref (ad 0)), (1, .int p1), (2, .int p2), (3, .int p3), (4, .int p4)]) hx hb dX8_fewest_57 hl (by decide) rfl (fun ls hl => ?_)
                refine lv_iload hx hb dX8_fewest_59 (lv_at hl 1 rfl) ?_
                refine tSI (As := [.int v10_l7]) (rest := []) ⟨hx, hb, hml, hown, hts⟩ hK hE hP hD hS hA hAB (s_J6_bitCount_0f7a4_0 l B0 adK adV D cy ad f v10_l7 _) (va_cwS 1 hts gX8_fewest_J6_bitCount_0f7a4 rfl rfl rfl (by decide +kernel) ⟨Nat.le_of_ble_eq_true rfl, Nat.le_of_ble_eq_true rfl⟩) rfl hl.1 rfl (Nat.le_of_ble_eq_true rfl) dX8_fewest_61 ⟨Nat.le_of_ble_eq_true rfl, Nat.le_of_ble_eq_true rfl⟩ (fun r g H locs hw hP hD hS => ?_)
                obtain ⟨hrs, rfl⟩ := hw
                obtain ⟨x29, rfl⟩ : ∃ q, q = r := ⟨_, rfl⟩
                have h30 := hrs
                refine lv_istore (lv' := [(6, .int x29), (5, .int v10_l7), (7, .int v10_l7), (0, .ref (ad 0)), (1, .int p1), (2, .int p2), (3, .int p3), (4, .int p4)]) hx hb dX8_fewest_64 hl (by decide) rfl (fun ls hl => ?_)
                exact j66 f H locs ls x29 v10_l7 (by omega) (by omega) (by omega) (by omega) (by omega) (by omega) (by omega) hT hP hD hS (lv_sub hl [2, 0, 1, 3, 4, 5, 6, 7] rfl)
  refine lv_iconst (v := (-1)) hx hb dX8_fewest_0 (by decide) ?_
  refine lv_istore (lv' := [(5, .int (-1)), (0, .ref (ad 0)), (1, .int p1), (2, .int p2), (3, .int p3), (4, .int p4)]) hx hb dX8_fewest_1 hl (by decide) rfl (fun ls hl => ?_)
  refine lv_bipush (v := 13) hx hb dX8_fewest_3 (by decide) ?_
  refine lv_istore (lv' := [(6, .int 13), (5, .int (-1)), (0, .ref (ad 0)), (1, .int p1), (2, .int p2), (3, .int p3), (4, .int p4)]) hx hb dX8_fewest_5 hl (by decide) rfl (fun ls hl => ?_)
  refine lv_iconst (v := 0) hx hb dX8_fewest_7 (by decide) ?_
  refine lv_istore (lv' := [(7, .int 0), (6, .int 13), (5, .int (-1)), (0, .ref (ad 0)), (1, .int p1), (2, .int p2), (3, .int p3), (4, .int p4)]) hx hb dX8_fewest_8 hl (by decide) rfl (fun ls hl => ?_)
  have ttl_0 := tl_0
  have ttl_13 := tl_13
  have ttl_m1 := tl_m1
  exact j10 (Int.toNat (4097 - (0 : Int32).toInt)) f H locs ls (0 : Int32) (13 : Int32) ((-1) : Int32) (by omega) (by omega) (by omega) (by omega) (by omega) (by omega) (by omega) (by omega) hT hP hD hS (lv_sub hl [0, 1, 2, 3, 4, 5, 6, 7] rfl)
set_option maxHeartbeats 4000000 in
set_option maxRecDepth 100000 in
theorem s_X8_sizeOrSet_0 (l : Launch) (B0 : Nat) (adK adV : Nat → Nat) (D : va_G) (cy : Nat → ClassId) (ad : Nat → Nat) (f : Nat → va_E) (p0 : Int32) (hp0 : -1 ≤ p0.toInt ∧ p0.toInt ≤ 4095) (p1 : Int32) (hp1 : 0 ≤ p1.toInt ∧ p1.toInt ≤ 1) (sz : Nat) : TtI l yX8_sizeOrSet wsX8_sizeOrSet 1 20 [.int p0, .int p1] B0 adK adV D cy ad f sz (fun (r : Int32) (g : Nat → va_E) => (-1 ≤ r.toInt ∧ r.toInt ≤ 4095) ∧ (f = g)) := by
  refine TtI.of (cc := cX8_sizeOrSet) (maxL := 2) (ty := .int) (own := RX8) (by decide) rfl (Nat.le_of_ble_eq_true rfl) rfl ?_
  intro p e s m below meth c A ls hx hb hr hml hts hown hlk hK hE hP hD hS hA hAB hl
  have hl : lv_has ls 2 [(0, .int p0), (1, .int p1)] := hl
  refine st0 (fun H locs hP hS => ?_) hP hS
  refine lv_iload_n hx hb dX8_sizeOrSet_0 rfl (lv_at hl 1 rfl) ?_
  have ttl_0 := tl_0
  refine lv_if_ne (tgt := 16) hx hb dX8_sizeOrSet_1 (by decide) (fun c1 => ?_) (fun c1 => ?_)
  · have kc1 := c_ne c1
    refine lv_iload_n hx hb dX8_sizeOrSet_16 rfl (lv_at hl 0 rfl) ?_
    exact tI hx hb hr hlk rfl hP hS ⟨(by omega), rfl⟩ dX8_sizeOrSet_17
  · have kc1 := c_eq c1
    refine lv_iload_n hx hb dX8_sizeOrSet_4 rfl (lv_at hl 0 rfl) ?_
    refine lv_iconst (v := (-1)) hx hb dX8_sizeOrSet_5 (by decide) ?_
    have ttl_m1 := tl_m1
    refine lv_icmp_eq (tgt := 16) hx hb dX8_sizeOrSet_6 (by decide) (fun c2 => ?_) (fun c2 => ?_)
    · have kc2 := c_eq c2
      refine lv_iload_n hx hb dX8_sizeOrSet_16 rfl (lv_at hl 0 rfl) ?_
      exact tI hx hb hr hlk rfl hP hS ⟨(by omega), rfl⟩ dX8_sizeOrSet_17
    · have kc2 := c_ne c2
      refine lv_iload_n hx hb dX8_sizeOrSet_9 rfl (lv_at hl 0 rfl) ?_
      refine tSI (As := [.int p0]) (rest := []) ⟨hx, hb, hml, hown, hts⟩ hK hE hP hD hS hA hAB (s_J6_bitCount_0f7a4_0 l B0 adK adV D cy ad f p0 _) (va_cwS 1 hts gX8_sizeOrSet_J6_bitCount_0f7a4 rfl rfl rfl (by decide +kernel) ⟨Nat.le_of_ble_eq_true rfl, Nat.le_of_ble_eq_true rfl⟩) rfl hl.1 rfl (Nat.le_of_ble_eq_true rfl) dX8_sizeOrSet_10 ⟨Nat.le_of_ble_eq_true rfl, Nat.le_of_ble_eq_true rfl⟩ (fun r g H locs hw hP hD hS => ?_)
      obtain ⟨hrs, rfl⟩ := hw
      obtain ⟨x3, rfl⟩ : ∃ q, q = r := ⟨_, rfl⟩
      have h4 := hrs
      refine lv_goto (tgt := 17) hx hb dX8_sizeOrSet_13 (by decide) ?_
      exact tI hx hb hr hlk rfl hP hS ⟨(by omega), rfl⟩ dX8_sizeOrSet_17
set_option maxHeartbeats 4000000 in
set_option maxRecDepth 100000 in
theorem s_X8_topple_0 (l : Launch) (B0 : Nat) (adK adV : Nat → Nat) (D : va_G) (cy : Nat → ClassId) (ad : Nat → Nat) (fr0 : Nat → va_E) (tx : Int32) (rby : Int32) (rnx : Int32) (f : Nat → va_E) (hT : TYx ad cy fr0 tx rby rnx f) (p1 : Int32) (p2 : Int32) (sz : Nat) : TtI l yX8_topple wsX8_topple 6 151 [.ref (ad 0), .int p1, .int p2] B0 adK adV D cy ad f sz (fun (r : Int32) (g : Nat → va_E) => (-1 ≤ r.toInt ∧ r.toInt ≤ 4095) ∧ (TYx ad cy fr0 tx rby rnx g)) := by
  refine TtI.of (cc := cX8_topple) (maxL := 3) (ty := .int) (own := RX8) (by decide) rfl (Nat.le_of_ble_eq_true rfl) rfl ?_
  intro p e s m below meth c A ls hx hb hr hml hts hown hlk hK hE hP hD hS hA hAB hl
  have hl : lv_has ls 3 [(0, .ref (ad 0)), (1, .int p1), (2, .int p2)] := hl
  refine st0 (fun H locs hP hS => ?_) hP hS
  refine lv_aload_n hx hb dX8_topple_0 rfl (lv_at hl 0 rfl) ?_
  obtain ⟨t1, x3, x4, e6, h2, h5⟩ := (show okX8 ad tx 0 (f 0) from hT.1 0 (by decide))
  refine va_get (D := D) (cl := vwCl) (ci := 8) (v := .ref (ad t1)) (C := RX8) (T := TX8) (N := 13) hx hb hts in_X8_topple_X8 hown hK hP 0 (wl_at (by decide) e6) rfl 1 (by decide) (hts (.fieldLink RX8 19 "EightReasons" "told" "LEightReasons$Suit;") (List.mem_of_getElem? (i := 1) rfl)) (fun _ h9 => h9) rfl dX8_topple_1 ?_
  refine lv_iload_n hx hb dX8_topple_4 rfl (lv_at hl 1 rfl) ?_
  obtain ⟨x7, x9, x10, x12, x13, e14, h8, h11⟩ := (ty_suit hT h2)
  refine tVI (As := [.int p1]) (rest := []) (i := t1) ⟨hx, hb, hml, hown, hts⟩ hK hE hP hD hS hA hAB (s_X5_isClaim_0 l B0 adK adV D cy ad fr0 tx rby rnx f hT t1 h2 p1 _) (cwV 1 hts gX8_topple_X5_isClaim rfl rfl rfl (by decide +kernel) ⟨Nat.le_of_ble_eq_true rfl, Nat.le_of_ble_eq_true rfl⟩) (x_lt (x_suit0 h2)) 5 e14 rfl rfl hl.1 rfl (Nat.le_of_ble_eq_true rfl) dX8_topple_5 ⟨Nat.le_of_ble_eq_true rfl, Nat.le_of_ble_eq_true rfl⟩ (fun r g H locs hw hP hD hS => ?_)
  obtain ⟨hrs, rfl⟩ := hw
  obtain ⟨x15, rfl⟩ : ∃ q, q = r := ⟨_, rfl⟩
  rcases hrs with ⟨rfl, h16, h17⟩ | rfl
  · refine lv_if_eq (tgt := 18) hx hb dX8_topple_8 (by decide) (fun c => absurd c (by decide)) (fun _ => ?_)
    refine lv_iload_n hx hb dX8_topple_11 rfl (lv_at hl 2 rfl) ?_
    refine tSI (As := [.int p2]) (rest := []) ⟨hx, hb, hml, hown, hts⟩ hK hE hP hD hS hA hAB (s_X8_isZeroOrOne_0 l B0 adK adV D cy ad f p2 _) (va_cwS 1 hts gX8_topple_X8_isZeroOrOne rfl rfl rfl (by decide +kernel) ⟨Nat.le_of_ble_eq_true rfl, Nat.le_of_ble_eq_true rfl⟩) rfl hl.1 rfl (Nat.le_of_ble_eq_true rfl) dX8_topple_12 ⟨Nat.le_of_ble_eq_true rfl, Nat.le_of_ble_eq_true rfl⟩ (fun r g H locs hw hP hD hS => ?_)
    obtain ⟨hrs, rfl⟩ := hw
    obtain ⟨x18, rfl⟩ : ∃ q, q = r := ⟨_, rfl⟩
    rcases hrs with ⟨rfl, h19, h20⟩ | rfl
    · refine lv_if_ne (tgt := 20) hx hb dX8_topple_15 (by decide) (fun _ => ?_) (fun c => absurd c (by decide))
      refine lv_aload_n hx hb dX8_topple_20 rfl (lv_at hl 0 rfl) ?_
      refine tVV (As := []) (rest := []) (i := 0) ⟨hx, hb, hml, hown, hts⟩ hK hE hP hD hS hA hAB (s_X8_look_0 l B0 adK adV D cy ad fr0 tx rby rnx f hT _) (cwV 0 hts gX8_topple_X8_look rfl rfl rfl (by decide +kernel) ⟨Nat.le_of_ble_eq_true rfl, Nat.le_of_ble_eq_true rfl⟩) (by decide) 8 e6 rfl rfl hl.1 rfl (Nat.le_of_ble_eq_true rfl) dX8_topple_21 ⟨Nat.le_of_ble_eq_true rfl, Nat.le_of_ble_eq_true rfl⟩ (fun f H locs hw hP hD hS => ?_)
      obtain ⟨hrs, hT⟩ := hw
      refine lv_aload_n hx hb dX8_topple_24 rfl (lv_at hl 0 rfl) ?_
      refine lv_iload_n hx hb dX8_topple_25 rfl (lv_at hl 1 rfl) ?_
      refine lv_aload_n hx hb dX8_topple_26 rfl (lv_at hl 0 rfl) ?_
      obtain ⟨t21, x23, x24, e26, h22, h25⟩ := (show okX8 ad tx 0 (f 0) from hT.1 0 (by decide))
      refine tVR (As := []) (rest := [.int p1, .ref (ad 0)]) (i := 0) ⟨hx, hb, hml, hown, hts⟩ hK hE hP hD hS hA hAB (s_X8_now_0 l B0 adK adV D cy ad fr0 tx rby rnx f hT _) (cwV 0 hts gX8_topple_X8_now rfl rfl rfl (by decide +kernel) ⟨Nat.le_of_ble_eq_true rfl, Nat.le_of_ble_eq_true rfl⟩) (by decide) 8 e26 rfl rfl hl.1 rfl (Nat.le_of_ble_eq_true rfl) dX8_topple_27 ⟨Nat.le_of_ble_eq_true rfl, Nat.le_of_ble_eq_true rfl⟩ (fun ra g H locs hw hra hP hD hS => ?_)
      obtain ⟨hrs, rfl⟩ := hw
      obtain ⟨t27, h28, rfl⟩ := hra
      obtain ⟨x29, x31, x32, x33, e34, h30⟩ := (ty_state hT h28)
      refine va_get (D := D) (cl := vwCl) (ci := 4) (v := .int x29) (C := RX4) (T := TX4) (N := 5) hx hb hts in_X8_topple_X4 hown hK hP t27 (wl_at (x_lt (x_state0 h28)) e34) rfl 1 (by decide) (hts (.fieldLink RX8 145 "EightReasons$State" "tied" "I") (List.mem_of_getElem? (i := 2) rfl)) (fun _ h9 => h9) rfl dX8_topple_30 ?_
      refine lv_aload_n hx hb dX8_topple_33 rfl (lv_at hl 0 rfl) ?_
      refine tVR (As := []) (rest := [.int x29, .int p1, .ref (ad 0)]) (i := 0) ⟨hx, hb, hml, hown, hts⟩ hK hE hP hD hS hA hAB (s_X8_now_0 l B0 adK adV D cy ad fr0 tx rby rnx f hT _) (cwV 0 hts gX8_topple_X8_now rfl rfl rfl (by decide +kernel) ⟨Nat.le_of_ble_eq_true rfl, Nat.le_of_ble_eq_true rfl⟩) (by decide) 8 e26 rfl rfl hl.1 rfl (Nat.le_of_ble_eq_true rfl) dX8_topple_34 ⟨Nat.le_of_ble_eq_true rfl, Nat.le_of_ble_eq_true rfl⟩ (fun ra g H locs hw hra hP hD hS => ?_)
      obtain ⟨hrs, rfl⟩ := hw
      obtain ⟨t35, h36, rfl⟩ := hra
      obtain ⟨x37, x39, x40, x41, e42, h38⟩ := (ty_state hT h36)
      refine va_get (D := D) (cl := vwCl) (ci := 4) (v := .int x37) (C := RX4) (T := TX4) (N := 5) hx hb hts in_X8_topple_X4 hown hK hP t35 (wl_at (x_lt (x_state0 h36)) e42) rfl 1 (by decide) (hts (.fieldLink RX8 145 "EightReasons$State" "tied" "I") (List.mem_of_getElem? (i := 2) rfl)) (fun _ h9 => h9) rfl dX8_topple_37 ?_
      refine lv_iconst (v := 0) hx hb dX8_topple_40 (by decide) ?_
      have ttl_0 := tl_0
      refine tVI (As := [.int p1, .int x29, .int x37, .int 0]) (rest := []) (i := 0) ⟨hx, hb, hml, hown, hts⟩ hK hE hP hD hS hA hAB (s_X8_fewest_0 l B0 adK adV D cy ad fr0 tx rby rnx f hT p1 (by omega) x29 (by omega) x37 (by omega) (0 : Int32) (by omega) _) (cwV 4 hts gX8_topple_X8_fewest rfl rfl rfl (by decide +kernel) ⟨Nat.le_of_ble_eq_true rfl, Nat.le_of_ble_eq_true rfl⟩) (by decide) 8 e26 rfl rfl hl.1 rfl (Nat.le_of_ble_eq_true rfl) dX8_topple_41 ⟨Nat.le_of_ble_eq_true rfl, Nat.le_of_ble_eq_true rfl⟩ (fun r f H locs hw hP hD hS => ?_)
      obtain ⟨hrs, hT⟩ := hw
      obtain ⟨x43, rfl⟩ : ∃ q, q = r := ⟨_, rfl⟩
      have h44 := hrs
      refine lv_iload_n hx hb dX8_topple_44 rfl (lv_at hl 2 rfl) ?_
      refine tSI (As := [.int x43, .int p2]) (rest := []) ⟨hx, hb, hml, hown, hts⟩ hK hE hP hD hS hA hAB (s_X8_sizeOrSet_0 l B0 adK adV D cy ad f x43 (by omega) p2 (by omega) _) (va_cwS 2 hts gX8_topple_X8_sizeOrSet rfl rfl rfl (by decide +kernel) ⟨Nat.le_of_ble_eq_true rfl, Nat.le_of_ble_eq_true rfl⟩) rfl hl.1 rfl (Nat.le_of_ble_eq_true rfl) dX8_topple_45 ⟨Nat.le_of_ble_eq_true rfl, Nat.le_of_ble_eq_true rfl⟩ (fun r g H locs hw hP hD hS => ?_)
      obtain ⟨hrs, rfl⟩ := hw
      obtain ⟨x45, rfl⟩ : ∃ q, q = r := ⟨_, rfl⟩
      have h46 := hrs
      exact tI hx hb hr hlk rfl hP hS ⟨(by omega), hT⟩ dX8_topple_48
    · refine lv_if_ne (tgt := 20) hx hb dX8_topple_15 (by decide) (fun c => absurd (by decide) c) (fun _ => ?_)
      refine lv_iconst (v := (-1)) hx hb dX8_topple_18 (by decide) ?_
      have ttl_m1 := tl_m1
      exact tI hx hb hr hlk rfl hP hS ⟨(by omega), hT⟩ dX8_topple_19
  · refine lv_if_eq (tgt := 18) hx hb dX8_topple_8 (by decide) (fun _ => ?_) (fun c => absurd (by decide) c)
    refine lv_iconst (v := (-1)) hx hb dX8_topple_18 (by decide) ?_
    have ttl_m1 := tl_m1
    exact tI hx hb hr hlk rfl hP hS ⟨(by omega), hT⟩ dX8_topple_19
set_option maxHeartbeats 4000000 in
set_option maxRecDepth 100000 in
theorem s_X8_isUp_0 (l : Launch) (B0 : Nat) (adK adV : Nat → Nat) (D : va_G) (cy : Nat → ClassId) (ad : Nat → Nat) (fr0 : Nat → va_E) (tx : Int32) (rby : Int32) (rnx : Int32) (f : Nat → va_E) (hT : TYx ad cy fr0 tx rby rnx f) (p1 : Int32) (hp1 : 0 ≤ p1.toInt ∧ p1.toInt ≤ 9) (p2 : Int32) (hp2 : 0 ≤ p2.toInt ∧ p2.toInt ≤ 4095) (sz : Nat) : TtI l yX8_isUp wsX8_isUp 5 124 [.ref (ad 0), .int p1, .int p2] B0 adK adV D cy ad f sz (fun (r : Int32) (g : Nat → va_E) => ((r = 1) ∨ (r = 0)) ∧ (TYx ad cy fr0 tx rby rnx g)) := by
  refine TtI.of (cc := cX8_isUp) (maxL := 3) (ty := .boolean) (own := RX8) (by decide) rfl (Nat.le_of_ble_eq_true rfl) rfl ?_
  intro p e s m below meth c A ls hx hb hr hml hts hown hlk hK hE hP hD hS hA hAB hl
  have hl : lv_has ls 3 [(0, .ref (ad 0)), (1, .int p1), (2, .int p2)] := hl
  refine st0 (fun H locs hP hS => ?_) hP hS
  refine lv_aload_n hx hb dX8_isUp_0 rfl (lv_at hl 0 rfl) ?_
  obtain ⟨t1, x3, x4, e6, h2, h5⟩ := (show okX8 ad tx 0 (f 0) from hT.1 0 (by decide))
  refine va_get (D := D) (cl := vwCl) (ci := 8) (v := .ref (ad 10)) (C := RX8) (T := TX8) (N := 13) hx hb hts in_X8_isUp_X8 hown hK hP 0 (wl_at (by decide) e6) rfl 6 (by decide) (hts (.fieldLink RX8 44 "EightReasons" "loom" "LEightReasons$Loom;") (List.mem_of_getElem? (i := 1) rfl)) (fun _ h9 => h9) rfl dX8_isUp_1 ?_
  refine lv_iload_n hx hb dX8_isUp_4 rfl (lv_at hl 2 rfl) ?_
  obtain ⟨x7, t8, x10, x11, e12, h9⟩ := (show okX2 ad 10 (f 10) from hT.1 10 (by decide))
  refine tVI (As := [.int p2]) (rest := []) (i := 10) ⟨hx, hb, hml, hown, hts⟩ hK hE hP hD hS hA hAB (s_X2_standing_0 l B0 adK adV D cy ad fr0 tx rby rnx f hT p2 _) (cwV 1 hts gX8_isUp_X2_standing rfl rfl rfl (by decide +kernel) ⟨Nat.le_of_ble_eq_true rfl, Nat.le_of_ble_eq_true rfl⟩) (by decide) 2 e12 rfl rfl hl.1 rfl (Nat.le_of_ble_eq_true rfl) dX8_isUp_5 ⟨Nat.le_of_ble_eq_true rfl, Nat.le_of_ble_eq_true rfl⟩ (fun r f H locs hw hP hD hS => ?_)
  obtain ⟨hrs, hT⟩ := hw
  obtain ⟨x13, rfl⟩ : ∃ q, q = r := ⟨_, rfl⟩
  have h14 := hrs
  refine lv_iload_n hx hb dX8_isUp_8 rfl (lv_at hl 1 rfl) ?_
  refine tSI (As := [.int x13, .int p1]) (rest := []) ⟨hx, hb, hml, hown, hts⟩ hK hE hP hD hS hA hAB (s_X8_has_0 l B0 adK adV D cy ad f x13 p1 _) (va_cwS 2 hts gX8_isUp_X8_has rfl rfl rfl (by decide +kernel) ⟨Nat.le_of_ble_eq_true rfl, Nat.le_of_ble_eq_true rfl⟩) rfl hl.1 rfl (Nat.le_of_ble_eq_true rfl) dX8_isUp_9 ⟨Nat.le_of_ble_eq_true rfl, Nat.le_of_ble_eq_true rfl⟩ (fun r g H locs hw hP hD hS => ?_)
  obtain ⟨hrs, rfl⟩ := hw
  obtain ⟨x15, rfl⟩ : ∃ q, q = r := ⟨_, rfl⟩
  rcases hrs with rfl | rfl
  · have ttl_1 := tl_1
    exact tI hx hb hr hlk rfl hP hS ⟨(Or.inl rfl), hT⟩ dX8_isUp_12
  · have ttl_0 := tl_0
    exact tI hx hb hr hlk rfl hP hS ⟨(Or.inr rfl), hT⟩ dX8_isUp_12
set_option maxHeartbeats 4000000 in
set_option maxRecDepth 100000 in
theorem s_X8_leastProp_0 (l : Launch) (B0 : Nat) (adK adV : Nat → Nat) (D : va_G) (cy : Nat → ClassId) (ad : Nat → Nat) (fr0 : Nat → va_E) (tx : Int32) (rby : Int32) (rnx : Int32) (f : Nat → va_E) (hT : TYx ad cy fr0 tx rby rnx f) (p1 : Int32) (sz : Nat) : TtI l yX8_leastProp wsX8_leastProp 6 151 [.ref (ad 0), .int p1] B0 adK adV D cy ad f sz (fun (r : Int32) (g : Nat → va_E) => (-1 ≤ r.toInt ∧ r.toInt ≤ 4095) ∧ (TYx ad cy fr0 tx rby rnx g)) := by
  refine TtI.of (cc := cX8_leastProp) (maxL := 2) (ty := .int) (own := RX8) (by decide) rfl (Nat.le_of_ble_eq_true rfl) rfl ?_
  intro p e s m below meth c A ls hx hb hr hml hts hown hlk hK hE hP hD hS hA hAB hl
  have hl : lv_has ls 2 [(0, .ref (ad 0)), (1, .int p1)] := hl
  refine st0 (fun H locs hP hS => ?_) hP hS
  refine lv_aload_n hx hb dX8_leastProp_0 rfl (lv_at hl 0 rfl) ?_
  obtain ⟨t1, x3, x4, e6, h2, h5⟩ := (show okX8 ad tx 0 (f 0) from hT.1 0 (by decide))
  refine tVV (As := []) (rest := []) (i := 0) ⟨hx, hb, hml, hown, hts⟩ hK hE hP hD hS hA hAB (s_X8_look_0 l B0 adK adV D cy ad fr0 tx rby rnx f hT _) (cwV 0 hts gX8_leastProp_X8_look rfl rfl rfl (by decide +kernel) ⟨Nat.le_of_ble_eq_true rfl, Nat.le_of_ble_eq_true rfl⟩) (by decide) 8 e6 rfl rfl hl.1 rfl (Nat.le_of_ble_eq_true rfl) dX8_leastProp_1 ⟨Nat.le_of_ble_eq_true rfl, Nat.le_of_ble_eq_true rfl⟩ (fun f H locs hw hP hD hS => ?_)
  obtain ⟨hrs, hT⟩ := hw
  refine lv_aload_n hx hb dX8_leastProp_4 rfl (lv_at hl 0 rfl) ?_
  obtain ⟨t7, x9, x10, e12, h8, h11⟩ := (show okX8 ad tx 0 (f 0) from hT.1 0 (by decide))
  refine va_get (D := D) (cl := vwCl) (ci := 8) (v := .ref (ad t7)) (C := RX8) (T := TX8) (N := 13) hx hb hts in_X8_leastProp_X8 hown hK hP 0 (wl_at (by decide) e12) rfl 1 (by decide) (hts (.fieldLink RX8 19 "EightReasons" "told" "LEightReasons$Suit;") (List.mem_of_getElem? (i := 1) rfl)) (fun _ h9 => h9) rfl dX8_leastProp_5 ?_
  refine lv_iload_n hx hb dX8_leastProp_8 rfl (lv_at hl 1 rfl) ?_
  obtain ⟨x13, x15, x16, x18, x19, e20, h14, h17⟩ := (ty_suit hT h8)
  refine tVI (As := [.int p1]) (rest := []) (i := t7) ⟨hx, hb, hml, hown, hts⟩ hK hE hP hD hS hA hAB (s_X5_isClaim_0 l B0 adK adV D cy ad fr0 tx rby rnx f hT t7 h8 p1 _) (cwV 1 hts gX8_leastProp_X5_isClaim rfl rfl rfl (by decide +kernel) ⟨Nat.le_of_ble_eq_true rfl, Nat.le_of_ble_eq_true rfl⟩) (x_lt (x_suit0 h8)) 5 e20 rfl rfl hl.1 rfl (Nat.le_of_ble_eq_true rfl) dX8_leastProp_9 ⟨Nat.le_of_ble_eq_true rfl, Nat.le_of_ble_eq_true rfl⟩ (fun r g H locs hw hP hD hS => ?_)
  obtain ⟨hrs, rfl⟩ := hw
  obtain ⟨x21, rfl⟩ : ∃ q, q = r := ⟨_, rfl⟩
  rcases hrs with ⟨rfl, h22, h23⟩ | rfl
  · refine lv_if_eq (tgt := 30) hx hb dX8_leastProp_12 (by decide) (fun c => absurd c (by decide)) (fun _ => ?_)
    refine lv_aload_n hx hb dX8_leastProp_15 rfl (lv_at hl 0 rfl) ?_
    refine lv_iload_n hx hb dX8_leastProp_16 rfl (lv_at hl 1 rfl) ?_
    refine lv_aload_n hx hb dX8_leastProp_17 rfl (lv_at hl 0 rfl) ?_
    refine tVR (As := []) (rest := [.int p1, .ref (ad 0)]) (i := 0) ⟨hx, hb, hml, hown, hts⟩ hK hE hP hD hS hA hAB (s_X8_now_0 l B0 adK adV D cy ad fr0 tx rby rnx f hT _) (cwV 0 hts gX8_leastProp_X8_now rfl rfl rfl (by decide +kernel) ⟨Nat.le_of_ble_eq_true rfl, Nat.le_of_ble_eq_true rfl⟩) (by decide) 8 e12 rfl rfl hl.1 rfl (Nat.le_of_ble_eq_true rfl) dX8_leastProp_18 ⟨Nat.le_of_ble_eq_true rfl, Nat.le_of_ble_eq_true rfl⟩ (fun ra g H locs hw hra hP hD hS => ?_)
    obtain ⟨hrs, rfl⟩ := hw
    obtain ⟨t24, h25, rfl⟩ := hra
    obtain ⟨x26, x28, x29, x30, e31, h27⟩ := (ty_state hT h25)
    refine va_get (D := D) (cl := vwCl) (ci := 4) (v := .int x26) (C := RX4) (T := TX4) (N := 5) hx hb hts in_X8_leastProp_X4 hown hK hP t24 (wl_at (x_lt (x_state0 h25)) e31) rfl 1 (by decide) (hts (.fieldLink RX8 145 "EightReasons$State" "tied" "I") (List.mem_of_getElem? (i := 2) rfl)) (fun _ h9 => h9) rfl dX8_leastProp_21 ?_
    refine tVI (As := [.int p1, .int x26]) (rest := []) (i := 0) ⟨hx, hb, hml, hown, hts⟩ hK hE hP hD hS hA hAB (s_X8_isUp_0 l B0 adK adV D cy ad fr0 tx rby rnx f hT p1 (by omega) x26 (by omega) _) (cwV 2 hts gX8_leastProp_X8_isUp rfl rfl rfl (by decide +kernel) ⟨Nat.le_of_ble_eq_true rfl, Nat.le_of_ble_eq_true rfl⟩) (by decide) 8 e12 rfl rfl hl.1 rfl (Nat.le_of_ble_eq_true rfl) dX8_leastProp_24 ⟨Nat.le_of_ble_eq_true rfl, Nat.le_of_ble_eq_true rfl⟩ (fun r f H locs hw hP hD hS => ?_)
    obtain ⟨hrs, hT⟩ := hw
    obtain ⟨x32, rfl⟩ : ∃ q, q = r := ⟨_, rfl⟩
    rcases hrs with rfl | rfl
    · refine lv_if_ne (tgt := 32) hx hb dX8_leastProp_27 (by decide) (fun _ => ?_) (fun c => absurd c (by decide))
      refine lv_aload_n hx hb dX8_leastProp_32 rfl (lv_at hl 0 rfl) ?_
      refine lv_iload_n hx hb dX8_leastProp_33 rfl (lv_at hl 1 rfl) ?_
      refine lv_aload_n hx hb dX8_leastProp_34 rfl (lv_at hl 0 rfl) ?_
      obtain ⟨t33, x35, x36, e38, h34, h37⟩ := (show okX8 ad tx 0 (f 0) from hT.1 0 (by decide))
      refine tVR (As := []) (rest := [.int p1, .ref (ad 0)]) (i := 0) ⟨hx, hb, hml, hown, hts⟩ hK hE hP hD hS hA hAB (s_X8_now_0 l B0 adK adV D cy ad fr0 tx rby rnx f hT _) (cwV 0 hts gX8_leastProp_X8_now rfl rfl rfl (by decide +kernel) ⟨Nat.le_of_ble_eq_true rfl, Nat.le_of_ble_eq_true rfl⟩) (by decide) 8 e38 rfl rfl hl.1 rfl (Nat.le_of_ble_eq_true rfl) dX8_leastProp_35 ⟨Nat.le_of_ble_eq_true rfl, Nat.le_of_ble_eq_true rfl⟩ (fun ra g H locs hw hra hP hD hS => ?_)
      obtain ⟨hrs, rfl⟩ := hw
      obtain ⟨t39, h40, rfl⟩ := hra
      obtain ⟨x41, x43, x44, x45, e46, h42⟩ := (ty_state hT h40)
      refine va_get (D := D) (cl := vwCl) (ci := 4) (v := .int x41) (C := RX4) (T := TX4) (N := 5) hx hb hts in_X8_leastProp_X4 hown hK hP t39 (wl_at (x_lt (x_state0 h40)) e46) rfl 1 (by decide) (hts (.fieldLink RX8 145 "EightReasons$State" "tied" "I") (List.mem_of_getElem? (i := 2) rfl)) (fun _ h9 => h9) rfl dX8_leastProp_38 ?_
      refine lv_iconst (v := 0) hx hb dX8_leastProp_41 (by decide) ?_
      refine lv_iconst (v := 1) hx hb dX8_leastProp_42 (by decide) ?_
      have ttl_0 := tl_0
      have ttl_1 := tl_1
      refine tVI (As := [.int p1, .int x41, .int 0, .int 1]) (rest := []) (i := 0) ⟨hx, hb, hml, hown, hts⟩ hK hE hP hD hS hA hAB (s_X8_fewest_0 l B0 adK adV D cy ad fr0 tx rby rnx f hT p1 (by omega) x41 (by omega) (0 : Int32) (by omega) (1 : Int32) (by omega) _) (cwV 4 hts gX8_leastProp_X8_fewest rfl rfl rfl (by decide +kernel) ⟨Nat.le_of_ble_eq_true rfl, Nat.le_of_ble_eq_true rfl⟩) (by decide) 8 e38 rfl rfl hl.1 rfl (Nat.le_of_ble_eq_true rfl) dX8_leastProp_43 ⟨Nat.le_of_ble_eq_true rfl, Nat.le_of_ble_eq_true rfl⟩ (fun r f H locs hw hP hD hS => ?_)
      obtain ⟨hrs, hT⟩ := hw
      obtain ⟨x47, rfl⟩ : ∃ q, q = r := ⟨_, rfl⟩
      have h48 := hrs
      exact tI hx hb hr hlk rfl hP hS ⟨(by omega), hT⟩ dX8_leastProp_46
    · refine lv_if_ne (tgt := 32) hx hb dX8_leastProp_27 (by decide) (fun c => absurd (by decide) c) (fun _ => ?_)
      refine lv_iconst (v := (-1)) hx hb dX8_leastProp_30 (by decide) ?_
      have ttl_m1 := tl_m1
      exact tI hx hb hr hlk rfl hP hS ⟨(by omega), hT⟩ dX8_leastProp_31
  · refine lv_if_eq (tgt := 30) hx hb dX8_leastProp_12 (by decide) (fun _ => ?_) (fun c => absurd (by decide) c)
    refine lv_iconst (v := (-1)) hx hb dX8_leastProp_30 (by decide) ?_
    have ttl_m1 := tl_m1
    exact tI hx hb hr hlk rfl hP hS ⟨(by omega), hT⟩ dX8_leastProp_31
set_option maxHeartbeats 4000000 in
set_option maxRecDepth 100000 in
theorem s_X8_prop_0 (l : Launch) (B0 : Nat) (adK adV : Nat → Nat) (D : va_G) (cy : Nat → ClassId) (ad : Nat → Nat) (fr0 : Nat → va_E) (tx : Int32) (rby : Int32) (rnx : Int32) (f : Nat → va_E) (hT : TYx ad cy fr0 tx rby rnx f) (p1 : Int32) (p2 : Int32) (sz : Nat) : TtI l yX8_prop wsX8_prop 7 172 [.ref (ad 0), .int p1, .int p2] B0 adK adV D cy ad f sz (fun (r : Int32) (g : Nat → va_E) => (-1 ≤ r.toInt ∧ r.toInt ≤ 4095) ∧ (TYx ad cy fr0 tx rby rnx g)) := by
  refine TtI.of (cc := cX8_prop) (maxL := 3) (ty := .int) (own := RX8) (by decide) rfl (Nat.le_of_ble_eq_true rfl) rfl ?_
  intro p e s m below meth c A ls hx hb hr hml hts hown hlk hK hE hP hD hS hA hAB hl
  have hl : lv_has ls 3 [(0, .ref (ad 0)), (1, .int p1), (2, .int p2)] := hl
  refine st0 (fun H locs hP hS => ?_) hP hS
  refine lv_iload_n hx hb dX8_prop_0 rfl (lv_at hl 2 rfl) ?_
  refine tSI (As := [.int p2]) (rest := []) ⟨hx, hb, hml, hown, hts⟩ hK hE hP hD hS hA hAB (s_X8_isZeroOrOne_0 l B0 adK adV D cy ad f p2 _) (va_cwS 1 hts gX8_prop_X8_isZeroOrOne rfl rfl rfl (by decide +kernel) ⟨Nat.le_of_ble_eq_true rfl, Nat.le_of_ble_eq_true rfl⟩) rfl hl.1 rfl (Nat.le_of_ble_eq_true rfl) dX8_prop_1 ⟨Nat.le_of_ble_eq_true rfl, Nat.le_of_ble_eq_true rfl⟩ (fun r g H locs hw hP hD hS => ?_)
  obtain ⟨hrs, rfl⟩ := hw
  obtain ⟨x1, rfl⟩ : ∃ q, q = r := ⟨_, rfl⟩
  rcases hrs with ⟨rfl, h2, h3⟩ | rfl
  · refine lv_if_eq (tgt := 19) hx hb dX8_prop_4 (by decide) (fun c => absurd c (by decide)) (fun _ => ?_)
    refine lv_aload_n hx hb dX8_prop_7 rfl (lv_at hl 0 rfl) ?_
    refine lv_iload_n hx hb dX8_prop_8 rfl (lv_at hl 1 rfl) ?_
    obtain ⟨t4, x6, x7, e9, h5, h8⟩ := (show okX8 ad tx 0 (f 0) from hT.1 0 (by decide))
    refine tVI (As := [.int p1]) (rest := []) (i := 0) ⟨hx, hb, hml, hown, hts⟩ hK hE hP hD hS hA hAB (s_X8_leastProp_0 l B0 adK adV D cy ad fr0 tx rby rnx f hT p1 _) (cwV 1 hts gX8_prop_X8_leastProp rfl rfl rfl (by decide +kernel) ⟨Nat.le_of_ble_eq_true rfl, Nat.le_of_ble_eq_true rfl⟩) (by decide) 8 e9 rfl rfl hl.1 rfl (Nat.le_of_ble_eq_true rfl) dX8_prop_9 ⟨Nat.le_of_ble_eq_true rfl, Nat.le_of_ble_eq_true rfl⟩ (fun r f H locs hw hP hD hS => ?_)
    obtain ⟨hrs, hT⟩ := hw
    obtain ⟨x10, rfl⟩ : ∃ q, q = r := ⟨_, rfl⟩
    have h11 := hrs
    refine lv_iload_n hx hb dX8_prop_12 rfl (lv_at hl 2 rfl) ?_
    refine tSI (As := [.int x10, .int p2]) (rest := []) ⟨hx, hb, hml, hown, hts⟩ hK hE hP hD hS hA hAB (s_X8_sizeOrSet_0 l B0 adK adV D cy ad f x10 (by omega) p2 (by omega) _) (va_cwS 2 hts gX8_prop_X8_sizeOrSet rfl rfl rfl (by decide +kernel) ⟨Nat.le_of_ble_eq_true rfl, Nat.le_of_ble_eq_true rfl⟩) rfl hl.1 rfl (Nat.le_of_ble_eq_true rfl) dX8_prop_13 ⟨Nat.le_of_ble_eq_true rfl, Nat.le_of_ble_eq_true rfl⟩ (fun r g H locs hw hP hD hS => ?_)
    obtain ⟨hrs, rfl⟩ := hw
    obtain ⟨x12, rfl⟩ : ∃ q, q = r := ⟨_, rfl⟩
    have h13 := hrs
    refine lv_goto (tgt := 20) hx hb dX8_prop_16 (by decide) ?_
    exact tI hx hb hr hlk rfl hP hS ⟨(by omega), hT⟩ dX8_prop_20
  · refine lv_if_eq (tgt := 19) hx hb dX8_prop_4 (by decide) (fun _ => ?_) (fun c => absurd (by decide) c)
    refine lv_iconst (v := (-1)) hx hb dX8_prop_19 (by decide) ?_
    have ttl_m1 := tl_m1
    exact tI hx hb hr hlk rfl hP hS ⟨(by omega), hT⟩ dX8_prop_20
set_option maxHeartbeats 4000000 in
set_option maxRecDepth 100000 in
theorem s_X8_pivots_0 (l : Launch) (B0 : Nat) (adK adV : Nat → Nat) (D : va_G) (cy : Nat → ClassId) (ad : Nat → Nat) (fr0 : Nat → va_E) (tx : Int32) (rby : Int32) (rnx : Int32) (f : Nat → va_E) (hT : TYx ad cy fr0 tx rby rnx f) (p1 : Int32) (sz : Nat) : TtI l yX8_pivots wsX8_pivots 6 146 [.ref (ad 0), .int p1] B0 adK adV D cy ad f sz (fun (r : Int32) (g : Nat → va_E) => (-1 ≤ r.toInt ∧ r.toInt ≤ 4095) ∧ (TYx ad cy fr0 tx rby rnx g)) := by
  refine TtI.of (cc := cX8_pivots) (maxL := 5) (ty := .int) (own := RX8) (by decide) rfl (Nat.le_of_ble_eq_true rfl) rfl ?_
  intro p e s m below meth c A ls hx hb hr hml hts hown hlk hK hE hP hD hS hA hAB hl
  have hl : lv_has ls 5 [(0, .ref (ad 0)), (1, .int p1)] := hl
  refine st0 (fun H locs hP hS => ?_) hP hS
  have j41 : ∀ (N : Nat) (f : Nat → va_E) (H : Heap) (locs : List Loc) (ls : Array Slot) (v41_l4 : Int32) (v41_l3 : Int32) (v41_l2 : Int32), (13 - v41_l4.toInt ≤ (N : Int)) → (0 ≤ v41_l4.toInt ∧ v41_l4.toInt ≤ 12) → (0 ≤ v41_l3.toInt ∧ v41_l3.toInt ≤ 4095) → (0 ≤ v41_l2.toInt ∧ v41_l2.toInt ≤ 4095) → (0 ≤ p1.toInt ∧ p1.toInt ≤ 9) → (TYx ad cy fr0 tx rby rnx f) → (va_P D vwCl (wl ad f) H) → (va_D A (wl ad f)) → (va_S A s.heap H locs) → (lv_has ls 5 [(4, .int v41_l4), (3, .int v41_l3), (2, .int v41_l2), (0, .ref (ad 0)), (1, .int p1)]) → W p l e (rmO 6 146 0 0) s m ([.ref (ad 0), .int p1] : List Value).toArray below meth c H locs 0 0 (MQ below (va_Qi (fun (r : Int32) (g : Nat → va_E) => (-1 ≤ r.toInt ∧ r.toInt ≤ 4095) ∧ (TYx ad cy fr0 tx rby rnx g)) (fun g t => PstT D ad g t) A) ([.ref (ad 0), .int p1] : List Value).toArray s 0 0 A) (F0 m 41 ls []) := by
    intro N
    induction N with
    | zero => intro f H locs ls v41_l4 v41_l3 v41_l2 hN hv41_l4 hv41_l3 hv41_l2 hv41_l1 hT hP hD hS hl; exact absurd hN (by omega)
    | succ N ih41 =>
      intro f H locs ls v41_l4 v41_l3 v41_l2 hN hv41_l4 hv41_l3 hv41_l2 hv41_l1 hT hP hD hS hl
      have j83 : ∀ (f : Nat → va_E) (H : Heap) (locs : List Loc) (ls : Array Slot) (v83_l3 : Int32), (0 ≤ v41_l4.toInt ∧ v41_l4.toInt ≤ 11) → (0 ≤ v83_l3.toInt ∧ v83_l3.toInt ≤ 4095) → (0 ≤ v41_l2.toInt ∧ v41_l2.toInt ≤ 4095) → (0 ≤ p1.toInt ∧ p1.toInt ≤ 9) → (TYx ad cy fr0 tx rby rnx f) → (va_P D vwCl (wl ad f) H) → (va_D A (wl ad f)) → (va_S A s.heap H locs) → (lv_has ls 5 [(4, .int v41_l4), (3, .int v83_l3), (2, .int v41_l2), (0, .ref (ad 0)), (1, .int p1)]) → W p l e (rmO 6 146 0 0) s m ([.ref (ad 0), .int p1] : List Value).toArray below meth c H locs 0 0 (MQ below (va_Qi (fun (r : Int32) (g : Nat → va_E) => (-1 ≤ r.toInt ∧ r.toInt ≤ 4095) ∧ (TYx ad cy fr0 tx rby rnx g)) (fun g t => PstT D ad g t) A) ([.ref (ad 0), .int p1] : List Value).toArray s 0 0 A) (F0 m 83 ls []) := by
        intro f H locs ls v83_l3 hv83_l4 hv83_l3 hv83_l2 hv83_l1 hT hP hD hS hl
        obtain ⟨x1, ex1⟩ : ∃ q : Int32, q = v41_l4 + Int32.ofInt (1) := ⟨_, rfl⟩
        refine lv_iinc (v := x1) (lv' := [(4, .int x1), (3, .int v83_l3), (2, .int v41_l2), (0, .ref (ad 0)), (1, .int p1)]) hx hb dX8_pivots_83 hl (k := 0) rfl ex1.symm (by decide) rfl (fun ls hl => ?_)
        have hx1 := r_inc ex1 (by decide) (by omega) (by omega)
        refine lv_goto (tgt := 41) hx hb dX8_pivots_86 (by decide) ?_
        exact ih41 f H locs ls x1 v83_l3 v41_l2 (by omega) (by omega) (by omega) (by omega) (by omega) hT hP hD hS (lv_sub hl [0, 1, 2, 3, 4] rfl)
      refine lv_iload hx hb dX8_pivots_41 (lv_at hl 0 rfl) ?_
      refine lv_aload_n hx hb dX8_pivots_43 rfl (lv_at hl 3 rfl) ?_
      obtain ⟨t2, x4, x5, e7, h3, h6⟩ := (show okX8 ad tx 0 (f 0) from hT.1 0 (by decide))
      refine va_get (D := D) (cl := vwCl) (ci := 8) (v := .ref (ad t2)) (C := RX8) (T := TX8) (N := 13) hx hb hts in_X8_pivots_X8 hown hK hP 0 (wl_at (by decide) e7) rfl 1 (by decide) (hts (.fieldLink RX8 19 "EightReasons" "told" "LEightReasons$Suit;") (List.mem_of_getElem? (i := 1) rfl)) (fun _ h9 => h9) rfl dX8_pivots_44 ?_
      obtain ⟨x8, x10, x11, x13, x14, e15, h9, h12⟩ := (ty_suit hT h3)
      refine va_get (D := D) (cl := vwCl) (ci := 5) (v := .int x11) (C := RX5) (T := TX5) (N := 12) hx hb hts in_X8_pivots_X5 hown hK hP t2 (wl_at (x_lt (x_suit0 h3)) e15) rfl 2 (by decide) (hts (.fieldLink RX8 157 "EightReasons$Suit" "strands" "I") (List.mem_of_getElem? (i := 3) rfl)) (fun _ h9 => h9) rfl dX8_pivots_47 ?_
      refine lv_icmp_ge (tgt := 89) hx hb dX8_pivots_50 (by decide) (fun c16 => ?_) (fun c16 => ?_)
      · have kc16 := c_le c16
        refine lv_iload_n hx hb dX8_pivots_89 rfl (lv_at hl 1 rfl) ?_
        exact tI hx hb hr hlk rfl hP hS ⟨(by omega), hT⟩ dX8_pivots_90
      · have kc16 := c_nle c16
        refine lv_iload_n hx hb dX8_pivots_53 rfl (lv_at hl 2 rfl) ?_
        refine lv_iload hx hb dX8_pivots_54 (lv_at hl 0 rfl) ?_
        refine tSI (As := [.int v41_l2, .int v41_l4]) (rest := []) ⟨hx, hb, hml, hown, hts⟩ hK hE hP hD hS hA hAB (s_X8_has_0 l B0 adK adV D cy ad f v41_l2 v41_l4 _) (va_cwS 2 hts gX8_pivots_X8_has rfl rfl rfl (by decide +kernel) ⟨Nat.le_of_ble_eq_true rfl, Nat.le_of_ble_eq_true rfl⟩) rfl hl.1 rfl (Nat.le_of_ble_eq_true rfl) dX8_pivots_56 ⟨Nat.le_of_ble_eq_true rfl, Nat.le_of_ble_eq_true rfl⟩ (fun r g H locs hw hP hD hS => ?_)
        obtain ⟨hrs, rfl⟩ := hw
        obtain ⟨x17, rfl⟩ : ∃ q, q = r := ⟨_, rfl⟩
        rcases hrs with rfl | rfl
        · refine lv_if_eq (tgt := 83) hx hb dX8_pivots_59 (by decide) (fun c => absurd c (by decide)) (fun _ => ?_)
          refine lv_aload_n hx hb dX8_pivots_62 rfl (lv_at hl 3 rfl) ?_
          refine lv_iload_n hx hb dX8_pivots_63 rfl (lv_at hl 4 rfl) ?_
          refine lv_iload_n hx hb dX8_pivots_64 rfl (lv_at hl 2 rfl) ?_
          refine lv_iconst (v := 1) hx hb dX8_pivots_65 (by decide) ?_
          refine lv_iload hx hb dX8_pivots_66 (lv_at hl 0 rfl) ?_
          refine lv_ishl hx hb dX8_pivots_68 ?_
          refine lv_topi (fun x18 ex18 => ?_)
          have hx18 := r_shl (K := 11) (M := 2048) ex18 (by decide) (by decide) (by omega) (by omega)
          refine lv_ixor hx hb dX8_pivots_69 ?_
          refine lv_topi (fun x19 ex19 => ?_)
          have hx19 := r_xor (k := 12) (K := 4096) ex19 (by decide) (by decide) (by omega) (by omega) (by omega) (by omega)
          refine tVI (As := [.int p1, .int x19]) (rest := []) (i := 0) ⟨hx, hb, hml, hown, hts⟩ hK hE hP hD hS hA hAB (s_X8_isUp_0 l B0 adK adV D cy ad fr0 tx rby rnx f hT p1 (by omega) x19 (by omega) _) (cwV 2 hts gX8_pivots_X8_isUp rfl rfl rfl (by decide +kernel) ⟨Nat.le_of_ble_eq_true rfl, Nat.le_of_ble_eq_true rfl⟩) (by decide) 8 e7 rfl rfl hl.1 rfl (Nat.le_of_ble_eq_true rfl) dX8_pivots_70 ⟨Nat.le_of_ble_eq_true rfl, Nat.le_of_ble_eq_true rfl⟩ (fun r f H locs hw hP hD hS => ?_)
          obtain ⟨hrs, hT⟩ := hw
          obtain ⟨x20, rfl⟩ : ∃ q, q = r := ⟨_, rfl⟩
          rcases hrs with rfl | rfl
          · refine lv_if_ne (tgt := 83) hx hb dX8_pivots_73 (by decide) (fun _ => ?_) (fun c => absurd c (by decide))
            exact j83 f H locs ls v41_l3 (by omega) (by omega) (by omega) (by omega) hT hP hD hS (lv_sub hl [0, 1, 2, 3, 4] rfl)
          · refine lv_if_ne (tgt := 83) hx hb dX8_pivots_73 (by decide) (fun c => absurd (by decide) c) (fun _ => ?_)
            refine lv_iload_n hx hb dX8_pivots_76 rfl (lv_at hl 1 rfl) ?_
            refine lv_iconst (v := 1) hx hb dX8_pivots_77 (by decide) ?_
            refine lv_iload hx hb dX8_pivots_78 (lv_at hl 0 rfl) ?_
            refine lv_ishl hx hb dX8_pivots_80 ?_
            refine lv_topi (fun x21 ex21 => ?_)
            have hx21 := r_shl (K := 11) (M := 2048) ex21 (by decide) (by decide) (by omega) (by omega)
            refine lv_ior hx hb dX8_pivots_81 ?_
            refine lv_topi (fun x22 ex22 => ?_)
            have hx22 := r_or (k := 12) (K := 4096) ex22 (by decide) (by decide) (by omega) (by omega) (by omega) (by omega)
            refine lv_istore_n (lv' := [(3, .int x22), (4, .int v41_l4), (2, .int v41_l2), (0, .ref (ad 0)), (1, .int p1)]) hx hb dX8_pivots_82 rfl hl (by decide) rfl (fun ls hl => ?_)
            exact j83 f H locs ls x22 (by omega) (by omega) (by omega) (by omega) hT hP hD hS (lv_sub hl [1, 0, 2, 3, 4] rfl)
        · refine lv_if_eq (tgt := 83) hx hb dX8_pivots_59 (by decide) (fun _ => ?_) (fun c => absurd (by decide) c)
          exact j83 f H locs ls v41_l3 (by omega) (by omega) (by omega) (by omega) hT hP hD hS (lv_sub hl [0, 1, 2, 3, 4] rfl)
  refine lv_aload_n hx hb dX8_pivots_0 rfl (lv_at hl 0 rfl) ?_
  obtain ⟨t23, x25, x26, e28, h24, h27⟩ := (show okX8 ad tx 0 (f 0) from hT.1 0 (by decide))
  refine va_get (D := D) (cl := vwCl) (ci := 8) (v := .ref (ad t23)) (C := RX8) (T := TX8) (N := 13) hx hb hts in_X8_pivots_X8 hown hK hP 0 (wl_at (by decide) e28) rfl 1 (by decide) (hts (.fieldLink RX8 19 "EightReasons" "told" "LEightReasons$Suit;") (List.mem_of_getElem? (i := 1) rfl)) (fun _ h9 => h9) rfl dX8_pivots_1 ?_
  refine lv_iload_n hx hb dX8_pivots_4 rfl (lv_at hl 1 rfl) ?_
  obtain ⟨x29, x31, x32, x34, x35, e36, h30, h33⟩ := (ty_suit hT h24)
  refine tVI (As := [.int p1]) (rest := []) (i := t23) ⟨hx, hb, hml, hown, hts⟩ hK hE hP hD hS hA hAB (s_X5_isClaim_0 l B0 adK adV D cy ad fr0 tx rby rnx f hT t23 h24 p1 _) (cwV 1 hts gX8_pivots_X5_isClaim rfl rfl rfl (by decide +kernel) ⟨Nat.le_of_ble_eq_true rfl, Nat.le_of_ble_eq_true rfl⟩) (x_lt (x_suit0 h24)) 5 e36 rfl rfl hl.1 rfl (Nat.le_of_ble_eq_true rfl) dX8_pivots_5 ⟨Nat.le_of_ble_eq_true rfl, Nat.le_of_ble_eq_true rfl⟩ (fun r g H locs hw hP hD hS => ?_)
  obtain ⟨hrs, rfl⟩ := hw
  obtain ⟨x37, rfl⟩ : ∃ q, q = r := ⟨_, rfl⟩
  rcases hrs with ⟨rfl, h38, h39⟩ | rfl
  · refine lv_if_ne (tgt := 13) hx hb dX8_pivots_8 (by decide) (fun _ => ?_) (fun c => absurd c (by decide))
    refine lv_aload_n hx hb dX8_pivots_13 rfl (lv_at hl 0 rfl) ?_
    refine tVV (As := []) (rest := []) (i := 0) ⟨hx, hb, hml, hown, hts⟩ hK hE hP hD hS hA hAB (s_X8_look_0 l B0 adK adV D cy ad fr0 tx rby rnx f hT _) (cwV 0 hts gX8_pivots_X8_look rfl rfl rfl (by decide +kernel) ⟨Nat.le_of_ble_eq_true rfl, Nat.le_of_ble_eq_true rfl⟩) (by decide) 8 e28 rfl rfl hl.1 rfl (Nat.le_of_ble_eq_true rfl) dX8_pivots_14 ⟨Nat.le_of_ble_eq_true rfl, Nat.le_of_ble_eq_true rfl⟩ (fun f H locs hw hP hD hS => ?_)
    obtain ⟨hrs, hT⟩ := hw
    refine lv_aload_n hx hb dX8_pivots_17 rfl (lv_at hl 0 rfl) ?_
    obtain ⟨t40, x42, x43, e45, h41, h44⟩ := (show okX8 ad tx 0 (f 0) from hT.1 0 (by decide))
    refine tVR (As := []) (rest := []) (i := 0) ⟨hx, hb, hml, hown, hts⟩ hK hE hP hD hS hA hAB (s_X8_now_0 l B0 adK adV D cy ad fr0 tx rby rnx f hT _) (cwV 0 hts gX8_pivots_X8_now rfl rfl rfl (by decide +kernel) ⟨Nat.le_of_ble_eq_true rfl, Nat.le_of_ble_eq_true rfl⟩) (by decide) 8 e45 rfl rfl hl.1 rfl (Nat.le_of_ble_eq_true rfl) dX8_pivots_18 ⟨Nat.le_of_ble_eq_true rfl, Nat.le_of_ble_eq_true rfl⟩ (fun ra g H locs hw hra hP hD hS => ?_)
    obtain ⟨hrs, rfl⟩ := hw
    obtain ⟨t46, h47, rfl⟩ := hra
    obtain ⟨x48, x50, x51, x52, e53, h49⟩ := (ty_state hT h47)
    refine va_get (D := D) (cl := vwCl) (ci := 4) (v := .int x48) (C := RX4) (T := TX4) (N := 5) hx hb hts in_X8_pivots_X4 hown hK hP t46 (wl_at (x_lt (x_state0 h47)) e53) rfl 1 (by decide) (hts (.fieldLink RX8 145 "EightReasons$State" "tied" "I") (List.mem_of_getElem? (i := 2) rfl)) (fun _ h9 => h9) rfl dX8_pivots_21 ?_
    refine lv_istore_n (lv' := [(2, .int x48), (0, .ref (ad 0)), (1, .int p1)]) hx hb dX8_pivots_24 rfl hl (by decide) rfl (fun ls hl => ?_)
    refine lv_aload_n hx hb dX8_pivots_25 rfl (lv_at hl 1 rfl) ?_
    refine lv_iload_n hx hb dX8_pivots_26 rfl (lv_at hl 2 rfl) ?_
    refine lv_iload_n hx hb dX8_pivots_27 rfl (lv_at hl 0 rfl) ?_
    refine tVI (As := [.int p1, .int x48]) (rest := []) (i := 0) ⟨hx, hb, hml, hown, hts⟩ hK hE hP hD hS hA hAB (s_X8_isUp_0 l B0 adK adV D cy ad fr0 tx rby rnx f hT p1 (by omega) x48 (by omega) _) (cwV 2 hts gX8_pivots_X8_isUp rfl rfl rfl (by decide +kernel) ⟨Nat.le_of_ble_eq_true rfl, Nat.le_of_ble_eq_true rfl⟩) (by decide) 8 e45 rfl rfl hl.1 rfl (Nat.le_of_ble_eq_true rfl) dX8_pivots_28 ⟨Nat.le_of_ble_eq_true rfl, Nat.le_of_ble_eq_true rfl⟩ (fun r f H locs hw hP hD hS => ?_)
    obtain ⟨hrs, hT⟩ := hw
    obtain ⟨x54, rfl⟩ : ∃ q, q = r := ⟨_, rfl⟩
    rcases hrs with rfl | rfl
    · refine lv_if_ne (tgt := 36) hx hb dX8_pivots_31 (by decide) (fun _ => ?_) (fun c => absurd c (by decide))
      refine lv_iconst (v := 0) hx hb dX8_pivots_36 (by decide) ?_
      refine lv_istore_n (lv' := [(3, .int 0), (2, .int x48), (0, .ref (ad 0)), (1, .int p1)]) hx hb dX8_pivots_37 rfl hl (by decide) rfl (fun ls hl => ?_)
      refine lv_iconst (v := 0) hx hb dX8_pivots_38 (by decide) ?_
      refine lv_istore (lv' := [(4, .int 0), (3, .int 0), (2, .int x48), (0, .ref (ad 0)), (1, .int p1)]) hx hb dX8_pivots_39 hl (by decide) rfl (fun ls hl => ?_)
      have ttl_0 := tl_0
      exact j41 (Int.toNat (13 - (0 : Int32).toInt)) f H locs ls (0 : Int32) (0 : Int32) x48 (by omega) (by omega) (by omega) (by omega) (by omega) hT hP hD hS (lv_sub hl [0, 1, 2, 3, 4] rfl)
    · refine lv_if_ne (tgt := 36) hx hb dX8_pivots_31 (by decide) (fun c => absurd (by decide) c) (fun _ => ?_)
      refine lv_iconst (v := 0) hx hb dX8_pivots_34 (by decide) ?_
      have ttl_0 := tl_0
      exact tI hx hb hr hlk rfl hP hS ⟨(by omega), hT⟩ dX8_pivots_35
  · refine lv_if_ne (tgt := 13) hx hb dX8_pivots_8 (by decide) (fun c => absurd (by decide) c) (fun _ => ?_)
    refine lv_iconst (v := (-1)) hx hb dX8_pivots_11 (by decide) ?_
    have ttl_m1 := tl_m1
    exact tI hx hb hr hlk rfl hP hS ⟨(by omega), hT⟩ dX8_pivots_12
set_option maxHeartbeats 4000000 in
set_option maxRecDepth 100000 in
theorem s_X8_power_0 (l : Launch) (B0 : Nat) (adK adV : Nat → Nat) (D : va_G) (cy : Nat → ClassId) (ad : Nat → Nat) (fr0 : Nat → va_E) (tx : Int32) (rby : Int32) (rnx : Int32) (f : Nat → va_E) (hT : TYx ad cy fr0 tx rby rnx f) (p1 : Int32) (p2 : Int32) (sz : Nat) : TtI l yX8_power wsX8_power 6 146 [.ref (ad 0), .int p1, .int p2] B0 adK adV D cy ad f sz (fun (r : Int32) (g : Nat → va_E) => True ∧ (TYx ad cy fr0 tx rby rnx g)) := by
  refine TtI.of (cc := cX8_power) (maxL := 6) (ty := .int) (own := RX8) (by decide) rfl (Nat.le_of_ble_eq_true rfl) rfl ?_
  intro p e s m below meth c A ls hx hb hr hml hts hown hlk hK hE hP hD hS hA hAB hl
  have hl : lv_has ls 6 [(0, .ref (ad 0)), (1, .int p1), (2, .int p2)] := hl
  refine st0 (fun H locs hP hS => ?_) hP hS
  have j39 : ∀ (N : Nat) (f : Nat → va_E) (H : Heap) (locs : List Loc) (ls : Array Slot) (v39_l5 : Int32) (v39_l4 : Int32) (v39_l3 : Int32), (4097 - v39_l5.toInt ≤ (N : Int)) → (0 ≤ v39_l5.toInt ∧ v39_l5.toInt ≤ 4096) → (0 ≤ v39_l3.toInt ∧ v39_l3.toInt ≤ 4095) → (0 ≤ p1.toInt ∧ p1.toInt ≤ 9) → (0 ≤ p2.toInt ∧ p2.toInt ≤ 11) → (TYx ad cy fr0 tx rby rnx f) → (va_P D vwCl (wl ad f) H) → (va_D A (wl ad f)) → (va_S A s.heap H locs) → (lv_has ls 6 [(5, .int v39_l5), (4, .int v39_l4), (3, .int v39_l3), (0, .ref (ad 0)), (1, .int p1), (2, .int p2)]) → W p l e (rmO 6 146 0 0) s m ([.ref (ad 0), .int p1, .int p2] : List Value).toArray below meth c H locs 0 0 (MQ below (va_Qi (fun (r : Int32) (g : Nat → va_E) => True ∧ (TYx ad cy fr0 tx rby rnx g)) (fun g t => PstT D ad g t) A) ([.ref (ad 0), .int p1, .int p2] : List Value).toArray s 0 0 A) (F0 m 39 ls []) := by
    intro N
    induction N with
    | zero => intro f H locs ls v39_l5 v39_l4 v39_l3 hN hv39_l5 hv39_l3 hv39_l1 hv39_l2 hT hP hD hS hl; exact absurd hN (by omega)
    | succ N ih39 =>
      intro f H locs ls v39_l5 v39_l4 v39_l3 hN hv39_l5 hv39_l3 hv39_l1 hv39_l2 hT hP hD hS hl
      have j90 : ∀ (f : Nat → va_E) (H : Heap) (locs : List Loc) (ls : Array Slot) (v90_l4 : Int32), (0 ≤ v39_l5.toInt ∧ v39_l5.toInt ≤ 4095) → (0 ≤ v39_l3.toInt ∧ v39_l3.toInt ≤ 4095) → (0 ≤ p1.toInt ∧ p1.toInt ≤ 9) → (0 ≤ p2.toInt ∧ p2.toInt ≤ 11) → (TYx ad cy fr0 tx rby rnx f) → (va_P D vwCl (wl ad f) H) → (va_D A (wl ad f)) → (va_S A s.heap H locs) → (lv_has ls 6 [(5, .int v39_l5), (4, .int v90_l4), (3, .int v39_l3), (0, .ref (ad 0)), (1, .int p1), (2, .int p2)]) → W p l e (rmO 6 146 0 0) s m ([.ref (ad 0), .int p1, .int p2] : List Value).toArray below meth c H locs 0 0 (MQ below (va_Qi (fun (r : Int32) (g : Nat → va_E) => True ∧ (TYx ad cy fr0 tx rby rnx g)) (fun g t => PstT D ad g t) A) ([.ref (ad 0), .int p1, .int p2] : List Value).toArray s 0 0 A) (F0 m 90 ls []) := by
        intro f H locs ls v90_l4 hv90_l5 hv90_l3 hv90_l1 hv90_l2 hT hP hD hS hl
        obtain ⟨x1, ex1⟩ : ∃ q : Int32, q = v39_l5 + Int32.ofInt (1) := ⟨_, rfl⟩
        refine lv_iinc (v := x1) (lv' := [(5, .int x1), (4, .int v90_l4), (3, .int v39_l3), (0, .ref (ad 0)), (1, .int p1), (2, .int p2)]) hx hb dX8_power_90 hl (k := 0) rfl ex1.symm (by decide) rfl (fun ls hl => ?_)
        have hx1 := r_inc ex1 (by decide) (by omega) (by omega)
        refine lv_goto (tgt := 39) hx hb dX8_power_93 (by decide) ?_
        exact ih39 f H locs ls x1 v90_l4 v39_l3 (by omega) (by omega) (by omega) (by omega) (by omega) hT hP hD hS (lv_sub hl [0, 1, 2, 3, 4, 5] rfl)
      refine lv_iload hx hb dX8_power_39 (lv_at hl 0 rfl) ?_
      refine lv_iload_n hx hb dX8_power_41 rfl (lv_at hl 2 rfl) ?_
      refine lv_icmp_gt (tgt := 96) hx hb dX8_power_42 (by decide) (fun c2 => ?_) (fun c2 => ?_)
      · have kc2 := c_lt c2
        refine lv_iload hx hb dX8_power_96 (lv_at hl 1 rfl) ?_
        exact tI hx hb hr hlk rfl hP hS ⟨trivial, hT⟩ dX8_power_98
      · have kc2 := c_nlt c2
        refine lv_iload hx hb dX8_power_45 (lv_at hl 0 rfl) ?_
        refine lv_iload_n hx hb dX8_power_47 rfl (lv_at hl 2 rfl) ?_
        refine lv_iconst (v := (-1)) hx hb dX8_power_48 (by decide) ?_
        refine lv_ixor hx hb dX8_power_49 ?_
        refine lv_topi (fun x3 ex3 => ?_)
        refine lv_iand hx hb dX8_power_50 ?_
        refine lv_topi (fun x4 ex4 => ?_)
        have hx4 := r_andl ex4 (by omega)
        have ttl_0 := tl_0
        refine lv_if_ne (tgt := 90) hx hb dX8_power_51 (by decide) (fun c5 => ?_) (fun c5 => ?_)
        · have kc5 := c_ne c5
          exact j90 f H locs ls v39_l4 (by omega) (by omega) (by omega) (by omega) hT hP hD hS (lv_sub hl [0, 1, 2, 3, 4, 5] rfl)
        · have kc5 := c_eq c5
          refine lv_iload hx hb dX8_power_54 (lv_at hl 0 rfl) ?_
          refine lv_iload_n hx hb dX8_power_56 rfl (lv_at hl 5 rfl) ?_
          refine tSI (As := [.int v39_l5, .int p2]) (rest := []) ⟨hx, hb, hml, hown, hts⟩ hK hE hP hD hS hA hAB (s_X8_has_0 l B0 adK adV D cy ad f v39_l5 p2 _) (va_cwS 2 hts gX8_power_X8_has rfl rfl rfl (by decide +kernel) ⟨Nat.le_of_ble_eq_true rfl, Nat.le_of_ble_eq_true rfl⟩) rfl hl.1 rfl (Nat.le_of_ble_eq_true rfl) dX8_power_57 ⟨Nat.le_of_ble_eq_true rfl, Nat.le_of_ble_eq_true rfl⟩ (fun r g H locs hw hP hD hS => ?_)
          obtain ⟨hrs, rfl⟩ := hw
          obtain ⟨x6, rfl⟩ : ∃ q, q = r := ⟨_, rfl⟩
          rcases hrs with rfl | rfl
          · refine lv_if_eq (tgt := 90) hx hb dX8_power_60 (by decide) (fun c => absurd c (by decide)) (fun _ => ?_)
            refine lv_aload_n hx hb dX8_power_63 rfl (lv_at hl 3 rfl) ?_
            refine lv_iload_n hx hb dX8_power_64 rfl (lv_at hl 4 rfl) ?_
            refine lv_iload hx hb dX8_power_65 (lv_at hl 0 rfl) ?_
            obtain ⟨t7, x9, x10, e12, h8, h11⟩ := (show okX8 ad tx 0 (f 0) from hT.1 0 (by decide))
            refine tVI (As := [.int p1, .int v39_l5]) (rest := []) (i := 0) ⟨hx, hb, hml, hown, hts⟩ hK hE hP hD hS hA hAB (s_X8_isUp_0 l B0 adK adV D cy ad fr0 tx rby rnx f hT p1 (by omega) v39_l5 (by omega) _) (cwV 2 hts gX8_power_X8_isUp rfl rfl rfl (by decide +kernel) ⟨Nat.le_of_ble_eq_true rfl, Nat.le_of_ble_eq_true rfl⟩) (by decide) 8 e12 rfl rfl hl.1 rfl (Nat.le_of_ble_eq_true rfl) dX8_power_67 ⟨Nat.le_of_ble_eq_true rfl, Nat.le_of_ble_eq_true rfl⟩ (fun r f H locs hw hP hD hS => ?_)
            obtain ⟨hrs, hT⟩ := hw
            obtain ⟨x13, rfl⟩ : ∃ q, q = r := ⟨_, rfl⟩
            rcases hrs with rfl | rfl
            · refine lv_if_eq (tgt := 90) hx hb dX8_power_70 (by decide) (fun c => absurd c (by decide)) (fun _ => ?_)
              refine lv_aload_n hx hb dX8_power_73 rfl (lv_at hl 3 rfl) ?_
              refine lv_iload_n hx hb dX8_power_74 rfl (lv_at hl 4 rfl) ?_
              refine lv_iload hx hb dX8_power_75 (lv_at hl 0 rfl) ?_
              refine lv_iconst (v := 1) hx hb dX8_power_77 (by decide) ?_
              refine lv_iload_n hx hb dX8_power_78 rfl (lv_at hl 5 rfl) ?_
              refine lv_ishl hx hb dX8_power_79 ?_
              refine lv_topi (fun x14 ex14 => ?_)
              have hx14 := r_shl (K := 11) (M := 2048) ex14 (by decide) (by decide) (by omega) (by omega)
              refine lv_ixor hx hb dX8_power_80 ?_
              refine lv_topi (fun x15 ex15 => ?_)
              have hx15 := r_xor (k := 12) (K := 4096) ex15 (by decide) (by decide) (by omega) (by omega) (by omega) (by omega)
              obtain ⟨t16, x18, x19, e21, h17, h20⟩ := (show okX8 ad tx 0 (f 0) from hT.1 0 (by decide))
              refine tVI (As := [.int p1, .int x15]) (rest := []) (i := 0) ⟨hx, hb, hml, hown, hts⟩ hK hE hP hD hS hA hAB (s_X8_isUp_0 l B0 adK adV D cy ad fr0 tx rby rnx f hT p1 (by omega) x15 (by omega) _) (cwV 2 hts gX8_power_X8_isUp rfl rfl rfl (by decide +kernel) ⟨Nat.le_of_ble_eq_true rfl, Nat.le_of_ble_eq_true rfl⟩) (by decide) 8 e21 rfl rfl hl.1 rfl (Nat.le_of_ble_eq_true rfl) dX8_power_81 ⟨Nat.le_of_ble_eq_true rfl, Nat.le_of_ble_eq_true rfl⟩ (fun r f H locs hw hP hD hS => ?_)
              obtain ⟨hrs, hT⟩ := hw
              obtain ⟨x22, rfl⟩ : ∃ q, q = r := ⟨_, rfl⟩
              rcases hrs with rfl | rfl
              · refine lv_if_ne (tgt := 90) hx hb dX8_power_84 (by decide) (fun _ => ?_) (fun c => absurd c (by decide))
                exact j90 f H locs ls v39_l4 (by omega) (by omega) (by omega) (by omega) hT hP hD hS (lv_sub hl [0, 1, 2, 3, 4, 5] rfl)
              · refine lv_if_ne (tgt := 90) hx hb dX8_power_84 (by decide) (fun c => absurd (by decide) c) (fun _ => ?_)
                obtain ⟨x23, ex23⟩ : ∃ q : Int32, q = v39_l4 + Int32.ofInt (1) := ⟨_, rfl⟩
                refine lv_iinc (v := x23) (lv' := [(4, .int x23), (5, .int v39_l5), (3, .int v39_l3), (0, .ref (ad 0)), (1, .int p1), (2, .int p2)]) hx hb dX8_power_87 hl (k := 1) rfl ex23.symm (by decide) rfl (fun ls hl => ?_)
                exact j90 f H locs ls x23 (by omega) (by omega) (by omega) (by omega) hT hP hD hS (lv_sub hl [1, 0, 2, 3, 4, 5] rfl)
            · refine lv_if_eq (tgt := 90) hx hb dX8_power_70 (by decide) (fun _ => ?_) (fun c => absurd (by decide) c)
              exact j90 f H locs ls v39_l4 (by omega) (by omega) (by omega) (by omega) hT hP hD hS (lv_sub hl [0, 1, 2, 3, 4, 5] rfl)
          · refine lv_if_eq (tgt := 90) hx hb dX8_power_60 (by decide) (fun _ => ?_) (fun c => absurd (by decide) c)
            exact j90 f H locs ls v39_l4 (by omega) (by omega) (by omega) (by omega) hT hP hD hS (lv_sub hl [0, 1, 2, 3, 4, 5] rfl)
  refine lv_aload_n hx hb dX8_power_0 rfl (lv_at hl 0 rfl) ?_
  obtain ⟨t24, x26, x27, e29, h25, h28⟩ := (show okX8 ad tx 0 (f 0) from hT.1 0 (by decide))
  refine va_get (D := D) (cl := vwCl) (ci := 8) (v := .ref (ad t24)) (C := RX8) (T := TX8) (N := 13) hx hb hts in_X8_power_X8 hown hK hP 0 (wl_at (by decide) e29) rfl 1 (by decide) (hts (.fieldLink RX8 19 "EightReasons" "told" "LEightReasons$Suit;") (List.mem_of_getElem? (i := 1) rfl)) (fun _ h9 => h9) rfl dX8_power_1 ?_
  refine lv_iload_n hx hb dX8_power_4 rfl (lv_at hl 1 rfl) ?_
  obtain ⟨x30, x32, x33, x35, x36, e37, h31, h34⟩ := (ty_suit hT h25)
  refine tVI (As := [.int p1]) (rest := []) (i := t24) ⟨hx, hb, hml, hown, hts⟩ hK hE hP hD hS hA hAB (s_X5_isClaim_0 l B0 adK adV D cy ad fr0 tx rby rnx f hT t24 h25 p1 _) (cwV 1 hts gX8_power_X5_isClaim rfl rfl rfl (by decide +kernel) ⟨Nat.le_of_ble_eq_true rfl, Nat.le_of_ble_eq_true rfl⟩) (x_lt (x_suit0 h25)) 5 e37 rfl rfl hl.1 rfl (Nat.le_of_ble_eq_true rfl) dX8_power_5 ⟨Nat.le_of_ble_eq_true rfl, Nat.le_of_ble_eq_true rfl⟩ (fun r g H locs hw hP hD hS => ?_)
  obtain ⟨hrs, rfl⟩ := hw
  obtain ⟨x38, rfl⟩ : ∃ q, q = r := ⟨_, rfl⟩
  rcases hrs with ⟨rfl, h39, h40⟩ | rfl
  · refine lv_if_eq (tgt := 19) hx hb dX8_power_8 (by decide) (fun c => absurd c (by decide)) (fun _ => ?_)
    refine lv_aload_n hx hb dX8_power_11 rfl (lv_at hl 0 rfl) ?_
    refine lv_iload_n hx hb dX8_power_12 rfl (lv_at hl 2 rfl) ?_
    refine tVI (As := [.int p2]) (rest := []) (i := 0) ⟨hx, hb, hml, hown, hts⟩ hK hE hP hD hS hA hAB (s_X8_isTied_0 l B0 adK adV D cy ad fr0 tx rby rnx f hT p2 _) (cwV 1 hts gX8_power_X8_isTied rfl rfl rfl (by decide +kernel) ⟨Nat.le_of_ble_eq_true rfl, Nat.le_of_ble_eq_true rfl⟩) (by decide) 8 e29 rfl rfl hl.1 rfl (Nat.le_of_ble_eq_true rfl) dX8_power_13 ⟨Nat.le_of_ble_eq_true rfl, Nat.le_of_ble_eq_true rfl⟩ (fun r g H locs hw hP hD hS => ?_)
    obtain ⟨hrs, rfl⟩ := hw
    obtain ⟨x41, rfl⟩ : ∃ q, q = r := ⟨_, rfl⟩
    rcases hrs with ⟨rfl, h42, h43⟩ | rfl
    · refine lv_if_ne (tgt := 21) hx hb dX8_power_16 (by decide) (fun _ => ?_) (fun c => absurd c (by decide))
      refine lv_aload_n hx hb dX8_power_21 rfl (lv_at hl 0 rfl) ?_
      refine tVV (As := []) (rest := []) (i := 0) ⟨hx, hb, hml, hown, hts⟩ hK hE hP hD hS hA hAB (s_X8_look_0 l B0 adK adV D cy ad fr0 tx rby rnx f hT _) (cwV 0 hts gX8_power_X8_look rfl rfl rfl (by decide +kernel) ⟨Nat.le_of_ble_eq_true rfl, Nat.le_of_ble_eq_true rfl⟩) (by decide) 8 e29 rfl rfl hl.1 rfl (Nat.le_of_ble_eq_true rfl) dX8_power_22 ⟨Nat.le_of_ble_eq_true rfl, Nat.le_of_ble_eq_true rfl⟩ (fun f H locs hw hP hD hS => ?_)
      obtain ⟨hrs, hT⟩ := hw
      refine lv_aload_n hx hb dX8_power_25 rfl (lv_at hl 0 rfl) ?_
      obtain ⟨t44, x46, x47, e49, h45, h48⟩ := (show okX8 ad tx 0 (f 0) from hT.1 0 (by decide))
      refine tVR (As := []) (rest := []) (i := 0) ⟨hx, hb, hml, hown, hts⟩ hK hE hP hD hS hA hAB (s_X8_now_0 l B0 adK adV D cy ad fr0 tx rby rnx f hT _) (cwV 0 hts gX8_power_X8_now rfl rfl rfl (by decide +kernel) ⟨Nat.le_of_ble_eq_true rfl, Nat.le_of_ble_eq_true rfl⟩) (by decide) 8 e49 rfl rfl hl.1 rfl (Nat.le_of_ble_eq_true rfl) dX8_power_26 ⟨Nat.le_of_ble_eq_true rfl, Nat.le_of_ble_eq_true rfl⟩ (fun ra g H locs hw hra hP hD hS => ?_)
      obtain ⟨hrs, rfl⟩ := hw
      obtain ⟨t50, h51, rfl⟩ := hra
      obtain ⟨x52, x54, x55, x56, e57, h53⟩ := (ty_state hT h51)
      refine va_get (D := D) (cl := vwCl) (ci := 4) (v := .int x52) (C := RX4) (T := TX4) (N := 5) hx hb hts in_X8_power_X4 hown hK hP t50 (wl_at (x_lt (x_state0 h51)) e57) rfl 1 (by decide) (hts (.fieldLink RX8 145 "EightReasons$State" "tied" "I") (List.mem_of_getElem? (i := 2) rfl)) (fun _ h9 => h9) rfl dX8_power_29 ?_
      refine lv_istore_n (lv' := [(3, .int x52), (0, .ref (ad 0)), (1, .int p1), (2, .int p2)]) hx hb dX8_power_32 rfl hl (by decide) rfl (fun ls hl => ?_)
      refine lv_iconst (v := 0) hx hb dX8_power_33 (by decide) ?_
      refine lv_istore (lv' := [(4, .int 0), (3, .int x52), (0, .ref (ad 0)), (1, .int p1), (2, .int p2)]) hx hb dX8_power_34 hl (by decide) rfl (fun ls hl => ?_)
      refine lv_iconst (v := 0) hx hb dX8_power_36 (by decide) ?_
      refine lv_istore (lv' := [(5, .int 0), (4, .int 0), (3, .int x52), (0, .ref (ad 0)), (1, .int p1), (2, .int p2)]) hx hb dX8_power_37 hl (by decide) rfl (fun ls hl => ?_)
      have ttl_0 := tl_0
      exact j39 (Int.toNat (4097 - (0 : Int32).toInt)) f H locs ls (0 : Int32) (0 : Int32) x52 (by omega) (by omega) (by omega) (by omega) (by omega) hT hP hD hS (lv_sub hl [0, 1, 2, 3, 4, 5] rfl)
    · refine lv_if_ne (tgt := 21) hx hb dX8_power_16 (by decide) (fun c => absurd (by decide) c) (fun _ => ?_)
      refine lv_iconst (v := (-1)) hx hb dX8_power_19 (by decide) ?_
      have ttl_m1 := tl_m1
      exact tI hx hb hr hlk rfl hP hS ⟨trivial, hT⟩ dX8_power_20
  · refine lv_if_eq (tgt := 19) hx hb dX8_power_8 (by decide) (fun _ => ?_) (fun c => absurd (by decide) c)
    refine lv_iconst (v := (-1)) hx hb dX8_power_19 (by decide) ?_
    have ttl_m1 := tl_m1
    exact tI hx hb hr hlk rfl hP hS ⟨trivial, hT⟩ dX8_power_20
set_option maxHeartbeats 4000000 in
set_option maxRecDepth 100000 in
theorem s_X2_beyond_0 (l : Launch) (B0 : Nat) (adK adV : Nat → Nat) (D : va_G) (cy : Nat → ClassId) (ad : Nat → Nat) (fr0 : Nat → va_E) (tx : Int32) (rby : Int32) (rnx : Int32) (f : Nat → va_E) (hT : TYx ad cy fr0 tx rby rnx f) (p1 : Int32) (hp1 : 0 ≤ p1.toInt ∧ p1.toInt ≤ 9) (sz : Nat) : TtI l yX2_beyond wsX2_beyond 2 42 [.ref (ad 10), .int p1] B0 adK adV D cy ad f sz (fun (r : Int32) (g : Nat → va_E) => True ∧ (f = g)) := by
  refine TtI.of (cc := cX2_beyond) (maxL := 2) (ty := .int) (own := RX2) (by decide) rfl (Nat.le_of_ble_eq_true rfl) rfl ?_
  intro p e s m below meth c A ls hx hb hr hml hts hown hlk hK hE hP hD hS hA hAB hl
  have hl : lv_has ls 2 [(0, .ref (ad 10)), (1, .int p1)] := hl
  refine st0 (fun H locs hP hS => ?_) hP hS
  refine lv_aload_n hx hb dX2_beyond_0 rfl (lv_at hl 0 rfl) ?_
  obtain ⟨x1, t2, x4, x5, e6, h3⟩ := (show okX2 ad 10 (f 10) from hT.1 10 (by decide))
  refine va_get (D := D) (cl := vwCl) (ci := 2) (v := .ref (ad t2)) (C := RX2) (T := TX2) (N := 10) hx hb hts in_X2_beyond_X2 hown hK hP 10 (wl_at (by decide) e6) rfl 4 (by decide) (hts (.fieldLink RX2 24 "EightReasons$Loom" "suit" "LEightReasons$Suit;") (List.mem_of_getElem? (i := 1) rfl)) (fun _ h9 => h9) rfl dX2_beyond_1 ?_
  refine lv_iload_n hx hb dX2_beyond_4 rfl (lv_at hl 1 rfl) ?_
  obtain ⟨x7, x9, x10, x12, x13, e14, h8, h11⟩ := (ty_suit hT h3)
  refine tVI (As := [.int p1]) (rest := []) (i := t2) ⟨hx, hb, hml, hown, hts⟩ hK hE hP hD hS hA hAB (s_X5_isClaim_0 l B0 adK adV D cy ad fr0 tx rby rnx f hT t2 h3 p1 _) (cwV 1 hts gX2_beyond_X5_isClaim rfl rfl rfl (by decide +kernel) ⟨Nat.le_of_ble_eq_true rfl, Nat.le_of_ble_eq_true rfl⟩) (x_lt (x_suit0 h3)) 5 e14 rfl rfl hl.1 rfl (Nat.le_of_ble_eq_true rfl) dX2_beyond_5 ⟨Nat.le_of_ble_eq_true rfl, Nat.le_of_ble_eq_true rfl⟩ (fun r g H locs hw hP hD hS => ?_)
  obtain ⟨hrs, rfl⟩ := hw
  obtain ⟨x15, rfl⟩ : ∃ q, q = r := ⟨_, rfl⟩
  rcases hrs with ⟨rfl, h16, h17⟩ | rfl
  · refine lv_if_eq (tgt := 27) hx hb dX2_beyond_8 (by decide) (fun c => absurd c (by decide)) (fun _ => ?_)
    refine lv_aload_n hx hb dX2_beyond_11 rfl (lv_at hl 0 rfl) ?_
    refine va_get (D := D) (cl := vwCl) (ci := 2) (v := .ref (ad 12)) (C := RX2) (T := TX2) (N := 10) hx hb hts in_X2_beyond_X2 hown hK hP 10 (wl_at (by decide) e6) rfl 2 (by decide) (hts (.fieldLink RX2 15 "EightReasons$Loom" "sum" "[I") (List.mem_of_getElem? (i := 2) rfl)) (fun _ h9 => h9) rfl dX2_beyond_12 ?_
    refine lv_iload_n hx hb dX2_beyond_15 rfl (lv_at hl 1 rfl) ?_
    obtain ⟨g19, e18⟩ := (show okI cy 10 (f 12) from hT.1 12 (by decide))
    refine va_iald hx hb hK hP 12 0 (wl_at (by decide) e18) rfl (vp_in_iff.mpr ⟨by omega, by omega⟩) dX2_beyond_16 ?_
    refine lv_topi (fun x20 ex20 => ?_)
    refine lv_aload_n hx hb dX2_beyond_17 rfl (lv_at hl 0 rfl) ?_
    refine va_get (D := D) (cl := vwCl) (ci := 2) (v := .ref (ad 15)) (C := RX2) (T := TX2) (N := 10) hx hb hts in_X2_beyond_X2 hown hK hP 10 (wl_at (by decide) e6) rfl 7 (by decide) (hts (.fieldLink RX2 31 "EightReasons$Loom" "needs" "[I") (List.mem_of_getElem? (i := 3) rfl)) (fun _ h9 => h9) rfl dX2_beyond_18 ?_
    refine lv_iload_n hx hb dX2_beyond_21 rfl (lv_at hl 1 rfl) ?_
    obtain ⟨g22, e21⟩ := (show okI cy 10 (f 15) from hT.1 15 (by decide))
    refine va_iald hx hb hK hP 15 0 (wl_at (by decide) e21) rfl (vp_in_iff.mpr ⟨by omega, by omega⟩) dX2_beyond_22 ?_
    refine lv_topi (fun x23 ex23 => ?_)
    refine lv_isub hx hb dX2_beyond_23 ?_
    refine lv_topi (fun x24 ex24 => ?_)
    refine lv_goto (tgt := 28) hx hb dX2_beyond_24 (by decide) ?_
    exact tI hx hb hr hlk rfl hP hS ⟨trivial, rfl⟩ dX2_beyond_28
  · refine lv_if_eq (tgt := 27) hx hb dX2_beyond_8 (by decide) (fun _ => ?_) (fun c => absurd (by decide) c)
    refine lv_iconst (v := 0) hx hb dX2_beyond_27 (by decide) ?_
    have ttl_0 := tl_0
    exact tI hx hb hr hlk rfl hP hS ⟨trivial, rfl⟩ dX2_beyond_28
set_option maxHeartbeats 4000000 in
set_option maxRecDepth 100000 in
theorem s_X8_lack_0 (l : Launch) (B0 : Nat) (adK adV : Nat → Nat) (D : va_G) (cy : Nat → ClassId) (ad : Nat → Nat) (fr0 : Nat → va_E) (tx : Int32) (rby : Int32) (rnx : Int32) (f : Nat → va_E) (hT : TYx ad cy fr0 tx rby rnx f) (p1 : Int32) (sz : Nat) : TtI l yX8_lack wsX8_lack 6 144 [.ref (ad 0), .int p1] B0 adK adV D cy ad f sz (fun (r : Int32) (g : Nat → va_E) => (-1 ≤ r.toInt) ∧ (TYx ad cy fr0 tx rby rnx g)) := by
  refine TtI.of (cc := cX8_lack) (maxL := 2) (ty := .int) (own := RX8) (by decide) rfl (Nat.le_of_ble_eq_true rfl) rfl ?_
  intro p e s m below meth c A ls hx hb hr hml hts hown hlk hK hE hP hD hS hA hAB hl
  have hl : lv_has ls 2 [(0, .ref (ad 0)), (1, .int p1)] := hl
  refine st0 (fun H locs hP hS => ?_) hP hS
  refine lv_aload_n hx hb dX8_lack_0 rfl (lv_at hl 0 rfl) ?_
  obtain ⟨t1, x3, x4, e6, h2, h5⟩ := (show okX8 ad tx 0 (f 0) from hT.1 0 (by decide))
  refine va_get (D := D) (cl := vwCl) (ci := 8) (v := .ref (ad t1)) (C := RX8) (T := TX8) (N := 13) hx hb hts in_X8_lack_X8 hown hK hP 0 (wl_at (by decide) e6) rfl 1 (by decide) (hts (.fieldLink RX8 19 "EightReasons" "told" "LEightReasons$Suit;") (List.mem_of_getElem? (i := 1) rfl)) (fun _ h9 => h9) rfl dX8_lack_1 ?_
  refine lv_iload_n hx hb dX8_lack_4 rfl (lv_at hl 1 rfl) ?_
  obtain ⟨x7, x9, x10, x12, x13, e14, h8, h11⟩ := (ty_suit hT h2)
  refine tVI (As := [.int p1]) (rest := []) (i := t1) ⟨hx, hb, hml, hown, hts⟩ hK hE hP hD hS hA hAB (s_X5_isClaim_0 l B0 adK adV D cy ad fr0 tx rby rnx f hT t1 h2 p1 _) (cwV 1 hts gX8_lack_X5_isClaim rfl rfl rfl (by decide +kernel) ⟨Nat.le_of_ble_eq_true rfl, Nat.le_of_ble_eq_true rfl⟩) (x_lt (x_suit0 h2)) 5 e14 rfl rfl hl.1 rfl (Nat.le_of_ble_eq_true rfl) dX8_lack_5 ⟨Nat.le_of_ble_eq_true rfl, Nat.le_of_ble_eq_true rfl⟩ (fun r g H locs hw hP hD hS => ?_)
  obtain ⟨hrs, rfl⟩ := hw
  obtain ⟨x15, rfl⟩ : ∃ q, q = r := ⟨_, rfl⟩
  rcases hrs with ⟨rfl, h16, h17⟩ | rfl
  · refine lv_if_ne (tgt := 13) hx hb dX8_lack_8 (by decide) (fun _ => ?_) (fun c => absurd c (by decide))
    refine lv_aload_n hx hb dX8_lack_13 rfl (lv_at hl 0 rfl) ?_
    refine tVI (As := []) (rest := []) (i := 0) ⟨hx, hb, hml, hown, hts⟩ hK hE hP hD hS hA hAB (s_X8_standingNow_0 l B0 adK adV D cy ad fr0 tx rby rnx f hT _) (cwV 0 hts gX8_lack_X8_standingNow rfl rfl rfl (by decide +kernel) ⟨Nat.le_of_ble_eq_true rfl, Nat.le_of_ble_eq_true rfl⟩) (by decide) 8 e6 rfl rfl hl.1 rfl (Nat.le_of_ble_eq_true rfl) dX8_lack_14 ⟨Nat.le_of_ble_eq_true rfl, Nat.le_of_ble_eq_true rfl⟩ (fun r f H locs hw hP hD hS => ?_)
    obtain ⟨hrs, hT⟩ := hw
    obtain ⟨x18, rfl⟩ : ∃ q, q = r := ⟨_, rfl⟩
    have h19 := hrs
    refine lv_pop hx hb dX8_lack_17 rfl ?_
    refine lv_iconst (v := 0) hx hb dX8_lack_18 (by decide) ?_
    refine lv_aload_n hx hb dX8_lack_19 rfl (lv_at hl 0 rfl) ?_
    obtain ⟨t20, x22, x23, e25, h21, h24⟩ := (show okX8 ad tx 0 (f 0) from hT.1 0 (by decide))
    refine va_get (D := D) (cl := vwCl) (ci := 8) (v := .ref (ad 10)) (C := RX8) (T := TX8) (N := 13) hx hb hts in_X8_lack_X8 hown hK hP 0 (wl_at (by decide) e25) rfl 6 (by decide) (hts (.fieldLink RX8 44 "EightReasons" "loom" "LEightReasons$Loom;") (List.mem_of_getElem? (i := 2) rfl)) (fun _ h9 => h9) rfl dX8_lack_20 ?_
    refine lv_iload_n hx hb dX8_lack_23 rfl (lv_at hl 1 rfl) ?_
    obtain ⟨x26, t27, x29, x30, e31, h28⟩ := (show okX2 ad 10 (f 10) from hT.1 10 (by decide))
    refine tVI (As := [.int p1]) (rest := [.int 0]) (i := 10) ⟨hx, hb, hml, hown, hts⟩ hK hE hP hD hS hA hAB (s_X2_beyond_0 l B0 adK adV D cy ad fr0 tx rby rnx f hT p1 (by omega) _) (cwV 1 hts gX8_lack_X2_beyond rfl rfl rfl (by decide +kernel) ⟨Nat.le_of_ble_eq_true rfl, Nat.le_of_ble_eq_true rfl⟩) (by decide) 2 e31 rfl rfl hl.1 rfl (Nat.le_of_ble_eq_true rfl) dX8_lack_24 ⟨Nat.le_of_ble_eq_true rfl, Nat.le_of_ble_eq_true rfl⟩ (fun r g H locs hw hP hD hS => ?_)
    obtain ⟨hrs, rfl⟩ := hw
    obtain ⟨x32, rfl⟩ : ∃ q, q = r := ⟨_, rfl⟩
    have h33 := hrs
    refine lv_ineg hx hb dX8_lack_27 ?_
    refine lv_topi (fun x34 ex34 => ?_)
    have ttl_0 := tl_0
    refine va_mmax hx hb (hml.trans hl.1.symm) hown (hts (.methodLink RX8 282 Lib.Math.max.name) (List.mem_of_getElem? (i := 3) rfl)) (hts (.static Lib.Math.max.name) (List.mem_of_getElem? (i := 4) rfl)) (hts (.initialized "java/lang/Math") (List.mem_of_getElem? (i := 5) rfl)) (hts (.code Lib.Math.max.name Lib.Math.max.code 2 (some .int)) (List.mem_of_getElem? (i := 6) rfl)) (Nat.le_of_ble_eq_true rfl) (Nat.le_of_ble_eq_true rfl) (Nat.le_of_ble_eq_true rfl) (Nat.le_of_ble_eq_true rfl) dX8_lack_28 ?_
    refine lv_topi (fun x35 ex35 => ?_)
    have hx35 := r_max ex35
    exact tI hx hb hr hlk rfl hP hS ⟨(by omega), hT⟩ dX8_lack_31
  · refine lv_if_ne (tgt := 13) hx hb dX8_lack_8 (by decide) (fun c => absurd (by decide) c) (fun _ => ?_)
    refine lv_iconst (v := (-1)) hx hb dX8_lack_11 (by decide) ?_
    have ttl_m1 := tl_m1
    exact tI hx hb hr hlk rfl hP hS ⟨(by omega), hT⟩ dX8_lack_12
set_option maxHeartbeats 4000000 in
set_option maxRecDepth 100000 in
theorem s_X8_rank_0 (l : Launch) (B0 : Nat) (adK adV : Nat → Nat) (D : va_G) (cy : Nat → ClassId) (ad : Nat → Nat) (fr0 : Nat → va_E) (tx : Int32) (rby : Int32) (rnx : Int32) (f : Nat → va_E) (hT : TYx ad cy fr0 tx rby rnx f) (p1 : Int32) (sz : Nat) : TtI l yX8_rank wsX8_rank 6 144 [.ref (ad 0), .int p1] B0 adK adV D cy ad f sz (fun (r : Int32) (g : Nat → va_E) => True ∧ (TYx ad cy fr0 tx rby rnx g)) := by
  refine TtI.of (cc := cX8_rank) (maxL := 2) (ty := .int) (own := RX8) (by decide) rfl (Nat.le_of_ble_eq_true rfl) rfl ?_
  intro p e s m below meth c A ls hx hb hr hml hts hown hlk hK hE hP hD hS hA hAB hl
  have hl : lv_has ls 2 [(0, .ref (ad 0)), (1, .int p1)] := hl
  refine st0 (fun H locs hP hS => ?_) hP hS
  refine lv_aload_n hx hb dX8_rank_0 rfl (lv_at hl 0 rfl) ?_
  obtain ⟨t1, x3, x4, e6, h2, h5⟩ := (show okX8 ad tx 0 (f 0) from hT.1 0 (by decide))
  refine va_get (D := D) (cl := vwCl) (ci := 8) (v := .ref (ad t1)) (C := RX8) (T := TX8) (N := 13) hx hb hts in_X8_rank_X8 hown hK hP 0 (wl_at (by decide) e6) rfl 1 (by decide) (hts (.fieldLink RX8 19 "EightReasons" "told" "LEightReasons$Suit;") (List.mem_of_getElem? (i := 1) rfl)) (fun _ h9 => h9) rfl dX8_rank_1 ?_
  refine lv_iload_n hx hb dX8_rank_4 rfl (lv_at hl 1 rfl) ?_
  obtain ⟨x7, x9, x10, x12, x13, e14, h8, h11⟩ := (ty_suit hT h2)
  refine tVI (As := [.int p1]) (rest := []) (i := t1) ⟨hx, hb, hml, hown, hts⟩ hK hE hP hD hS hA hAB (s_X5_isPoint_0 l B0 adK adV D cy ad fr0 tx rby rnx f hT t1 h2 p1 _) (cwV 1 hts gX8_rank_X5_isPoint rfl rfl rfl (by decide +kernel) ⟨Nat.le_of_ble_eq_true rfl, Nat.le_of_ble_eq_true rfl⟩) (x_lt (x_suit0 h2)) 5 e14 rfl rfl hl.1 rfl (Nat.le_of_ble_eq_true rfl) dX8_rank_5 ⟨Nat.le_of_ble_eq_true rfl, Nat.le_of_ble_eq_true rfl⟩ (fun r g H locs hw hP hD hS => ?_)
  obtain ⟨hrs, rfl⟩ := hw
  obtain ⟨x15, rfl⟩ : ∃ q, q = r := ⟨_, rfl⟩
  rcases hrs with ⟨rfl, h16, h17⟩ | rfl
  · refine lv_if_eq (tgt := 34) hx hb dX8_rank_8 (by decide) (fun c => absurd c (by decide)) (fun _ => ?_)
    refine lv_aload_n hx hb dX8_rank_11 rfl (lv_at hl 0 rfl) ?_
    refine tVI (As := []) (rest := []) (i := 0) ⟨hx, hb, hml, hown, hts⟩ hK hE hP hD hS hA hAB (s_X8_standingNow_0 l B0 adK adV D cy ad fr0 tx rby rnx f hT _) (cwV 0 hts gX8_rank_X8_standingNow rfl rfl rfl (by decide +kernel) ⟨Nat.le_of_ble_eq_true rfl, Nat.le_of_ble_eq_true rfl⟩) (by decide) 8 e6 rfl rfl hl.1 rfl (Nat.le_of_ble_eq_true rfl) dX8_rank_12 ⟨Nat.le_of_ble_eq_true rfl, Nat.le_of_ble_eq_true rfl⟩ (fun r f H locs hw hP hD hS => ?_)
    obtain ⟨hrs, hT⟩ := hw
    obtain ⟨x18, rfl⟩ : ∃ q, q = r := ⟨_, rfl⟩
    have h19 := hrs
    refine lv_iload_n hx hb dX8_rank_15 rfl (lv_at hl 1 rfl) ?_
    refine tSI (As := [.int x18, .int p1]) (rest := []) ⟨hx, hb, hml, hown, hts⟩ hK hE hP hD hS hA hAB (s_X8_has_0 l B0 adK adV D cy ad f x18 p1 _) (va_cwS 2 hts gX8_rank_X8_has rfl rfl rfl (by decide +kernel) ⟨Nat.le_of_ble_eq_true rfl, Nat.le_of_ble_eq_true rfl⟩) rfl hl.1 rfl (Nat.le_of_ble_eq_true rfl) dX8_rank_16 ⟨Nat.le_of_ble_eq_true rfl, Nat.le_of_ble_eq_true rfl⟩ (fun r g H locs hw hP hD hS => ?_)
    obtain ⟨hrs, rfl⟩ := hw
    obtain ⟨x20, rfl⟩ : ∃ q, q = r := ⟨_, rfl⟩
    rcases hrs with rfl | rfl
    · refine lv_if_eq (tgt := 34) hx hb dX8_rank_19 (by decide) (fun c => absurd c (by decide)) (fun _ => ?_)
      refine lv_aload_n hx hb dX8_rank_22 rfl (lv_at hl 0 rfl) ?_
      obtain ⟨t21, x23, x24, e26, h22, h25⟩ := (show okX8 ad tx 0 (f 0) from hT.1 0 (by decide))
      refine va_get (D := D) (cl := vwCl) (ci := 8) (v := .ref (ad 10)) (C := RX8) (T := TX8) (N := 13) hx hb hts in_X8_rank_X8 hown hK hP 0 (wl_at (by decide) e26) rfl 6 (by decide) (hts (.fieldLink RX8 44 "EightReasons" "loom" "LEightReasons$Loom;") (List.mem_of_getElem? (i := 2) rfl)) (fun _ h9 => h9) rfl dX8_rank_23 ?_
      obtain ⟨x27, t28, x30, x31, e32, h29⟩ := (show okX2 ad 10 (f 10) from hT.1 10 (by decide))
      refine va_get (D := D) (cl := vwCl) (ci := 2) (v := .ref (ad 13)) (C := RX2) (T := TX2) (N := 10) hx hb hts in_X8_rank_X2 hown hK hP 10 (wl_at (by decide) e32) rfl 3 (by decide) (hts (.fieldLink RX8 287 "EightReasons$Loom" "round" "[I") (List.mem_of_getElem? (i := 3) rfl)) (fun _ h9 => h9) rfl dX8_rank_26 ?_
      refine lv_iload_n hx hb dX8_rank_29 rfl (lv_at hl 1 rfl) ?_
      obtain ⟨g34, e33⟩ := (show okI cy 10 (f 13) from hT.1 13 (by decide))
      refine va_iald hx hb hK hP 13 0 (wl_at (by decide) e33) rfl (vp_in_iff.mpr ⟨by omega, by omega⟩) dX8_rank_30 ?_
      refine lv_topi (fun x35 ex35 => ?_)
      refine lv_goto (tgt := 35) hx hb dX8_rank_31 (by decide) ?_
      exact tI hx hb hr hlk rfl hP hS ⟨trivial, hT⟩ dX8_rank_35
    · refine lv_if_eq (tgt := 34) hx hb dX8_rank_19 (by decide) (fun _ => ?_) (fun c => absurd (by decide) c)
      refine lv_iconst (v := (-1)) hx hb dX8_rank_34 (by decide) ?_
      have ttl_m1 := tl_m1
      exact tI hx hb hr hlk rfl hP hS ⟨trivial, hT⟩ dX8_rank_35
  · refine lv_if_eq (tgt := 34) hx hb dX8_rank_8 (by decide) (fun _ => ?_) (fun c => absurd (by decide) c)
    refine lv_iconst (v := (-1)) hx hb dX8_rank_34 (by decide) ?_
    have ttl_m1 := tl_m1
    exact tI hx hb hr hlk rfl hP hS ⟨trivial, hT⟩ dX8_rank_35
set_option maxHeartbeats 4000000 in
set_option maxRecDepth 100000 in
theorem s_X2_bearsItself_0 (l : Launch) (B0 : Nat) (adK adV : Nat → Nat) (D : va_G) (cy : Nat → ClassId) (ad : Nat → Nat) (fr0 : Nat → va_E) (tx : Int32) (rby : Int32) (rnx : Int32) (f : Nat → va_E) (hT : TYx ad cy fr0 tx rby rnx f) (p1 : Int32) (hp1 : 1 ≤ p1.toInt ∧ p1.toInt ≤ 1120) (sz : Nat) : TtI l yX2_bearsItself wsX2_bearsItself 2 44 [.ref (ad 10), .int p1] B0 adK adV D cy ad f sz (fun (r : Int32) (g : Nat → va_E) => ((r = 1) ∨ (r = 0)) ∧ (TYx ad cy fr0 tx rby rnx g)) := by
  refine TtI.of (cc := cX2_bearsItself) (maxL := 2) (ty := .boolean) (own := RX2) (by decide) rfl (Nat.le_of_ble_eq_true rfl) rfl ?_
  intro p e s m below meth c A ls hx hb hr hml hts hown hlk hK hE hP hD hS hA hAB hl
  have hl : lv_has ls 2 [(0, .ref (ad 10)), (1, .int p1)] := hl
  refine st0 (fun H locs hP hS => ?_) hP hS
  refine lv_aload_n hx hb dX2_bearsItself_0 rfl (lv_at hl 0 rfl) ?_
  obtain ⟨x1, t2, x4, x5, e6, h3⟩ := (show okX2 ad 10 (f 10) from hT.1 10 (by decide))
  refine tVV (As := []) (rest := []) (i := 10) ⟨hx, hb, hml, hown, hts⟩ hK hE hP hD hS hA hAB (s_X2_clearSums_0 l B0 adK adV D cy ad fr0 tx rby rnx f hT _) (cwV 0 hts gX2_bearsItself_X2_clearSums rfl rfl rfl (by decide +kernel) ⟨Nat.le_of_ble_eq_true rfl, Nat.le_of_ble_eq_true rfl⟩) (by decide) 2 e6 rfl rfl hl.1 rfl (Nat.le_of_ble_eq_true rfl) dX2_bearsItself_1 ⟨Nat.le_of_ble_eq_true rfl, Nat.le_of_ble_eq_true rfl⟩ (fun f H locs hw hP hD hS => ?_)
  obtain ⟨hrs, hT⟩ := hw
  refine lv_aload_n hx hb dX2_bearsItself_4 rfl (lv_at hl 0 rfl) ?_
  refine lv_iload_n hx hb dX2_bearsItself_5 rfl (lv_at hl 1 rfl) ?_
  obtain ⟨x7, t8, x10, x11, e12, h9⟩ := (show okX2 ad 10 (f 10) from hT.1 10 (by decide))
  refine tVV (As := [.int p1]) (rest := []) (i := 10) ⟨hx, hb, hml, hown, hts⟩ hK hE hP hD hS hA hAB (s_X2_addFrom_0 l B0 adK adV D cy ad fr0 tx rby rnx f hT p1 _) (cwV 1 hts gX2_bearsItself_X2_addFrom rfl rfl rfl (by decide +kernel) ⟨Nat.le_of_ble_eq_true rfl, Nat.le_of_ble_eq_true rfl⟩) (by decide) 2 e12 rfl rfl hl.1 rfl (Nat.le_of_ble_eq_true rfl) dX2_bearsItself_6 ⟨Nat.le_of_ble_eq_true rfl, Nat.le_of_ble_eq_true rfl⟩ (fun f H locs hw hP hD hS => ?_)
  obtain ⟨hrs, hT⟩ := hw
  refine lv_aload_n hx hb dX2_bearsItself_9 rfl (lv_at hl 0 rfl) ?_
  refine lv_iload_n hx hb dX2_bearsItself_10 rfl (lv_at hl 1 rfl) ?_
  obtain ⟨x13, t14, x16, x17, e18, h15⟩ := (show okX2 ad 10 (f 10) from hT.1 10 (by decide))
  refine tVI (As := [.int p1]) (rest := []) (i := 10) ⟨hx, hb, hml, hown, hts⟩ hK hE hP hD hS hA hAB (s_X2_enough_0 l B0 adK adV D cy ad fr0 tx rby rnx f hT p1 (by omega) _) (cwV 1 hts gX2_bearsItself_X2_enough rfl rfl rfl (by decide +kernel) ⟨Nat.le_of_ble_eq_true rfl, Nat.le_of_ble_eq_true rfl⟩) (by decide) 2 e18 rfl rfl hl.1 rfl (Nat.le_of_ble_eq_true rfl) dX2_bearsItself_11 ⟨Nat.le_of_ble_eq_true rfl, Nat.le_of_ble_eq_true rfl⟩ (fun r g H locs hw hP hD hS => ?_)
  obtain ⟨hrs, rfl⟩ := hw
  obtain ⟨x19, rfl⟩ : ∃ q, q = r := ⟨_, rfl⟩
  have h20 := hrs
  refine lv_iload_n hx hb dX2_bearsItself_14 rfl (lv_at hl 1 rfl) ?_
  refine lv_icmp_ne (tgt := 22) hx hb dX2_bearsItself_15 (by decide) (fun c21 => ?_) (fun c21 => ?_)
  · have kc21 := c_ne c21
    refine lv_iconst (v := 0) hx hb dX2_bearsItself_22 (by decide) ?_
    have ttl_0 := tl_0
    exact tI hx hb hr hlk rfl hP hS ⟨(Or.inr rfl), hT⟩ dX2_bearsItself_23
  · have kc21 := c_eq c21
    refine lv_iconst (v := 1) hx hb dX2_bearsItself_18 (by decide) ?_
    refine lv_goto (tgt := 23) hx hb dX2_bearsItself_19 (by decide) ?_
    have ttl_1 := tl_1
    exact tI hx hb hr hlk rfl hP hS ⟨(Or.inl rfl), hT⟩ dX2_bearsItself_23
set_option maxHeartbeats 4000000 in
set_option maxRecDepth 100000 in
theorem s_X8_ring_0 (l : Launch) (B0 : Nat) (adK adV : Nat → Nat) (D : va_G) (cy : Nat → ClassId) (ad : Nat → Nat) (fr0 : Nat → va_E) (tx : Int32) (rby : Int32) (rnx : Int32) (f : Nat → va_E) (hT : TYx ad cy fr0 tx rby rnx f) (p1 : Int32) (sz : Nat) : TtI l yX8_ring wsX8_ring 4 102 [.ref (ad 0), .int p1] B0 adK adV D cy ad f sz (fun (r : Int32) (g : Nat → va_E) => (-1 ≤ r.toInt ∧ r.toInt ≤ 4095) ∧ (TYx ad cy fr0 tx rby rnx g)) := by
  refine TtI.of (cc := cX8_ring) (maxL := 6) (ty := .int) (own := RX8) (by decide) rfl (Nat.le_of_ble_eq_true rfl) rfl ?_
  intro p e s m below meth c A ls hx hb hr hml hts hown hlk hK hE hP hD hS hA hAB hl
  have hl : lv_has ls 6 [(0, .ref (ad 0)), (1, .int p1)] := hl
  refine st0 (fun H locs hP hS => ?_) hP hS
  have j44 : ∀ (N : Nat) (f : Nat → va_E) (H : Heap) (locs : List Loc) (ls : Array Slot) (v44_l5 : Int32) (v44_l4 : Int32) (v44_l3 : Int32) (v44_l2 : Int32), (1600 - v44_l5.toInt ≤ (N : Int)) → (1 ≤ v44_l5.toInt ∧ v44_l5.toInt ≤ 1599) → (0 ≤ v44_l4.toInt ∧ v44_l4.toInt ≤ 63) → (-1 ≤ v44_l3.toInt ∧ v44_l3.toInt ≤ 1120) → (0 ≤ v44_l2.toInt ∧ v44_l2.toInt ≤ 1023) → (0 ≤ p1.toInt ∧ p1.toInt ≤ 1) → (TYx ad cy fr0 tx rby rnx f) → (va_P D vwCl (wl ad f) H) → (va_D A (wl ad f)) → (va_S A s.heap H locs) → (lv_has ls 6 [(5, .int v44_l5), (4, .int v44_l4), (3, .int v44_l3), (2, .int v44_l2), (0, .ref (ad 0)), (1, .int p1)]) → W p l e (rmO 4 102 0 0) s m ([.ref (ad 0), .int p1] : List Value).toArray below meth c H locs 0 0 (MQ below (va_Qi (fun (r : Int32) (g : Nat → va_E) => (-1 ≤ r.toInt ∧ r.toInt ≤ 4095) ∧ (TYx ad cy fr0 tx rby rnx g)) (fun g t => PstT D ad g t) A) ([.ref (ad 0), .int p1] : List Value).toArray s 0 0 A) (F0 m 44 ls []) := by
    intro N
    induction N with
    | zero => intro f H locs ls v44_l5 v44_l4 v44_l3 v44_l2 hN hv44_l5 hv44_l4 hv44_l3 hv44_l2 hv44_l1 hT hP hD hS hl; exact absurd hN (by omega)
    | succ N ih44 =>
      intro f H locs ls v44_l5 v44_l4 v44_l3 v44_l2 hN hv44_l5 hv44_l4 hv44_l3 hv44_l2 hv44_l1 hT hP hD hS hl
      have j91 : ∀ (f : Nat → va_E) (H : Heap) (locs : List Loc) (ls : Array Slot) (v91_l4 : Int32) (v91_l3 : Int32), (1 ≤ v44_l5.toInt ∧ v44_l5.toInt ≤ 1023) → (0 ≤ v91_l4.toInt ∧ v91_l4.toInt ≤ 63) → (-1 ≤ v91_l3.toInt ∧ v91_l3.toInt ≤ 1120) → (1 ≤ v44_l2.toInt ∧ v44_l2.toInt ≤ 1023) → (0 ≤ p1.toInt ∧ p1.toInt ≤ 1) → (TYx ad cy fr0 tx rby rnx f) → (va_P D vwCl (wl ad f) H) → (va_D A (wl ad f)) → (va_S A s.heap H locs) → (lv_has ls 6 [(5, .int v44_l5), (4, .int v91_l4), (3, .int v91_l3), (2, .int v44_l2), (0, .ref (ad 0)), (1, .int p1)]) → W p l e (rmO 4 102 0 0) s m ([.ref (ad 0), .int p1] : List Value).toArray below meth c H locs 0 0 (MQ below (va_Qi (fun (r : Int32) (g : Nat → va_E) => (-1 ≤ r.toInt ∧ r.toInt ≤ 4095) ∧ (TYx ad cy fr0 tx rby rnx g)) (fun g t => PstT D ad g t) A) ([.ref (ad 0), .int p1] : List Value).toArray s 0 0 A) (F0 m 91 ls []) := by
        intro f H locs ls v91_l4 v91_l3 hv91_l5 hv91_l4 hv91_l3 hv91_l2 hv91_l1 hT hP hD hS hl
        obtain ⟨x1, ex1⟩ : ∃ q : Int32, q = v44_l5 + Int32.ofInt (1) := ⟨_, rfl⟩
        refine lv_iinc (v := x1) (lv' := [(5, .int x1), (4, .int v91_l4), (3, .int v91_l3), (2, .int v44_l2), (0, .ref (ad 0)), (1, .int p1)]) hx hb dX8_ring_91 hl (k := 0) rfl ex1.symm (by decide) rfl (fun ls hl => ?_)
        have hx1 := r_inc ex1 (by decide) (by omega) (by omega)
        refine lv_goto (tgt := 44) hx hb dX8_ring_94 (by decide) ?_
        exact ih44 f H locs ls x1 v91_l4 v91_l3 v44_l2 (by omega) (by omega) (by omega) (by omega) (by omega) (by omega) hT hP hD hS (lv_sub hl [0, 1, 2, 3, 4, 5] rfl)
      refine lv_iload hx hb dX8_ring_44 (lv_at hl 0 rfl) ?_
      refine lv_iload_n hx hb dX8_ring_46 rfl (lv_at hl 3 rfl) ?_
      refine lv_icmp_gt (tgt := 97) hx hb dX8_ring_47 (by decide) (fun c2 => ?_) (fun c2 => ?_)
      · have kc2 := c_lt c2
        refine lv_iload_n hx hb dX8_ring_97 rfl (lv_at hl 2 rfl) ?_
        refine lv_iload_n hx hb dX8_ring_98 rfl (lv_at hl 5 rfl) ?_
        refine tSI (As := [.int v44_l3, .int p1]) (rest := []) ⟨hx, hb, hml, hown, hts⟩ hK hE hP hD hS hA hAB (s_X8_sizeOrSet_0 l B0 adK adV D cy ad f v44_l3 (by omega) p1 (by omega) _) (va_cwS 2 hts gX8_ring_X8_sizeOrSet rfl rfl rfl (by decide +kernel) ⟨Nat.le_of_ble_eq_true rfl, Nat.le_of_ble_eq_true rfl⟩) rfl hl.1 rfl (Nat.le_of_ble_eq_true rfl) dX8_ring_99 ⟨Nat.le_of_ble_eq_true rfl, Nat.le_of_ble_eq_true rfl⟩ (fun r g H locs hw hP hD hS => ?_)
        obtain ⟨hrs, rfl⟩ := hw
        obtain ⟨x3, rfl⟩ : ∃ q, q = r := ⟨_, rfl⟩
        have h4 := hrs
        exact tI hx hb hr hlk rfl hP hS ⟨(by omega), hT⟩ dX8_ring_102
      · have kc2 := c_nlt c2
        refine lv_iload hx hb dX8_ring_50 (lv_at hl 0 rfl) ?_
        refine lv_iload_n hx hb dX8_ring_52 rfl (lv_at hl 3 rfl) ?_
        refine lv_iconst (v := (-1)) hx hb dX8_ring_53 (by decide) ?_
        refine lv_ixor hx hb dX8_ring_54 ?_
        refine lv_topi (fun x5 ex5 => ?_)
        refine lv_iand hx hb dX8_ring_55 ?_
        refine lv_topi (fun x6 ex6 => ?_)
        have hx6 := r_andl ex6 (by omega)
        have ttl_0 := tl_0
        refine lv_if_ne (tgt := 91) hx hb dX8_ring_56 (by decide) (fun c7 => ?_) (fun c7 => ?_)
        · have kc7 := c_ne c7
          exact j91 f H locs ls v44_l4 v44_l3 (by omega) (by omega) (by omega) (by omega) (by omega) hT hP hD hS (lv_sub hl [0, 1, 2, 3, 4, 5] rfl)
        · have kc7 := c_eq c7
          refine lv_iload hx hb dX8_ring_59 (lv_at hl 0 rfl) ?_
          refine tSI (As := [.int v44_l5]) (rest := []) ⟨hx, hb, hml, hown, hts⟩ hK hE hP hD hS hA hAB (s_J6_bitCount_0f7a4_0 l B0 adK adV D cy ad f v44_l5 _) (va_cwS 1 hts gX8_ring_J6_bitCount_0f7a4 rfl rfl rfl (by decide +kernel) ⟨Nat.le_of_ble_eq_true rfl, Nat.le_of_ble_eq_true rfl⟩) rfl hl.1 rfl (Nat.le_of_ble_eq_true rfl) dX8_ring_61 ⟨Nat.le_of_ble_eq_true rfl, Nat.le_of_ble_eq_true rfl⟩ (fun r g H locs hw hP hD hS => ?_)
          obtain ⟨hrs, rfl⟩ := hw
          obtain ⟨x8, rfl⟩ : ∃ q, q = r := ⟨_, rfl⟩
          have h9 := hrs
          refine lv_iload hx hb dX8_ring_64 (lv_at hl 1 rfl) ?_
          refine lv_icmp_ge (tgt := 91) hx hb dX8_ring_66 (by decide) (fun c10 => ?_) (fun c10 => ?_)
          · have kc10 := c_le c10
            exact j91 f H locs ls v44_l4 v44_l3 (by omega) (by omega) (by omega) (by omega) (by omega) hT hP hD hS (lv_sub hl [0, 1, 2, 3, 4, 5] rfl)
          · have kc10 := c_nle c10
            refine lv_aload_n hx hb dX8_ring_69 rfl (lv_at hl 4 rfl) ?_
            obtain ⟨t11, x13, x14, e16, h12, h15⟩ := (show okX8 ad tx 0 (f 0) from hT.1 0 (by decide))
            refine va_get (D := D) (cl := vwCl) (ci := 8) (v := .ref (ad 10)) (C := RX8) (T := TX8) (N := 13) hx hb hts in_X8_ring_X8 hown hK hP 0 (wl_at (by decide) e16) rfl 6 (by decide) (hts (.fieldLink RX8 44 "EightReasons" "loom" "LEightReasons$Loom;") (List.mem_of_getElem? (i := 1) rfl)) (fun _ h9 => h9) rfl dX8_ring_70 ?_
            refine lv_iload hx hb dX8_ring_73 (lv_at hl 0 rfl) ?_
            obtain ⟨x17, t18, x20, x21, e22, h19⟩ := (show okX2 ad 10 (f 10) from hT.1 10 (by decide))
            refine tVI (As := [.int v44_l5]) (rest := []) (i := 10) ⟨hx, hb, hml, hown, hts⟩ hK hE hP hD hS hA hAB (s_X2_bearsItself_0 l B0 adK adV D cy ad fr0 tx rby rnx f hT v44_l5 (by omega) _) (cwV 1 hts gX8_ring_X2_bearsItself rfl rfl rfl (by decide +kernel) ⟨Nat.le_of_ble_eq_true rfl, Nat.le_of_ble_eq_true rfl⟩) (by decide) 2 e22 rfl rfl hl.1 rfl (Nat.le_of_ble_eq_true rfl) dX8_ring_75 ⟨Nat.le_of_ble_eq_true rfl, Nat.le_of_ble_eq_true rfl⟩ (fun r f H locs hw hP hD hS => ?_)
            obtain ⟨hrs, hT⟩ := hw
            obtain ⟨x23, rfl⟩ : ∃ q, q = r := ⟨_, rfl⟩
            rcases hrs with rfl | rfl
            · refine lv_if_eq (tgt := 91) hx hb dX8_ring_78 (by decide) (fun c => absurd c (by decide)) (fun _ => ?_)
              refine lv_iload hx hb dX8_ring_81 (lv_at hl 0 rfl) ?_
              refine lv_istore_n (lv' := [(3, .int v44_l5), (5, .int v44_l5), (4, .int v44_l4), (2, .int v44_l2), (0, .ref (ad 0)), (1, .int p1)]) hx hb dX8_ring_83 rfl hl (by decide) rfl (fun ls hl => ?_)
              refine lv_iload hx hb dX8_ring_84 (lv_at hl 1 rfl) ?_
              refine tSI (As := [.int v44_l5]) (rest := []) ⟨hx, hb, hml, hown, hts⟩ hK hE hP hD hS hA hAB (s_J6_bitCount_0f7a4_0 l B0 adK adV D cy ad f v44_l5 _) (va_cwS 1 hts gX8_ring_J6_bitCount_0f7a4 rfl rfl rfl (by decide +kernel) ⟨Nat.le_of_ble_eq_true rfl, Nat.le_of_ble_eq_true rfl⟩) rfl hl.1 rfl (Nat.le_of_ble_eq_true rfl) dX8_ring_86 ⟨Nat.le_of_ble_eq_true rfl, Nat.le_of_ble_eq_true rfl⟩ (fun r g H locs hw hP hD hS => ?_)
              obtain ⟨hrs, rfl⟩ := hw
              obtain ⟨x24, rfl⟩ : ∃ q, q = r := ⟨_, rfl⟩
              have h25 := hrs
              refine lv_istore (lv' := [(4, .int x24), (3, .int v44_l5), (5, .int v44_l5), (2, .int v44_l2), (0, .ref (ad 0)), (1, .int p1)]) hx hb dX8_ring_89 hl (by decide) rfl (fun ls hl => ?_)
              exact j91 f H locs ls x24 v44_l5 (by omega) (by omega) (by omega) (by omega) (by omega) hT hP hD hS (lv_sub hl [2, 0, 1, 3, 4, 5] rfl)
            · refine lv_if_eq (tgt := 91) hx hb dX8_ring_78 (by decide) (fun _ => ?_) (fun c => absurd (by decide) c)
              exact j91 f H locs ls v44_l4 v44_l3 (by omega) (by omega) (by omega) (by omega) (by omega) hT hP hD hS (lv_sub hl [0, 1, 2, 3, 4, 5] rfl)
  refine lv_iload_n hx hb dX8_ring_0 rfl (lv_at hl 1 rfl) ?_
  refine tSI (As := [.int p1]) (rest := []) ⟨hx, hb, hml, hown, hts⟩ hK hE hP hD hS hA hAB (s_X8_isZeroOrOne_0 l B0 adK adV D cy ad f p1 _) (va_cwS 1 hts gX8_ring_X8_isZeroOrOne rfl rfl rfl (by decide +kernel) ⟨Nat.le_of_ble_eq_true rfl, Nat.le_of_ble_eq_true rfl⟩) rfl hl.1 rfl (Nat.le_of_ble_eq_true rfl) dX8_ring_1 ⟨Nat.le_of_ble_eq_true rfl, Nat.le_of_ble_eq_true rfl⟩ (fun r g H locs hw hP hD hS => ?_)
  obtain ⟨hrs, rfl⟩ := hw
  obtain ⟨x26, rfl⟩ : ∃ q, q = r := ⟨_, rfl⟩
  rcases hrs with ⟨rfl, h27, h28⟩ | rfl
  · refine lv_if_ne (tgt := 9) hx hb dX8_ring_4 (by decide) (fun _ => ?_) (fun c => absurd c (by decide))
    refine lv_aload_n hx hb dX8_ring_9 rfl (lv_at hl 0 rfl) ?_
    obtain ⟨t29, x31, x32, e34, h30, h33⟩ := (show okX8 ad tx 0 (f 0) from hT.1 0 (by decide))
    refine tVV (As := []) (rest := []) (i := 0) ⟨hx, hb, hml, hown, hts⟩ hK hE hP hD hS hA hAB (s_X8_look_0 l B0 adK adV D cy ad fr0 tx rby rnx f hT _) (cwV 0 hts gX8_ring_X8_look rfl rfl rfl (by decide +kernel) ⟨Nat.le_of_ble_eq_true rfl, Nat.le_of_ble_eq_true rfl⟩) (by decide) 8 e34 rfl rfl hl.1 rfl (Nat.le_of_ble_eq_true rfl) dX8_ring_10 ⟨Nat.le_of_ble_eq_true rfl, Nat.le_of_ble_eq_true rfl⟩ (fun f H locs hw hP hD hS => ?_)
    obtain ⟨hrs, hT⟩ := hw
    refine lv_aload_n hx hb dX8_ring_13 rfl (lv_at hl 0 rfl) ?_
    obtain ⟨t35, x37, x38, e40, h36, h39⟩ := (show okX8 ad tx 0 (f 0) from hT.1 0 (by decide))
    refine va_get (D := D) (cl := vwCl) (ci := 8) (v := .ref (ad 10)) (C := RX8) (T := TX8) (N := 13) hx hb hts in_X8_ring_X8 hown hK hP 0 (wl_at (by decide) e40) rfl 6 (by decide) (hts (.fieldLink RX8 44 "EightReasons" "loom" "LEightReasons$Loom;") (List.mem_of_getElem? (i := 1) rfl)) (fun _ h9 => h9) rfl dX8_ring_14 ?_
    refine lv_aload_n hx hb dX8_ring_17 rfl (lv_at hl 0 rfl) ?_
    refine tVR (As := []) (rest := [.ref (ad 10)]) (i := 0) ⟨hx, hb, hml, hown, hts⟩ hK hE hP hD hS hA hAB (s_X8_now_0 l B0 adK adV D cy ad fr0 tx rby rnx f hT _) (cwV 0 hts gX8_ring_X8_now rfl rfl rfl (by decide +kernel) ⟨Nat.le_of_ble_eq_true rfl, Nat.le_of_ble_eq_true rfl⟩) (by decide) 8 e40 rfl rfl hl.1 rfl (Nat.le_of_ble_eq_true rfl) dX8_ring_18 ⟨Nat.le_of_ble_eq_true rfl, Nat.le_of_ble_eq_true rfl⟩ (fun ra g H locs hw hra hP hD hS => ?_)
    obtain ⟨hrs, rfl⟩ := hw
    obtain ⟨t41, h42, rfl⟩ := hra
    obtain ⟨x43, x45, x46, x47, e48, h44⟩ := (ty_state hT h42)
    refine va_get (D := D) (cl := vwCl) (ci := 4) (v := .int x43) (C := RX4) (T := TX4) (N := 5) hx hb hts in_X8_ring_X4 hown hK hP t41 (wl_at (x_lt (x_state0 h42)) e48) rfl 1 (by decide) (hts (.fieldLink RX8 145 "EightReasons$State" "tied" "I") (List.mem_of_getElem? (i := 2) rfl)) (fun _ h9 => h9) rfl dX8_ring_21 ?_
    obtain ⟨x49, t50, x52, x53, e54, h51⟩ := (show okX2 ad 10 (f 10) from hT.1 10 (by decide))
    refine tVV (As := [.int x43]) (rest := []) (i := 10) ⟨hx, hb, hml, hown, hts⟩ hK hE hP hD hS hA hAB (s_X2_weigh_0 l B0 adK adV D cy ad fr0 tx rby rnx f hT x43 _) (cwV 1 hts gX8_ring_X2_weigh rfl rfl rfl (by decide +kernel) ⟨Nat.le_of_ble_eq_true rfl, Nat.le_of_ble_eq_true rfl⟩) (by decide) 2 e54 rfl rfl hl.1 rfl (Nat.le_of_ble_eq_true rfl) dX8_ring_24 ⟨Nat.le_of_ble_eq_true rfl, Nat.le_of_ble_eq_true rfl⟩ (fun f H locs hw hP hD hS => ?_)
    obtain ⟨hrs, hT⟩ := hw
    refine lv_aload_n hx hb dX8_ring_27 rfl (lv_at hl 0 rfl) ?_
    obtain ⟨t55, x57, x58, e60, h56, h59⟩ := (show okX8 ad tx 0 (f 0) from hT.1 0 (by decide))
    refine va_get (D := D) (cl := vwCl) (ci := 8) (v := .ref (ad t55)) (C := RX8) (T := TX8) (N := 13) hx hb hts in_X8_ring_X8 hown hK hP 0 (wl_at (by decide) e60) rfl 1 (by decide) (hts (.fieldLink RX8 19 "EightReasons" "told" "LEightReasons$Suit;") (List.mem_of_getElem? (i := 3) rfl)) (fun _ h9 => h9) rfl dX8_ring_28 ?_
    obtain ⟨x61, x63, x64, x66, x67, e68, h62, h65⟩ := (ty_suit hT h56)
    refine tVI (As := []) (rest := []) (i := t55) ⟨hx, hb, hml, hown, hts⟩ hK hE hP hD hS hA hAB (s_X5_claims_0 l B0 adK adV D cy ad fr0 tx rby rnx f hT t55 h56 _) (cwV 0 hts gX8_ring_X5_claims rfl rfl rfl (by decide +kernel) ⟨Nat.le_of_ble_eq_true rfl, Nat.le_of_ble_eq_true rfl⟩) (x_lt (x_suit0 h56)) 5 e68 rfl rfl hl.1 rfl (Nat.le_of_ble_eq_true rfl) dX8_ring_31 ⟨Nat.le_of_ble_eq_true rfl, Nat.le_of_ble_eq_true rfl⟩ (fun r g H locs hw hP hD hS => ?_)
    obtain ⟨hrs, rfl⟩ := hw
    obtain ⟨x69, rfl⟩ : ∃ q, q = r := ⟨_, rfl⟩
    have h70 := hrs
    refine lv_istore_n (lv' := [(2, .int x69), (0, .ref (ad 0)), (1, .int p1)]) hx hb dX8_ring_34 rfl hl (by decide) rfl (fun ls hl => ?_)
    refine lv_iconst (v := (-1)) hx hb dX8_ring_35 (by decide) ?_
    refine lv_istore_n (lv' := [(3, .int (-1)), (2, .int x69), (0, .ref (ad 0)), (1, .int p1)]) hx hb dX8_ring_36 rfl hl (by decide) rfl (fun ls hl => ?_)
    refine lv_bipush (v := 11) hx hb dX8_ring_37 (by decide) ?_
    refine lv_istore (lv' := [(4, .int 11), (3, .int (-1)), (2, .int x69), (0, .ref (ad 0)), (1, .int p1)]) hx hb dX8_ring_39 hl (by decide) rfl (fun ls hl => ?_)
    refine lv_iconst (v := 1) hx hb dX8_ring_41 (by decide) ?_
    refine lv_istore (lv' := [(5, .int 1), (4, .int 11), (3, .int (-1)), (2, .int x69), (0, .ref (ad 0)), (1, .int p1)]) hx hb dX8_ring_42 hl (by decide) rfl (fun ls hl => ?_)
    have ttl_1 := tl_1
    have ttl_11 := tl_11
    have ttl_m1 := tl_m1
    exact j44 (Int.toNat (1600 - (1 : Int32).toInt)) f H locs ls (1 : Int32) (11 : Int32) ((-1) : Int32) x69 (by omega) (by omega) (by omega) (by omega) (by omega) (by omega) hT hP hD hS (lv_sub hl [0, 1, 2, 3, 4, 5] rfl)
  · refine lv_if_ne (tgt := 9) hx hb dX8_ring_4 (by decide) (fun c => absurd (by decide) c) (fun _ => ?_)
    refine lv_iconst (v := (-1)) hx hb dX8_ring_7 (by decide) ?_
    have ttl_m1 := tl_m1
    exact tI hx hb hr hlk rfl hP hS ⟨(by omega), hT⟩ dX8_ring_8
set_option maxHeartbeats 4000000 in
set_option maxRecDepth 100000 in
theorem s_X8_endsUp_0 (l : Launch) (B0 : Nat) (adK adV : Nat → Nat) (D : va_G) (cy : Nat → ClassId) (ad : Nat → Nat) (fr0 : Nat → va_E) (tx : Int32) (rby : Int32) (rnx : Int32) (f : Nat → va_E) (hT : TYx ad cy fr0 tx rby rnx f) (p1 : Int32) (hp1 : 0 ≤ p1.toInt ∧ p1.toInt ≤ 9) (p2 : Int32) (hp2 : 0 ≤ p2.toInt ∧ p2.toInt ≤ 4095) (p4 : Int32) (hp4 : 0 ≤ p4.toInt ∧ p4.toInt ≤ 1) (sz : Nat) : TtI l yX8_endsUp wsX8_endsUp 6 146 [.ref (ad 0), .int p1, .int p2, .int 0, .int p4] B0 adK adV D cy ad f sz (fun (r : Int32) (g : Nat → va_E) => ((r = 1) ∨ (r = 0)) ∧ (TYx ad cy fr0 tx rby rnx g)) := by
  refine TtI.of (cc := cX8_endsUp) (maxL := 6) (ty := .boolean) (own := RX8) (by decide) rfl (Nat.le_of_ble_eq_true rfl) rfl ?_
  intro p e s m below meth c A ls hx hb hr hml hts hown hlk hK hE hP hD hS hA hAB hl
  have hl : lv_has ls 6 [(0, .ref (ad 0)), (1, .int p1), (2, .int p2), (3, .int 0), (4, .int p4)] := hl
  refine st0 (fun H locs hP hS => ?_) hP hS
  refine lv_iload_n hx hb dX8_endsUp_0 rfl (lv_at hl 3 rfl) ?_
  refine lv_if_gt (tgt := 11) hx hb dX8_endsUp_1 (by decide) (fun c => absurd c (by decide)) (fun _ => ?_)
  refine lv_aload_n hx hb dX8_endsUp_4 rfl (lv_at hl 0 rfl) ?_
  refine lv_iload_n hx hb dX8_endsUp_5 rfl (lv_at hl 1 rfl) ?_
  refine lv_iload_n hx hb dX8_endsUp_6 rfl (lv_at hl 2 rfl) ?_
  obtain ⟨t1, x3, x4, e6, h2, h5⟩ := (show okX8 ad tx 0 (f 0) from hT.1 0 (by decide))
  refine tVI (As := [.int p1, .int p2]) (rest := []) (i := 0) ⟨hx, hb, hml, hown, hts⟩ hK hE hP hD hS hA hAB (s_X8_isUp_0 l B0 adK adV D cy ad fr0 tx rby rnx f hT p1 (by omega) p2 (by omega) _) (cwV 2 hts gX8_endsUp_X8_isUp rfl rfl rfl (by decide +kernel) ⟨Nat.le_of_ble_eq_true rfl, Nat.le_of_ble_eq_true rfl⟩) (by decide) 8 e6 rfl rfl hl.1 rfl (Nat.le_of_ble_eq_true rfl) dX8_endsUp_7 ⟨Nat.le_of_ble_eq_true rfl, Nat.le_of_ble_eq_true rfl⟩ (fun r f H locs hw hP hD hS => ?_)
  obtain ⟨hrs, hT⟩ := hw
  obtain ⟨x7, rfl⟩ : ∃ q, q = r := ⟨_, rfl⟩
  rcases hrs with rfl | rfl
  · have ttl_1 := tl_1
    exact tI hx hb hr hlk rfl hP hS ⟨(Or.inl rfl), hT⟩ dX8_endsUp_10
  · have ttl_0 := tl_0
    exact tI hx hb hr hlk rfl hP hS ⟨(Or.inr rfl), hT⟩ dX8_endsUp_10
set_option maxHeartbeats 4000000 in
set_option maxRecDepth 100000 in
theorem s_X8_moved_0 (l : Launch) (B0 : Nat) (adK adV : Nat → Nat) (D : va_G) (cy : Nat → ClassId) (ad : Nat → Nat) (f : Nat → va_E) (p0 : Int32) (hp0 : 0 ≤ p0.toInt ∧ p0.toInt ≤ 4095) (p1 : Int32) (hp1 : -1 ≤ p1.toInt ∧ p1.toInt ≤ 11) (sz : Nat) : TtI l yX8_moved wsX8_moved 0 0 [.int p0, .int p1] B0 adK adV D cy ad f sz (fun (r : Int32) (g : Nat → va_E) => (0 ≤ r.toInt ∧ r.toInt ≤ 4095) ∧ (f = g)) := by
  refine TtI.of (cc := cX8_moved) (maxL := 2) (ty := .int) (own := RX8) (by decide) rfl (Nat.le_of_ble_eq_true rfl) rfl ?_
  intro p e s m below meth c A ls hx hb hr hml hts hown hlk hK hE hP hD hS hA hAB hl
  have hl : lv_has ls 2 [(0, .int p0), (1, .int p1)] := hl
  refine st0 (fun H locs hP hS => ?_) hP hS
  refine lv_iload_n hx hb dX8_moved_0 rfl (lv_at hl 1 rfl) ?_
  refine lv_iconst (v := (-1)) hx hb dX8_moved_1 (by decide) ?_
  have ttl_m1 := tl_m1
  refine lv_icmp_ne (tgt := 9) hx hb dX8_moved_2 (by decide) (fun c1 => ?_) (fun c1 => ?_)
  · have kc1 := c_ne c1
    refine lv_iload_n hx hb dX8_moved_9 rfl (lv_at hl 0 rfl) ?_
    refine lv_iconst (v := 1) hx hb dX8_moved_10 (by decide) ?_
    refine lv_iload_n hx hb dX8_moved_11 rfl (lv_at hl 1 rfl) ?_
    refine lv_ishl hx hb dX8_moved_12 ?_
    refine lv_topi (fun x2 ex2 => ?_)
    have hx2 := r_shl (K := 11) (M := 2048) ex2 (by decide) (by decide) (by omega) (by omega)
    refine lv_ixor hx hb dX8_moved_13 ?_
    refine lv_topi (fun x3 ex3 => ?_)
    have hx3 := r_xor (k := 12) (K := 4096) ex3 (by decide) (by decide) (by omega) (by omega) (by omega) (by omega)
    exact tI hx hb hr hlk rfl hP hS ⟨(by omega), rfl⟩ dX8_moved_14
  · have kc1 := c_eq c1
    refine lv_iload_n hx hb dX8_moved_5 rfl (lv_at hl 0 rfl) ?_
    refine lv_goto (tgt := 14) hx hb dX8_moved_6 (by decide) ?_
    exact tI hx hb hr hlk rfl hP hS ⟨(by omega), rfl⟩ dX8_moved_14
