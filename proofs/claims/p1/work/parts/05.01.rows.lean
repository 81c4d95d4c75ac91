theorem dX8_ring_41 : decode cX8_ring 41 = .ok (.iconst 1, 1) := by decide +kernel
theorem dX8_ring_42 : decode cX8_ring 42 = .ok (.istore 5, 2) := by decide +kernel
theorem dX8_ring_44 : decode cX8_ring 44 = .ok (.iload 5, 2) := by decide +kernel
theorem dX8_ring_46 : decode cX8_ring 46 = .ok (.iload_n 2, 1) := by decide +kernel
theorem dX8_ring_47 : decode cX8_ring 47 = .ok (.if_icmp .gt 50, 3) := by decide +kernel
theorem dX8_ring_97 : decode cX8_ring 97 = .ok (.iload_n 3, 1) := by decide +kernel
theorem dX8_ring_98 : decode cX8_ring 98 = .ok (.iload_n 1, 1) := by decide +kernel
theorem dX8_ring_99 : decode cX8_ring 99 = .ok (.invokestatic 267, 3) := by decide +kernel
theorem dX8_ring_102 : decode cX8_ring 102 = .ok (.ireturn, 1) := by decide +kernel
set_option maxRecDepth 20000 in
theorem ggX8_keystone_X8_isZeroOrOne : GoodIn wsX8_keystone wsX8_isZeroOrOne := goodIn_r _ [6] (by decide +kernel) (by decide +kernel)
set_option maxRecDepth 20000 in
theorem gX8_keystone_X8_isZeroOrOne : GoodIn wsX8_keystone (va_wsS RX8 234 yX8_isZeroOrOne wsX8_isZeroOrOne) := goodIn_app (goodIn_of _ (by decide +kernel)) ggX8_keystone_X8_isZeroOrOne
set_option maxRecDepth 20000 in
theorem ggX8_keystone_X8_look : GoodIn wsX8_keystone wsX8_look := goodIn_r _ [10, 11, 1, 12, 13, 14, 5, 15, 16, 17, 18, 19, 20, 21, 22, 23, 24, 25, 26, 27, 28, 29, 30, 31, 32, 33, 34, 35, 36, 37, 38, 39, 40, 41, 42, 43, 153, 154, 155, 156, 157, 158, 159, 160, 161, 162, 163, 164, 165, 178, 179, 180, 181, 182, 183, 184, 185, 186, 187, 188, 189, 190, 191, 166, 167, 168, 169, 170, 171, 172, 173, 174, 175, 176, 177, 192, 193, 194, 195, 196] (by decide +kernel) (by decide +kernel)
set_option maxRecDepth 20000 in
theorem gX8_keystone_X8_look : GoodIn wsX8_keystone (wsV RX8 148 RX8 yX8_look wsX8_look) := goodIn_app (goodIn_of _ (by decide +kernel)) ggX8_keystone_X8_look
theorem dX8_keystone_0 : decode cX8_keystone 0 = .ok (.iload_n 1, 1) := by decide +kernel
theorem dX8_keystone_1 : decode cX8_keystone 1 = .ok (.invokestatic 234, 3) := by decide +kernel
theorem dX8_keystone_4 : decode cX8_keystone 4 = .ok (.ifCond .ne 5, 3) := by decide +kernel
theorem dX8_keystone_7 : decode cX8_keystone 7 = .ok (.iconst (-1), 1) := by decide +kernel
theorem dX8_keystone_8 : decode cX8_keystone 8 = .ok (.ireturn, 1) := by decide +kernel
theorem dX8_keystone_9 : decode cX8_keystone 9 = .ok (.aload_n 0, 1) := by decide +kernel
theorem dX8_keystone_10 : decode cX8_keystone 10 = .ok (.invokevirtual 148, 3) := by decide +kernel
theorem dX8_keystone_13 : decode cX8_keystone 13 = .ok (.iconst (-1), 1) := by decide +kernel
theorem dX8_keystone_14 : decode cX8_keystone 14 = .ok (.istore_n 2, 1) := by decide +kernel
theorem dX8_keystone_15 : decode cX8_keystone 15 = .ok (.bipush 11, 2) := by decide +kernel
theorem dX8_keystone_17 : decode cX8_keystone 17 = .ok (.istore_n 3, 1) := by decide +kernel
theorem dX8_keystone_18 : decode cX8_keystone 18 = .ok (.iconst 0, 1) := by decide +kernel
theorem dX8_keystone_19 : decode cX8_keystone 19 = .ok (.istore 4, 2) := by decide +kernel
theorem dX8_keystone_21 : decode cX8_keystone 21 = .ok (.iload 4, 2) := by decide +kernel
theorem dX8_keystone_23 : decode cX8_keystone 23 = .ok (.aload_n 0, 1) := by decide +kernel
theorem dX8_keystone_24 : decode cX8_keystone 24 = .ok (.getfield 19, 3) := by decide +kernel
theorem dX8_keystone_27 : decode cX8_keystone 27 = .ok (.getfield 105, 3) := by decide +kernel
theorem dX8_keystone_30 : decode cX8_keystone 30 = .ok (.if_icmp .ge 49, 3) := by decide +kernel
theorem dX8_keystone_79 : decode cX8_keystone 79 = .ok (.iload_n 1, 1) := by decide +kernel
theorem dX8_keystone_80 : decode cX8_keystone 80 = .ok (.iconst 1, 1) := by decide +kernel
theorem dX8_keystone_81 : decode cX8_keystone 81 = .ok (.if_icmp .ne 12, 3) := by decide +kernel
theorem dX8_keystone_84 : decode cX8_keystone 84 = .ok (.iload_n 2, 1) := by decide +kernel
theorem dX8_keystone_85 : decode cX8_keystone 85 = .ok (.iconst (-1), 1) := by decide +kernel
theorem dX8_keystone_86 : decode cX8_keystone 86 = .ok (.if_icmp .eq 7, 3) := by decide +kernel
theorem dX8_keystone_93 : decode cX8_keystone 93 = .ok (.iload_n 2, 1) := by decide +kernel
theorem dX8_keystone_94 : decode cX8_keystone 94 = .ok (.ireturn, 1) := by decide +kernel
set_option maxRecDepth 20000 in
theorem ggX8_holds_X8_isProved : GoodIn wsX8_holds wsX8_isProved := goodIn_r _ [6, 1, 7, 8, 9, 10, 11, 12, 13, 14, 15, 16, 17, 18, 19, 5, 20, 21, 22, 23, 24, 25, 26, 27, 28, 29, 30, 31, 32, 33, 152, 153, 154, 155, 156, 157, 158, 159, 160, 161, 162, 163, 164, 165, 166, 167, 168, 169, 170, 171, 172, 173, 174, 175, 176, 177, 178, 179, 180, 181, 182, 183, 184, 185] (by decide +kernel) (by decide +kernel)
set_option maxRecDepth 20000 in
theorem gX8_holds_X8_isProved : GoodIn wsX8_holds (wsV RX8 200 RX8 yX8_isProved wsX8_isProved) := goodIn_app (goodIn_of _ (by decide +kernel)) ggX8_holds_X8_isProved
theorem dX8_holds_0 : decode cX8_holds 0 = .ok (.aload_n 0, 1) := by decide +kernel
theorem dX8_holds_1 : decode cX8_holds 1 = .ok (.iload_n 1, 1) := by decide +kernel
theorem dX8_holds_2 : decode cX8_holds 2 = .ok (.invokevirtual 200, 3) := by decide +kernel
theorem dX8_holds_5 : decode cX8_holds 5 = .ok (.ifCond .ne 5, 3) := by decide +kernel
theorem dX8_holds_8 : decode cX8_holds 8 = .ok (.iconst (-1), 1) := by decide +kernel
theorem dX8_holds_9 : decode cX8_holds 9 = .ok (.ireturn, 1) := by decide +kernel
set_option maxRecDepth 20000 in
theorem ggX8_firmest_X8_isZeroOrOne : GoodIn wsX8_firmest wsX8_isZeroOrOne := goodIn_r _ [7] (by decide +kernel) (by decide +kernel)
set_option maxRecDepth 20000 in
theorem gX8_firmest_X8_isZeroOrOne : GoodIn wsX8_firmest (va_wsS RX8 234 yX8_isZeroOrOne wsX8_isZeroOrOne) := goodIn_app (goodIn_of _ (by decide +kernel)) ggX8_firmest_X8_isZeroOrOne
set_option maxRecDepth 20000 in
theorem ggX8_firmest_X8_standingNow : GoodIn wsX8_firmest wsX8_standingNow := goodIn_r _ [11, 3, 12, 13, 14, 15, 6, 16, 1, 17, 18, 19, 20, 21, 22, 23, 24, 25, 26, 27, 28, 29, 30, 31, 32, 33, 34, 35, 36, 37, 38, 39, 40, 41, 42, 43, 44, 45, 46, 47, 48, 49, 50, 51, 52, 53, 54, 55, 56, 57, 58, 59, 60, 61, 62, 63, 64, 65, 66, 67, 68, 69, 70, 71, 72, 73, 74, 75, 76, 77, 78, 79, 80, 81, 82, 83, 84, 85, 86, 87, 88, 89, 90, 91, 92, 93, 94, 95, 96, 97, 98, 99, 100, 101, 102, 103, 104, 105, 106, 107, 108, 109, 110, 111, 112, 113, 114, 115, 116, 117, 118, 119, 120, 121, 122, 123, 124, 125, 126, 127, 128, 129, 130, 131, 132, 133, 134, 135, 150, 151, 152, 153, 154, 155, 156, 157, 158, 159, 160, 161, 162, 175, 176, 177, 178, 179, 180, 181, 182, 183, 184, 185, 186, 187, 188, 189, 190, 191, 192, 193, 163, 164, 165, 166, 167, 168, 169, 170, 171, 172, 173, 174, 194, 195, 196, 197, 198, 199] (by decide +kernel) (by decide +kernel)
set_option maxRecDepth 20000 in
theorem gX8_firmest_X8_standingNow : GoodIn wsX8_firmest (wsV RX8 224 RX8 yX8_standingNow wsX8_standingNow) := goodIn_app (goodIn_of _ (by decide +kernel)) ggX8_firmest_X8_standingNow
theorem dX8_firmest_0 : decode cX8_firmest 0 = .ok (.iload_n 1, 1) := by decide +kernel
theorem dX8_firmest_1 : decode cX8_firmest 1 = .ok (.invokestatic 234, 3) := by decide +kernel
theorem dX8_firmest_4 : decode cX8_firmest 4 = .ok (.ifCond .ne 5, 3) := by decide +kernel
theorem dX8_firmest_7 : decode cX8_firmest 7 = .ok (.iconst (-1), 1) := by decide +kernel
theorem dX8_firmest_8 : decode cX8_firmest 8 = .ok (.ireturn, 1) := by decide +kernel
theorem dX8_firmest_9 : decode cX8_firmest 9 = .ok (.aload_n 0, 1) := by decide +kernel
theorem dX8_firmest_10 : decode cX8_firmest 10 = .ok (.invokevirtual 224, 3) := by decide +kernel
theorem dX8_firmest_13 : decode cX8_firmest 13 = .ok (.istore_n 2, 1) := by decide +kernel
theorem dX8_firmest_14 : decode cX8_firmest 14 = .ok (.iconst (-1), 1) := by decide +kernel
theorem dX8_firmest_15 : decode cX8_firmest 15 = .ok (.istore_n 3, 1) := by decide +kernel
theorem dX8_firmest_16 : decode cX8_firmest 16 = .ok (.iconst (-1), 1) := by decide +kernel
theorem dX8_firmest_17 : decode cX8_firmest 17 = .ok (.istore 4, 2) := by decide +kernel
theorem dX8_firmest_19 : decode cX8_firmest 19 = .ok (.iconst 0, 1) := by decide +kernel
theorem dX8_firmest_20 : decode cX8_firmest 20 = .ok (.istore 5, 2) := by decide +kernel
theorem dX8_firmest_22 : decode cX8_firmest 22 = .ok (.iload 5, 2) := by decide +kernel
theorem dX8_firmest_24 : decode cX8_firmest 24 = .ok (.aload_n 0, 1) := by decide +kernel
theorem dX8_firmest_25 : decode cX8_firmest 25 = .ok (.getfield 19, 3) := by decide +kernel
theorem dX8_firmest_28 : decode cX8_firmest 28 = .ok (.getfield 105, 3) := by decide +kernel
theorem dX8_firmest_31 : decode cX8_firmest 31 = .ok (.if_icmp .ge 58, 3) := by decide +kernel
theorem dX8_firmest_89 : decode cX8_firmest 89 = .ok (.iload_n 1, 1) := by decide +kernel
theorem dX8_firmest_90 : decode cX8_firmest 90 = .ok (.ifCond .ne 7, 3) := by decide +kernel
theorem dX8_firmest_93 : decode cX8_firmest 93 = .ok (.iload_n 3, 1) := by decide +kernel
theorem dX8_firmest_94 : decode cX8_firmest 94 = .ok (.goto 5, 3) := by decide +kernel
theorem dX8_firmest_97 : decode cX8_firmest 97 = .ok (.iload 4, 2) := by decide +kernel
theorem dX8_firmest_99 : decode cX8_firmest 99 = .ok (.ireturn, 1) := by decide +kernel
theorem dX8_burdened_0 : decode cX8_burdened 0 = .ok (.iconst (-1), 1) := by decide +kernel
theorem dX8_burdened_1 : decode cX8_burdened 1 = .ok (.istore_n 1, 1) := by decide +kernel
theorem dX8_burdened_2 : decode cX8_burdened 2 = .ok (.iconst (-1), 1) := by decide +kernel
theorem dX8_burdened_3 : decode cX8_burdened 3 = .ok (.istore_n 2, 1) := by decide +kernel
theorem dX8_burdened_4 : decode cX8_burdened 4 = .ok (.iconst 0, 1) := by decide +kernel
theorem dX8_burdened_5 : decode cX8_burdened 5 = .ok (.istore_n 3, 1) := by decide +kernel
theorem dX8_burdened_6 : decode cX8_burdened 6 = .ok (.iload_n 3, 1) := by decide +kernel
theorem dX8_burdened_7 : decode cX8_burdened 7 = .ok (.aload_n 0, 1) := by decide +kernel
theorem dX8_burdened_8 : decode cX8_burdened 8 = .ok (.getfield 19, 3) := by decide +kernel
theorem dX8_burdened_11 : decode cX8_burdened 11 = .ok (.getfield 105, 3) := by decide +kernel
theorem dX8_burdened_14 : decode cX8_burdened 14 = .ok (.if_icmp .ge 42, 3) := by decide +kernel
theorem dX8_burdened_56 : decode cX8_burdened 56 = .ok (.iload_n 1, 1) := by decide +kernel
theorem dX8_burdened_57 : decode cX8_burdened 57 = .ok (.ireturn, 1) := by decide +kernel
theorem dX8_gaps_0 : decode cX8_gaps 0 = .ok (.iconst 0, 1) := by decide +kernel
theorem dX8_gaps_1 : decode cX8_gaps 1 = .ok (.istore_n 1, 1) := by decide +kernel
theorem dX8_gaps_2 : decode cX8_gaps 2 = .ok (.iconst 0, 1) := by decide +kernel
theorem dX8_gaps_3 : decode cX8_gaps 3 = .ok (.istore_n 2, 1) := by decide +kernel
theorem dX8_gaps_4 : decode cX8_gaps 4 = .ok (.iload_n 2, 1) := by decide +kernel
theorem dX8_gaps_5 : decode cX8_gaps 5 = .ok (.aload_n 0, 1) := by decide +kernel
theorem dX8_gaps_6 : decode cX8_gaps 6 = .ok (.getfield 19, 3) := by decide +kernel
theorem dX8_gaps_9 : decode cX8_gaps 9 = .ok (.getfield 105, 3) := by decide +kernel
theorem dX8_gaps_12 : decode cX8_gaps 12 = .ok (.if_icmp .ge 46, 3) := by decide +kernel
theorem dX8_gaps_58 : decode cX8_gaps 58 = .ok (.iload_n 1, 1) := by decide +kernel
theorem dX8_gaps_59 : decode cX8_gaps 59 = .ok (.ireturn, 1) := by decide +kernel
set_option maxRecDepth 20000 in
theorem ggX8_best_X5_isClaim : GoodIn wsX8_best wsX5_isClaim := goodIn_r _ [11, 12, 13, 14, 15, 10, 16, 17, 18, 19, 20, 158, 159, 160, 161, 162, 163, 164, 165, 166, 167, 168, 169] (by decide +kernel) (by decide +kernel)
set_option maxRecDepth 20000 in
theorem gX8_best_X5_isClaim : GoodIn wsX8_best (wsV RX8 244 RX5 yX5_isClaim wsX5_isClaim) := goodIn_app (goodIn_of _ (by decide +kernel)) ggX8_best_X5_isClaim
theorem dX8_best_0 : decode cX8_best 0 = .ok (.aload_n 0, 1) := by decide +kernel
theorem dX8_best_1 : decode cX8_best 1 = .ok (.getfield 19, 3) := by decide +kernel
theorem dX8_best_4 : decode cX8_best 4 = .ok (.iload_n 1, 1) := by decide +kernel
theorem dX8_best_5 : decode cX8_best 5 = .ok (.invokevirtual 244, 3) := by decide +kernel
theorem dX8_best_8 : decode cX8_best 8 = .ok (.ifCond .ne 5, 3) := by decide +kernel
theorem dX8_best_11 : decode cX8_best 11 = .ok (.iconst (-1), 1) := by decide +kernel
theorem dX8_best_12 : decode cX8_best 12 = .ok (.ireturn, 1) := by decide +kernel
set_option maxRecDepth 20000 in
theorem ggX8_weakest_X8_look : GoodIn wsX8_weakest wsX8_look := goodIn_r _ [10, 1, 3, 11, 12, 13, 9, 14, 15, 16, 17, 18, 19, 20, 21, 22, 23, 24, 25, 26, 27, 28, 29, 30, 31, 32, 33, 34, 35, 36, 37, 38, 39, 40, 41, 42, 111, 112, 113, 114, 115, 116, 117, 118, 119, 120, 121, 122, 123, 151, 152, 153, 154, 141, 142, 143, 144, 145, 146, 147, 148, 149, 150, 129, 130, 131, 132, 133, 134, 135, 136, 137, 138, 139, 140, 124, 125, 126, 127, 128] (by decide +kernel) (by decide +kernel)
set_option maxRecDepth 20000 in
theorem gX8_weakest_X8_look : GoodIn wsX8_weakest (wsV RX8 148 RX8 yX8_look wsX8_look) := goodIn_app (goodIn_of _ (by decide +kernel)) ggX8_weakest_X8_look
set_option maxRecDepth 20000 in
theorem ggX8_weakest_X8_now : GoodIn wsX8_weakest wsX8_now := goodIn_r _ [14, 15, 16, 17, 18, 19, 20, 21, 22, 111, 112, 113, 114, 115, 116, 117, 118, 119, 120, 121, 122, 123, 151, 152, 153, 154] (by decide +kernel) (by decide +kernel)
set_option maxRecDepth 20000 in
theorem gX8_weakest_X8_now : GoodIn wsX8_weakest (wsV RX8 88 RX8 yX8_now wsX8_now) := goodIn_app (goodIn_of _ (by decide +kernel)) ggX8_weakest_X8_now
set_option maxRecDepth 20000 in
theorem ggX8_weakest_X2_weigh : GoodIn wsX8_weakest wsX2_weigh := goodIn_r _ [46, 28, 47, 35, 48, 49, 9, 50, 51, 52, 53, 26, 54, 55, 56, 57, 58, 59, 60, 61, 42, 41, 33, 62, 63, 64, 65, 66, 67, 68, 69, 70, 71, 72, 73, 74, 75, 76, 77, 78, 79, 80, 81, 82, 83, 84, 85, 86, 87, 88, 89, 90, 91, 92, 93, 94, 95, 96, 97, 98, 99, 141, 142, 143, 144, 145, 146, 147, 148, 149, 150, 129, 130, 131, 132, 133, 134, 135, 136, 137, 138, 139, 140, 155, 156, 157, 158, 159, 160] (by decide +kernel) (by decide +kernel)
set_option maxRecDepth 20000 in
theorem gX8_weakest_X2_weigh : GoodIn wsX8_weakest (wsV RX8 151 RX2 yX2_weigh wsX2_weigh) := goodIn_app (goodIn_of _ (by decide +kernel)) ggX8_weakest_X2_weigh
theorem dX8_weakest_0 : decode cX8_weakest 0 = .ok (.aload_n 0, 1) := by decide +kernel
theorem dX8_weakest_1 : decode cX8_weakest 1 = .ok (.invokevirtual 148, 3) := by decide +kernel
theorem dX8_weakest_4 : decode cX8_weakest 4 = .ok (.aload_n 0, 1) := by decide +kernel
theorem dX8_weakest_5 : decode cX8_weakest 5 = .ok (.getfield 44, 3) := by decide +kernel
theorem dX8_weakest_8 : decode cX8_weakest 8 = .ok (.aload_n 0, 1) := by decide +kernel
theorem dX8_weakest_9 : decode cX8_weakest 9 = .ok (.invokevirtual 88, 3) := by decide +kernel
theorem dX8_weakest_12 : decode cX8_weakest 12 = .ok (.getfield 145, 3) := by decide +kernel
theorem dX8_weakest_15 : decode cX8_weakest 15 = .ok (.invokevirtual 151, 3) := by decide +kernel
theorem dX8_weakest_18 : decode cX8_weakest 18 = .ok (.iconst (-1), 1) := by decide +kernel
theorem dX8_weakest_19 : decode cX8_weakest 19 = .ok (.istore_n 1, 1) := by decide +kernel
theorem dX8_weakest_20 : decode cX8_weakest 20 = .ok (.sipush 1000, 3) := by decide +kernel
theorem dX8_weakest_23 : decode cX8_weakest 23 = .ok (.istore_n 2, 1) := by decide +kernel
theorem dX8_weakest_24 : decode cX8_weakest 24 = .ok (.iconst 0, 1) := by decide +kernel
theorem dX8_weakest_25 : decode cX8_weakest 25 = .ok (.istore_n 3, 1) := by decide +kernel
theorem dX8_weakest_26 : decode cX8_weakest 26 = .ok (.iload_n 3, 1) := by decide +kernel
theorem dX8_weakest_27 : decode cX8_weakest 27 = .ok (.aload_n 0, 1) := by decide +kernel
theorem dX8_weakest_28 : decode cX8_weakest 28 = .ok (.getfield 19, 3) := by decide +kernel
theorem dX8_weakest_31 : decode cX8_weakest 31 = .ok (.getfield 157, 3) := by decide +kernel
theorem dX8_weakest_34 : decode cX8_weakest 34 = .ok (.if_icmp .ge 42, 3) := by decide +kernel
theorem dX8_weakest_76 : decode cX8_weakest 76 = .ok (.iload_n 1, 1) := by decide +kernel
theorem dX8_weakest_77 : decode cX8_weakest 77 = .ok (.ireturn, 1) := by decide +kernel
set_option maxRecDepth 20000 in
theorem ggX8_roots_X5_isClaim : GoodIn wsX8_roots wsX5_isClaim := goodIn_r _ [8, 9, 10, 11, 12, 7, 13, 14, 15, 16, 17, 55, 56, 57, 58, 59, 60, 61, 62, 63, 64, 65, 66] (by decide +kernel) (by decide +kernel)
set_option maxRecDepth 20000 in
theorem gX8_roots_X5_isClaim : GoodIn wsX8_roots (wsV RX8 244 RX5 yX5_isClaim wsX5_isClaim) := goodIn_app (goodIn_of _ (by decide +kernel)) ggX8_roots_X5_isClaim
theorem dX8_roots_0 : decode cX8_roots 0 = .ok (.aload_n 0, 1) := by decide +kernel
theorem dX8_roots_1 : decode cX8_roots 1 = .ok (.getfield 19, 3) := by decide +kernel
theorem dX8_roots_4 : decode cX8_roots 4 = .ok (.iload_n 1, 1) := by decide +kernel
theorem dX8_roots_5 : decode cX8_roots 5 = .ok (.invokevirtual 244, 3) := by decide +kernel
theorem dX8_roots_8 : decode cX8_roots 8 = .ok (.ifCond .ne 5, 3) := by decide +kernel
theorem dX8_roots_11 : decode cX8_roots 11 = .ok (.iconst (-1), 1) := by decide +kernel
theorem dX8_roots_12 : decode cX8_roots 12 = .ok (.ireturn, 1) := by decide +kernel
set_option maxRecDepth 20000 in
theorem ggX8_path_X5_isPoint : GoodIn wsX8_path wsX5_isPoint := goodIn_r _ [7, 8, 56, 57, 58, 59, 60, 61, 62, 63, 64, 65, 66, 67] (by decide +kernel) (by decide +kernel)
set_option maxRecDepth 20000 in
theorem gX8_path_X5_isPoint : GoodIn wsX8_path (wsV RX8 114 RX5 yX5_isPoint wsX5_isPoint) := goodIn_app (goodIn_of _ (by decide +kernel)) ggX8_path_X5_isPoint
theorem dX8_path_0 : decode cX8_path 0 = .ok (.aload_n 0, 1) := by decide +kernel
theorem dX8_path_1 : decode cX8_path 1 = .ok (.getfield 19, 3) := by decide +kernel
theorem dX8_path_4 : decode cX8_path 4 = .ok (.iload_n 1, 1) := by decide +kernel
theorem dX8_path_5 : decode cX8_path 5 = .ok (.invokevirtual 114, 3) := by decide +kernel
theorem dX8_path_8 : decode cX8_path 8 = .ok (.ifCond .eq 14, 3) := by decide +kernel
theorem dX8_path_22 : decode cX8_path 22 = .ok (.iconst (-1), 1) := by decide +kernel
theorem dX8_path_23 : decode cX8_path 23 = .ok (.ireturn, 1) := by decide +kernel
set_option maxRecDepth 20000 in
theorem ggX8_moot_X5_isClaim : GoodIn wsX8_moot wsX5_isClaim := goodIn_r _ [8, 9, 10, 11, 12, 7, 13, 14, 15, 16, 17, 165, 166, 167, 168, 169, 170, 171, 172, 173, 174, 175, 176] (by decide +kernel) (by decide +kernel)
set_option maxRecDepth 20000 in
theorem gX8_moot_X5_isClaim : GoodIn wsX8_moot (wsV RX8 244 RX5 yX5_isClaim wsX5_isClaim) := goodIn_app (goodIn_of _ (by decide +kernel)) ggX8_moot_X5_isClaim
theorem dX8_moot_0 : decode cX8_moot 0 = .ok (.aload_n 0, 1) := by decide +kernel
theorem dX8_moot_1 : decode cX8_moot 1 = .ok (.getfield 19, 3) := by decide +kernel
theorem dX8_moot_4 : decode cX8_moot 4 = .ok (.iload_n 1, 1) := by decide +kernel
theorem dX8_moot_5 : decode cX8_moot 5 = .ok (.invokevirtual 244, 3) := by decide +kernel
theorem dX8_moot_8 : decode cX8_moot 8 = .ok (.ifCond .eq 20, 3) := by decide +kernel
theorem dX8_moot_28 : decode cX8_moot 28 = .ok (.bipush (-2), 2) := by decide +kernel
theorem dX8_moot_30 : decode cX8_moot 30 = .ok (.ireturn, 1) := by decide +kernel
set_option maxRecDepth 20000 in
theorem ggX8_counsels_X5_isClaim : GoodIn wsX8_counsels wsX5_isClaim := goodIn_r _ [9, 10, 11, 12, 13, 8, 14, 15, 16, 17, 18, 188, 189, 190, 191, 192, 193, 194, 195, 196, 197, 198, 199] (by decide +kernel) (by decide +kernel)
set_option maxRecDepth 20000 in
theorem gX8_counsels_X5_isClaim : GoodIn wsX8_counsels (wsV RX8 244 RX5 yX5_isClaim wsX5_isClaim) := goodIn_app (goodIn_of _ (by decide +kernel)) ggX8_counsels_X5_isClaim
theorem dX8_counsels_0 : decode cX8_counsels 0 = .ok (.aload_n 0, 1) := by decide +kernel
theorem dX8_counsels_1 : decode cX8_counsels 1 = .ok (.iconst 0, 1) := by decide +kernel
theorem dX8_counsels_2 : decode cX8_counsels 2 = .ok (.putfield 102, 3) := by decide +kernel
theorem dX8_counsels_5 : decode cX8_counsels 5 = .ok (.iload_n 1, 1) := by decide +kernel
theorem dX8_counsels_6 : decode cX8_counsels 6 = .ok (.iload_n 2, 1) := by decide +kernel
theorem dX8_counsels_7 : decode cX8_counsels 7 = .ok (.if_icmp .eq 35, 3) := by decide +kernel
theorem dX8_counsels_10 : decode cX8_counsels 10 = .ok (.aload_n 0, 1) := by decide +kernel
theorem dX8_counsels_11 : decode cX8_counsels 11 = .ok (.getfield 19, 3) := by decide +kernel
theorem dX8_counsels_14 : decode cX8_counsels 14 = .ok (.iload_n 1, 1) := by decide +kernel
theorem dX8_counsels_15 : decode cX8_counsels 15 = .ok (.invokevirtual 244, 3) := by decide +kernel
theorem dX8_counsels_18 : decode cX8_counsels 18 = .ok (.ifCond .eq 24, 3) := by decide +kernel
theorem dX8_counsels_42 : decode cX8_counsels 42 = .ok (.iconst (-1), 1) := by decide +kernel
theorem dX8_counsels_43 : decode cX8_counsels 43 = .ok (.ireturn, 1) := by decide +kernel
set_option maxRecDepth 20000 in
theorem ggX8_proof_X8_leastProp : GoodIn wsX8_proof wsX8_leastProp := goodIn_r _ [10, 3, 11, 12, 13, 14, 9, 15, 2, 16, 17, 18, 19, 20, 21, 22, 23, 24, 25, 26, 27, 28, 29, 30, 31, 32, 33, 34, 35, 36, 37, 38, 39, 40, 41, 42, 43, 44, 45, 46, 47, 48, 49, 50, 51, 52, 53, 54, 55, 56, 57, 58, 59, 60, 61, 62, 63, 64, 65, 66, 67, 68, 69, 70, 71, 72, 73, 74, 75, 76, 77, 78, 79, 80, 81, 82, 83, 84, 85, 86, 87, 88, 89, 90, 91, 92, 93, 94, 95, 96, 97, 98, 99, 100, 101, 102, 103, 104, 105, 106, 107, 108, 109, 110, 111, 112, 113, 114, 115, 116, 117, 118, 119, 120, 121, 122, 123, 124, 125, 126, 127, 128, 129, 130, 131, 132, 133, 134, 135, 136, 137, 138, 139, 140, 141, 142, 143, 144, 145, 146, 147, 148, 149, 150, 151, 152, 158, 159, 160, 161, 162, 163, 164, 165, 166, 167, 168, 169, 170, 193, 194, 195, 196, 197, 198, 199, 200, 201, 183, 184, 185, 186, 187, 188, 189, 190, 191, 192, 171, 172, 173, 174, 175, 176, 177, 178, 179, 180, 181, 182, 202, 203, 204, 205, 206, 207] (by decide +kernel) (by decide +kernel)
set_option maxRecDepth 20000 in
theorem gX8_proof_X8_leastProp : GoodIn wsX8_proof (wsV RX8 271 RX8 yX8_leastProp wsX8_leastProp) := goodIn_app (goodIn_of _ (by decide +kernel)) ggX8_proof_X8_leastProp
theorem dX8_proof_0 : decode cX8_proof 0 = .ok (.aload_n 0, 1) := by decide +kernel
theorem dX8_proof_1 : decode cX8_proof 1 = .ok (.iconst 0, 1) := by decide +kernel
theorem dX8_proof_2 : decode cX8_proof 2 = .ok (.putfield 102, 3) := by decide +kernel
theorem dX8_proof_5 : decode cX8_proof 5 = .ok (.aload_n 0, 1) := by decide +kernel
theorem dX8_proof_6 : decode cX8_proof 6 = .ok (.iload_n 1, 1) := by decide +kernel
theorem dX8_proof_7 : decode cX8_proof 7 = .ok (.invokevirtual 271, 3) := by decide +kernel
theorem dX8_proof_10 : decode cX8_proof 10 = .ok (.istore_n 2, 1) := by decide +kernel
theorem dX8_proof_11 : decode cX8_proof 11 = .ok (.iload_n 2, 1) := by decide +kernel
theorem dX8_proof_12 : decode cX8_proof 12 = .ok (.iconst (-1), 1) := by decide +kernel
theorem dX8_proof_13 : decode cX8_proof 13 = .ok (.if_icmp .ne 5, 3) := by decide +kernel
theorem dX8_proof_16 : decode cX8_proof 16 = .ok (.iconst (-1), 1) := by decide +kernel
theorem dX8_proof_17 : decode cX8_proof 17 = .ok (.ireturn, 1) := by decide +kernel
theorem dX8_lies_0 : decode cX8_lies 0 = .ok (.iload_n 1, 1) := by decide +kernel
theorem dX8_lies_1 : decode cX8_lies 1 = .ok (.ifCond .lt 20, 3) := by decide +kernel
theorem dX8_lies_4 : decode cX8_lies 4 = .ok (.iload_n 1, 1) := by decide +kernel
theorem dX8_lies_5 : decode cX8_lies 5 = .ok (.aload_n 0, 1) := by decide +kernel
theorem dX8_lies_6 : decode cX8_lies 6 = .ok (.getfield 102, 3) := by decide +kernel
theorem dX8_lies_9 : decode cX8_lies 9 = .ok (.if_icmp .ge 12, 3) := by decide +kernel
theorem dX8_lies_21 : decode cX8_lies 21 = .ok (.iconst (-1), 1) := by decide +kernel
theorem dX8_lies_22 : decode cX8_lies 22 = .ok (.ireturn, 1) := by decide +kernel
set_option maxRecDepth 20000 in
theorem ggX8_odds_X8_isZeroOrOne : GoodIn wsX8_odds wsX8_isZeroOrOne := goodIn_r _ [6] (by decide +kernel) (by decide +kernel)
set_option maxRecDepth 20000 in
theorem gX8_odds_X8_isZeroOrOne : GoodIn wsX8_odds (va_wsS RX8 234 yX8_isZeroOrOne wsX8_isZeroOrOne) := goodIn_app (goodIn_of _ (by decide +kernel)) ggX8_odds_X8_isZeroOrOne
set_option maxRecDepth 20000 in
theorem ggX8_odds_X8_commonDivisor : GoodIn wsX8_odds wsX8_commonDivisor := goodIn_r _ [9, 10, 11, 12, 13] (by decide +kernel) (by decide +kernel)
set_option maxRecDepth 20000 in
theorem gX8_odds_X8_commonDivisor : GoodIn wsX8_odds (va_wsS RX8 330 yX8_commonDivisor wsX8_commonDivisor) := goodIn_app (goodIn_of _ (by decide +kernel)) ggX8_odds_X8_commonDivisor
theorem dX8_odds_0 : decode cX8_odds 0 = .ok (.iload_n 1, 1) := by decide +kernel
theorem dX8_odds_1 : decode cX8_odds 1 = .ok (.ifCond .lt 15, 3) := by decide +kernel
theorem dX8_odds_4 : decode cX8_odds 4 = .ok (.iload_n 1, 1) := by decide +kernel
theorem dX8_odds_5 : decode cX8_odds 5 = .ok (.iconst 4, 1) := by decide +kernel
theorem dX8_odds_6 : decode cX8_odds 6 = .ok (.if_icmp .gt 10, 3) := by decide +kernel
theorem dX8_odds_9 : decode cX8_odds 9 = .ok (.iload_n 2, 1) := by decide +kernel
theorem dX8_odds_10 : decode cX8_odds 10 = .ok (.invokestatic 234, 3) := by decide +kernel
theorem dX8_odds_13 : decode cX8_odds 13 = .ok (.ifCond .ne 5, 3) := by decide +kernel
theorem dX8_odds_16 : decode cX8_odds 16 = .ok (.iconst (-1), 1) := by decide +kernel
theorem dX8_odds_17 : decode cX8_odds 17 = .ok (.ireturn, 1) := by decide +kernel
theorem dX8_odds_18 : decode cX8_odds 18 = .ok (.iconst 1, 1) := by decide +kernel
theorem dX8_odds_19 : decode cX8_odds 19 = .ok (.istore_n 3, 1) := by decide +kernel
theorem dX8_odds_20 : decode cX8_odds 20 = .ok (.iconst 1, 1) := by decide +kernel
theorem dX8_odds_21 : decode cX8_odds 21 = .ok (.istore 4, 2) := by decide +kernel
theorem dX8_odds_23 : decode cX8_odds 23 = .ok (.iconst 0, 1) := by decide +kernel
theorem dX8_odds_24 : decode cX8_odds 24 = .ok (.istore 5, 2) := by decide +kernel
theorem dX8_odds_26 : decode cX8_odds 26 = .ok (.iload 5, 2) := by decide +kernel
theorem dX8_odds_28 : decode cX8_odds 28 = .ok (.iload_n 1, 1) := by decide +kernel
theorem dX8_odds_29 : decode cX8_odds 29 = .ok (.if_icmp .ge 29, 3) := by decide +kernel
theorem dX8_odds_32 : decode cX8_odds 32 = .ok (.iload_n 3, 1) := by decide +kernel
theorem dX8_odds_33 : decode cX8_odds 33 = .ok (.bipush 100, 2) := by decide +kernel
theorem dX8_odds_35 : decode cX8_odds 35 = .ok (.aload_n 0, 1) := by decide +kernel
theorem dX8_odds_36 : decode cX8_odds 36 = .ok (.getfield 19, 3) := by decide +kernel
theorem dX8_odds_39 : decode cX8_odds 39 = .ok (.getfield 184, 3) := by decide +kernel
theorem dX8_odds_42 : decode cX8_odds 42 = .ok (.isub, 1) := by decide +kernel
theorem dX8_odds_43 : decode cX8_odds 43 = .ok (.imul, 1) := by decide +kernel
theorem dX8_odds_44 : decode cX8_odds 44 = .ok (.istore_n 3, 1) := by decide +kernel
theorem dX8_odds_45 : decode cX8_odds 45 = .ok (.iload 4, 2) := by decide +kernel
theorem dX8_odds_47 : decode cX8_odds 47 = .ok (.bipush 100, 2) := by decide +kernel
theorem dX8_odds_49 : decode cX8_odds 49 = .ok (.imul, 1) := by decide +kernel
theorem dX8_odds_50 : decode cX8_odds 50 = .ok (.istore 4, 2) := by decide +kernel
theorem dX8_odds_52 : decode cX8_odds 52 = .ok (.iinc 5 1, 3) := by decide +kernel
theorem dX8_odds_55 : decode cX8_odds 55 = .ok (.goto (-29), 3) := by decide +kernel
theorem dX8_odds_58 : decode cX8_odds 58 = .ok (.iload 4, 2) := by decide +kernel
theorem dX8_odds_60 : decode cX8_odds 60 = .ok (.iload_n 3, 1) := by decide +kernel
theorem dX8_odds_61 : decode cX8_odds 61 = .ok (.invokestatic 330, 3) := by decide +kernel
theorem dX8_odds_64 : decode cX8_odds 64 = .ok (.istore 5, 2) := by decide +kernel
theorem dX8_odds_66 : decode cX8_odds 66 = .ok (.iload_n 2, 1) := by decide +kernel
theorem dX8_odds_67 : decode cX8_odds 67 = .ok (.ifCond .ne 7, 3) := by decide +kernel
theorem dX8_odds_70 : decode cX8_odds 70 = .ok (.iload_n 3, 1) := by decide +kernel
theorem dX8_odds_71 : decode cX8_odds 71 = .ok (.goto 5, 3) := by decide +kernel
theorem dX8_odds_74 : decode cX8_odds 74 = .ok (.iload 4, 2) := by decide +kernel
theorem dX8_odds_76 : decode cX8_odds 76 = .ok (.iload 5, 2) := by decide +kernel
theorem dX8_odds_78 : decode cX8_odds 78 = .ok (.idiv, 1) := by decide +kernel
theorem dX8_odds_79 : decode cX8_odds 79 = .ok (.ireturn, 1) := by decide +kernel
theorem dX8_commonDivisor_0 : decode cX8_commonDivisor 0 = .ok (.iload_n 0, 1) := by decide +kernel
theorem dX8_commonDivisor_1 : decode cX8_commonDivisor 1 = .ok (.istore_n 2, 1) := by decide +kernel
theorem dX8_commonDivisor_2 : decode cX8_commonDivisor 2 = .ok (.iload_n 1, 1) := by decide +kernel
theorem dX8_commonDivisor_3 : decode cX8_commonDivisor 3 = .ok (.istore_n 3, 1) := by decide +kernel
theorem dX8_commonDivisor_4 : decode cX8_commonDivisor 4 = .ok (.iconst 0, 1) := by decide +kernel
theorem dX8_commonDivisor_5 : decode cX8_commonDivisor 5 = .ok (.istore 4, 2) := by decide +kernel
theorem dX8_commonDivisor_7 : decode cX8_commonDivisor 7 = .ok (.iload 4, 2) := by decide +kernel
theorem dX8_commonDivisor_9 : decode cX8_commonDivisor 9 = .ok (.bipush 64, 2) := by decide +kernel
theorem dX8_commonDivisor_11 : decode cX8_commonDivisor 11 = .ok (.if_icmp .ge 23, 3) := by decide +kernel
theorem dX8_commonDivisor_14 : decode cX8_commonDivisor 14 = .ok (.iload_n 3, 1) := by decide +kernel
theorem dX8_commonDivisor_15 : decode cX8_commonDivisor 15 = .ok (.ifCond .eq 19, 3) := by decide +kernel
theorem dX8_commonDivisor_18 : decode cX8_commonDivisor 18 = .ok (.iload_n 2, 1) := by decide +kernel
theorem dX8_commonDivisor_19 : decode cX8_commonDivisor 19 = .ok (.iload_n 3, 1) := by decide +kernel
theorem dX8_commonDivisor_20 : decode cX8_commonDivisor 20 = .ok (.irem, 1) := by decide +kernel
theorem dX8_commonDivisor_21 : decode cX8_commonDivisor 21 = .ok (.istore 5, 2) := by decide +kernel
theorem dX8_commonDivisor_23 : decode cX8_commonDivisor 23 = .ok (.iload_n 3, 1) := by decide +kernel
theorem dX8_commonDivisor_24 : decode cX8_commonDivisor 24 = .ok (.istore_n 2, 1) := by decide +kernel
theorem dX8_commonDivisor_25 : decode cX8_commonDivisor 25 = .ok (.iload 5, 2) := by decide +kernel
theorem dX8_commonDivisor_27 : decode cX8_commonDivisor 27 = .ok (.istore_n 3, 1) := by decide +kernel
theorem dX8_commonDivisor_28 : decode cX8_commonDivisor 28 = .ok (.iinc 4 1, 3) := by decide +kernel
theorem dX8_commonDivisor_31 : decode cX8_commonDivisor 31 = .ok (.goto (-24), 3) := by decide +kernel
theorem dX8_commonDivisor_34 : decode cX8_commonDivisor 34 = .ok (.iconst 1, 1) := by decide +kernel
theorem dX8_commonDivisor_35 : decode cX8_commonDivisor 35 = .ok (.iload_n 2, 1) := by decide +kernel
theorem dX8_commonDivisor_36 : decode cX8_commonDivisor 36 = .ok (.invokestatic 282, 3) := by decide +kernel
theorem dX8_commonDivisor_39 : decode cX8_commonDivisor 39 = .ok (.ireturn, 1) := by decide +kernel
set_option maxRecDepth 20000 in
theorem ggX8_seen_X5_isClaim : GoodIn wsX8_seen wsX5_isClaim := goodIn_r _ [8, 9, 10, 11, 12, 7, 13, 14, 15, 16, 17, 41, 42, 43, 44, 45, 46, 47, 48, 49, 50, 51, 52] (by decide +kernel) (by decide +kernel)
set_option maxRecDepth 20000 in
theorem gX8_seen_X5_isClaim : GoodIn wsX8_seen (wsV RX8 244 RX5 yX5_isClaim wsX5_isClaim) := goodIn_app (goodIn_of _ (by decide +kernel)) ggX8_seen_X5_isClaim
theorem dX8_seen_0 : decode cX8_seen 0 = .ok (.aload_n 0, 1) := by decide +kernel
theorem dX8_seen_1 : decode cX8_seen 1 = .ok (.getfield 19, 3) := by decide +kernel
theorem dX8_seen_4 : decode cX8_seen 4 = .ok (.iload_n 1, 1) := by decide +kernel
theorem dX8_seen_5 : decode cX8_seen 5 = .ok (.invokevirtual 244, 3) := by decide +kernel
theorem dX8_seen_8 : decode cX8_seen 8 = .ok (.ifCond .eq 19, 3) := by decide +kernel
theorem dX8_seen_27 : decode cX8_seen 27 = .ok (.iconst (-1), 1) := by decide +kernel
theorem dX8_seen_28 : decode cX8_seen 28 = .ok (.ireturn, 1) := by decide +kernel
set_option maxRecDepth 20000 in
theorem ggX8_untell_X7_takeBack : GoodIn wsX8_untell wsX7_takeBack := goodIn_r _ [7, 8, 9, 23, 24, 25, 26, 27] (by decide +kernel) (by decide +kernel)
set_option maxRecDepth 20000 in
theorem gX8_untell_X7_takeBack : GoodIn wsX8_untell (wsV RX8 337 RX7 yX7_takeBack wsX7_takeBack) := goodIn_app (goodIn_of _ (by decide +kernel)) ggX8_untell_X7_takeBack
theorem dX8_untell_0 : decode cX8_untell 0 = .ok (.aload_n 0, 1) := by decide +kernel
theorem dX8_untell_1 : decode cX8_untell 1 = .ok (.getfield 58, 3) := by decide +kernel
theorem dX8_untell_4 : decode cX8_untell 4 = .ok (.iload_n 1, 1) := by decide +kernel
theorem dX8_untell_5 : decode cX8_untell 5 = .ok (.aload_n 0, 1) := by decide +kernel
theorem dX8_untell_6 : decode cX8_untell 6 = .ok (.getfield 172, 3) := by decide +kernel
theorem dX8_untell_9 : decode cX8_untell 9 = .ok (.invokevirtual 337, 3) := by decide +kernel
theorem dX8_untell_12 : decode cX8_untell 12 = .ok (.ireturn, 1) := by decide +kernel
theorem dX8_later_0 : decode cX8_later 0 = .ok (.iload_n 1, 1) := by decide +kernel
theorem dX8_later_1 : decode cX8_later 1 = .ok (.ifCond .lt 22, 3) := by decide +kernel
theorem dX8_later_4 : decode cX8_later 4 = .ok (.iload_n 1, 1) := by decide +kernel
theorem dX8_later_5 : decode cX8_later 5 = .ok (.sipush 1000, 3) := by decide +kernel
theorem dX8_later_8 : decode cX8_later 8 = .ok (.if_icmp .gt 15, 3) := by decide +kernel
theorem dX8_later_11 : decode cX8_later 11 = .ok (.aload_n 0, 1) := by decide +kernel
theorem dX8_later_12 : decode cX8_later 12 = .ok (.getfield 172, 3) := by decide +kernel
theorem dX8_later_15 : decode cX8_later 15 = .ok (.iload_n 1, 1) := by decide +kernel
theorem dX8_later_16 : decode cX8_later 16 = .ok (.iadd, 1) := by decide +kernel
theorem dX8_later_17 : decode cX8_later 17 = .ok (.ldc_w 340, 3) := by decide +kernel
theorem dX8_later_20 : decode cX8_later 20 = .ok (.if_icmp .le 5, 3) := by decide +kernel
theorem dX8_later_23 : decode cX8_later 23 = .ok (.iconst (-1), 1) := by decide +kernel
theorem dX8_later_24 : decode cX8_later 24 = .ok (.ireturn, 1) := by decide +kernel
theorem dX8_later_25 : decode cX8_later 25 = .ok (.aload_n 0, 1) := by decide +kernel
theorem dX8_later_26 : decode cX8_later 26 = .ok (.dup, 1) := by decide +kernel
theorem dX8_later_27 : decode cX8_later 27 = .ok (.getfield 172, 3) := by decide +kernel
theorem dX8_later_30 : decode cX8_later 30 = .ok (.iload_n 1, 1) := by decide +kernel
theorem dX8_later_31 : decode cX8_later 31 = .ok (.iadd, 1) := by decide +kernel
theorem dX8_later_32 : decode cX8_later 32 = .ok (.putfield 172, 3) := by decide +kernel
theorem dX8_later_35 : decode cX8_later 35 = .ok (.aload_n 0, 1) := by decide +kernel
theorem dX8_later_36 : decode cX8_later 36 = .ok (.getfield 172, 3) := by decide +kernel
theorem dX8_later_39 : decode cX8_later 39 = .ok (.ireturn, 1) := by decide +kernel
set_option maxRecDepth 20000 in
theorem ggX8_ways_X8_findWays : GoodIn wsX8_ways wsX8_findWays := goodIn_r _ [7, 8, 9, 10, 1, 11, 12, 13, 14, 15, 16, 17, 18, 19, 20, 21, 22, 23, 24, 25, 26, 27, 28, 29, 30, 31, 32, 33, 34, 35, 36, 37, 38, 39, 40, 41, 42, 43, 44, 45, 46, 47, 48, 49, 50, 51, 52, 53, 54, 55, 56, 57, 58, 59, 60, 61, 62, 63, 64, 65, 66, 67, 68, 69, 70, 71, 72, 73, 74, 75, 6, 76, 77, 78, 79, 80, 81, 82, 83, 84, 85, 86, 87, 88, 89, 90, 91, 92, 93, 94, 95, 96, 97, 98, 99, 100, 101, 102, 103, 104, 105, 106, 107, 108, 109, 110, 111, 112, 113, 114, 115, 116, 117, 118, 119, 120, 121, 122, 123, 124, 125, 126, 127, 128, 129, 130, 131, 132, 133, 134, 135, 136, 137, 138, 139, 140, 141, 142, 143, 144, 145, 146, 147, 148, 149, 150, 151, 152, 153, 154, 155, 156, 157, 158, 159, 160, 161, 162, 163, 164, 165, 166, 167, 168, 169, 170, 171, 172, 173, 174, 175, 176, 177, 181, 182, 183, 184, 185, 186, 187, 188, 189, 190, 191, 192, 193, 194, 195, 196, 197, 198, 199, 200, 201, 202, 203, 204, 205, 206, 207, 178, 179, 180, 208, 209, 210, 211, 212, 213, 214, 215, 216, 217, 218] (by decide +kernel) (by decide +kernel)
set_option maxRecDepth 20000 in
theorem gX8_ways_X8_findWays : GoodIn wsX8_ways (wsV RX8 341 RX8 yX8_findWays wsX8_findWays) := goodIn_app (goodIn_of _ (by decide +kernel)) ggX8_ways_X8_findWays
theorem dX8_ways_0 : decode cX8_ways 0 = .ok (.aload_n 0, 1) := by decide +kernel
theorem dX8_ways_1 : decode cX8_ways 1 = .ok (.iload_n 1, 1) := by decide +kernel
theorem dX8_ways_2 : decode cX8_ways 2 = .ok (.invokevirtual 341, 3) := by decide +kernel
theorem dX8_ways_5 : decode cX8_ways 5 = .ok (.aload_n 0, 1) := by decide +kernel
theorem dX8_ways_6 : decode cX8_ways 6 = .ok (.getfield 65, 3) := by decide +kernel
theorem dX8_ways_9 : decode cX8_ways 9 = .ok (.getfield 344, 3) := by decide +kernel
theorem dX8_ways_12 : decode cX8_ways 12 = .ok (.ireturn, 1) := by decide +kernel
set_option maxRecDepth 20000 in
theorem ggX8_sure_X5_isStrand : GoodIn wsX8_sure wsX5_isStrand := goodIn_r _ [8, 9, 193, 194, 195, 196, 197, 198, 199, 200, 201, 202, 203, 204] (by decide +kernel) (by decide +kernel)
set_option maxRecDepth 20000 in
theorem gX8_sure_X5_isStrand : GoodIn wsX8_sure (wsV RX8 133 RX5 yX5_isStrand wsX5_isStrand) := goodIn_app (goodIn_of _ (by decide +kernel)) ggX8_sure_X5_isStrand
theorem dX8_sure_0 : decode cX8_sure 0 = .ok (.aload_n 0, 1) := by decide +kernel
theorem dX8_sure_1 : decode cX8_sure 1 = .ok (.getfield 19, 3) := by decide +kernel
theorem dX8_sure_4 : decode cX8_sure 4 = .ok (.iload_n 1, 1) := by decide +kernel
theorem dX8_sure_5 : decode cX8_sure 5 = .ok (.invokevirtual 133, 3) := by decide +kernel
theorem dX8_sure_8 : decode cX8_sure 8 = .ok (.ifCond .ne 5, 3) := by decide +kernel
theorem dX8_sure_11 : decode cX8_sure 11 = .ok (.iconst (-1), 1) := by decide +kernel
theorem dX8_sure_12 : decode cX8_sure 12 = .ok (.ireturn, 1) := by decide +kernel
set_option maxRecDepth 20000 in
theorem ggX8_ask_X8_findWays : GoodIn wsX8_ask wsX8_findWays := goodIn_r _ [9, 10, 3, 11, 1, 12, 13, 14, 15, 16, 17, 18, 19, 20, 21, 22, 23, 24, 25, 26, 27, 28, 29, 30, 31, 32, 33, 34, 35, 36, 37, 38, 39, 40, 41, 42, 43, 44, 45, 46, 47, 48, 49, 50, 51, 52, 53, 54, 55, 56, 57, 58, 59, 60, 61, 62, 63, 64, 65, 66, 67, 68, 69, 70, 71, 72, 73, 74, 75, 76, 8, 77, 78, 79, 80, 81, 82, 83, 84, 85, 86, 87, 88, 89, 90, 91, 92, 93, 94, 95, 96, 97, 98, 99, 100, 101, 102, 103, 104, 105, 106, 107, 108, 109, 110, 111, 112, 113, 114, 115, 116, 117, 118, 119, 120, 121, 122, 123, 124, 125, 126, 127, 128, 129, 130, 131, 132, 133, 134, 135, 136, 137, 138, 139, 140, 141, 142, 143, 144, 145, 146, 147, 148, 149, 150, 151, 152, 153, 154, 155, 156, 157, 158, 159, 160, 161, 162, 163, 164, 165, 186, 187, 188, 189, 190, 191, 192, 193, 194, 195, 196, 197, 198, 202, 203, 204, 205, 206, 207, 208, 209, 210, 211, 212, 213, 214, 215, 216, 217, 218, 219, 220, 221, 222, 223, 224, 225, 226, 227, 228, 199, 200, 201, 229, 230, 231, 232, 233, 234, 235, 236, 237, 238, 239] (by decide +kernel) (by decide +kernel)
set_option maxRecDepth 20000 in
theorem gX8_ask_X8_findWays : GoodIn wsX8_ask (wsV RX8 341 RX8 yX8_findWays wsX8_findWays) := goodIn_app (goodIn_of _ (by decide +kernel)) ggX8_ask_X8_findWays
set_option maxRecDepth 20000 in
theorem ggX8_ask_X8_isZeroOrOne : GoodIn wsX8_ask wsX8_isZeroOrOne := goodIn_r _ [168] (by decide +kernel) (by decide +kernel)
set_option maxRecDepth 20000 in
theorem gX8_ask_X8_isZeroOrOne : GoodIn wsX8_ask (va_wsS RX8 234 yX8_isZeroOrOne wsX8_isZeroOrOne) := goodIn_app (goodIn_of _ (by decide +kernel)) ggX8_ask_X8_isZeroOrOne
theorem dX8_ask_0 : decode cX8_ask 0 = .ok (.aload_n 0, 1) := by decide +kernel
theorem dX8_ask_1 : decode cX8_ask 1 = .ok (.iload_n 2, 1) := by decide +kernel
theorem dX8_ask_2 : decode cX8_ask 2 = .ok (.invokevirtual 341, 3) := by decide +kernel
theorem dX8_ask_5 : decode cX8_ask 5 = .ok (.aload_n 0, 1) := by decide +kernel
theorem dX8_ask_6 : decode cX8_ask 6 = .ok (.getfield 65, 3) := by decide +kernel
theorem dX8_ask_9 : decode cX8_ask 9 = .ok (.getfield 344, 3) := by decide +kernel
theorem dX8_ask_12 : decode cX8_ask 12 = .ok (.ifCond .eq 10, 3) := by decide +kernel
theorem dX8_ask_15 : decode cX8_ask 15 = .ok (.iload_n 1, 1) := by decide +kernel
theorem dX8_ask_16 : decode cX8_ask 16 = .ok (.invokestatic 234, 3) := by decide +kernel
theorem dX8_ask_19 : decode cX8_ask 19 = .ok (.ifCond .ne 5, 3) := by decide +kernel
theorem dX8_ask_22 : decode cX8_ask 22 = .ok (.iconst (-1), 1) := by decide +kernel
theorem dX8_ask_23 : decode cX8_ask 23 = .ok (.ireturn, 1) := by decide +kernel
theorem dX8_ask_24 : decode cX8_ask 24 = .ok (.iconst (-1), 1) := by decide +kernel
theorem dX8_ask_25 : decode cX8_ask 25 = .ok (.istore_n 3, 1) := by decide +kernel
theorem dX8_ask_26 : decode cX8_ask 26 = .ok (.iconst (-1), 1) := by decide +kernel
theorem dX8_ask_27 : decode cX8_ask 27 = .ok (.istore 4, 2) := by decide +kernel
theorem dX8_ask_29 : decode cX8_ask 29 = .ok (.iconst 0, 1) := by decide +kernel
theorem dX8_ask_30 : decode cX8_ask 30 = .ok (.istore 5, 2) := by decide +kernel
theorem dX8_ask_32 : decode cX8_ask 32 = .ok (.iload 5, 2) := by decide +kernel
theorem dX8_ask_34 : decode cX8_ask 34 = .ok (.aload_n 0, 1) := by decide +kernel
theorem dX8_ask_35 : decode cX8_ask 35 = .ok (.getfield 19, 3) := by decide +kernel
theorem dX8_ask_38 : decode cX8_ask 38 = .ok (.getfield 105, 3) := by decide +kernel
theorem dX8_ask_41 : decode cX8_ask 41 = .ok (.if_icmp .ge 51, 3) := by decide +kernel
theorem dX8_ask_92 : decode cX8_ask 92 = .ok (.iload_n 1, 1) := by decide +kernel
theorem dX8_ask_93 : decode cX8_ask 93 = .ok (.ifCond .ne 7, 3) := by decide +kernel
theorem dX8_ask_96 : decode cX8_ask 96 = .ok (.iload_n 3, 1) := by decide +kernel
theorem dX8_ask_97 : decode cX8_ask 97 = .ok (.goto 5, 3) := by decide +kernel
theorem dX8_ask_100 : decode cX8_ask 100 = .ok (.iload 4, 2) := by decide +kernel
theorem dX8_ask_102 : decode cX8_ask 102 = .ok (.ireturn, 1) := by decide +kernel
set_option maxRecDepth 20000 in
theorem ggX8_findWays_X4_startAs : GoodIn wsX8_findWays wsX4_startAs := goodIn_r _ [10, 11, 12, 13, 14, 15, 16, 17, 18, 19, 20, 21, 22, 23, 24, 25, 26, 27, 173, 174, 175, 176, 177, 178, 179, 180, 181, 182, 183, 184, 185, 186, 187, 188, 189] (by decide +kernel) (by decide +kernel)
set_option maxRecDepth 20000 in
theorem gX8_findWays_X4_startAs : GoodIn wsX8_findWays (wsV RX8 92 RX4 yX4_startAs wsX4_startAs) := goodIn_app (goodIn_of _ (by decide +kernel)) ggX8_findWays_X4_startAs
set_option maxRecDepth 20000 in
theorem ggX8_findWays_X2_take : GoodIn wsX8_findWays wsX2_take := goodIn_r _ [32, 33, 34, 35, 36, 37, 38, 39, 40, 41, 14, 15, 16, 42, 43, 44, 190, 191, 192, 193, 194, 195, 196, 197, 198, 199, 173, 174, 175, 176, 177, 178, 179, 180, 181, 182, 183, 184, 185, 186, 187, 188, 189] (by decide +kernel) (by decide +kernel)
set_option maxRecDepth 20000 in
theorem gX8_findWays_X2_take : GoodIn wsX8_findWays (wsV RX8 237 RX2 yX2_take wsX2_take) := goodIn_app (goodIn_of _ (by decide +kernel)) ggX8_findWays_X2_take
set_option maxRecDepth 20000 in
theorem ggX8_findWays_X5_allStrands : GoodIn wsX8_findWays wsX5_allStrands := goodIn_r _ [26, 27, 173, 174, 175, 176, 177, 178, 179, 180, 181, 182, 183, 184] (by decide +kernel) (by decide +kernel)
set_option maxRecDepth 20000 in
theorem gX8_findWays_X5_allStrands : GoodIn wsX8_findWays (wsV RX8 241 RX5 yX5_allStrands wsX5_allStrands) := goodIn_app (goodIn_of _ (by decide +kernel)) ggX8_findWays_X5_allStrands
set_option maxRecDepth 20000 in
theorem ggX8_findWays_X6_collect : GoodIn wsX8_findWays wsX6_collect := goodIn_r _ [50, 51, 52, 53, 54, 55, 56, 57, 58, 59, 60, 61, 31, 62, 36, 33, 63, 64, 65, 66, 67, 40, 68, 69, 70, 71, 72, 73, 74, 75, 76, 77, 78, 79, 80, 81, 82, 44, 43, 38, 83, 84, 85, 86, 87, 88, 89, 90, 91, 92, 93, 94, 95, 96, 97, 98, 99, 100, 101, 102, 103, 104, 105, 106, 107, 108, 109, 110, 111, 112, 113, 114, 115, 116, 117, 118, 119, 120, 121, 122, 123, 124, 125, 126, 127, 128, 129, 130, 131, 132, 25, 133, 134, 135, 136, 137, 138, 139, 140, 141, 142, 143, 144, 145, 146, 147, 148, 149, 150, 151, 152, 153, 154, 155, 156, 49, 157, 158, 159, 200, 201, 202, 190, 191, 192, 193, 194, 195, 196, 197, 198, 199, 173, 174, 175, 176, 177, 178, 179, 180, 181, 182, 183, 184, 203, 204, 205, 206, 207, 208, 209, 210, 211, 212, 213] (by decide +kernel) (by decide +kernel)
set_option maxRecDepth 20000 in
theorem gX8_findWays_X6_collect : GoodIn wsX8_findWays (wsV RX8 351 RX6 yX6_collect wsX6_collect) := goodIn_app (goodIn_of _ (by decide +kernel)) ggX8_findWays_X6_collect
theorem dX8_findWays_0 : decode cX8_findWays 0 = .ok (.aload_n 0, 1) := by decide +kernel
theorem dX8_findWays_1 : decode cX8_findWays 1 = .ok (.getfield 33, 3) := by decide +kernel
theorem dX8_findWays_4 : decode cX8_findWays 4 = .ok (.aload_n 0, 1) := by decide +kernel
theorem dX8_findWays_5 : decode cX8_findWays 5 = .ok (.getfield 19, 3) := by decide +kernel
theorem dX8_findWays_8 : decode cX8_findWays 8 = .ok (.invokevirtual 92, 3) := by decide +kernel
theorem dX8_findWays_11 : decode cX8_findWays 11 = .ok (.aload_n 0, 1) := by decide +kernel
theorem dX8_findWays_12 : decode cX8_findWays 12 = .ok (.getfield 44, 3) := by decide +kernel
theorem dX8_findWays_15 : decode cX8_findWays 15 = .ok (.aload_n 0, 1) := by decide +kernel
theorem dX8_findWays_16 : decode cX8_findWays 16 = .ok (.getfield 19, 3) := by decide +kernel
theorem dX8_findWays_19 : decode cX8_findWays 19 = .ok (.aload_n 0, 1) := by decide +kernel
theorem dX8_findWays_20 : decode cX8_findWays 20 = .ok (.getfield 33, 3) := by decide +kernel
theorem dX8_findWays_23 : decode cX8_findWays 23 = .ok (.invokevirtual 237, 3) := by decide +kernel
theorem dX8_findWays_26 : decode cX8_findWays 26 = .ok (.aload_n 0, 1) := by decide +kernel
theorem dX8_findWays_27 : decode cX8_findWays 27 = .ok (.getfield 65, 3) := by decide +kernel
theorem dX8_findWays_30 : decode cX8_findWays 30 = .ok (.aload_n 0, 1) := by decide +kernel
theorem dX8_findWays_31 : decode cX8_findWays 31 = .ok (.getfield 44, 3) := by decide +kernel
theorem dX8_findWays_34 : decode cX8_findWays 34 = .ok (.aload_n 0, 1) := by decide +kernel
theorem dX8_findWays_35 : decode cX8_findWays 35 = .ok (.getfield 19, 3) := by decide +kernel
theorem dX8_findWays_38 : decode cX8_findWays 38 = .ok (.invokevirtual 241, 3) := by decide +kernel
theorem dX8_findWays_41 : decode cX8_findWays 41 = .ok (.aload_n 0, 1) := by decide +kernel
theorem dX8_findWays_42 : decode cX8_findWays 42 = .ok (.getfield 58, 3) := by decide +kernel
theorem dX8_findWays_45 : decode cX8_findWays 45 = .ok (.iload_n 1, 1) := by decide +kernel
theorem dX8_findWays_46 : decode cX8_findWays 46 = .ok (.invokevirtual 351, 3) := by decide +kernel
theorem dX8_findWays_49 : decode cX8_findWays 49 = .ok (.return_, 1) := by decide +kernel
theorem dX8_isZeroOrOne_0 : decode cX8_isZeroOrOne 0 = .ok (.iload_n 0, 1) := by decide +kernel
theorem dX8_isZeroOrOne_1 : decode cX8_isZeroOrOne 1 = .ok (.ifCond .eq 8, 3) := by decide +kernel
theorem dX8_isZeroOrOne_4 : decode cX8_isZeroOrOne 4 = .ok (.iload_n 0, 1) := by decide +kernel
theorem dX8_isZeroOrOne_5 : decode cX8_isZeroOrOne 5 = .ok (.iconst 1, 1) := by decide +kernel
theorem dX8_isZeroOrOne_6 : decode cX8_isZeroOrOne 6 = .ok (.if_icmp .ne 7, 3) := by decide +kernel
theorem dX8_isZeroOrOne_9 : decode cX8_isZeroOrOne 9 = .ok (.iconst 1, 1) := by decide +kernel
theorem dX8_isZeroOrOne_10 : decode cX8_isZeroOrOne 10 = .ok (.goto 4, 3) := by decide +kernel
theorem dX8_isZeroOrOne_13 : decode cX8_isZeroOrOne 13 = .ok (.iconst 0, 1) := by decide +kernel
theorem dX8_isZeroOrOne_14 : decode cX8_isZeroOrOne 14 = .ok (.ireturn, 1) := by decide +kernel
theorem dX8_has_0 : decode cX8_has 0 = .ok (.iload_n 0, 1) := by decide +kernel
theorem dX8_has_1 : decode cX8_has 1 = .ok (.iload_n 1, 1) := by decide +kernel
theorem dX8_has_2 : decode cX8_has 2 = .ok (.ishr, 1) := by decide +kernel
theorem dX8_has_3 : decode cX8_has 3 = .ok (.iconst 1, 1) := by decide +kernel
theorem dX8_has_4 : decode cX8_has 4 = .ok (.iand, 1) := by decide +kernel
theorem dX8_has_5 : decode cX8_has 5 = .ok (.ifCond .eq 7, 3) := by decide +kernel
theorem dX8_has_12 : decode cX8_has 12 = .ok (.iconst 0, 1) := by decide +kernel
theorem dX8_has_13 : decode cX8_has 13 = .ok (.ireturn, 1) := by decide +kernel
set_option maxRecDepth 20000 in
theorem ggX8_isTied_X5_isStrand : GoodIn wsX8_isTied wsX5_isStrand := goodIn_r _ [7, 8, 43, 44, 45, 46, 47, 48, 49, 50, 51, 52, 53, 54] (by decide +kernel) (by decide +kernel)
set_option maxRecDepth 20000 in
theorem gX8_isTied_X5_isStrand : GoodIn wsX8_isTied (wsV RX8 133 RX5 yX5_isStrand wsX5_isStrand) := goodIn_app (goodIn_of _ (by decide +kernel)) ggX8_isTied_X5_isStrand
theorem dX8_isTied_0 : decode cX8_isTied 0 = .ok (.aload_n 0, 1) := by decide +kernel
theorem dX8_isTied_1 : decode cX8_isTied 1 = .ok (.getfield 19, 3) := by decide +kernel
theorem dX8_isTied_4 : decode cX8_isTied 4 = .ok (.iload_n 1, 1) := by decide +kernel
theorem dX8_isTied_5 : decode cX8_isTied 5 = .ok (.invokevirtual 133, 3) := by decide +kernel
theorem dX8_isTied_8 : decode cX8_isTied 8 = .ok (.ifCond .eq 21, 3) := by decide +kernel
theorem dX8_isTied_29 : decode cX8_isTied 29 = .ok (.iconst 0, 1) := by decide +kernel
theorem dX8_isTied_30 : decode cX8_isTied 30 = .ok (.ireturn, 1) := by decide +kernel
set_option maxRecDepth 20000 in
theorem ggX8_isProved_X5_isFact : GoodIn wsX8_isProved wsX5_isFact := goodIn_r _ [7, 8, 9, 10, 11, 6, 12, 13, 14, 15, 16, 48, 49, 50, 51, 52, 53, 54, 55, 56, 57, 58, 59] (by decide +kernel) (by decide +kernel)
set_option maxRecDepth 20000 in
theorem gX8_isProved_X5_isFact : GoodIn wsX8_isProved (wsV RX8 203 RX5 yX5_isFact wsX5_isFact) := goodIn_app (goodIn_of _ (by decide +kernel)) ggX8_isProved_X5_isFact
theorem dX8_isProved_0 : decode cX8_isProved 0 = .ok (.aload_n 0, 1) := by decide +kernel
theorem dX8_isProved_1 : decode cX8_isProved 1 = .ok (.getfield 19, 3) := by decide +kernel
theorem dX8_isProved_4 : decode cX8_isProved 4 = .ok (.iload_n 1, 1) := by decide +kernel
theorem dX8_isProved_5 : decode cX8_isProved 5 = .ok (.invokevirtual 203, 3) := by decide +kernel
theorem dX8_isProved_8 : decode cX8_isProved 8 = .ok (.ifCond .eq 21, 3) := by decide +kernel
theorem dX8_isProved_29 : decode cX8_isProved 29 = .ok (.iconst 0, 1) := by decide +kernel
theorem dX8_isProved_30 : decode cX8_isProved 30 = .ok (.ireturn, 1) := by decide +kernel
set_option maxRecDepth 20000 in
theorem ggX8_look_X8_now : GoodIn wsX8_look wsX8_now := goodIn_r _ [7, 8, 9, 10, 11, 12, 13, 14, 15, 36, 37, 38, 39, 40, 41, 42, 43, 44, 45, 46, 47, 48, 49, 50, 51, 52] (by decide +kernel) (by decide +kernel)
set_option maxRecDepth 20000 in
theorem gX8_look_X8_now : GoodIn wsX8_look (wsV RX8 88 RX8 yX8_now wsX8_now) := goodIn_app (goodIn_of _ (by decide +kernel)) ggX8_look_X8_now
set_option maxRecDepth 20000 in
theorem ggX8_look_X2_take : GoodIn wsX8_look wsX2_take := goodIn_r _ [20, 21, 22, 23, 24, 25, 26, 27, 28, 29, 30, 31, 32, 33, 34, 35, 53, 54, 55, 56, 57, 58, 59, 60, 61, 62, 63, 64, 65, 66, 67, 68, 69, 70, 71, 72, 73, 74, 75, 76, 77, 78, 79] (by decide +kernel) (by decide +kernel)
set_option maxRecDepth 20000 in
theorem gX8_look_X2_take : GoodIn wsX8_look (wsV RX8 237 RX2 yX2_take wsX2_take) := goodIn_app (goodIn_of _ (by decide +kernel)) ggX8_look_X2_take
theorem dX8_look_0 : decode cX8_look 0 = .ok (.aload_n 0, 1) := by decide +kernel
theorem dX8_look_1 : decode cX8_look 1 = .ok (.getfield 44, 3) := by decide +kernel
theorem dX8_look_4 : decode cX8_look 4 = .ok (.aload_n 0, 1) := by decide +kernel
theorem dX8_look_5 : decode cX8_look 5 = .ok (.getfield 19, 3) := by decide +kernel
theorem dX8_look_8 : decode cX8_look 8 = .ok (.aload_n 0, 1) := by decide +kernel
theorem dX8_look_9 : decode cX8_look 9 = .ok (.invokevirtual 88, 3) := by decide +kernel
theorem dX8_look_12 : decode cX8_look 12 = .ok (.invokevirtual 237, 3) := by decide +kernel
theorem dX8_look_15 : decode cX8_look 15 = .ok (.return_, 1) := by decide +kernel
set_option maxRecDepth 20000 in
theorem ggX8_standingNow_X8_look : GoodIn wsX8_standingNow wsX8_look := goodIn_r _ [7, 1, 8, 9, 10, 11, 6, 12, 13, 14, 15, 16, 17, 18, 19, 20, 21, 22, 23, 24, 25, 26, 27, 28, 29, 30, 31, 32, 33, 34, 35, 36, 37, 38, 39, 40, 128, 129, 130, 131, 132, 133, 134, 135, 136, 137, 138, 139, 140, 146, 147, 148, 149, 150, 151, 152, 153, 154, 155, 156, 157, 158, 159, 160, 161, 162, 163, 164, 165, 166, 167, 168, 169, 170, 171, 141, 142, 143, 144, 145] (by decide +kernel) (by decide +kernel)
set_option maxRecDepth 20000 in
theorem gX8_standingNow_X8_look : GoodIn wsX8_standingNow (wsV RX8 148 RX8 yX8_look wsX8_look) := goodIn_app (goodIn_of _ (by decide +kernel)) ggX8_standingNow_X8_look
set_option maxRecDepth 20000 in
theorem ggX8_standingNow_X8_now : GoodIn wsX8_standingNow wsX8_now := goodIn_r _ [12, 13, 14, 15, 16, 17, 18, 19, 20, 128, 129, 130, 131, 132, 133, 134, 135, 136, 137, 138, 139, 140, 146, 147, 148, 149] (by decide +kernel) (by decide +kernel)
set_option maxRecDepth 20000 in
theorem gX8_standingNow_X8_now : GoodIn wsX8_standingNow (wsV RX8 88 RX8 yX8_now wsX8_now) := goodIn_app (goodIn_of _ (by decide +kernel)) ggX8_standingNow_X8_now
set_option maxRecDepth 20000 in
theorem ggX8_standingNow_X2_standing : GoodIn wsX8_standingNow wsX2_standing := goodIn_r _ [44, 29, 26, 45, 46, 47, 24, 48, 49, 33, 50, 51, 6, 52, 53, 54, 55, 56, 57, 58, 59, 60, 61, 62, 63, 40, 39, 31, 64, 65, 66, 67, 68, 69, 70, 71, 72, 73, 74, 75, 76, 77, 78, 79, 80, 81, 82, 83, 84, 85, 86, 87, 88, 89, 90, 91, 92, 93, 94, 95, 96, 97, 98, 99, 100, 101, 102, 103, 104, 105, 106, 107, 108, 109, 110, 111, 112, 113, 114, 115, 116, 117, 118, 119, 120, 121, 122, 123, 124, 125, 126, 127, 150, 151, 152, 153, 154, 155, 156, 157, 158, 159, 160, 161, 162, 163, 164, 165, 166, 167, 168, 169, 170, 171, 172, 173, 174, 175, 176, 177] (by decide +kernel) (by decide +kernel)
set_option maxRecDepth 20000 in
theorem gX8_standingNow_X2_standing : GoodIn wsX8_standingNow (wsV RX8 231 RX2 yX2_standing wsX2_standing) := goodIn_app (goodIn_of _ (by decide +kernel)) ggX8_standingNow_X2_standing
theorem dX8_standingNow_0 : decode cX8_standingNow 0 = .ok (.aload_n 0, 1) := by decide +kernel
theorem dX8_standingNow_1 : decode cX8_standingNow 1 = .ok (.invokevirtual 148, 3) := by decide +kernel
theorem dX8_standingNow_4 : decode cX8_standingNow 4 = .ok (.aload_n 0, 1) := by decide +kernel
theorem dX8_standingNow_5 : decode cX8_standingNow 5 = .ok (.getfield 44, 3) := by decide +kernel
theorem dX8_standingNow_8 : decode cX8_standingNow 8 = .ok (.aload_n 0, 1) := by decide +kernel
theorem dX8_standingNow_9 : decode cX8_standingNow 9 = .ok (.invokevirtual 88, 3) := by decide +kernel
theorem dX8_standingNow_12 : decode cX8_standingNow 12 = .ok (.getfield 145, 3) := by decide +kernel
theorem dX8_standingNow_15 : decode cX8_standingNow 15 = .ok (.invokevirtual 231, 3) := by decide +kernel
theorem dX8_standingNow_18 : decode cX8_standingNow 18 = .ok (.ireturn, 1) := by decide +kernel
set_option maxRecDepth 20000 in
theorem ggX8_claimsWith_X2_standing : GoodIn wsX8_claimsWith wsX2_standing := goodIn_r _ [7, 8, 9, 10, 11, 12, 6, 13, 14, 15, 16, 17, 18, 19, 20, 21, 22, 23, 24, 25, 26, 27, 28, 29, 30, 31, 32, 33, 34, 35, 36, 37, 38, 39, 40, 41, 42, 43, 44, 45, 46, 47, 48, 49, 50, 51, 52, 53, 54, 55, 56, 57, 58, 59, 60, 61, 62, 63, 64, 65, 66, 67, 68, 69, 70, 71, 72, 73, 74, 75, 76, 77, 78, 79, 80, 81, 82, 83, 84, 85, 86, 87, 88, 89, 90, 91, 92, 93, 94, 95, 96, 97, 113, 114, 115, 116, 117, 118, 119, 120, 121, 122, 123, 124, 125, 126, 127, 128, 129, 130, 131, 132, 133, 134, 135, 136, 137, 138, 139, 140] (by decide +kernel) (by decide +kernel)
set_option maxRecDepth 20000 in
theorem gX8_claimsWith_X2_standing : GoodIn wsX8_claimsWith (wsV RX8 231 RX2 yX2_standing wsX2_standing) := goodIn_app (goodIn_of _ (by decide +kernel)) ggX8_claimsWith_X2_standing
set_option maxRecDepth 20000 in
theorem ggX8_claimsWith_X5_claims : GoodIn wsX8_claimsWith wsX5_claims := goodIn_r _ [91, 92, 93, 123, 124, 125, 126, 127, 128, 129, 130, 131, 132, 133, 134] (by decide +kernel) (by decide +kernel)
set_option maxRecDepth 20000 in
theorem gX8_claimsWith_X5_claims : GoodIn wsX8_claimsWith (wsV RX8 290 RX5 yX5_claims wsX5_claims) := goodIn_app (goodIn_of _ (by decide +kernel)) ggX8_claimsWith_X5_claims
set_option maxRecDepth 20000 in
theorem ggX8_claimsWith_J6_bitCount_0f7a4 : GoodIn wsX8_claimsWith wsJ6_bitCount_0f7a4 := goodIn_r _ [44, 45, 46, 47] (by decide +kernel) (by decide +kernel)
set_option maxRecDepth 20000 in
theorem gX8_claimsWith_J6_bitCount_0f7a4 : GoodIn wsX8_claimsWith (va_wsS RX8 274 yJ6_bitCount_0f7a4 wsJ6_bitCount_0f7a4) := goodIn_app (goodIn_of _ (by decide +kernel)) ggX8_claimsWith_J6_bitCount_0f7a4
theorem dX8_claimsWith_0 : decode cX8_claimsWith 0 = .ok (.aload_n 0, 1) := by decide +kernel
theorem dX8_claimsWith_1 : decode cX8_claimsWith 1 = .ok (.getfield 44, 3) := by decide +kernel
theorem dX8_claimsWith_4 : decode cX8_claimsWith 4 = .ok (.iload_n 1, 1) := by decide +kernel
theorem dX8_claimsWith_5 : decode cX8_claimsWith 5 = .ok (.invokevirtual 231, 3) := by decide +kernel
theorem dX8_claimsWith_8 : decode cX8_claimsWith 8 = .ok (.aload_n 0, 1) := by decide +kernel
theorem dX8_claimsWith_9 : decode cX8_claimsWith 9 = .ok (.getfield 19, 3) := by decide +kernel
theorem dX8_claimsWith_12 : decode cX8_claimsWith 12 = .ok (.invokevirtual 290, 3) := by decide +kernel
theorem dX8_claimsWith_15 : decode cX8_claimsWith 15 = .ok (.iand, 1) := by decide +kernel
theorem dX8_claimsWith_16 : decode cX8_claimsWith 16 = .ok (.invokestatic 274, 3) := by decide +kernel
theorem dX8_claimsWith_19 : decode cX8_claimsWith 19 = .ok (.ireturn, 1) := by decide +kernel
theorem dX9_sign_0 : decode cX9_sign 0 = .ok (.iload_n 1, 1) := by decide +kernel
theorem dX9_sign_1 : decode cX9_sign 1 = .ok (.aload_n 0, 1) := by decide +kernel
theorem dX9_sign_2 : decode cX9_sign 2 = .ok (.getfield 137, 3) := by decide +kernel
theorem dX9_sign_5 : decode cX9_sign 5 = .ok (.if_icmp .ge 16, 3) := by decide +kernel
theorem dX9_sign_21 : decode cX9_sign 21 = .ok (.iconst 0, 1) := by decide +kernel
theorem dX9_sign_22 : decode cX9_sign 22 = .ok (.ireturn, 1) := by decide +kernel
theorem dX9_isGood_0 : decode cX9_isGood 0 = .ok (.aload_n 0, 1) := by decide +kernel
theorem dX9_isGood_1 : decode cX9_isGood 1 = .ok (.getfield 140, 3) := by decide +kernel
theorem dX9_isGood_4 : decode cX9_isGood 4 = .ok (.ifCond .ne 7, 3) := by decide +kernel
theorem dX9_isGood_7 : decode cX9_isGood 7 = .ok (.iconst 1, 1) := by decide +kernel
theorem dX9_isGood_8 : decode cX9_isGood 8 = .ok (.goto 4, 3) := by decide +kernel
theorem dX9_isGood_12 : decode cX9_isGood 12 = .ok (.ireturn, 1) := by decide +kernel
set_option maxRecDepth 20000 in
theorem ggX9_goOn_X9_sign : GoodIn wsX9_goOn wsX9_sign := goodIn_r _ [11, 3, 12, 39, 40, 41, 42, 43, 44, 45, 46, 47, 48, 49, 50, 51, 52, 53, 54, 55, 56, 57, 58, 59, 60, 61, 62, 63, 64, 65, 66, 67, 68, 69, 70, 71, 72, 73, 74, 75, 76, 77, 78, 79, 80, 81, 82, 83, 84, 85, 86, 87, 88, 89, 90, 91, 92, 93, 94, 95, 96, 97, 98, 99, 100, 101, 102] (by decide +kernel) (by decide +kernel)
set_option maxRecDepth 20000 in
theorem gX9_goOn_X9_sign : GoodIn wsX9_goOn (wsV RX9 177 RX9 yX9_sign wsX9_sign) := goodIn_app (goodIn_of _ (by decide +kernel)) ggX9_goOn_X9_sign
theorem dX9_goOn_0 : decode cX9_goOn 0 = .ok (.aload_n 0, 1) := by decide +kernel
theorem dX9_goOn_1 : decode cX9_goOn 1 = .ok (.aload_n 0, 1) := by decide +kernel
theorem dX9_goOn_2 : decode cX9_goOn 2 = .ok (.getfield 171, 3) := by decide +kernel
theorem dX9_goOn_5 : decode cX9_goOn 5 = .ok (.putfield 174, 3) := by decide +kernel
theorem dX9_goOn_8 : decode cX9_goOn 8 = .ok (.aload_n 0, 1) := by decide +kernel
theorem dX9_goOn_9 : decode cX9_goOn 9 = .ok (.getfield 174, 3) := by decide +kernel
theorem dX9_goOn_12 : decode cX9_goOn 12 = .ok (.aload_n 0, 1) := by decide +kernel
theorem dX9_goOn_13 : decode cX9_goOn 13 = .ok (.getfield 137, 3) := by decide +kernel
theorem dX9_goOn_16 : decode cX9_goOn 16 = .ok (.if_icmp .ge 42, 3) := by decide +kernel
theorem dX9_goOn_58 : decode cX9_goOn 58 = .ok (.aload_n 0, 1) := by decide +kernel
theorem dX9_goOn_59 : decode cX9_goOn 59 = .ok (.aload_n 0, 1) := by decide +kernel
theorem dX9_goOn_60 : decode cX9_goOn 60 = .ok (.getfield 174, 3) := by decide +kernel
theorem dX9_goOn_63 : decode cX9_goOn 63 = .ok (.invokevirtual 177, 3) := by decide +kernel
theorem dX9_goOn_66 : decode cX9_goOn 66 = .ok (.istore_n 1, 1) := by decide +kernel
theorem dX9_goOn_67 : decode cX9_goOn 67 = .ok (.aload_n 0, 1) := by decide +kernel
theorem dX9_goOn_68 : decode cX9_goOn 68 = .ok (.aload_n 0, 1) := by decide +kernel
theorem dX9_goOn_69 : decode cX9_goOn 69 = .ok (.getfield 174, 3) := by decide +kernel
theorem dX9_goOn_72 : decode cX9_goOn 72 = .ok (.iconst 1, 1) := by decide +kernel
theorem dX9_goOn_73 : decode cX9_goOn 73 = .ok (.iadd, 1) := by decide +kernel
theorem dX9_goOn_74 : decode cX9_goOn 74 = .ok (.putfield 171, 3) := by decide +kernel
theorem dX9_goOn_77 : decode cX9_goOn 77 = .ok (.aload_n 0, 1) := by decide +kernel
theorem dX9_goOn_78 : decode cX9_goOn 78 = .ok (.getfield 174, 3) := by decide +kernel
theorem dX9_goOn_81 : decode cX9_goOn 81 = .ok (.aload_n 0, 1) := by decide +kernel
theorem dX9_goOn_82 : decode cX9_goOn 82 = .ok (.getfield 137, 3) := by decide +kernel
theorem dX9_goOn_85 : decode cX9_goOn 85 = .ok (.if_icmp .lt 27, 3) := by decide +kernel
theorem dX9_goOn_88 : decode cX9_goOn 88 = .ok (.aload_n 0, 1) := by decide +kernel
theorem dX9_goOn_89 : decode cX9_goOn 89 = .ok (.iconst 0, 1) := by decide +kernel
theorem dX9_goOn_90 : decode cX9_goOn 90 = .ok (.putfield 181, 3) := by decide +kernel
theorem dX9_goOn_93 : decode cX9_goOn 93 = .ok (.aload_n 0, 1) := by decide +kernel
theorem dX9_goOn_94 : decode cX9_goOn 94 = .ok (.aload_n 0, 1) := by decide +kernel
theorem dX9_goOn_95 : decode cX9_goOn 95 = .ok (.getfield 137, 3) := by decide +kernel
theorem dX9_goOn_98 : decode cX9_goOn 98 = .ok (.putfield 174, 3) := by decide +kernel
theorem dX9_goOn_101 : decode cX9_goOn 101 = .ok (.aload_n 0, 1) := by decide +kernel
theorem dX9_goOn_102 : decode cX9_goOn 102 = .ok (.aload_n 0, 1) := by decide +kernel
theorem dX9_goOn_103 : decode cX9_goOn 103 = .ok (.getfield 137, 3) := by decide +kernel
theorem dX9_goOn_106 : decode cX9_goOn 106 = .ok (.putfield 171, 3) := by decide +kernel
theorem dX9_goOn_109 : decode cX9_goOn 109 = .ok (.goto 268, 3) := by decide +kernel
theorem dX9_goOn_377 : decode cX9_goOn 377 = .ok (.return_, 1) := by decide +kernel
theorem dX9_clearBank_0 : decode cX9_clearBank 0 = .ok (.aload_n 0, 1) := by decide +kernel
theorem dX9_clearBank_1 : decode cX9_clearBank 1 = .ok (.getfield 20, 3) := by decide +kernel
theorem dX9_clearBank_4 : decode cX9_clearBank 4 = .ok (.aload_n 0, 1) := by decide +kernel
theorem dX9_clearBank_5 : decode cX9_clearBank 5 = .ok (.getfield 230, 3) := by decide +kernel
theorem dX9_clearBank_8 : decode cX9_clearBank 8 = .ok (.iconst 0, 1) := by decide +kernel
theorem dX9_clearBank_9 : decode cX9_clearBank 9 = .ok (.iastore, 1) := by decide +kernel
theorem dX9_clearBank_10 : decode cX9_clearBank 10 = .ok (.aload_n 0, 1) := by decide +kernel
theorem dX9_clearBank_11 : decode cX9_clearBank 11 = .ok (.getfield 24, 3) := by decide +kernel
theorem dX9_clearBank_14 : decode cX9_clearBank 14 = .ok (.aload_n 0, 1) := by decide +kernel
theorem dX9_clearBank_15 : decode cX9_clearBank 15 = .ok (.getfield 230, 3) := by decide +kernel
theorem dX9_clearBank_18 : decode cX9_clearBank 18 = .ok (.iconst 0, 1) := by decide +kernel
theorem dX9_clearBank_19 : decode cX9_clearBank 19 = .ok (.iastore, 1) := by decide +kernel
theorem dX9_clearBank_20 : decode cX9_clearBank 20 = .ok (.aload_n 0, 1) := by decide +kernel
theorem dX9_clearBank_21 : decode cX9_clearBank 21 = .ok (.getfield 27, 3) := by decide +kernel
theorem dX9_clearBank_24 : decode cX9_clearBank 24 = .ok (.aload_n 0, 1) := by decide +kernel
theorem dX9_clearBank_25 : decode cX9_clearBank 25 = .ok (.getfield 230, 3) := by decide +kernel
theorem dX9_clearBank_28 : decode cX9_clearBank 28 = .ok (.iconst 0, 1) := by decide +kernel
theorem dX9_clearBank_29 : decode cX9_clearBank 29 = .ok (.iastore, 1) := by decide +kernel
theorem dX9_clearBank_30 : decode cX9_clearBank 30 = .ok (.aload_n 0, 1) := by decide +kernel
theorem dX9_clearBank_31 : decode cX9_clearBank 31 = .ok (.getfield 30, 3) := by decide +kernel
theorem dX9_clearBank_34 : decode cX9_clearBank 34 = .ok (.aload_n 0, 1) := by decide +kernel
theorem dX9_clearBank_35 : decode cX9_clearBank 35 = .ok (.getfield 230, 3) := by decide +kernel
theorem dX9_clearBank_38 : decode cX9_clearBank 38 = .ok (.iconst 0, 1) := by decide +kernel
theorem dX9_clearBank_39 : decode cX9_clearBank 39 = .ok (.iastore, 1) := by decide +kernel
theorem dX9_clearBank_40 : decode cX9_clearBank 40 = .ok (.aload_n 0, 1) := by decide +kernel
theorem dX9_clearBank_41 : decode cX9_clearBank 41 = .ok (.getfield 33, 3) := by decide +kernel
theorem dX9_clearBank_44 : decode cX9_clearBank 44 = .ok (.aload_n 0, 1) := by decide +kernel
theorem dX9_clearBank_45 : decode cX9_clearBank 45 = .ok (.getfield 230, 3) := by decide +kernel
theorem dX9_clearBank_48 : decode cX9_clearBank 48 = .ok (.iconst 0, 1) := by decide +kernel
theorem dX9_clearBank_49 : decode cX9_clearBank 49 = .ok (.iastore, 1) := by decide +kernel
theorem dX9_clearBank_50 : decode cX9_clearBank 50 = .ok (.aload_n 0, 1) := by decide +kernel
theorem dX9_clearBank_51 : decode cX9_clearBank 51 = .ok (.getfield 36, 3) := by decide +kernel
theorem dX9_clearBank_54 : decode cX9_clearBank 54 = .ok (.aload_n 0, 1) := by decide +kernel
theorem dX9_clearBank_55 : decode cX9_clearBank 55 = .ok (.getfield 230, 3) := by decide +kernel
theorem dX9_clearBank_58 : decode cX9_clearBank 58 = .ok (.iconst 0, 1) := by decide +kernel
theorem dX9_clearBank_59 : decode cX9_clearBank 59 = .ok (.iastore, 1) := by decide +kernel
theorem dX9_clearBank_60 : decode cX9_clearBank 60 = .ok (.aload_n 0, 1) := by decide +kernel
theorem dX9_clearBank_61 : decode cX9_clearBank 61 = .ok (.sipush 560, 3) := by decide +kernel
theorem dX9_clearBank_64 : decode cX9_clearBank 64 = .ok (.aload_n 0, 1) := by decide +kernel
theorem dX9_clearBank_65 : decode cX9_clearBank 65 = .ok (.getfield 230, 3) := by decide +kernel
theorem dX9_clearBank_68 : decode cX9_clearBank 68 = .ok (.imul, 1) := by decide +kernel
theorem dX9_clearBank_69 : decode cX9_clearBank 69 = .ok (.putfield 233, 3) := by decide +kernel
theorem dX9_clearBank_72 : decode cX9_clearBank 72 = .ok (.return_, 1) := by decide +kernel
set_option maxRecDepth 20000 in
theorem ggX9_suit_X9_clearBank : GoodIn wsX9_suit wsX9_clearBank := goodIn_r _ [16, 11, 9, 17, 18, 19, 20, 21, 22, 191, 192, 193, 194, 195, 196, 197, 198, 199, 200, 201, 202, 203, 204, 205, 206, 207, 208, 209, 210, 211, 212, 213, 214, 215, 216, 217, 218, 219, 220, 221, 222, 223, 224, 225, 226, 227, 228, 229, 230, 231, 232, 233, 234, 235, 236, 237, 238, 239, 240, 241, 242, 243, 244, 245, 246, 247, 248, 249, 250, 251, 252, 253, 254] (by decide +kernel) (by decide +kernel)
set_option maxRecDepth 20000 in
theorem gX9_suit_X9_clearBank : GoodIn wsX9_suit (wsV RX9 131 RX9 yX9_clearBank wsX9_clearBank) := goodIn_app (goodIn_of _ (by decide +kernel)) ggX9_suit_X9_clearBank
set_option maxRecDepth 20000 in
theorem ggX9_suit_X9_goOn : GoodIn wsX9_suit wsX9_goOn := goodIn_r _ [26, 7, 27, 4, 10, 28, 29, 30, 31, 32, 15, 33, 5, 34, 35, 36, 37, 38, 39, 40, 41, 42, 43, 44, 45, 46, 47, 48, 49, 50, 51, 52, 53, 54, 55, 56, 57, 58, 59, 191, 192, 193, 194, 195, 196, 197, 198, 199, 200, 201, 202, 203, 204, 205, 206, 207, 208, 209, 210, 211, 212, 213, 214, 215, 216, 217, 218, 219, 220, 221, 222, 223, 224, 225, 226, 227, 228, 229, 230, 231, 232, 233, 234, 235, 236, 237, 238, 239, 240, 241, 242, 243, 244, 245, 246, 247, 248, 249, 250, 251, 252, 253, 254] (by decide +kernel) (by decide +kernel)
set_option maxRecDepth 20000 in
theorem gX9_suit_X9_goOn : GoodIn wsX9_suit (wsV RX9 213 RX9 yX9_goOn wsX9_goOn) := goodIn_app (goodIn_of _ (by decide +kernel)) ggX9_suit_X9_goOn
set_option maxRecDepth 20000 in
theorem ggX9_suit_X9_isGood : GoodIn wsX9_suit wsX9_isGood := goodIn_r _ [63, 1, 191, 192, 193, 194, 195, 196, 197, 198, 199, 200, 201, 202, 203, 204, 205, 206, 207, 208, 209, 210, 211, 212, 213, 214, 215, 216, 217, 218, 219, 220, 221, 222, 223, 224, 225, 226, 227, 228, 229, 230, 231, 232, 233, 234, 235, 236, 237, 238, 239, 240, 241, 242, 243, 244, 245, 246, 247, 248, 249, 250, 251, 252, 253, 254] (by decide +kernel) (by decide +kernel)
set_option maxRecDepth 20000 in
theorem gX9_suit_X9_isGood : GoodIn wsX9_suit (wsV RX9 209 RX9 yX9_isGood wsX9_isGood) := goodIn_app (goodIn_of _ (by decide +kernel)) ggX9_suit_X9_isGood
set_option maxRecDepth 20000 in
theorem ggX9_suit_X9_startAnew : GoodIn wsX9_suit wsX9_startAnew := goodIn_r _ [176, 177, 178, 179, 180, 181, 182, 183, 184, 15, 185, 186, 115, 8, 20, 187, 188, 189, 190, 17, 191, 192, 193, 194, 195, 196, 197, 198, 199, 200, 201, 202, 203, 204, 205, 206, 207, 208, 209, 210, 211, 212, 213, 214, 215, 216, 217, 218, 219, 220, 221, 222, 223, 224, 225, 226, 227, 228, 229, 230, 231, 232, 233, 234, 235, 236, 237, 238, 239, 240, 241, 242, 243, 244, 245, 246, 247, 248, 249, 250, 251, 252, 253, 254] (by decide +kernel) (by decide +kernel)
set_option maxRecDepth 20000 in
theorem gX9_suit_X9_startAnew : GoodIn wsX9_suit (wsV RX9 134 RX9 yX9_startAnew wsX9_startAnew) := goodIn_app (goodIn_of _ (by decide +kernel)) ggX9_suit_X9_startAnew
theorem dX9_suit_0 : decode cX9_suit 0 = .ok (.aload_n 0, 1) := by decide +kernel
theorem dX9_suit_1 : decode cX9_suit 1 = .ok (.iconst 0, 1) := by decide +kernel
theorem dX9_suit_2 : decode cX9_suit 2 = .ok (.putfield 140, 3) := by decide +kernel
theorem dX9_suit_5 : decode cX9_suit 5 = .ok (.aload_n 0, 1) := by decide +kernel
theorem dX9_suit_6 : decode cX9_suit 6 = .ok (.iconst (-1), 1) := by decide +kernel
theorem dX9_suit_7 : decode cX9_suit 7 = .ok (.putfield 16, 3) := by decide +kernel
theorem dX9_suit_10 : decode cX9_suit 10 = .ok (.aload_n 0, 1) := by decide +kernel
theorem dX9_suit_11 : decode cX9_suit 11 = .ok (.aload_n 0, 1) := by decide +kernel
theorem dX9_suit_12 : decode cX9_suit 12 = .ok (.getfield 236, 3) := by decide +kernel
theorem dX9_suit_15 : decode cX9_suit 15 = .ok (.putfield 137, 3) := by decide +kernel
theorem dX9_suit_18 : decode cX9_suit 18 = .ok (.iconst 0, 1) := by decide +kernel
theorem dX9_suit_19 : decode cX9_suit 19 = .ok (.istore_n 1, 1) := by decide +kernel
theorem dX9_suit_20 : decode cX9_suit 20 = .ok (.iload_n 1, 1) := by decide +kernel
theorem dX9_suit_21 : decode cX9_suit 21 = .ok (.aload_n 0, 1) := by decide +kernel
theorem dX9_suit_22 : decode cX9_suit 22 = .ok (.getfield 137, 3) := by decide +kernel
theorem dX9_suit_25 : decode cX9_suit 25 = .ok (.if_icmp .ge 21, 3) := by decide +kernel
theorem dX9_suit_46 : decode cX9_suit 46 = .ok (.aload_n 0, 1) := by decide +kernel
theorem dX9_suit_47 : decode cX9_suit 47 = .ok (.iconst 0, 1) := by decide +kernel
theorem dX9_suit_48 : decode cX9_suit 48 = .ok (.putfield 236, 3) := by decide +kernel
theorem dX9_suit_51 : decode cX9_suit 51 = .ok (.aload_n 0, 1) := by decide +kernel
theorem dX9_suit_52 : decode cX9_suit 52 = .ok (.iconst 0, 1) := by decide +kernel
theorem dX9_suit_53 : decode cX9_suit 53 = .ok (.putfield 171, 3) := by decide +kernel
theorem dX9_suit_56 : decode cX9_suit 56 = .ok (.aload_n 0, 1) := by decide +kernel
theorem dX9_suit_57 : decode cX9_suit 57 = .ok (.iconst 1, 1) := by decide +kernel
theorem dX9_suit_58 : decode cX9_suit 58 = .ok (.aload_n 0, 1) := by decide +kernel
theorem dX9_suit_59 : decode cX9_suit 59 = .ok (.getfield 239, 3) := by decide +kernel
theorem dX9_suit_62 : decode cX9_suit 62 = .ok (.isub, 1) := by decide +kernel
theorem dX9_suit_63 : decode cX9_suit 63 = .ok (.putfield 230, 3) := by decide +kernel
theorem dX9_suit_66 : decode cX9_suit 66 = .ok (.aload_n 0, 1) := by decide +kernel
theorem dX9_suit_67 : decode cX9_suit 67 = .ok (.invokevirtual 131, 3) := by decide +kernel
theorem dX9_suit_70 : decode cX9_suit 70 = .ok (.aload_n 0, 1) := by decide +kernel
theorem dX9_suit_71 : decode cX9_suit 71 = .ok (.invokevirtual 213, 3) := by decide +kernel
theorem dX9_suit_74 : decode cX9_suit 74 = .ok (.aload_n 0, 1) := by decide +kernel
theorem dX9_suit_75 : decode cX9_suit 75 = .ok (.invokevirtual 209, 3) := by decide +kernel
theorem dX9_suit_78 : decode cX9_suit 78 = .ok (.ifCond .eq 17, 3) := by decide +kernel
theorem dX9_suit_81 : decode cX9_suit 81 = .ok (.aload_n 0, 1) := by decide +kernel
theorem dX9_suit_82 : decode cX9_suit 82 = .ok (.getfield 181, 3) := by decide +kernel
theorem dX9_suit_85 : decode cX9_suit 85 = .ok (.ifCond .eq 10, 3) := by decide +kernel
theorem dX9_suit_95 : decode cX9_suit 95 = .ok (.aload_n 0, 1) := by decide +kernel
theorem dX9_suit_96 : decode cX9_suit 96 = .ok (.invokevirtual 209, 3) := by decide +kernel
theorem dX9_suit_99 : decode cX9_suit 99 = .ok (.ifCond .ne 5, 3) := by decide +kernel
theorem dX9_suit_104 : decode cX9_suit 104 = .ok (.aload_n 0, 1) := by decide +kernel
theorem dX9_suit_105 : decode cX9_suit 105 = .ok (.aload_n 0, 1) := by decide +kernel
theorem dX9_suit_106 : decode cX9_suit 106 = .ok (.getfield 230, 3) := by decide +kernel
theorem dX9_suit_109 : decode cX9_suit 109 = .ok (.putfield 239, 3) := by decide +kernel
theorem dX9_suit_112 : decode cX9_suit 112 = .ok (.aload_n 0, 1) := by decide +kernel
theorem dX9_suit_113 : decode cX9_suit 113 = .ok (.invokevirtual 134, 3) := by decide +kernel
theorem dX9_suit_116 : decode cX9_suit 116 = .ok (.aload_n 0, 1) := by decide +kernel
theorem dX9_suit_117 : decode cX9_suit 117 = .ok (.getfield 20, 3) := by decide +kernel
theorem dX9_suit_120 : decode cX9_suit 120 = .ok (.aload_n 0, 1) := by decide +kernel
theorem dX9_suit_121 : decode cX9_suit 121 = .ok (.getfield 239, 3) := by decide +kernel
theorem dX9_suit_124 : decode cX9_suit 124 = .ok (.iaload, 1) := by decide +kernel
theorem dX9_suit_125 : decode cX9_suit 125 = .ok (.ireturn, 1) := by decide +kernel
theorem dX9_fault_0 : decode cX9_fault 0 = .ok (.iload_n 1, 1) := by decide +kernel
theorem dX9_fault_1 : decode cX9_fault 1 = .ok (.ifCond .ne 10, 3) := by decide +kernel
theorem dX9_fault_4 : decode cX9_fault 4 = .ok (.aload_n 0, 1) := by decide +kernel
theorem dX9_fault_5 : decode cX9_fault 5 = .ok (.getfield 140, 3) := by decide +kernel
theorem dX9_fault_8 : decode cX9_fault 8 = .ok (.goto 16, 3) := by decide +kernel
theorem dX9_fault_11 : decode cX9_fault 11 = .ok (.iload_n 1, 1) := by decide +kernel
theorem dX9_fault_12 : decode cX9_fault 12 = .ok (.iconst 1, 1) := by decide +kernel
theorem dX9_fault_13 : decode cX9_fault 13 = .ok (.if_icmp .ne 10, 3) := by decide +kernel
theorem dX9_fault_16 : decode cX9_fault 16 = .ok (.aload_n 0, 1) := by decide +kernel
theorem dX9_fault_17 : decode cX9_fault 17 = .ok (.getfield 16, 3) := by decide +kernel
theorem dX9_fault_20 : decode cX9_fault 20 = .ok (.goto 4, 3) := by decide +kernel
theorem dX9_fault_23 : decode cX9_fault 23 = .ok (.iconst (-1), 1) := by decide +kernel
theorem dX9_fault_24 : decode cX9_fault 24 = .ok (.ireturn, 1) := by decide +kernel
theorem dX9_isIn_0 : decode cX9_isIn 0 = .ok (.iload_n 0, 1) := by decide +kernel
theorem dX9_isIn_1 : decode cX9_isIn 1 = .ok (.iload_n 1, 1) := by decide +kernel
theorem dX9_isIn_2 : decode cX9_isIn 2 = .ok (.if_icmp .lt 12, 3) := by decide +kernel
theorem dX9_isIn_5 : decode cX9_isIn 5 = .ok (.iload_n 0, 1) := by decide +kernel
theorem dX9_isIn_6 : decode cX9_isIn 6 = .ok (.iload_n 2, 1) := by decide +kernel
theorem dX9_isIn_7 : decode cX9_isIn 7 = .ok (.if_icmp .gt 7, 3) := by decide +kernel
theorem dX9_isIn_10 : decode cX9_isIn 10 = .ok (.iconst 1, 1) := by decide +kernel
theorem dX9_isIn_11 : decode cX9_isIn 11 = .ok (.goto 4, 3) := by decide +kernel
theorem dX9_isIn_14 : decode cX9_isIn 14 = .ok (.iconst 0, 1) := by decide +kernel
theorem dX9_isIn_15 : decode cX9_isIn 15 = .ok (.ireturn, 1) := by decide +kernel
theorem dX9_bitsOf_0 : decode cX9_bitsOf 0 = .ok (.iconst 0, 1) := by decide +kernel
theorem dX9_bitsOf_1 : decode cX9_bitsOf 1 = .ok (.istore_n 1, 1) := by decide +kernel
theorem dX9_bitsOf_2 : decode cX9_bitsOf 2 = .ok (.iload_n 0, 1) := by decide +kernel
theorem dX9_bitsOf_3 : decode cX9_bitsOf 3 = .ok (.istore_n 2, 1) := by decide +kernel
theorem dX9_bitsOf_4 : decode cX9_bitsOf 4 = .ok (.iload_n 2, 1) := by decide +kernel
theorem dX9_bitsOf_5 : decode cX9_bitsOf 5 = .ok (.ifCond .eq 15, 3) := by decide +kernel
theorem dX9_bitsOf_20 : decode cX9_bitsOf 20 = .ok (.iload_n 1, 1) := by decide +kernel
theorem dX9_bitsOf_21 : decode cX9_bitsOf 21 = .ok (.ireturn, 1) := by decide +kernel
theorem dX9_divisor_0 : decode cX9_divisor 0 = .ok (.iload_n 0, 1) := by decide +kernel
theorem dX9_divisor_1 : decode cX9_divisor 1 = .ok (.istore_n 2, 1) := by decide +kernel
theorem dX9_divisor_2 : decode cX9_divisor 2 = .ok (.iload_n 1, 1) := by decide +kernel
theorem dX9_divisor_3 : decode cX9_divisor 3 = .ok (.istore_n 3, 1) := by decide +kernel
theorem dX9_divisor_4 : decode cX9_divisor 4 = .ok (.iload_n 3, 1) := by decide +kernel
theorem dX9_divisor_5 : decode cX9_divisor 5 = .ok (.ifCond .le 16, 3) := by decide +kernel
theorem dX9_divisor_8 : decode cX9_divisor 8 = .ok (.iload_n 2, 1) := by decide +kernel
theorem dX9_divisor_9 : decode cX9_divisor 9 = .ok (.iload_n 3, 1) := by decide +kernel
theorem dX9_divisor_10 : decode cX9_divisor 10 = .ok (.irem, 1) := by decide +kernel
theorem dX9_divisor_11 : decode cX9_divisor 11 = .ok (.istore 4, 2) := by decide +kernel
theorem dX9_divisor_13 : decode cX9_divisor 13 = .ok (.iload_n 3, 1) := by decide +kernel
theorem dX9_divisor_14 : decode cX9_divisor 14 = .ok (.istore_n 2, 1) := by decide +kernel
theorem dX9_divisor_15 : decode cX9_divisor 15 = .ok (.iload 4, 2) := by decide +kernel
theorem dX9_divisor_17 : decode cX9_divisor 17 = .ok (.istore_n 3, 1) := by decide +kernel
theorem dX9_divisor_18 : decode cX9_divisor 18 = .ok (.goto (-14), 3) := by decide +kernel
theorem dX9_divisor_21 : decode cX9_divisor 21 = .ok (.iload_n 2, 1) := by decide +kernel
theorem dX9_divisor_22 : decode cX9_divisor 22 = .ok (.ireturn, 1) := by decide +kernel
theorem dX9_raised_0 : decode cX9_raised 0 = .ok (.iconst 1, 1) := by decide +kernel
theorem dX9_raised_1 : decode cX9_raised 1 = .ok (.istore_n 2, 1) := by decide +kernel
theorem dX9_raised_2 : decode cX9_raised 2 = .ok (.iconst 0, 1) := by decide +kernel
theorem dX9_raised_3 : decode cX9_raised 3 = .ok (.istore_n 3, 1) := by decide +kernel
theorem dX9_raised_4 : decode cX9_raised 4 = .ok (.iload_n 3, 1) := by decide +kernel
theorem dX9_raised_5 : decode cX9_raised 5 = .ok (.iload_n 1, 1) := by decide +kernel
theorem dX9_raised_6 : decode cX9_raised 6 = .ok (.if_icmp .ge 13, 3) := by decide +kernel
theorem dX9_raised_9 : decode cX9_raised 9 = .ok (.iload_n 2, 1) := by decide +kernel
theorem dX9_raised_10 : decode cX9_raised 10 = .ok (.iload_n 0, 1) := by decide +kernel
theorem dX9_raised_11 : decode cX9_raised 11 = .ok (.imul, 1) := by decide +kernel
theorem dX9_raised_12 : decode cX9_raised 12 = .ok (.istore_n 2, 1) := by decide +kernel
theorem dX9_raised_13 : decode cX9_raised 13 = .ok (.iinc 3 1, 3) := by decide +kernel
theorem dX9_raised_16 : decode cX9_raised 16 = .ok (.goto (-12), 3) := by decide +kernel
theorem dX9_raised_19 : decode cX9_raised 19 = .ok (.iload_n 2, 1) := by decide +kernel
theorem dX9_raised_20 : decode cX9_raised 20 = .ok (.ireturn, 1) := by decide +kernel
theorem dX9_many_0 : decode cX9_many 0 = .ok (.aload_n 0, 1) := by decide +kernel
theorem dX9_many_1 : decode cX9_many 1 = .ok (.getfield 20, 3) := by decide +kernel
theorem dX9_many_4 : decode cX9_many 4 = .ok (.aload_n 0, 1) := by decide +kernel
theorem dX9_many_5 : decode cX9_many 5 = .ok (.getfield 239, 3) := by decide +kernel
theorem dX9_many_8 : decode cX9_many 8 = .ok (.iaload, 1) := by decide +kernel
theorem dX9_many_9 : decode cX9_many 9 = .ok (.ireturn, 1) := by decide +kernel
theorem dX9_threads_0 : decode cX9_threads 0 = .ok (.aload_n 0, 1) := by decide +kernel
theorem dX9_threads_1 : decode cX9_threads 1 = .ok (.getfield 24, 3) := by decide +kernel
theorem dX9_threads_4 : decode cX9_threads 4 = .ok (.aload_n 0, 1) := by decide +kernel
theorem dX9_threads_5 : decode cX9_threads 5 = .ok (.getfield 239, 3) := by decide +kernel
theorem dX9_threads_8 : decode cX9_threads 8 = .ok (.iaload, 1) := by decide +kernel
theorem dX9_threads_9 : decode cX9_threads 9 = .ok (.ireturn, 1) := by decide +kernel
set_option maxRecDepth 20000 in
theorem ggX9_isPoint_X9_many : GoodIn wsX9_isPoint wsX9_many := goodIn_r _ [5, 6, 7, 11, 12, 13, 14, 15, 16, 17, 18, 19, 20, 21, 22, 23, 24, 25, 26, 27, 28, 29, 30, 31, 32, 33, 34, 35, 36, 37, 38, 39, 40, 41, 42, 43, 44, 45, 46, 47, 48, 49, 50, 51, 52, 53, 54, 55, 56, 57, 58, 59, 60, 61, 62, 63, 64, 65, 66, 67, 68, 69, 70, 71, 72, 73, 74] (by decide +kernel) (by decide +kernel)
set_option maxRecDepth 20000 in
theorem gX9_isPoint_X9_many : GoodIn wsX9_isPoint (wsV RX9 343 RX9 yX9_many wsX9_many) := goodIn_app (goodIn_of _ (by decide +kernel)) ggX9_isPoint_X9_many
set_option maxRecDepth 20000 in
theorem ggX9_isPoint_X9_isIn : GoodIn wsX9_isPoint wsX9_isIn := goodIn_r _ [10] (by decide +kernel) (by decide +kernel)
set_option maxRecDepth 20000 in
theorem gX9_isPoint_X9_isIn : GoodIn wsX9_isPoint (va_wsS RX9 346 yX9_isIn wsX9_isIn) := goodIn_app (goodIn_of _ (by decide +kernel)) ggX9_isPoint_X9_isIn
theorem dX9_isPoint_0 : decode cX9_isPoint 0 = .ok (.iload_n 1, 1) := by decide +kernel
theorem dX9_isPoint_1 : decode cX9_isPoint 1 = .ok (.iconst 0, 1) := by decide +kernel
theorem dX9_isPoint_2 : decode cX9_isPoint 2 = .ok (.aload_n 0, 1) := by decide +kernel
theorem dX9_isPoint_3 : decode cX9_isPoint 3 = .ok (.invokevirtual 343, 3) := by decide +kernel
theorem dX9_isPoint_6 : decode cX9_isPoint 6 = .ok (.iconst 1, 1) := by decide +kernel
theorem dX9_isPoint_7 : decode cX9_isPoint 7 = .ok (.isub, 1) := by decide +kernel
theorem dX9_isPoint_8 : decode cX9_isPoint 8 = .ok (.invokestatic 346, 3) := by decide +kernel
theorem dX9_isPoint_11 : decode cX9_isPoint 11 = .ok (.ireturn, 1) := by decide +kernel
set_option maxRecDepth 20000 in
theorem ggX9_isThread_X9_threads : GoodIn wsX9_isThread wsX9_threads := goodIn_r _ [5, 6, 7, 11, 12, 13, 14, 15, 16, 17, 18, 19, 20, 21, 22, 23, 24, 25, 26, 27, 28, 29, 30, 31, 32, 33, 34, 35, 36, 37, 38, 39, 40, 41, 42, 43, 44, 45, 46, 47, 48, 49, 50, 51, 52, 53, 54, 55, 56, 57, 58, 59, 60, 61, 62, 63, 64, 65, 66, 67, 68, 69, 70, 71, 72, 73, 74] (by decide +kernel) (by decide +kernel)
set_option maxRecDepth 20000 in
theorem gX9_isThread_X9_threads : GoodIn wsX9_isThread (wsV RX9 350 RX9 yX9_threads wsX9_threads) := goodIn_app (goodIn_of _ (by decide +kernel)) ggX9_isThread_X9_threads
set_option maxRecDepth 20000 in
theorem ggX9_isThread_X9_isIn : GoodIn wsX9_isThread wsX9_isIn := goodIn_r _ [10] (by decide +kernel) (by decide +kernel)
set_option maxRecDepth 20000 in
theorem gX9_isThread_X9_isIn : GoodIn wsX9_isThread (va_wsS RX9 346 yX9_isIn wsX9_isIn) := goodIn_app (goodIn_of _ (by decide +kernel)) ggX9_isThread_X9_isIn
theorem dX9_isThread_0 : decode cX9_isThread 0 = .ok (.iload_n 1, 1) := by decide +kernel
theorem dX9_isThread_1 : decode cX9_isThread 1 = .ok (.iconst 0, 1) := by decide +kernel
theorem dX9_isThread_2 : decode cX9_isThread 2 = .ok (.aload_n 0, 1) := by decide +kernel
theorem dX9_isThread_3 : decode cX9_isThread 3 = .ok (.invokevirtual 350, 3) := by decide +kernel
theorem dX9_isThread_6 : decode cX9_isThread 6 = .ok (.iconst 1, 1) := by decide +kernel
theorem dX9_isThread_7 : decode cX9_isThread 7 = .ok (.isub, 1) := by decide +kernel
theorem dX9_isThread_8 : decode cX9_isThread 8 = .ok (.invokestatic 346, 3) := by decide +kernel
theorem dX9_isThread_11 : decode cX9_isThread 11 = .ok (.ireturn, 1) := by decide +kernel
set_option maxRecDepth 20000 in
theorem ggX9_isFact_X9_isPoint : GoodIn wsX9_isFact wsX9_isPoint := goodIn_r _ [7, 8, 9, 10, 6, 11, 12, 2, 13, 14, 15, 16, 17, 18, 19, 20, 21, 22, 23, 24, 25, 26, 27, 28, 29, 30, 31, 32, 33, 34, 35, 36, 37, 38, 39, 40, 41, 42, 43, 44, 45, 46, 47, 48, 49, 50, 51, 52, 53, 54, 55, 56, 57, 58, 59, 60, 61, 62, 63, 64, 65, 66, 67, 68, 69, 70, 71, 72, 73, 74, 75, 76, 77, 78, 79] (by decide +kernel) (by decide +kernel)
set_option maxRecDepth 20000 in
theorem gX9_isFact_X9_isPoint : GoodIn wsX9_isFact (wsV RX9 353 RX9 yX9_isPoint wsX9_isPoint) := goodIn_app (goodIn_of _ (by decide +kernel)) ggX9_isFact_X9_isPoint
theorem dX9_isFact_0 : decode cX9_isFact 0 = .ok (.aload_n 0, 1) := by decide +kernel
theorem dX9_isFact_1 : decode cX9_isFact 1 = .ok (.iload_n 1, 1) := by decide +kernel
theorem dX9_isFact_2 : decode cX9_isFact 2 = .ok (.invokevirtual 353, 3) := by decide +kernel
theorem dX9_isFact_5 : decode cX9_isFact 5 = .ok (.ifCond .eq 24, 3) := by decide +kernel
theorem dX9_isFact_29 : decode cX9_isFact 29 = .ok (.iconst 0, 1) := by decide +kernel
theorem dX9_isFact_30 : decode cX9_isFact 30 = .ok (.ireturn, 1) := by decide +kernel
set_option maxRecDepth 20000 in
theorem ggX9_isClaim_X9_isPoint : GoodIn wsX9_isClaim wsX9_isPoint := goodIn_r _ [7, 8, 9, 10, 6, 11, 12, 2, 13, 14, 15, 16, 17, 18, 19, 20, 21, 22, 23, 24, 25, 26, 27, 28, 29, 30, 31, 32, 33, 34, 35, 36, 37, 38, 39, 40, 41, 42, 43, 44, 45, 46, 47, 48, 49, 50, 51, 52, 53, 54, 55, 56, 57, 58, 59, 60, 61, 62, 63, 64, 65, 66, 67, 68, 69, 70, 71, 72, 73, 74, 75, 76, 77, 78, 79] (by decide +kernel) (by decide +kernel)
set_option maxRecDepth 20000 in
theorem gX9_isClaim_X9_isPoint : GoodIn wsX9_isClaim (wsV RX9 353 RX9 yX9_isPoint wsX9_isPoint) := goodIn_app (goodIn_of _ (by decide +kernel)) ggX9_isClaim_X9_isPoint
theorem dX9_isClaim_0 : decode cX9_isClaim 0 = .ok (.aload_n 0, 1) := by decide +kernel
theorem dX9_isClaim_1 : decode cX9_isClaim 1 = .ok (.iload_n 1, 1) := by decide +kernel
theorem dX9_isClaim_2 : decode cX9_isClaim 2 = .ok (.invokevirtual 353, 3) := by decide +kernel
theorem dX9_isClaim_5 : decode cX9_isClaim 5 = .ok (.ifCond .eq 24, 3) := by decide +kernel
theorem dX9_isClaim_29 : decode cX9_isClaim 29 = .ok (.iconst 0, 1) := by decide +kernel
theorem dX9_isClaim_30 : decode cX9_isClaim 30 = .ok (.ireturn, 1) := by decide +kernel
set_option maxRecDepth 20000 in
theorem ggX9_facts_X9_many : GoodIn wsX9_facts wsX9_many := goodIn_r _ [5, 6, 7, 20, 21, 22, 23, 24, 25, 26, 27, 28, 29, 30, 31, 32, 33, 34, 35, 36, 37, 38, 39, 40, 41, 42, 43, 44, 45, 46, 47, 48, 49, 50, 51, 52, 53, 54, 55, 56, 57, 58, 59, 60, 61, 62, 63, 64, 65, 66, 67, 68, 69, 70, 71, 72, 73, 74, 75, 76, 77, 78, 79, 80, 81, 82, 83] (by decide +kernel) (by decide +kernel)
set_option maxRecDepth 20000 in
theorem gX9_facts_X9_many : GoodIn wsX9_facts (wsV RX9 343 RX9 yX9_many wsX9_many) := goodIn_app (goodIn_of _ (by decide +kernel)) ggX9_facts_X9_many
theorem dX9_facts_0 : decode cX9_facts 0 = .ok (.iconst 0, 1) := by decide +kernel
theorem dX9_facts_1 : decode cX9_facts 1 = .ok (.istore_n 1, 1) := by decide +kernel
theorem dX9_facts_2 : decode cX9_facts 2 = .ok (.iconst 0, 1) := by decide +kernel
theorem dX9_facts_3 : decode cX9_facts 3 = .ok (.istore_n 2, 1) := by decide +kernel
theorem dX9_facts_4 : decode cX9_facts 4 = .ok (.iload_n 2, 1) := by decide +kernel
theorem dX9_facts_5 : decode cX9_facts 5 = .ok (.aload_n 0, 1) := by decide +kernel
theorem dX9_facts_6 : decode cX9_facts 6 = .ok (.invokevirtual 343, 3) := by decide +kernel
theorem dX9_facts_9 : decode cX9_facts 9 = .ok (.if_icmp .ge 23, 3) := by decide +kernel
theorem dX9_facts_32 : decode cX9_facts 32 = .ok (.iload_n 1, 1) := by decide +kernel
theorem dX9_facts_33 : decode cX9_facts 33 = .ok (.ireturn, 1) := by decide +kernel
set_option maxRecDepth 20000 in
theorem ggX9_claims_X9_many : GoodIn wsX9_claims wsX9_many := goodIn_r _ [5, 6, 7, 24, 25, 26, 27, 28, 29, 30, 31, 32, 33, 34, 35, 36, 37, 38, 39, 40, 41, 42, 43, 44, 45, 46, 47, 48, 49, 50, 51, 52, 53, 54, 55, 56, 57, 58, 59, 60, 61, 62, 63, 64, 65, 66, 67, 68, 69, 70, 71, 72, 73, 74, 75, 76, 77, 78, 79, 80, 81, 82, 83, 84, 85, 86, 87] (by decide +kernel) (by decide +kernel)
set_option maxRecDepth 20000 in
theorem gX9_claims_X9_many : GoodIn wsX9_claims (wsV RX9 343 RX9 yX9_many wsX9_many) := goodIn_app (goodIn_of _ (by decide +kernel)) ggX9_claims_X9_many
set_option maxRecDepth 20000 in
theorem ggX9_claims_X9_facts : GoodIn wsX9_claims wsX9_facts := goodIn_r _ [11, 1, 2, 3, 4, 5, 6, 7, 12, 13, 14, 15, 16, 17, 18, 19, 20, 21, 22, 23, 24, 25, 26, 27, 28, 29, 30, 31, 32, 33, 34, 35, 36, 37, 38, 39, 40, 41, 42, 43, 44, 45, 46, 47, 48, 49, 50, 51, 52, 53, 54, 55, 56, 57, 58, 59, 60, 61, 62, 63, 64, 65, 66, 67, 68, 69, 70, 71, 72, 73, 74, 75, 76, 77, 78, 79, 80, 81, 82, 83, 84, 85, 86, 87] (by decide +kernel) (by decide +kernel)
set_option maxRecDepth 20000 in
theorem gX9_claims_X9_facts : GoodIn wsX9_claims (wsV RX9 362 RX9 yX9_facts wsX9_facts) := goodIn_app (goodIn_of _ (by decide +kernel)) ggX9_claims_X9_facts
theorem dX9_claims_0 : decode cX9_claims 0 = .ok (.iconst 1, 1) := by decide +kernel
theorem dX9_claims_1 : decode cX9_claims 1 = .ok (.aload_n 0, 1) := by decide +kernel
theorem dX9_claims_2 : decode cX9_claims 2 = .ok (.invokevirtual 343, 3) := by decide +kernel
theorem dX9_claims_5 : decode cX9_claims 5 = .ok (.ishl, 1) := by decide +kernel
theorem dX9_claims_6 : decode cX9_claims 6 = .ok (.iconst 1, 1) := by decide +kernel
theorem dX9_claims_7 : decode cX9_claims 7 = .ok (.isub, 1) := by decide +kernel
theorem dX9_claims_8 : decode cX9_claims 8 = .ok (.aload_n 0, 1) := by decide +kernel
theorem dX9_claims_9 : decode cX9_claims 9 = .ok (.invokevirtual 362, 3) := by decide +kernel
theorem dX9_claims_12 : decode cX9_claims 12 = .ok (.iconst (-1), 1) := by decide +kernel
theorem dX9_claims_13 : decode cX9_claims 13 = .ok (.ixor, 1) := by decide +kernel
theorem dX9_claims_14 : decode cX9_claims 14 = .ok (.iand, 1) := by decide +kernel
theorem dX9_claims_15 : decode cX9_claims 15 = .ok (.ireturn, 1) := by decide +kernel
set_option maxRecDepth 20000 in
theorem ggX9_startAnew_X9_layTold : GoodIn wsX9_startAnew wsX9_layTold := goodIn_r _ [10, 11, 12, 13, 14, 15, 16, 17, 9, 18, 19, 20, 21, 22, 23, 24, 25, 26, 27, 28, 29, 30, 31, 32, 33, 34, 35, 36, 37, 38, 39, 40, 41, 42, 43, 44, 45, 46, 47, 48, 49, 50, 51, 52, 53, 54, 55, 56, 57, 58, 59, 60, 61, 62, 63, 64, 65, 66, 67, 68, 69, 70, 71, 72, 73, 74, 75, 76, 77, 78, 79, 80, 81, 82, 83] (by decide +kernel) (by decide +kernel)
set_option maxRecDepth 20000 in
theorem gX9_startAnew_X9_layTold : GoodIn wsX9_startAnew (wsV RX9 365 RX9 yX9_layTold wsX9_layTold) := goodIn_app (goodIn_of _ (by decide +kernel)) ggX9_startAnew_X9_layTold
theorem dX9_startAnew_0 : decode cX9_startAnew 0 = .ok (.aload_n 0, 1) := by decide +kernel
theorem dX9_startAnew_1 : decode cX9_startAnew 1 = .ok (.invokevirtual 365, 3) := by decide +kernel
theorem dX9_startAnew_4 : decode cX9_startAnew 4 = .ok (.aload_n 0, 1) := by decide +kernel
theorem dX9_startAnew_5 : decode cX9_startAnew 5 = .ok (.iconst 0, 1) := by decide +kernel
theorem dX9_startAnew_6 : decode cX9_startAnew 6 = .ok (.putfield 368, 3) := by decide +kernel
theorem dX9_startAnew_9 : decode cX9_startAnew 9 = .ok (.aload_n 0, 1) := by decide +kernel
theorem dX9_startAnew_10 : decode cX9_startAnew 10 = .ok (.iconst 0, 1) := by decide +kernel
theorem dX9_startAnew_11 : decode cX9_startAnew 11 = .ok (.putfield 371, 3) := by decide +kernel
theorem dX9_startAnew_14 : decode cX9_startAnew 14 = .ok (.aload_n 0, 1) := by decide +kernel
theorem dX9_startAnew_15 : decode cX9_startAnew 15 = .ok (.iconst 0, 1) := by decide +kernel
theorem dX9_startAnew_16 : decode cX9_startAnew 16 = .ok (.putfield 374, 3) := by decide +kernel
theorem dX9_startAnew_19 : decode cX9_startAnew 19 = .ok (.aload_n 0, 1) := by decide +kernel
theorem dX9_startAnew_20 : decode cX9_startAnew 20 = .ok (.iconst 0, 1) := by decide +kernel
theorem dX9_startAnew_21 : decode cX9_startAnew 21 = .ok (.putfield 377, 3) := by decide +kernel
theorem dX9_startAnew_24 : decode cX9_startAnew 24 = .ok (.iconst 0, 1) := by decide +kernel
theorem dX9_startAnew_25 : decode cX9_startAnew 25 = .ok (.istore_n 1, 1) := by decide +kernel
theorem dX9_startAnew_26 : decode cX9_startAnew 26 = .ok (.iload_n 1, 1) := by decide +kernel
theorem dX9_startAnew_27 : decode cX9_startAnew 27 = .ok (.iconst 3, 1) := by decide +kernel
theorem dX9_startAnew_28 : decode cX9_startAnew 28 = .ok (.if_icmp .ge 16, 3) := by decide +kernel
theorem dX9_startAnew_31 : decode cX9_startAnew 31 = .ok (.aload_n 0, 1) := by decide +kernel
theorem dX9_startAnew_32 : decode cX9_startAnew 32 = .ok (.getfield 128, 3) := by decide +kernel
theorem dX9_startAnew_35 : decode cX9_startAnew 35 = .ok (.iload_n 1, 1) := by decide +kernel
theorem dX9_startAnew_36 : decode cX9_startAnew 36 = .ok (.iconst 0, 1) := by decide +kernel
theorem dX9_startAnew_37 : decode cX9_startAnew 37 = .ok (.bastore, 1) := by decide +kernel
theorem dX9_startAnew_38 : decode cX9_startAnew 38 = .ok (.iinc 1 1, 3) := by decide +kernel
theorem dX9_startAnew_41 : decode cX9_startAnew 41 = .ok (.goto (-15), 3) := by decide +kernel
theorem dX9_startAnew_44 : decode cX9_startAnew 44 = .ok (.return_, 1) := by decide +kernel
set_option maxRecDepth 20000 in
theorem ggX9_layTold_X9_threads : GoodIn wsX9_layTold wsX9_threads := goodIn_r _ [9, 10, 3, 11, 12, 13, 14, 15, 16, 17, 18, 19, 20, 21, 22, 23, 24, 25, 26, 27, 28, 29, 30, 31, 32, 33, 34, 35, 36, 37, 38, 39, 40, 41, 42, 43, 44, 45, 46, 47, 48, 49, 50, 51, 52, 53, 54, 55, 56, 57, 58, 59, 60, 61, 62, 63, 64, 65, 66, 67, 68, 69, 70, 71, 72, 73, 74] (by decide +kernel) (by decide +kernel)
set_option maxRecDepth 20000 in
theorem gX9_layTold_X9_threads : GoodIn wsX9_layTold (wsV RX9 350 RX9 yX9_threads wsX9_threads) := goodIn_app (goodIn_of _ (by decide +kernel)) ggX9_layTold_X9_threads
theorem dX9_layTold_0 : decode cX9_layTold 0 = .ok (.iconst 0, 1) := by decide +kernel
theorem dX9_layTold_1 : decode cX9_layTold 1 = .ok (.istore_n 1, 1) := by decide +kernel
theorem dX9_layTold_2 : decode cX9_layTold 2 = .ok (.iload_n 1, 1) := by decide +kernel
theorem dX9_layTold_3 : decode cX9_layTold 3 = .ok (.bipush 16, 2) := by decide +kernel
theorem dX9_layTold_5 : decode cX9_layTold 5 = .ok (.if_icmp .ge 16, 3) := by decide +kernel
theorem dX9_layTold_8 : decode cX9_layTold 8 = .ok (.aload_n 0, 1) := by decide +kernel
theorem dX9_layTold_9 : decode cX9_layTold 9 = .ok (.getfield 76, 3) := by decide +kernel
theorem dX9_layTold_12 : decode cX9_layTold 12 = .ok (.iload_n 1, 1) := by decide +kernel
theorem dX9_layTold_13 : decode cX9_layTold 13 = .ok (.iconst 0, 1) := by decide +kernel
theorem dX9_layTold_14 : decode cX9_layTold 14 = .ok (.iastore, 1) := by decide +kernel
theorem dX9_layTold_15 : decode cX9_layTold 15 = .ok (.iinc 1 1, 3) := by decide +kernel
theorem dX9_layTold_18 : decode cX9_layTold 18 = .ok (.goto (-16), 3) := by decide +kernel
theorem dX9_layTold_21 : decode cX9_layTold 21 = .ok (.aload_n 0, 1) := by decide +kernel
theorem dX9_layTold_22 : decode cX9_layTold 22 = .ok (.getfield 76, 3) := by decide +kernel
theorem dX9_layTold_25 : decode cX9_layTold 25 = .ok (.iconst 1, 1) := by decide +kernel
theorem dX9_layTold_26 : decode cX9_layTold 26 = .ok (.iconst 1, 1) := by decide +kernel
theorem dX9_layTold_27 : decode cX9_layTold 27 = .ok (.aload_n 0, 1) := by decide +kernel
theorem dX9_layTold_28 : decode cX9_layTold 28 = .ok (.invokevirtual 350, 3) := by decide +kernel
theorem dX9_layTold_31 : decode cX9_layTold 31 = .ok (.ishl, 1) := by decide +kernel
theorem dX9_layTold_32 : decode cX9_layTold 32 = .ok (.iconst 1, 1) := by decide +kernel
theorem dX9_layTold_33 : decode cX9_layTold 33 = .ok (.isub, 1) := by decide +kernel
theorem dX9_layTold_34 : decode cX9_layTold 34 = .ok (.iastore, 1) := by decide +kernel
theorem dX9_layTold_35 : decode cX9_layTold 35 = .ok (.iconst 0, 1) := by decide +kernel
theorem dX9_layTold_36 : decode cX9_layTold 36 = .ok (.istore_n 1, 1) := by decide +kernel
theorem dX9_layTold_37 : decode cX9_layTold 37 = .ok (.iload_n 1, 1) := by decide +kernel
theorem dX9_layTold_38 : decode cX9_layTold 38 = .ok (.aload_n 0, 1) := by decide +kernel
theorem dX9_layTold_39 : decode cX9_layTold 39 = .ok (.invokevirtual 350, 3) := by decide +kernel
theorem dX9_layTold_42 : decode cX9_layTold 42 = .ok (.if_icmp .ge 31, 3) := by decide +kernel
theorem dX9_layTold_73 : decode cX9_layTold 73 = .ok (.aload_n 0, 1) := by decide +kernel
theorem dX9_layTold_74 : decode cX9_layTold 74 = .ok (.getfield 76, 3) := by decide +kernel
theorem dX9_layTold_77 : decode cX9_layTold 77 = .ok (.bipush 15, 2) := by decide +kernel
theorem dX9_layTold_79 : decode cX9_layTold 79 = .ok (.aload_n 0, 1) := by decide +kernel
theorem dX9_layTold_80 : decode cX9_layTold 80 = .ok (.getfield 33, 3) := by decide +kernel
theorem dX9_layTold_83 : decode cX9_layTold 83 = .ok (.aload_n 0, 1) := by decide +kernel
theorem dX9_layTold_84 : decode cX9_layTold 84 = .ok (.getfield 239, 3) := by decide +kernel
theorem dX9_layTold_87 : decode cX9_layTold 87 = .ok (.iaload, 1) := by decide +kernel
theorem dX9_layTold_88 : decode cX9_layTold 88 = .ok (.iastore, 1) := by decide +kernel
theorem dX9_layTold_89 : decode cX9_layTold 89 = .ok (.return_, 1) := by decide +kernel
theorem dX9_keepNow_0 : decode cX9_keepNow 0 = .ok (.iconst 0, 1) := by decide +kernel
theorem dX9_keepNow_1 : decode cX9_keepNow 1 = .ok (.istore_n 1, 1) := by decide +kernel
theorem dX9_keepNow_2 : decode cX9_keepNow 2 = .ok (.iload_n 1, 1) := by decide +kernel
theorem dX9_keepNow_3 : decode cX9_keepNow 3 = .ok (.bipush 16, 2) := by decide +kernel
theorem dX9_keepNow_5 : decode cX9_keepNow 5 = .ok (.if_icmp .ge 21, 3) := by decide +kernel
theorem dX9_keepNow_8 : decode cX9_keepNow 8 = .ok (.aload_n 0, 1) := by decide +kernel
theorem dX9_keepNow_9 : decode cX9_keepNow 9 = .ok (.getfield 79, 3) := by decide +kernel
theorem dX9_keepNow_12 : decode cX9_keepNow 12 = .ok (.iload_n 1, 1) := by decide +kernel
theorem dX9_keepNow_13 : decode cX9_keepNow 13 = .ok (.aload_n 0, 1) := by decide +kernel
theorem dX9_keepNow_14 : decode cX9_keepNow 14 = .ok (.getfield 76, 3) := by decide +kernel
theorem dX9_keepNow_17 : decode cX9_keepNow 17 = .ok (.iload_n 1, 1) := by decide +kernel
theorem dX9_keepNow_18 : decode cX9_keepNow 18 = .ok (.iaload, 1) := by decide +kernel
theorem dX9_keepNow_19 : decode cX9_keepNow 19 = .ok (.iastore, 1) := by decide +kernel
theorem dX9_keepNow_20 : decode cX9_keepNow 20 = .ok (.iinc 1 1, 3) := by decide +kernel
theorem dX9_keepNow_23 : decode cX9_keepNow 23 = .ok (.goto (-21), 3) := by decide +kernel
theorem dX9_keepNow_26 : decode cX9_keepNow 26 = .ok (.return_, 1) := by decide +kernel
theorem dX9_bringBack_0 : decode cX9_bringBack 0 = .ok (.iconst 0, 1) := by decide +kernel
theorem dX9_bringBack_1 : decode cX9_bringBack 1 = .ok (.istore_n 1, 1) := by decide +kernel
theorem dX9_bringBack_2 : decode cX9_bringBack 2 = .ok (.iload_n 1, 1) := by decide +kernel
theorem dX9_bringBack_3 : decode cX9_bringBack 3 = .ok (.bipush 16, 2) := by decide +kernel
theorem dX9_bringBack_5 : decode cX9_bringBack 5 = .ok (.if_icmp .ge 21, 3) := by decide +kernel
theorem dX9_bringBack_8 : decode cX9_bringBack 8 = .ok (.aload_n 0, 1) := by decide +kernel
theorem dX9_bringBack_9 : decode cX9_bringBack 9 = .ok (.getfield 76, 3) := by decide +kernel
theorem dX9_bringBack_12 : decode cX9_bringBack 12 = .ok (.iload_n 1, 1) := by decide +kernel
theorem dX9_bringBack_13 : decode cX9_bringBack 13 = .ok (.aload_n 0, 1) := by decide +kernel
theorem dX9_bringBack_14 : decode cX9_bringBack 14 = .ok (.getfield 79, 3) := by decide +kernel
theorem dX9_bringBack_17 : decode cX9_bringBack 17 = .ok (.iload_n 1, 1) := by decide +kernel
theorem dX9_bringBack_18 : decode cX9_bringBack 18 = .ok (.iaload, 1) := by decide +kernel
theorem dX9_bringBack_19 : decode cX9_bringBack 19 = .ok (.iastore, 1) := by decide +kernel
theorem dX9_bringBack_20 : decode cX9_bringBack 20 = .ok (.iinc 1 1, 3) := by decide +kernel
theorem dX9_bringBack_23 : decode cX9_bringBack 23 = .ok (.goto (-21), 3) := by decide +kernel
theorem dX9_bringBack_26 : decode cX9_bringBack 26 = .ok (.return_, 1) := by decide +kernel
set_option maxRecDepth 20000 in
theorem ggX9_layWeights_X9_threads : GoodIn wsX9_layWeights wsX9_threads := goodIn_r _ [11, 12, 6, 67, 68, 69, 70, 71, 72, 73, 74, 75, 76, 77, 78, 79, 80, 81, 82, 83, 84, 85, 86, 87, 88, 89, 90, 91, 92, 93, 94, 95, 96, 97, 98, 99, 100, 101, 102, 103, 104, 105, 106, 107, 108, 109, 110, 111, 112, 113, 114, 115, 116, 117, 118, 119, 120, 121, 122, 123, 124, 125, 126, 127, 128, 129, 130] (by decide +kernel) (by decide +kernel)
set_option maxRecDepth 20000 in
theorem gX9_layWeights_X9_threads : GoodIn wsX9_layWeights (wsV RX9 350 RX9 yX9_threads wsX9_threads) := goodIn_app (goodIn_of _ (by decide +kernel)) ggX9_layWeights_X9_threads
theorem dX9_layWeights_0 : decode cX9_layWeights 0 = .ok (.aload_n 0, 1) := by decide +kernel
theorem dX9_layWeights_1 : decode cX9_layWeights 1 = .ok (.iload_n 1, 1) := by decide +kernel
theorem dX9_layWeights_2 : decode cX9_layWeights 2 = .ok (.putfield 321, 3) := by decide +kernel
theorem dX9_layWeights_5 : decode cX9_layWeights 5 = .ok (.iconst 0, 1) := by decide +kernel
theorem dX9_layWeights_6 : decode cX9_layWeights 6 = .ok (.istore_n 2, 1) := by decide +kernel
theorem dX9_layWeights_7 : decode cX9_layWeights 7 = .ok (.iload_n 2, 1) := by decide +kernel
theorem dX9_layWeights_8 : decode cX9_layWeights 8 = .ok (.aload_n 0, 1) := by decide +kernel
theorem dX9_layWeights_9 : decode cX9_layWeights 9 = .ok (.invokevirtual 350, 3) := by decide +kernel
theorem dX9_layWeights_12 : decode cX9_layWeights 12 = .ok (.if_icmp .ge 91, 3) := by decide +kernel
theorem dX9_layWeights_103 : decode cX9_layWeights 103 = .ok (.return_, 1) := by decide +kernel
set_option maxRecDepth 20000 in
theorem ggX9_standBy_X9_layWeights : GoodIn wsX9_standBy wsX9_layWeights := goodIn_r _ [6, 7, 8, 9, 10, 11, 12, 13, 14, 15, 5, 16, 17, 18, 19, 20, 21, 22, 23, 24, 25, 26, 27, 28, 29, 30, 31, 32, 33, 34, 35, 36, 37, 38, 39, 40, 41, 42, 43, 44, 45, 46, 47, 48, 49, 50, 51, 52, 53, 54, 55, 56, 57, 58, 59, 60, 61, 62, 63, 64, 65, 66, 67, 68, 69, 70, 71, 100, 101, 102, 103, 104, 105, 106, 107, 108, 109, 110, 111, 112, 113, 114, 115, 116, 117, 118, 119, 120, 121, 122, 123, 124, 125, 126, 127, 128, 129, 130, 131, 132, 133, 134, 135, 136, 137, 138, 139, 140, 141, 142, 143, 144, 145, 146, 147, 148, 149, 150, 151, 152, 153, 154, 155, 156, 157, 158, 159, 160, 161, 162, 163] (by decide +kernel) (by decide +kernel)
set_option maxRecDepth 20000 in
theorem gX9_standBy_X9_layWeights : GoodIn wsX9_standBy (wsV RX9 386 RX9 yX9_layWeights wsX9_layWeights) := goodIn_app (goodIn_of _ (by decide +kernel)) ggX9_standBy_X9_layWeights
set_option maxRecDepth 20000 in
theorem ggX9_standBy_X9_facts : GoodIn wsX9_standBy wsX9_facts := goodIn_r _ [75, 76, 77, 78, 5, 79, 80, 12, 81, 82, 83, 84, 65, 85, 86, 87, 88, 89, 90, 91, 100, 101, 102, 103, 104, 105, 106, 107, 108, 109, 110, 111, 112, 113, 114, 115, 116, 117, 118, 119, 120, 121, 122, 123, 124, 125, 126, 127, 128, 129, 130, 131, 132, 133, 134, 135, 136, 137, 138, 139, 140, 141, 142, 143, 144, 145, 146, 147, 148, 149, 150, 151, 152, 153, 154, 155, 156, 157, 158, 159, 160, 161, 162, 163] (by decide +kernel) (by decide +kernel)
set_option maxRecDepth 20000 in
theorem gX9_standBy_X9_facts : GoodIn wsX9_standBy (wsV RX9 362 RX9 yX9_facts wsX9_facts) := goodIn_app (goodIn_of _ (by decide +kernel)) ggX9_standBy_X9_facts
set_option maxRecDepth 20000 in
theorem ggX9_standBy_X9_many : GoodIn wsX9_standBy wsX9_many := goodIn_r _ [79, 80, 12, 100, 101, 102, 103, 104, 105, 106, 107, 108, 109, 110, 111, 112, 113, 114, 115, 116, 117, 118, 119, 120, 121, 122, 123, 124, 125, 126, 127, 128, 129, 130, 131, 132, 133, 134, 135, 136, 137, 138, 139, 140, 141, 142, 143, 144, 145, 146, 147, 148, 149, 150, 151, 152, 153, 154, 155, 156, 157, 158, 159, 160, 161, 162, 163] (by decide +kernel) (by decide +kernel)
set_option maxRecDepth 20000 in
theorem gX9_standBy_X9_many : GoodIn wsX9_standBy (wsV RX9 343 RX9 yX9_many wsX9_many) := goodIn_app (goodIn_of _ (by decide +kernel)) ggX9_standBy_X9_many
theorem dX9_standBy_0 : decode cX9_standBy 0 = .ok (.aload_n 0, 1) := by decide +kernel
theorem dX9_standBy_1 : decode cX9_standBy 1 = .ok (.iload_n 2, 1) := by decide +kernel
theorem dX9_standBy_2 : decode cX9_standBy 2 = .ok (.invokevirtual 386, 3) := by decide +kernel
theorem dX9_standBy_5 : decode cX9_standBy 5 = .ok (.aload_n 0, 1) := by decide +kernel
theorem dX9_standBy_6 : decode cX9_standBy 6 = .ok (.invokevirtual 362, 3) := by decide +kernel
theorem dX9_standBy_9 : decode cX9_standBy 9 = .ok (.iload_n 1, 1) := by decide +kernel
theorem dX9_standBy_10 : decode cX9_standBy 10 = .ok (.iconst (-1), 1) := by decide +kernel
theorem dX9_standBy_11 : decode cX9_standBy 11 = .ok (.ixor, 1) := by decide +kernel
theorem dX9_standBy_12 : decode cX9_standBy 12 = .ok (.iand, 1) := by decide +kernel
theorem dX9_standBy_13 : decode cX9_standBy 13 = .ok (.istore_n 3, 1) := by decide +kernel
theorem dX9_standBy_14 : decode cX9_standBy 14 = .ok (.iconst 0, 1) := by decide +kernel
theorem dX9_standBy_15 : decode cX9_standBy 15 = .ok (.istore 4, 2) := by decide +kernel
theorem dX9_standBy_17 : decode cX9_standBy 17 = .ok (.iload 4, 2) := by decide +kernel
theorem dX9_standBy_19 : decode cX9_standBy 19 = .ok (.aload_n 0, 1) := by decide +kernel
theorem dX9_standBy_20 : decode cX9_standBy 20 = .ok (.invokevirtual 343, 3) := by decide +kernel
theorem dX9_standBy_23 : decode cX9_standBy 23 = .ok (.if_icmp .ge 30, 3) := by decide +kernel
theorem dX9_standBy_53 : decode cX9_standBy 53 = .ok (.iconst 1, 1) := by decide +kernel
theorem dX9_standBy_54 : decode cX9_standBy 54 = .ok (.istore 4, 2) := by decide +kernel
theorem dX9_standBy_56 : decode cX9_standBy 56 = .ok (.iload 4, 2) := by decide +kernel
theorem dX9_standBy_58 : decode cX9_standBy 58 = .ok (.aload_n 0, 1) := by decide +kernel
theorem dX9_standBy_59 : decode cX9_standBy 59 = .ok (.invokevirtual 343, 3) := by decide +kernel
theorem dX9_standBy_62 : decode cX9_standBy 62 = .ok (.if_icmp .gt 88, 3) := by decide +kernel
theorem dX9_standBy_150 : decode cX9_standBy 150 = .ok (.iload_n 3, 1) := by decide +kernel
theorem dX9_standBy_151 : decode cX9_standBy 151 = .ok (.ireturn, 1) := by decide +kernel
set_option maxRecDepth 20000 in
theorem ggX9_standNow_X9_standBy : GoodIn wsX9_standNow wsX9_standBy := goodIn_r _ [6, 7, 8, 9, 10, 5, 11, 12, 13, 1, 14, 15, 16, 17, 18, 19, 20, 21, 22, 23, 24, 25, 26, 27, 28, 29, 30, 31, 32, 33, 34, 35, 36, 37, 38, 39, 40, 41, 42, 43, 44, 45, 46, 47, 48, 49, 50, 51, 52, 53, 54, 55, 56, 57, 58, 59, 60, 61, 62, 63, 64, 65, 66, 67, 68, 69, 70, 71, 72, 73, 74, 75, 76, 77, 78, 79, 80, 81, 82, 83, 84, 85, 86, 87, 88, 89, 90, 91, 92, 93, 94, 95, 96, 97, 98, 99, 100, 101, 102, 103, 104, 105, 106, 107, 108, 109, 110, 111, 112, 113, 114, 115, 116, 117, 118, 119, 120, 121, 122, 123, 124, 125, 126, 127, 128, 129, 130, 131, 132, 133, 134, 135, 136, 137, 138, 139, 140, 141, 142, 143, 144, 145, 146, 147, 148, 149, 150, 151, 152, 153, 154, 155, 156, 157, 158, 159, 160, 161, 162, 163, 164, 165, 166, 167] (by decide +kernel) (by decide +kernel)
set_option maxRecDepth 20000 in
theorem gX9_standNow_X9_standBy : GoodIn wsX9_standNow (wsV RX9 396 RX9 yX9_standBy wsX9_standBy) := goodIn_app (goodIn_of _ (by decide +kernel)) ggX9_standNow_X9_standBy
theorem dX9_standNow_0 : decode cX9_standNow 0 = .ok (.aload_n 0, 1) := by decide +kernel
theorem dX9_standNow_1 : decode cX9_standNow 1 = .ok (.aload_n 0, 1) := by decide +kernel
theorem dX9_standNow_2 : decode cX9_standNow 2 = .ok (.getfield 76, 3) := by decide +kernel
theorem dX9_standNow_5 : decode cX9_standNow 5 = .ok (.iconst 0, 1) := by decide +kernel
theorem dX9_standNow_6 : decode cX9_standNow 6 = .ok (.iaload, 1) := by decide +kernel
theorem dX9_standNow_7 : decode cX9_standNow 7 = .ok (.aload_n 0, 1) := by decide +kernel
theorem dX9_standNow_8 : decode cX9_standNow 8 = .ok (.getfield 76, 3) := by decide +kernel
theorem dX9_standNow_11 : decode cX9_standNow 11 = .ok (.iconst 1, 1) := by decide +kernel
theorem dX9_standNow_12 : decode cX9_standNow 12 = .ok (.iaload, 1) := by decide +kernel
theorem dX9_standNow_13 : decode cX9_standNow 13 = .ok (.invokevirtual 396, 3) := by decide +kernel
theorem dX9_standNow_16 : decode cX9_standNow 16 = .ok (.ireturn, 1) := by decide +kernel
set_option maxRecDepth 20000 in
theorem ggX9_standWith_X9_standBy : GoodIn wsX9_standWith wsX9_standBy := goodIn_r _ [6, 7, 8, 9, 10, 5, 11, 12, 13, 1, 14, 15, 16, 17, 18, 19, 20, 21, 22, 23, 24, 25, 26, 27, 28, 29, 30, 31, 32, 33, 34, 35, 36, 37, 38, 39, 40, 41, 42, 43, 44, 45, 46, 47, 48, 49, 50, 51, 52, 53, 54, 55, 56, 57, 58, 59, 60, 61, 62, 63, 64, 65, 66, 67, 68, 69, 70, 71, 72, 73, 74, 75, 76, 77, 78, 79, 80, 81, 82, 83, 84, 85, 86, 87, 88, 89, 90, 91, 92, 93, 94, 95, 96, 97, 98, 99, 100, 101, 102, 103, 104, 105, 106, 107, 108, 109, 110, 111, 112, 113, 114, 115, 116, 117, 118, 119, 120, 121, 122, 123, 124, 125, 126, 127, 128, 129, 130, 131, 132, 133, 134, 135, 136, 137, 138, 139, 140, 141, 142, 143, 144, 145, 146, 147, 148, 149, 150, 151, 152, 153, 154, 155, 156, 157, 158, 159, 160, 161, 162, 163, 164, 165, 166, 167] (by decide +kernel) (by decide +kernel)
set_option maxRecDepth 20000 in
theorem gX9_standWith_X9_standBy : GoodIn wsX9_standWith (wsV RX9 396 RX9 yX9_standBy wsX9_standBy) := goodIn_app (goodIn_of _ (by decide +kernel)) ggX9_standWith_X9_standBy
theorem dX9_standWith_0 : decode cX9_standWith 0 = .ok (.aload_n 0, 1) := by decide +kernel
theorem dX9_standWith_1 : decode cX9_standWith 1 = .ok (.aload_n 0, 1) := by decide +kernel
theorem dX9_standWith_2 : decode cX9_standWith 2 = .ok (.getfield 76, 3) := by decide +kernel
theorem dX9_standWith_5 : decode cX9_standWith 5 = .ok (.iconst 0, 1) := by decide +kernel
theorem dX9_standWith_6 : decode cX9_standWith 6 = .ok (.iaload, 1) := by decide +kernel
theorem dX9_standWith_7 : decode cX9_standWith 7 = .ok (.iload_n 1, 1) := by decide +kernel
theorem dX9_standWith_8 : decode cX9_standWith 8 = .ok (.invokevirtual 396, 3) := by decide +kernel
theorem dX9_standWith_11 : decode cX9_standWith 11 = .ok (.ireturn, 1) := by decide +kernel
set_option maxRecDepth 20000 in
theorem ggX9_claimsNow_X9_standNow : GoodIn wsX9_claimsNow wsX9_standNow := goodIn_r _ [5, 6, 7, 8, 9, 4, 10, 11, 12, 13, 14, 15, 16, 17, 18, 19, 20, 21, 22, 23, 24, 25, 26, 27, 28, 29, 30, 31, 32, 33, 34, 35, 36, 37, 38, 39, 40, 41, 42, 43, 44, 45, 46, 47, 48, 49, 50, 51, 52, 53, 54, 55, 56, 57, 58, 59, 60, 61, 62, 63, 64, 65, 66, 67, 68, 69, 70, 71, 72, 73, 74, 75, 76, 77, 78, 79, 80, 81, 82, 83, 84, 85, 86, 87, 88, 89, 90, 91, 92, 93, 94, 95, 96, 97, 98, 99, 100, 101, 102, 103, 104, 105, 106, 107, 112, 113, 114, 115, 116, 117, 118, 119, 120, 121, 122, 123, 124, 125, 126, 127, 128, 129, 130, 131, 132, 133, 134, 135, 136, 137, 138, 139, 140, 141, 142, 143, 144, 145, 146, 147, 148, 149, 150, 151, 152, 153, 154, 155, 156, 157, 158, 159, 160, 161, 162, 163, 164, 165, 166, 167, 168, 169, 170, 171, 172, 173, 174, 175] (by decide +kernel) (by decide +kernel)
set_option maxRecDepth 20000 in
theorem gX9_claimsNow_X9_standNow : GoodIn wsX9_claimsNow (wsV RX9 402 RX9 yX9_standNow wsX9_standNow) := goodIn_app (goodIn_of _ (by decide +kernel)) ggX9_claimsNow_X9_standNow
set_option maxRecDepth 20000 in
theorem ggX9_claimsNow_X9_claims : GoodIn wsX9_claimsNow wsX9_claims := goodIn_r _ [111, 84, 85, 86, 4, 87, 88, 20, 80, 81, 82, 83, 89, 90, 91, 92, 73, 93, 94, 95, 96, 97, 98, 99, 112, 113, 114, 115, 116, 117, 118, 119, 120, 121, 122, 123, 124, 125, 126, 127, 128, 129, 130, 131, 132, 133, 134, 135, 136, 137, 138, 139, 140, 141, 142, 143, 144, 145, 146, 147, 148, 149, 150, 151, 152, 153, 154, 155, 156, 157, 158, 159, 160, 161, 162, 163, 164, 165, 166, 167, 168, 169, 170, 171, 172, 173, 174, 175] (by decide +kernel) (by decide +kernel)
set_option maxRecDepth 20000 in
theorem gX9_claimsNow_X9_claims : GoodIn wsX9_claimsNow (wsV RX9 405 RX9 yX9_claims wsX9_claims) := goodIn_app (goodIn_of _ (by decide +kernel)) ggX9_claimsNow_X9_claims
set_option maxRecDepth 20000 in
theorem ggX9_claimsNow_X9_bitsOf : GoodIn wsX9_claimsNow wsX9_bitsOf := goodIn_r _ [56] (by decide +kernel) (by decide +kernel)
set_option maxRecDepth 20000 in
theorem gX9_claimsNow_X9_bitsOf : GoodIn wsX9_claimsNow (va_wsS RX9 324 yX9_bitsOf wsX9_bitsOf) := goodIn_app (goodIn_of _ (by decide +kernel)) ggX9_claimsNow_X9_bitsOf
theorem dX9_claimsNow_0 : decode cX9_claimsNow 0 = .ok (.aload_n 0, 1) := by decide +kernel
theorem dX9_claimsNow_1 : decode cX9_claimsNow 1 = .ok (.invokevirtual 402, 3) := by decide +kernel
theorem dX9_claimsNow_4 : decode cX9_claimsNow 4 = .ok (.aload_n 0, 1) := by decide +kernel
theorem dX9_claimsNow_5 : decode cX9_claimsNow 5 = .ok (.invokevirtual 405, 3) := by decide +kernel
theorem dX9_claimsNow_8 : decode cX9_claimsNow 8 = .ok (.iand, 1) := by decide +kernel
theorem dX9_claimsNow_9 : decode cX9_claimsNow 9 = .ok (.invokestatic 324, 3) := by decide +kernel
theorem dX9_claimsNow_12 : decode cX9_claimsNow 12 = .ok (.ireturn, 1) := by decide +kernel
set_option maxRecDepth 20000 in
theorem ggX9_point_X9_isPoint : GoodIn wsX9_point wsX9_isPoint := goodIn_r _ [6, 7, 8, 9, 5, 10, 11, 12, 13, 14, 15, 51, 52, 53, 54, 55, 56, 57, 58, 59, 60, 61, 62, 63, 64, 65, 66, 67, 68, 69, 70, 71, 72, 73, 74, 75, 76, 77, 78, 79, 80, 81, 82, 83, 84, 85, 86, 87, 88, 89, 90, 91, 92, 93, 94, 95, 96, 97, 98, 99, 100, 101, 102, 103, 104, 105, 106, 107, 108, 109, 110, 111, 112, 113, 114] (by decide +kernel) (by decide +kernel)
set_option maxRecDepth 20000 in
theorem gX9_point_X9_isPoint : GoodIn wsX9_point (wsV RX9 353 RX9 yX9_isPoint wsX9_isPoint) := goodIn_app (goodIn_of _ (by decide +kernel)) ggX9_point_X9_isPoint
theorem dX9_point_0 : decode cX9_point 0 = .ok (.aload_n 0, 1) := by decide +kernel
theorem dX9_point_1 : decode cX9_point 1 = .ok (.iload_n 1, 1) := by decide +kernel
theorem dX9_point_2 : decode cX9_point 2 = .ok (.invokevirtual 353, 3) := by decide +kernel
theorem dX9_point_5 : decode cX9_point 5 = .ok (.ifCond .ne 5, 3) := by decide +kernel
theorem dX9_point_8 : decode cX9_point 8 = .ok (.iconst (-1), 1) := by decide +kernel
theorem dX9_point_9 : decode cX9_point 9 = .ok (.ireturn, 1) := by decide +kernel
set_option maxRecDepth 20000 in
theorem ggX9_strand_X9_isThread : GoodIn wsX9_strand wsX9_isThread := goodIn_r _ [7, 8, 9, 10, 6, 11, 12, 13, 14, 15, 16, 78, 79, 80, 81, 82, 83, 84, 85, 86, 87, 88, 89, 90, 91, 92, 93, 94, 95, 96, 97, 98, 99, 100, 101, 102, 103, 104, 105, 106, 107, 108, 109, 110, 111, 112, 113, 114, 115, 116, 117, 118, 119, 120, 121, 122, 123, 124, 125, 126, 127, 128, 129, 130, 131, 132, 133, 134, 135, 136, 137, 138, 139, 140, 141] (by decide +kernel) (by decide +kernel)
set_option maxRecDepth 20000 in
theorem gX9_strand_X9_isThread : GoodIn wsX9_strand (wsV RX9 408 RX9 yX9_isThread wsX9_isThread) := goodIn_app (goodIn_of _ (by decide +kernel)) ggX9_strand_X9_isThread
theorem dX9_strand_0 : decode cX9_strand 0 = .ok (.aload_n 0, 1) := by decide +kernel
theorem dX9_strand_1 : decode cX9_strand 1 = .ok (.iload_n 1, 1) := by decide +kernel
theorem dX9_strand_2 : decode cX9_strand 2 = .ok (.invokevirtual 408, 3) := by decide +kernel
theorem dX9_strand_5 : decode cX9_strand 5 = .ok (.ifCond .ne 5, 3) := by decide +kernel
theorem dX9_strand_8 : decode cX9_strand 8 = .ok (.iconst (-1), 1) := by decide +kernel
theorem dX9_strand_9 : decode cX9_strand 9 = .ok (.ireturn, 1) := by decide +kernel
set_option maxRecDepth 20000 in
theorem ggX9_stands_X9_standNow : GoodIn wsX9_stands wsX9_standNow := goodIn_r _ [5, 6, 7, 8, 9, 4, 10, 11, 12, 13, 14, 15, 16, 17, 18, 19, 20, 21, 22, 23, 24, 25, 26, 27, 28, 29, 30, 31, 32, 33, 34, 35, 36, 37, 38, 39, 40, 41, 42, 43, 44, 45, 46, 47, 48, 49, 50, 51, 52, 53, 54, 55, 56, 57, 58, 59, 60, 61, 62, 63, 64, 65, 66, 67, 68, 69, 70, 71, 72, 73, 74, 75, 76, 77, 78, 79, 80, 81, 82, 83, 84, 85, 86, 87, 88, 89, 90, 91, 92, 93, 94, 95, 96, 97, 98, 99, 100, 101, 102, 103, 104, 105, 106, 107, 108, 109, 110, 111, 112, 113, 114, 115, 116, 117, 118, 119, 120, 121, 122, 123, 124, 125, 126, 127, 128, 129, 130, 131, 132, 133, 134, 135, 136, 137, 138, 139, 140, 141, 142, 143, 144, 145, 146, 147, 148, 149, 150, 151, 152, 153, 154, 155, 156, 157, 158, 159, 160, 161, 162, 163, 164, 165, 166, 167, 168, 169, 170, 171] (by decide +kernel) (by decide +kernel)
set_option maxRecDepth 20000 in
theorem gX9_stands_X9_standNow : GoodIn wsX9_stands (wsV RX9 402 RX9 yX9_standNow wsX9_standNow) := goodIn_app (goodIn_of _ (by decide +kernel)) ggX9_stands_X9_standNow
theorem dX9_stands_0 : decode cX9_stands 0 = .ok (.aload_n 0, 1) := by decide +kernel
theorem dX9_stands_1 : decode cX9_stands 1 = .ok (.invokevirtual 402, 3) := by decide +kernel
theorem dX9_stands_4 : decode cX9_stands 4 = .ok (.ireturn, 1) := by decide +kernel
set_option maxRecDepth 20000 in
theorem ggX9_tight_X9_layWeights : GoodIn wsX9_tight wsX9_layWeights := goodIn_r _ [6, 7, 8, 1, 9, 10, 11, 12, 13, 14, 5, 15, 16, 17, 18, 19, 20, 21, 22, 23, 24, 25, 26, 27, 28, 29, 30, 31, 32, 33, 34, 35, 36, 37, 38, 39, 40, 41, 42, 43, 44, 45, 46, 47, 48, 49, 50, 51, 52, 53, 54, 55, 56, 57, 58, 59, 60, 61, 62, 63, 64, 65, 66, 67, 68, 69, 70, 103, 104, 105, 106, 107, 108, 109, 110, 111, 112, 113, 114, 115, 116, 117, 118, 119, 120, 121, 122, 123, 124, 125, 126, 127, 128, 129, 130, 131, 132, 133, 134, 135, 136, 137, 138, 139, 140, 141, 142, 143, 144, 145, 146, 147, 148, 149, 150, 151, 152, 153, 154, 155, 156, 157, 158, 159, 160, 161, 162, 163, 164, 165, 166] (by decide +kernel) (by decide +kernel)
set_option maxRecDepth 20000 in
theorem gX9_tight_X9_layWeights : GoodIn wsX9_tight (wsV RX9 386 RX9 yX9_layWeights wsX9_layWeights) := goodIn_app (goodIn_of _ (by decide +kernel)) ggX9_tight_X9_layWeights
set_option maxRecDepth 20000 in
theorem ggX9_tight_X9_facts : GoodIn wsX9_tight wsX9_facts := goodIn_r _ [74, 75, 76, 77, 5, 78, 79, 11, 80, 81, 82, 83, 64, 84, 85, 86, 87, 88, 89, 90, 103, 104, 105, 106, 107, 108, 109, 110, 111, 112, 113, 114, 115, 116, 117, 118, 119, 120, 121, 122, 123, 124, 125, 126, 127, 128, 129, 130, 131, 132, 133, 134, 135, 136, 137, 138, 139, 140, 141, 142, 143, 144, 145, 146, 147, 148, 149, 150, 151, 152, 153, 154, 155, 156, 157, 158, 159, 160, 161, 162, 163, 164, 165, 166] (by decide +kernel) (by decide +kernel)
set_option maxRecDepth 20000 in
theorem gX9_tight_X9_facts : GoodIn wsX9_tight (wsV RX9 362 RX9 yX9_facts wsX9_facts) := goodIn_app (goodIn_of _ (by decide +kernel)) ggX9_tight_X9_facts
set_option maxRecDepth 20000 in
theorem ggX9_tight_X9_claims : GoodIn wsX9_tight wsX9_claims := goodIn_r _ [94, 75, 76, 77, 5, 78, 79, 11, 71, 72, 73, 74, 80, 81, 82, 83, 64, 84, 85, 86, 87, 88, 89, 90, 103, 104, 105, 106, 107, 108, 109, 110, 111, 112, 113, 114, 115, 116, 117, 118, 119, 120, 121, 122, 123, 124, 125, 126, 127, 128, 129, 130, 131, 132, 133, 134, 135, 136, 137, 138, 139, 140, 141, 142, 143, 144, 145, 146, 147, 148, 149, 150, 151, 152, 153, 154, 155, 156, 157, 158, 159, 160, 161, 162, 163, 164, 165, 166] (by decide +kernel) (by decide +kernel)
set_option maxRecDepth 20000 in
theorem gX9_tight_X9_claims : GoodIn wsX9_tight (wsV RX9 405 RX9 yX9_claims wsX9_claims) := goodIn_app (goodIn_of _ (by decide +kernel)) ggX9_tight_X9_claims
set_option maxRecDepth 20000 in
theorem ggX9_tight_X9_many : GoodIn wsX9_tight wsX9_many := goodIn_r _ [78, 79, 11, 103, 104, 105, 106, 107, 108, 109, 110, 111, 112, 113, 114, 115, 116, 117, 118, 119, 120, 121, 122, 123, 124, 125, 126, 127, 128, 129, 130, 131, 132, 133, 134, 135, 136, 137, 138, 139, 140, 141, 142, 143, 144, 145, 146, 147, 148, 149, 150, 151, 152, 153, 154, 155, 156, 157, 158, 159, 160, 161, 162, 163, 164, 165, 166] (by decide +kernel) (by decide +kernel)
set_option maxRecDepth 20000 in
theorem gX9_tight_X9_many : GoodIn wsX9_tight (wsV RX9 343 RX9 yX9_many wsX9_many) := goodIn_app (goodIn_of _ (by decide +kernel)) ggX9_tight_X9_many
theorem dX9_tight_0 : decode cX9_tight 0 = .ok (.aload_n 0, 1) := by decide +kernel
theorem dX9_tight_1 : decode cX9_tight 1 = .ok (.aload_n 0, 1) := by decide +kernel
theorem dX9_tight_2 : decode cX9_tight 2 = .ok (.getfield 76, 3) := by decide +kernel
theorem dX9_tight_5 : decode cX9_tight 5 = .ok (.iconst 1, 1) := by decide +kernel
theorem dX9_tight_6 : decode cX9_tight 6 = .ok (.iaload, 1) := by decide +kernel
theorem dX9_tight_7 : decode cX9_tight 7 = .ok (.invokevirtual 386, 3) := by decide +kernel
theorem dX9_tight_10 : decode cX9_tight 10 = .ok (.aload_n 0, 1) := by decide +kernel
theorem dX9_tight_11 : decode cX9_tight 11 = .ok (.invokevirtual 362, 3) := by decide +kernel
theorem dX9_tight_14 : decode cX9_tight 14 = .ok (.aload_n 0, 1) := by decide +kernel
theorem dX9_tight_15 : decode cX9_tight 15 = .ok (.getfield 76, 3) := by decide +kernel
theorem dX9_tight_18 : decode cX9_tight 18 = .ok (.iconst 0, 1) := by decide +kernel
theorem dX9_tight_19 : decode cX9_tight 19 = .ok (.iaload, 1) := by decide +kernel
theorem dX9_tight_20 : decode cX9_tight 20 = .ok (.iconst (-1), 1) := by decide +kernel
theorem dX9_tight_21 : decode cX9_tight 21 = .ok (.ixor, 1) := by decide +kernel
theorem dX9_tight_22 : decode cX9_tight 22 = .ok (.iand, 1) := by decide +kernel
theorem dX9_tight_23 : decode cX9_tight 23 = .ok (.aload_n 0, 1) := by decide +kernel
theorem dX9_tight_24 : decode cX9_tight 24 = .ok (.invokevirtual 405, 3) := by decide +kernel
theorem dX9_tight_27 : decode cX9_tight 27 = .ok (.ior, 1) := by decide +kernel
theorem dX9_tight_28 : decode cX9_tight 28 = .ok (.istore_n 1, 1) := by decide +kernel
theorem dX9_tight_29 : decode cX9_tight 29 = .ok (.iconst 0, 1) := by decide +kernel
theorem dX9_tight_30 : decode cX9_tight 30 = .ok (.istore_n 2, 1) := by decide +kernel
theorem dX9_tight_31 : decode cX9_tight 31 = .ok (.iload_n 2, 1) := by decide +kernel
theorem dX9_tight_32 : decode cX9_tight 32 = .ok (.aload_n 0, 1) := by decide +kernel
theorem dX9_tight_33 : decode cX9_tight 33 = .ok (.invokevirtual 343, 3) := by decide +kernel
theorem dX9_tight_36 : decode cX9_tight 36 = .ok (.if_icmp .ge 55, 3) := by decide +kernel
theorem dX9_tight_91 : decode cX9_tight 91 = .ok (.iload_n 1, 1) := by decide +kernel
theorem dX9_tight_92 : decode cX9_tight 92 = .ok (.ireturn, 1) := by decide +kernel
set_option maxRecDepth 20000 in
theorem ggX9_hollow_X9_tight : GoodIn wsX9_hollow wsX9_tight := goodIn_r _ [5, 6, 7, 8, 9, 4, 10, 11, 12, 13, 14, 15, 16, 17, 18, 19, 20, 21, 22, 23, 24, 25, 26, 27, 28, 29, 30, 31, 32, 33, 34, 35, 36, 37, 38, 39, 40, 41, 42, 43, 44, 45, 46, 47, 48, 49, 50, 51, 52, 53, 54, 55, 56, 57, 58, 59, 60, 61, 62, 63, 64, 65, 66, 67, 68, 69, 70, 71, 72, 73, 74, 75, 76, 77, 78, 79, 80, 81, 82, 83, 84, 85, 86, 87, 88, 89, 90, 91, 92, 93, 94, 95, 96, 97, 98, 99, 100, 101, 102, 103, 104, 105, 106, 116, 117, 118, 119, 120, 121, 122, 123, 124, 125, 126, 127, 128, 129, 130, 131, 132, 133, 134, 135, 136, 137, 138, 139, 140, 141, 142, 143, 144, 145, 146, 147, 148, 149, 150, 151, 152, 153, 154, 155, 156, 157, 158, 159, 160, 161, 162, 163, 164, 165, 166, 167, 168, 169, 170, 171, 172, 173, 174, 175, 176, 177, 178, 179] (by decide +kernel) (by decide +kernel)
set_option maxRecDepth 20000 in
theorem gX9_hollow_X9_tight : GoodIn wsX9_hollow (wsV RX9 411 RX9 yX9_tight wsX9_tight) := goodIn_app (goodIn_of _ (by decide +kernel)) ggX9_hollow_X9_tight
set_option maxRecDepth 20000 in
theorem ggX9_hollow_X9_standNow : GoodIn wsX9_hollow wsX9_standNow := goodIn_r _ [110, 6, 111, 112, 113, 4, 114, 115, 7, 8, 9, 10, 11, 12, 13, 14, 15, 16, 17, 18, 19, 20, 21, 22, 23, 24, 25, 26, 27, 28, 29, 30, 31, 32, 33, 34, 35, 36, 37, 38, 39, 40, 41, 42, 43, 44, 45, 46, 47, 48, 49, 50, 51, 52, 53, 54, 55, 56, 57, 58, 59, 60, 61, 62, 63, 64, 65, 66, 67, 68, 69, 70, 71, 72, 73, 74, 75, 76, 77, 78, 79, 80, 81, 82, 83, 84, 85, 86, 87, 88, 89, 90, 91, 92, 93, 94, 99, 100, 101, 102, 103, 104, 105, 106, 116, 117, 118, 119, 120, 121, 122, 123, 124, 125, 126, 127, 128, 129, 130, 131, 132, 133, 134, 135, 136, 137, 138, 139, 140, 141, 142, 143, 144, 145, 146, 147, 148, 149, 150, 151, 152, 153, 154, 155, 156, 157, 158, 159, 160, 161, 162, 163, 164, 165, 166, 167, 168, 169, 170, 171, 172, 173, 174, 175, 176, 177, 178, 179] (by decide +kernel) (by decide +kernel)
set_option maxRecDepth 20000 in
theorem gX9_hollow_X9_standNow : GoodIn wsX9_hollow (wsV RX9 402 RX9 yX9_standNow wsX9_standNow) := goodIn_app (goodIn_of _ (by decide +kernel)) ggX9_hollow_X9_standNow
theorem dX9_hollow_0 : decode cX9_hollow 0 = .ok (.aload_n 0, 1) := by decide +kernel
theorem dX9_hollow_1 : decode cX9_hollow 1 = .ok (.invokevirtual 411, 3) := by decide +kernel
theorem dX9_hollow_4 : decode cX9_hollow 4 = .ok (.istore_n 1, 1) := by decide +kernel
theorem dX9_hollow_5 : decode cX9_hollow 5 = .ok (.iload_n 1, 1) := by decide +kernel
theorem dX9_hollow_6 : decode cX9_hollow 6 = .ok (.aload_n 0, 1) := by decide +kernel
theorem dX9_hollow_7 : decode cX9_hollow 7 = .ok (.invokevirtual 402, 3) := by decide +kernel
theorem dX9_hollow_10 : decode cX9_hollow 10 = .ok (.iconst (-1), 1) := by decide +kernel
theorem dX9_hollow_11 : decode cX9_hollow 11 = .ok (.ixor, 1) := by decide +kernel
theorem dX9_hollow_12 : decode cX9_hollow 12 = .ok (.iand, 1) := by decide +kernel
theorem dX9_hollow_13 : decode cX9_hollow 13 = .ok (.ireturn, 1) := by decide +kernel
set_option maxRecDepth 20000 in
theorem ggX9_lack_X9_isClaim : GoodIn wsX9_lack wsX9_isClaim := goodIn_r _ [5, 6, 7, 8, 9, 10, 4, 11, 12, 13, 14, 15, 16, 17, 18, 19, 108, 109, 110, 111, 112, 113, 114, 115, 116, 117, 118, 119, 120, 121, 122, 123, 124, 125, 126, 127, 128, 129, 130, 131, 132, 133, 134, 135, 136, 137, 138, 139, 140, 141, 142, 143, 144, 145, 146, 147, 148, 149, 150, 151, 152, 153, 154, 155, 156, 157, 158, 159, 160, 161, 162, 163, 164, 165, 166, 167, 168, 169, 170, 171] (by decide +kernel) (by decide +kernel)
set_option maxRecDepth 20000 in
theorem gX9_lack_X9_isClaim : GoodIn wsX9_lack (wsV RX9 390 RX9 yX9_isClaim wsX9_isClaim) := goodIn_app (goodIn_of _ (by decide +kernel)) ggX9_lack_X9_isClaim
theorem dX9_lack_0 : decode cX9_lack 0 = .ok (.aload_n 0, 1) := by decide +kernel
theorem dX9_lack_1 : decode cX9_lack 1 = .ok (.iload_n 1, 1) := by decide +kernel
theorem dX9_lack_2 : decode cX9_lack 2 = .ok (.invokevirtual 390, 3) := by decide +kernel
theorem dX9_lack_5 : decode cX9_lack 5 = .ok (.ifCond .ne 5, 3) := by decide +kernel
theorem dX9_lack_8 : decode cX9_lack 8 = .ok (.iconst (-1), 1) := by decide +kernel
theorem dX9_lack_9 : decode cX9_lack 9 = .ok (.ireturn, 1) := by decide +kernel
set_option maxRecDepth 20000 in
theorem ggX9_rank_X9_isPoint : GoodIn wsX9_rank wsX9_isPoint := goodIn_r _ [6, 7, 8, 9, 5, 10, 11, 12, 13, 14, 15, 108, 109, 110, 111, 112, 113, 114, 115, 116, 117, 118, 119, 120, 121, 122, 123, 124, 125, 126, 127, 128, 129, 130, 131, 132, 133, 134, 135, 136, 137, 138, 139, 140, 141, 142, 143, 144, 145, 146, 147, 148, 149, 150, 151, 152, 153, 154, 155, 156, 157, 158, 159, 160, 161, 162, 163, 164, 165, 166, 167, 168, 169, 170, 171] (by decide +kernel) (by decide +kernel)
set_option maxRecDepth 20000 in
theorem gX9_rank_X9_isPoint : GoodIn wsX9_rank (wsV RX9 353 RX9 yX9_isPoint wsX9_isPoint) := goodIn_app (goodIn_of _ (by decide +kernel)) ggX9_rank_X9_isPoint
theorem dX9_rank_0 : decode cX9_rank 0 = .ok (.aload_n 0, 1) := by decide +kernel
theorem dX9_rank_1 : decode cX9_rank 1 = .ok (.iload_n 1, 1) := by decide +kernel
theorem dX9_rank_2 : decode cX9_rank 2 = .ok (.invokevirtual 353, 3) := by decide +kernel
theorem dX9_rank_5 : decode cX9_rank 5 = .ok (.ifCond .ne 5, 3) := by decide +kernel
theorem dX9_rank_8 : decode cX9_rank 8 = .ok (.iconst (-1), 1) := by decide +kernel
theorem dX9_rank_9 : decode cX9_rank 9 = .ok (.ireturn, 1) := by decide +kernel
set_option maxRecDepth 20000 in
theorem ggX9_depth_X9_standNow : GoodIn wsX9_depth wsX9_standNow := goodIn_r _ [6, 7, 8, 9, 10, 5, 11, 1, 12, 13, 14, 15, 16, 17, 18, 19, 20, 21, 22, 23, 24, 25, 26, 27, 28, 29, 30, 31, 32, 33, 34, 35, 36, 37, 38, 39, 40, 41, 42, 43, 44, 45, 46, 47, 48, 49, 50, 51, 52, 53, 54, 55, 56, 57, 58, 59, 60, 61, 62, 63, 64, 65, 66, 67, 68, 69, 70, 71, 72, 73, 74, 75, 76, 77, 78, 79, 80, 81, 82, 83, 84, 85, 86, 87, 88, 89, 90, 91, 92, 93, 94, 95, 96, 97, 98, 99, 100, 101, 102, 103, 104, 105, 106, 107, 108, 109, 110, 111, 112, 113, 114, 115, 116, 117, 118, 119, 120, 121, 122, 123, 124, 125, 126, 127, 128, 129, 130, 131, 132, 133, 134, 135, 136, 137, 138, 139, 140, 141, 142, 143, 144, 145, 146, 147, 148, 149, 150, 151, 152, 153, 154, 155, 156, 157, 158, 159, 160, 161, 162, 163, 164, 165, 166, 167, 168, 169, 170, 171] (by decide +kernel) (by decide +kernel)
set_option maxRecDepth 20000 in
theorem gX9_depth_X9_standNow : GoodIn wsX9_depth (wsV RX9 402 RX9 yX9_standNow wsX9_standNow) := goodIn_app (goodIn_of _ (by decide +kernel)) ggX9_depth_X9_standNow
set_option maxRecDepth 20000 in
theorem ggX9_depth_X9_many : GoodIn wsX9_depth wsX9_many := goodIn_r _ [87, 88, 20, 108, 109, 110, 111, 112, 113, 114, 115, 116, 117, 118, 119, 120, 121, 122, 123, 124, 125, 126, 127, 128, 129, 130, 131, 132, 133, 134, 135, 136, 137, 138, 139, 140, 141, 142, 143, 144, 145, 146, 147, 148, 149, 150, 151, 152, 153, 154, 155, 156, 157, 158, 159, 160, 161, 162, 163, 164, 165, 166, 167, 168, 169, 170, 171] (by decide +kernel) (by decide +kernel)
set_option maxRecDepth 20000 in
theorem gX9_depth_X9_many : GoodIn wsX9_depth (wsV RX9 343 RX9 yX9_many wsX9_many) := goodIn_app (goodIn_of _ (by decide +kernel)) ggX9_depth_X9_many
theorem dX9_depth_0 : decode cX9_depth 0 = .ok (.aload_n 0, 1) := by decide +kernel
theorem dX9_depth_1 : decode cX9_depth 1 = .ok (.invokevirtual 402, 3) := by decide +kernel
theorem dX9_depth_4 : decode cX9_depth 4 = .ok (.istore_n 1, 1) := by decide +kernel
theorem dX9_depth_5 : decode cX9_depth 5 = .ok (.iconst (-1), 1) := by decide +kernel
theorem dX9_depth_6 : decode cX9_depth 6 = .ok (.istore_n 2, 1) := by decide +kernel
theorem dX9_depth_7 : decode cX9_depth 7 = .ok (.iconst 0, 1) := by decide +kernel
theorem dX9_depth_8 : decode cX9_depth 8 = .ok (.istore_n 3, 1) := by decide +kernel
theorem dX9_depth_9 : decode cX9_depth 9 = .ok (.iload_n 3, 1) := by decide +kernel
theorem dX9_depth_10 : decode cX9_depth 10 = .ok (.aload_n 0, 1) := by decide +kernel
theorem dX9_depth_11 : decode cX9_depth 11 = .ok (.invokevirtual 343, 3) := by decide +kernel
theorem dX9_depth_14 : decode cX9_depth 14 = .ok (.if_icmp .ge 34, 3) := by decide +kernel
theorem dX9_depth_48 : decode cX9_depth 48 = .ok (.iload_n 2, 1) := by decide +kernel
theorem dX9_depth_49 : decode cX9_depth 49 = .ok (.ireturn, 1) := by decide +kernel
set_option maxRecDepth 20000 in
theorem ggX9_firmest_X9_isIn : GoodIn wsX9_firmest wsX9_isIn := goodIn_r _ [4] (by decide +kernel) (by decide +kernel)
set_option maxRecDepth 20000 in
theorem gX9_firmest_X9_isIn : GoodIn wsX9_firmest (va_wsS RX9 346 yX9_isIn wsX9_isIn) := goodIn_app (goodIn_of _ (by decide +kernel)) ggX9_firmest_X9_isIn
set_option maxRecDepth 20000 in
theorem ggX9_firmest_X9_standNow : GoodIn wsX9_firmest wsX9_standNow := goodIn_r _ [8, 9, 10, 11, 12, 3, 13, 14, 15, 16, 17, 18, 19, 20, 21, 22, 23, 24, 25, 26, 27, 28, 29, 30, 31, 32, 33, 34, 35, 36, 37, 38, 39, 40, 41, 42, 43, 44, 45, 46, 47, 48, 49, 50, 51, 52, 53, 54, 55, 56, 57, 58, 59, 60, 61, 62, 63, 64, 65, 66, 67, 68, 69, 70, 71, 72, 73, 74, 75, 76, 77, 78, 79, 80, 81, 82, 83, 84, 85, 86, 87, 88, 89, 90, 91, 92, 93, 94, 95, 96, 97, 98, 99, 1, 2, 4, 100, 101, 102, 103, 104, 105, 106, 107, 108, 109, 110, 111, 112, 113, 114, 115, 116, 117, 118, 119, 120, 121, 122, 123, 124, 125, 126, 127, 128, 129, 130, 131, 132, 133, 134, 135, 136, 137, 138, 139, 140, 141, 142, 143, 144, 145, 146, 147, 148, 149, 150, 151, 152, 153, 154, 155, 156, 157, 158, 159, 160, 161, 162, 163, 164, 165, 166, 167, 168, 169, 170, 171] (by decide +kernel) (by decide +kernel)
set_option maxRecDepth 20000 in
theorem gX9_firmest_X9_standNow : GoodIn wsX9_firmest (wsV RX9 402 RX9 yX9_standNow wsX9_standNow) := goodIn_app (goodIn_of _ (by decide +kernel)) ggX9_firmest_X9_standNow
set_option maxRecDepth 20000 in
theorem ggX9_firmest_X9_many : GoodIn wsX9_firmest wsX9_many := goodIn_r _ [90, 91, 23, 108, 109, 110, 111, 112, 113, 114, 115, 116, 117, 118, 119, 120, 121, 122, 123, 124, 125, 126, 127, 128, 129, 130, 131, 132, 133, 134, 135, 136, 137, 138, 139, 140, 141, 142, 143, 144, 145, 146, 147, 148, 149, 150, 151, 152, 153, 154, 155, 156, 157, 158, 159, 160, 161, 162, 163, 164, 165, 166, 167, 168, 169, 170, 171] (by decide +kernel) (by decide +kernel)
set_option maxRecDepth 20000 in
theorem gX9_firmest_X9_many : GoodIn wsX9_firmest (wsV RX9 343 RX9 yX9_many wsX9_many) := goodIn_app (goodIn_of _ (by decide +kernel)) ggX9_firmest_X9_many
theorem dX9_firmest_0 : decode cX9_firmest 0 = .ok (.iload_n 1, 1) := by decide +kernel
theorem dX9_firmest_1 : decode cX9_firmest 1 = .ok (.iconst 0, 1) := by decide +kernel
theorem dX9_firmest_2 : decode cX9_firmest 2 = .ok (.iconst 1, 1) := by decide +kernel
theorem dX9_firmest_3 : decode cX9_firmest 3 = .ok (.invokestatic 346, 3) := by decide +kernel
theorem dX9_firmest_6 : decode cX9_firmest 6 = .ok (.ifCond .ne 5, 3) := by decide +kernel
theorem dX9_firmest_9 : decode cX9_firmest 9 = .ok (.iconst (-1), 1) := by decide +kernel
theorem dX9_firmest_10 : decode cX9_firmest 10 = .ok (.ireturn, 1) := by decide +kernel
theorem dX9_firmest_11 : decode cX9_firmest 11 = .ok (.aload_n 0, 1) := by decide +kernel
theorem dX9_firmest_12 : decode cX9_firmest 12 = .ok (.invokevirtual 402, 3) := by decide +kernel
theorem dX9_firmest_15 : decode cX9_firmest 15 = .ok (.istore_n 2, 1) := by decide +kernel
theorem dX9_firmest_16 : decode cX9_firmest 16 = .ok (.iconst (-1), 1) := by decide +kernel
theorem dX9_firmest_17 : decode cX9_firmest 17 = .ok (.istore_n 3, 1) := by decide +kernel
theorem dX9_firmest_18 : decode cX9_firmest 18 = .ok (.iconst (-1), 1) := by decide +kernel
theorem dX9_firmest_19 : decode cX9_firmest 19 = .ok (.istore 4, 2) := by decide +kernel
theorem dX9_firmest_21 : decode cX9_firmest 21 = .ok (.iconst 0, 1) := by decide +kernel
theorem dX9_firmest_22 : decode cX9_firmest 22 = .ok (.istore 5, 2) := by decide +kernel
theorem dX9_firmest_24 : decode cX9_firmest 24 = .ok (.iload 5, 2) := by decide +kernel
theorem dX9_firmest_26 : decode cX9_firmest 26 = .ok (.aload_n 0, 1) := by decide +kernel
theorem dX9_firmest_27 : decode cX9_firmest 27 = .ok (.invokevirtual 343, 3) := by decide +kernel
theorem dX9_firmest_30 : decode cX9_firmest 30 = .ok (.if_icmp .ge 64, 3) := by decide +kernel
theorem dX9_firmest_94 : decode cX9_firmest 94 = .ok (.iload_n 1, 1) := by decide +kernel
theorem dX9_firmest_95 : decode cX9_firmest 95 = .ok (.ifCond .ne 7, 3) := by decide +kernel
theorem dX9_firmest_98 : decode cX9_firmest 98 = .ok (.iload_n 3, 1) := by decide +kernel
theorem dX9_firmest_99 : decode cX9_firmest 99 = .ok (.goto 5, 3) := by decide +kernel
theorem dX9_firmest_102 : decode cX9_firmest 102 = .ok (.iload 4, 2) := by decide +kernel
theorem dX9_firmest_104 : decode cX9_firmest 104 = .ok (.ireturn, 1) := by decide +kernel
set_option maxRecDepth 20000 in
theorem ggX9_burdened_X9_many : GoodIn wsX9_burdened wsX9_many := goodIn_r _ [6, 7, 8, 26, 27, 28, 29, 30, 31, 32, 33, 34, 35, 36, 37, 38, 39, 40, 41, 42, 43, 44, 45, 46, 47, 48, 49, 50, 51, 52, 53, 54, 55, 56, 57, 58, 59, 60, 61, 62, 63, 64, 65, 66, 67, 68, 69, 70, 71, 72, 73, 74, 75, 76, 77, 78, 79, 80, 81, 82, 83, 84, 85, 86, 87, 88, 89] (by decide +kernel) (by decide +kernel)
set_option maxRecDepth 20000 in
theorem gX9_burdened_X9_many : GoodIn wsX9_burdened (wsV RX9 343 RX9 yX9_many wsX9_many) := goodIn_app (goodIn_of _ (by decide +kernel)) ggX9_burdened_X9_many
theorem dX9_burdened_0 : decode cX9_burdened 0 = .ok (.iconst (-1), 1) := by decide +kernel
theorem dX9_burdened_1 : decode cX9_burdened 1 = .ok (.istore_n 1, 1) := by decide +kernel
theorem dX9_burdened_2 : decode cX9_burdened 2 = .ok (.iconst 0, 1) := by decide +kernel
theorem dX9_burdened_3 : decode cX9_burdened 3 = .ok (.istore_n 2, 1) := by decide +kernel
theorem dX9_burdened_4 : decode cX9_burdened 4 = .ok (.iload_n 2, 1) := by decide +kernel
theorem dX9_burdened_5 : decode cX9_burdened 5 = .ok (.aload_n 0, 1) := by decide +kernel
theorem dX9_burdened_6 : decode cX9_burdened 6 = .ok (.invokevirtual 343, 3) := by decide +kernel
theorem dX9_burdened_9 : decode cX9_burdened 9 = .ok (.if_icmp .ge 48, 3) := by decide +kernel
theorem dX9_burdened_57 : decode cX9_burdened 57 = .ok (.iload_n 1, 1) := by decide +kernel
theorem dX9_burdened_58 : decode cX9_burdened 58 = .ok (.ireturn, 1) := by decide +kernel
set_option maxRecDepth 20000 in
theorem ggX9_gaps_X9_many : GoodIn wsX9_gaps wsX9_many := goodIn_r _ [6, 7, 8, 35, 36, 37, 38, 39, 40, 41, 42, 43, 44, 45, 46, 47, 48, 49, 50, 51, 52, 53, 54, 55, 56, 57, 58, 59, 60, 61, 62, 63, 64, 65, 66, 67, 68, 69, 70, 71, 72, 73, 74, 75, 76, 77, 78, 79, 80, 81, 82, 83, 84, 85, 86, 87, 88, 89, 90, 91, 92, 93, 94, 95, 96, 97, 98] (by decide +kernel) (by decide +kernel)
set_option maxRecDepth 20000 in
theorem gX9_gaps_X9_many : GoodIn wsX9_gaps (wsV RX9 343 RX9 yX9_many wsX9_many) := goodIn_app (goodIn_of _ (by decide +kernel)) ggX9_gaps_X9_many
theorem dX9_gaps_0 : decode cX9_gaps 0 = .ok (.iconst 0, 1) := by decide +kernel
theorem dX9_gaps_1 : decode cX9_gaps 1 = .ok (.istore_n 1, 1) := by decide +kernel
theorem dX9_gaps_2 : decode cX9_gaps 2 = .ok (.iconst 0, 1) := by decide +kernel
theorem dX9_gaps_3 : decode cX9_gaps 3 = .ok (.istore_n 2, 1) := by decide +kernel
theorem dX9_gaps_4 : decode cX9_gaps 4 = .ok (.iload_n 2, 1) := by decide +kernel
theorem dX9_gaps_5 : decode cX9_gaps 5 = .ok (.aload_n 0, 1) := by decide +kernel
theorem dX9_gaps_6 : decode cX9_gaps 6 = .ok (.invokevirtual 343, 3) := by decide +kernel
theorem dX9_gaps_9 : decode cX9_gaps 9 = .ok (.if_icmp .ge 38, 3) := by decide +kernel
theorem dX9_gaps_47 : decode cX9_gaps 47 = .ok (.iload_n 1, 1) := by decide +kernel
theorem dX9_gaps_48 : decode cX9_gaps 48 = .ok (.ireturn, 1) := by decide +kernel
set_option maxRecDepth 20000 in
theorem ggX9_weakest_X9_layWeights : GoodIn wsX9_weakest wsX9_layWeights := goodIn_r _ [7, 8, 9, 1, 2, 10, 11, 12, 13, 14, 6, 15, 16, 17, 18, 19, 20, 21, 22, 23, 24, 25, 26, 27, 28, 29, 30, 31, 32, 33, 34, 35, 36, 37, 38, 39, 40, 41, 42, 43, 44, 45, 46, 47, 48, 49, 50, 51, 52, 53, 54, 55, 56, 57, 58, 59, 60, 61, 62, 63, 64, 65, 66, 67, 68, 69, 70, 71, 72, 73, 74, 75, 76, 77, 78, 79, 80, 81, 82, 83, 84, 85, 86, 87, 88, 89, 90, 91, 92, 93, 94, 95, 96, 97, 98, 99, 100, 101, 102, 103, 104, 105, 106, 107, 108, 109, 110, 111, 112, 113, 114, 115, 116, 117, 118, 119, 120, 121, 122, 123, 124, 125, 126, 127, 128, 129, 130, 131, 132, 133, 134] (by decide +kernel) (by decide +kernel)
set_option maxRecDepth 20000 in
theorem gX9_weakest_X9_layWeights : GoodIn wsX9_weakest (wsV RX9 386 RX9 yX9_layWeights wsX9_layWeights) := goodIn_app (goodIn_of _ (by decide +kernel)) ggX9_weakest_X9_layWeights
set_option maxRecDepth 20000 in
theorem ggX9_weakest_X9_threads : GoodIn wsX9_weakest wsX9_threads := goodIn_r _ [15, 16, 11, 71, 72, 73, 74, 75, 76, 77, 78, 79, 80, 81, 82, 83, 84, 85, 86, 87, 88, 89, 90, 91, 92, 93, 94, 95, 96, 97, 98, 99, 100, 101, 102, 103, 104, 105, 106, 107, 108, 109, 110, 111, 112, 113, 114, 115, 116, 117, 118, 119, 120, 121, 122, 123, 124, 125, 126, 127, 128, 129, 130, 131, 132, 133, 134] (by decide +kernel) (by decide +kernel)
set_option maxRecDepth 20000 in
theorem gX9_weakest_X9_threads : GoodIn wsX9_weakest (wsV RX9 350 RX9 yX9_threads wsX9_threads) := goodIn_app (goodIn_of _ (by decide +kernel)) ggX9_weakest_X9_threads
theorem dX9_weakest_0 : decode cX9_weakest 0 = .ok (.aload_n 0, 1) := by decide +kernel
theorem dX9_weakest_1 : decode cX9_weakest 1 = .ok (.aload_n 0, 1) := by decide +kernel
theorem dX9_weakest_2 : decode cX9_weakest 2 = .ok (.getfield 76, 3) := by decide +kernel
theorem dX9_weakest_5 : decode cX9_weakest 5 = .ok (.iconst 1, 1) := by decide +kernel
theorem dX9_weakest_6 : decode cX9_weakest 6 = .ok (.iaload, 1) := by decide +kernel
theorem dX9_weakest_7 : decode cX9_weakest 7 = .ok (.invokevirtual 386, 3) := by decide +kernel
theorem dX9_weakest_10 : decode cX9_weakest 10 = .ok (.iconst (-1), 1) := by decide +kernel
theorem dX9_weakest_11 : decode cX9_weakest 11 = .ok (.istore_n 1, 1) := by decide +kernel
theorem dX9_weakest_12 : decode cX9_weakest 12 = .ok (.iconst 0, 1) := by decide +kernel
theorem dX9_weakest_13 : decode cX9_weakest 13 = .ok (.istore_n 2, 1) := by decide +kernel
theorem dX9_weakest_14 : decode cX9_weakest 14 = .ok (.iload_n 2, 1) := by decide +kernel
theorem dX9_weakest_15 : decode cX9_weakest 15 = .ok (.aload_n 0, 1) := by decide +kernel
theorem dX9_weakest_16 : decode cX9_weakest 16 = .ok (.invokevirtual 350, 3) := by decide +kernel
theorem dX9_weakest_19 : decode cX9_weakest 19 = .ok (.if_icmp .ge 43, 3) := by decide +kernel
theorem dX9_weakest_62 : decode cX9_weakest 62 = .ok (.iload_n 1, 1) := by decide +kernel
theorem dX9_weakest_63 : decode cX9_weakest 63 = .ok (.ireturn, 1) := by decide +kernel
set_option maxRecDepth 20000 in
theorem ggX9_best_X9_isClaim : GoodIn wsX9_best wsX9_isClaim := goodIn_r _ [6, 7, 8, 9, 10, 11, 5, 12, 13, 14, 15, 16, 17, 18, 19, 20, 108, 109, 110, 111, 112, 113, 114, 115, 116, 117, 118, 119, 120, 121, 122, 123, 124, 125, 126, 127, 128, 129, 130, 131, 132, 133, 134, 135, 136, 137, 138, 139, 140, 141, 142, 143, 144, 145, 146, 147, 148, 149, 150, 151, 152, 153, 154, 155, 156, 157, 158, 159, 160, 161, 162, 163, 164, 165, 166, 167, 168, 169, 170, 171] (by decide +kernel) (by decide +kernel)
